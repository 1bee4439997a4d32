/-! printed: decode rows -/
theorem dX6_copyRow_0 : decode (am_b mX6_copyRow) 0 = .ok (.iconst 0, 1) := by decide +kernel
theorem dX6_copyRow_1 : decode (am_b mX6_copyRow) 1 = .ok (.istore_n 2, 1) := by decide +kernel
theorem dX6_copyRow_2 : decode (am_b mX6_copyRow) 2 = .ok (.iload_n 2, 1) := by decide +kernel
theorem dX6_copyRow_3 : decode (am_b mX6_copyRow) 3 = .ok (.aload_n 0, 1) := by decide +kernel
theorem dX6_copyRow_4 : decode (am_b mX6_copyRow) 4 = .ok (.arraylength, 1) := by decide +kernel
theorem dX6_copyRow_5 : decode (am_b mX6_copyRow) 5 = .ok (.if_icmp .ge 21, 3) := by decide +kernel
theorem dX6_copyRow_8 : decode (am_b mX6_copyRow) 8 = .ok (.iload_n 2, 1) := by decide +kernel
theorem dX6_copyRow_9 : decode (am_b mX6_copyRow) 9 = .ok (.aload_n 1, 1) := by decide +kernel
theorem dX6_copyRow_10 : decode (am_b mX6_copyRow) 10 = .ok (.arraylength, 1) := by decide +kernel
theorem dX6_copyRow_11 : decode (am_b mX6_copyRow) 11 = .ok (.if_icmp .ge 15, 3) := by decide +kernel
theorem dX6_copyRow_14 : decode (am_b mX6_copyRow) 14 = .ok (.aload_n 1, 1) := by decide +kernel
theorem dX6_copyRow_15 : decode (am_b mX6_copyRow) 15 = .ok (.iload_n 2, 1) := by decide +kernel
theorem dX6_copyRow_16 : decode (am_b mX6_copyRow) 16 = .ok (.aload_n 0, 1) := by decide +kernel
theorem dX6_copyRow_17 : decode (am_b mX6_copyRow) 17 = .ok (.iload_n 2, 1) := by decide +kernel
theorem dX6_copyRow_18 : decode (am_b mX6_copyRow) 18 = .ok (.iaload, 1) := by decide +kernel
theorem dX6_copyRow_19 : decode (am_b mX6_copyRow) 19 = .ok (.iastore, 1) := by decide +kernel
theorem dX6_copyRow_20 : decode (am_b mX6_copyRow) 20 = .ok (.iinc 2 1, 3) := by decide +kernel
theorem dX6_copyRow_23 : decode (am_b mX6_copyRow) 23 = .ok (.goto (-21), 3) := by decide +kernel
theorem dX6_copyRow_26 : decode (am_b mX6_copyRow) 26 = .ok (.return_, 1) := by decide +kernel
theorem dX6_isHeight_0 : decode (am_b mX6_isHeight) 0 = .ok (.iload_n 0, 1) := by decide +kernel
theorem dX6_isHeight_1 : decode (am_b mX6_isHeight) 1 = .ok (.iconst 1, 1) := by decide +kernel
theorem dX6_isHeight_2 : decode (am_b mX6_isHeight) 2 = .ok (.if_icmp .lt 13, 3) := by decide +kernel
theorem dX6_isHeight_5 : decode (am_b mX6_isHeight) 5 = .ok (.iload_n 0, 1) := by decide +kernel
theorem dX6_isHeight_6 : decode (am_b mX6_isHeight) 6 = .ok (.bipush 9, 2) := by decide +kernel
theorem dX6_isHeight_8 : decode (am_b mX6_isHeight) 8 = .ok (.if_icmp .gt 7, 3) := by decide +kernel
theorem dX6_isHeight_11 : decode (am_b mX6_isHeight) 11 = .ok (.iconst 1, 1) := by decide +kernel
theorem dX6_isHeight_12 : decode (am_b mX6_isHeight) 12 = .ok (.goto 4, 3) := by decide +kernel
theorem dX6_isHeight_15 : decode (am_b mX6_isHeight) 15 = .ok (.iconst 0, 1) := by decide +kernel
theorem dX6_isHeight_16 : decode (am_b mX6_isHeight) 16 = .ok (.ireturn, 1) := by decide +kernel
theorem dX6_isPitch_0 : decode (am_b mX6_isPitch) 0 = .ok (.iload_n 0, 1) := by decide +kernel
theorem dX6_isPitch_1 : decode (am_b mX6_isPitch) 1 = .ok (.ifCond .lt 13, 3) := by decide +kernel
theorem dX6_isPitch_4 : decode (am_b mX6_isPitch) 4 = .ok (.iload_n 0, 1) := by decide +kernel
theorem dX6_isPitch_5 : decode (am_b mX6_isPitch) 5 = .ok (.bipush 12, 2) := by decide +kernel
theorem dX6_isPitch_7 : decode (am_b mX6_isPitch) 7 = .ok (.if_icmp .ge 7, 3) := by decide +kernel
theorem dX6_isPitch_10 : decode (am_b mX6_isPitch) 10 = .ok (.iconst 1, 1) := by decide +kernel
theorem dX6_isPitch_11 : decode (am_b mX6_isPitch) 11 = .ok (.goto 4, 3) := by decide +kernel
theorem dX6_isPitch_14 : decode (am_b mX6_isPitch) 14 = .ok (.iconst 0, 1) := by decide +kernel
theorem dX6_isPitch_15 : decode (am_b mX6_isPitch) 15 = .ok (.ireturn, 1) := by decide +kernel
theorem dX6_lot_0 : decode (am_b mX6_lot) 0 = .ok (.iload_n 1, 1) := by decide +kernel
theorem dX6_lot_1 : decode (am_b mX6_lot) 1 = .ok (.ifCond .lt 9, 3) := by decide +kernel
theorem dX6_lot_4 : decode (am_b mX6_lot) 4 = .ok (.iload_n 1, 1) := by decide +kernel
theorem dX6_lot_5 : decode (am_b mX6_lot) 5 = .ok (.bipush 8, 2) := by decide +kernel
theorem dX6_lot_7 : decode (am_b mX6_lot) 7 = .ok (.if_icmp .lt 7, 3) := by decide +kernel
theorem dX6_lot_10 : decode (am_b mX6_lot) 10 = .ok (.iconst (-1), 1) := by decide +kernel
theorem dX6_lot_11 : decode (am_b mX6_lot) 11 = .ok (.goto 12, 3) := by decide +kernel
theorem dX6_lot_14 : decode (am_b mX6_lot) 14 = .ok (.aload_n 0, 1) := by decide +kernel
theorem dX6_lot_15 : decode (am_b mX6_lot) 15 = .ok (.getfield 10, 3) := by decide +kernel
theorem dX6_lot_18 : decode (am_b mX6_lot) 18 = .ok (.getfield 195, 3) := by decide +kernel
theorem dX6_lot_21 : decode (am_b mX6_lot) 21 = .ok (.iload_n 1, 1) := by decide +kernel
theorem dX6_lot_22 : decode (am_b mX6_lot) 22 = .ok (.iaload, 1) := by decide +kernel
theorem dX6_lot_23 : decode (am_b mX6_lot) 23 = .ok (.ireturn, 1) := by decide +kernel
theorem dX6_wipe_0 : decode (am_b mX6_wipe) 0 = .ok (.aload_n 0, 1) := by decide +kernel
theorem dX6_wipe_1 : decode (am_b mX6_wipe) 1 = .ok (.getfield 29, 3) := by decide +kernel
theorem dX6_wipe_4 : decode (am_b mX6_wipe) 4 = .ok (.getfield 134, 3) := by decide +kernel
theorem dX6_wipe_7 : decode (am_b mX6_wipe) 7 = .ok (.istore_n 1, 1) := by decide +kernel
theorem dX6_wipe_8 : decode (am_b mX6_wipe) 8 = .ok (.aload_n 0, 1) := by decide +kernel
theorem dX6_wipe_9 : decode (am_b mX6_wipe) 9 = .ok (.getfield 29, 3) := by decide +kernel
theorem dX6_wipe_12 : decode (am_b mX6_wipe) 12 = .ok (.iconst 0, 1) := by decide +kernel
theorem dX6_wipe_13 : decode (am_b mX6_wipe) 13 = .ok (.putfield 134, 3) := by decide +kernel
theorem dX6_wipe_16 : decode (am_b mX6_wipe) 16 = .ok (.iload_n 1, 1) := by decide +kernel
theorem dX6_wipe_17 : decode (am_b mX6_wipe) 17 = .ok (.ireturn, 1) := by decide +kernel
theorem dX6_put_0 : decode (am_b mX6_put) 0 = .ok (.lload_n 1, 1) := by decide +kernel
theorem dX6_put_1 : decode (am_b mX6_put) 1 = .ok (.invokestatic 204, 3) := by decide +kernel
theorem dX6_put_4 : decode (am_b mX6_put) 4 = .ok (.istore_n 3, 1) := by decide +kernel
theorem dX6_put_5 : decode (am_b mX6_put) 5 = .ok (.iload_n 3, 1) := by decide +kernel
theorem dX6_put_6 : decode (am_b mX6_put) 6 = .ok (.ifCond .ne 6, 3) := by decide +kernel
theorem dX6_put_9 : decode (am_b mX6_put) 9 = .ok (.bipush (-2), 2) := by decide +kernel
theorem dX6_put_11 : decode (am_b mX6_put) 11 = .ok (.ireturn, 1) := by decide +kernel
theorem dX6_put_12 : decode (am_b mX6_put) 12 = .ok (.aload_n 0, 1) := by decide +kernel
theorem dX6_put_13 : decode (am_b mX6_put) 13 = .ok (.getfield 29, 3) := by decide +kernel
theorem dX6_put_16 : decode (am_b mX6_put) 16 = .ok (.getfield 134, 3) := by decide +kernel
theorem dX6_put_19 : decode (am_b mX6_put) 19 = .ok (.iload_n 3, 1) := by decide +kernel
theorem dX6_put_20 : decode (am_b mX6_put) 20 = .ok (.iadd, 1) := by decide +kernel
theorem dX6_put_21 : decode (am_b mX6_put) 21 = .ok (.bipush 60, 2) := by decide +kernel
theorem dX6_put_23 : decode (am_b mX6_put) 23 = .ok (.if_icmp .le 6, 3) := by decide +kernel
theorem dX6_put_26 : decode (am_b mX6_put) 26 = .ok (.bipush (-4), 2) := by decide +kernel
theorem dX6_put_28 : decode (am_b mX6_put) 28 = .ok (.ireturn, 1) := by decide +kernel
theorem dX6_put_29 : decode (am_b mX6_put) 29 = .ok (.aload_n 0, 1) := by decide +kernel
theorem dX6_put_30 : decode (am_b mX6_put) 30 = .ok (.getfield 29, 3) := by decide +kernel
theorem dX6_put_33 : decode (am_b mX6_put) 33 = .ok (.lload_n 1, 1) := by decide +kernel
theorem dX6_put_34 : decode (am_b mX6_put) 34 = .ok (.iload_n 3, 1) := by decide +kernel
theorem dX6_put_35 : decode (am_b mX6_put) 35 = .ok (.invokevirtual 208, 3) := by decide +kernel
theorem dX6_put_38 : decode (am_b mX6_put) 38 = .ok (.aload_n 0, 1) := by decide +kernel
theorem dX6_put_39 : decode (am_b mX6_put) 39 = .ok (.getfield 29, 3) := by decide +kernel
theorem dX6_put_42 : decode (am_b mX6_put) 42 = .ok (.getfield 134, 3) := by decide +kernel
theorem dX6_put_45 : decode (am_b mX6_put) 45 = .ok (.ireturn, 1) := by decide +kernel
theorem dX6_init_0 : decode (am_b mX6_init) 0 = .ok (.aload_n 0, 1) := by decide +kernel
theorem dX6_init_1 : decode (am_b mX6_init) 1 = .ok (.invokespecial 1, 3) := by decide +kernel
theorem dX6_init_4 : decode (am_b mX6_init) 4 = .ok (.aload_n 0, 1) := by decide +kernel
theorem dX6_init_5 : decode (am_b mX6_init) 5 = .ok (.new 7, 3) := by decide +kernel
theorem dX6_init_8 : decode (am_b mX6_init) 8 = .ok (.dup, 1) := by decide +kernel
theorem dX6_init_9 : decode (am_b mX6_init) 9 = .ok (.invokespecial 9, 3) := by decide +kernel
theorem dX6_init_12 : decode (am_b mX6_init) 12 = .ok (.putfield 10, 3) := by decide +kernel
theorem dX6_init_15 : decode (am_b mX6_init) 15 = .ok (.aload_n 0, 1) := by decide +kernel
theorem dX6_init_16 : decode (am_b mX6_init) 16 = .ok (.new 7, 3) := by decide +kernel
theorem dX6_init_19 : decode (am_b mX6_init) 19 = .ok (.dup, 1) := by decide +kernel
theorem dX6_init_20 : decode (am_b mX6_init) 20 = .ok (.invokespecial 9, 3) := by decide +kernel
theorem dX6_init_23 : decode (am_b mX6_init) 23 = .ok (.putfield 16, 3) := by decide +kernel
theorem dX6_init_26 : decode (am_b mX6_init) 26 = .ok (.aload_n 0, 1) := by decide +kernel
theorem dX6_init_27 : decode (am_b mX6_init) 27 = .ok (.new 19, 3) := by decide +kernel
theorem dX6_init_30 : decode (am_b mX6_init) 30 = .ok (.dup, 1) := by decide +kernel
theorem dX6_init_31 : decode (am_b mX6_init) 31 = .ok (.invokespecial 21, 3) := by decide +kernel
theorem dX6_init_34 : decode (am_b mX6_init) 34 = .ok (.putfield 22, 3) := by decide +kernel
theorem dX6_init_37 : decode (am_b mX6_init) 37 = .ok (.aload_n 0, 1) := by decide +kernel
theorem dX6_init_38 : decode (am_b mX6_init) 38 = .ok (.new 26, 3) := by decide +kernel
theorem dX6_init_41 : decode (am_b mX6_init) 41 = .ok (.dup, 1) := by decide +kernel
theorem dX6_init_42 : decode (am_b mX6_init) 42 = .ok (.invokespecial 28, 3) := by decide +kernel
theorem dX6_init_45 : decode (am_b mX6_init) 45 = .ok (.putfield 29, 3) := by decide +kernel
theorem dX6_init_48 : decode (am_b mX6_init) 48 = .ok (.aload_n 0, 1) := by decide +kernel
theorem dX6_init_49 : decode (am_b mX6_init) 49 = .ok (.new 33, 3) := by decide +kernel
theorem dX6_init_52 : decode (am_b mX6_init) 52 = .ok (.dup, 1) := by decide +kernel
theorem dX6_init_53 : decode (am_b mX6_init) 53 = .ok (.invokespecial 35, 3) := by decide +kernel
theorem dX6_init_56 : decode (am_b mX6_init) 56 = .ok (.putfield 36, 3) := by decide +kernel
theorem dX6_init_59 : decode (am_b mX6_init) 59 = .ok (.aload_n 0, 1) := by decide +kernel
theorem dX6_init_60 : decode (am_b mX6_init) 60 = .ok (.iconst 2, 1) := by decide +kernel
theorem dX6_init_61 : decode (am_b mX6_init) 61 = .ok (.anewarray 7, 3) := by decide +kernel
theorem dX6_init_64 : decode (am_b mX6_init) 64 = .ok (.putfield 40, 3) := by decide +kernel
theorem dX6_init_67 : decode (am_b mX6_init) 67 = .ok (.return_, 1) := by decide +kernel
theorem dX6_save_0 : decode (am_b mX6_save) 0 = .ok (.iload_n 1, 1) := by decide +kernel
theorem dX6_save_1 : decode (am_b mX6_save) 1 = .ok (.ifCond .lt 12, 3) := by decide +kernel
theorem dX6_save_4 : decode (am_b mX6_save) 4 = .ok (.iload_n 1, 1) := by decide +kernel
theorem dX6_save_5 : decode (am_b mX6_save) 5 = .ok (.aload_n 0, 1) := by decide +kernel
theorem dX6_save_6 : decode (am_b mX6_save) 6 = .ok (.getfield 40, 3) := by decide +kernel
theorem dX6_save_9 : decode (am_b mX6_save) 9 = .ok (.arraylength, 1) := by decide +kernel
theorem dX6_save_10 : decode (am_b mX6_save) 10 = .ok (.if_icmp .lt 6, 3) := by decide +kernel
theorem dX6_save_13 : decode (am_b mX6_save) 13 = .ok (.bipush (-2), 2) := by decide +kernel
theorem dX6_save_15 : decode (am_b mX6_save) 15 = .ok (.ireturn, 1) := by decide +kernel
theorem dX6_save_16 : decode (am_b mX6_save) 16 = .ok (.aload_n 0, 1) := by decide +kernel
theorem dX6_save_17 : decode (am_b mX6_save) 17 = .ok (.getfield 40, 3) := by decide +kernel
theorem dX6_save_20 : decode (am_b mX6_save) 20 = .ok (.iload_n 1, 1) := by decide +kernel
theorem dX6_save_21 : decode (am_b mX6_save) 21 = .ok (.aaload, 1) := by decide +kernel
theorem dX6_save_22 : decode (am_b mX6_save) 22 = .ok (.ifnonnull 16, 3) := by decide +kernel
theorem dX6_save_25 : decode (am_b mX6_save) 25 = .ok (.aload_n 0, 1) := by decide +kernel
theorem dX6_save_26 : decode (am_b mX6_save) 26 = .ok (.getfield 40, 3) := by decide +kernel
theorem dX6_save_29 : decode (am_b mX6_save) 29 = .ok (.iload_n 1, 1) := by decide +kernel
theorem dX6_save_30 : decode (am_b mX6_save) 30 = .ok (.new 7, 3) := by decide +kernel
theorem dX6_save_33 : decode (am_b mX6_save) 33 = .ok (.dup, 1) := by decide +kernel
theorem dX6_save_34 : decode (am_b mX6_save) 34 = .ok (.invokespecial 9, 3) := by decide +kernel
theorem dX6_save_37 : decode (am_b mX6_save) 37 = .ok (.aastore, 1) := by decide +kernel
theorem dX6_save_38 : decode (am_b mX6_save) 38 = .ok (.aload_n 0, 1) := by decide +kernel
theorem dX6_save_39 : decode (am_b mX6_save) 39 = .ok (.getfield 40, 3) := by decide +kernel
theorem dX6_save_42 : decode (am_b mX6_save) 42 = .ok (.iload_n 1, 1) := by decide +kernel
theorem dX6_save_43 : decode (am_b mX6_save) 43 = .ok (.aaload, 1) := by decide +kernel
theorem dX6_save_44 : decode (am_b mX6_save) 44 = .ok (.aload_n 0, 1) := by decide +kernel
theorem dX6_save_45 : decode (am_b mX6_save) 45 = .ok (.getfield 10, 3) := by decide +kernel
theorem dX6_save_48 : decode (am_b mX6_save) 48 = .ok (.invokevirtual 201, 3) := by decide +kernel
theorem dX6_save_51 : decode (am_b mX6_save) 51 = .ok (.aload_n 0, 1) := by decide +kernel
theorem dX6_save_52 : decode (am_b mX6_save) 52 = .ok (.getfield 10, 3) := by decide +kernel
theorem dX6_save_55 : decode (am_b mX6_save) 55 = .ok (.getfield 79, 3) := by decide +kernel
theorem dX6_save_58 : decode (am_b mX6_save) 58 = .ok (.ireturn, 1) := by decide +kernel
theorem dX6_come_0 : decode (am_b mX6_come) 0 = .ok (.iload_n 1, 1) := by decide +kernel
theorem dX6_come_1 : decode (am_b mX6_come) 1 = .ok (.invokestatic 76, 3) := by decide +kernel
theorem dX6_come_4 : decode (am_b mX6_come) 4 = .ok (.ifCond .ne 6, 3) := by decide +kernel
theorem dX6_come_7 : decode (am_b mX6_come) 7 = .ok (.bipush (-2), 2) := by decide +kernel
theorem dX6_come_9 : decode (am_b mX6_come) 9 = .ok (.ireturn, 1) := by decide +kernel
theorem dX6_come_10 : decode (am_b mX6_come) 10 = .ok (.aload_n 0, 1) := by decide +kernel
theorem dX6_come_11 : decode (am_b mX6_come) 11 = .ok (.getfield 10, 3) := by decide +kernel
theorem dX6_come_14 : decode (am_b mX6_come) 14 = .ok (.getfield 79, 3) := by decide +kernel
theorem dX6_come_17 : decode (am_b mX6_come) 17 = .ok (.bipush 8, 2) := by decide +kernel
theorem dX6_come_19 : decode (am_b mX6_come) 19 = .ok (.if_icmp .lt 6, 3) := by decide +kernel
theorem dX6_come_22 : decode (am_b mX6_come) 22 = .ok (.bipush (-4), 2) := by decide +kernel
theorem dX6_come_24 : decode (am_b mX6_come) 24 = .ok (.ireturn, 1) := by decide +kernel
theorem dX6_come_25 : decode (am_b mX6_come) 25 = .ok (.aload_n 0, 1) := by decide +kernel
theorem dX6_come_26 : decode (am_b mX6_come) 26 = .ok (.getfield 36, 3) := by decide +kernel
theorem dX6_come_29 : decode (am_b mX6_come) 29 = .ok (.aload_n 0, 1) := by decide +kernel
theorem dX6_come_30 : decode (am_b mX6_come) 30 = .ok (.getfield 10, 3) := by decide +kernel
theorem dX6_come_33 : decode (am_b mX6_come) 33 = .ok (.invokevirtual 48, 3) := by decide +kernel
theorem dX6_come_36 : decode (am_b mX6_come) 36 = .ok (.aload_n 0, 1) := by decide +kernel
theorem dX6_come_37 : decode (am_b mX6_come) 37 = .ok (.getfield 10, 3) := by decide +kernel
theorem dX6_come_40 : decode (am_b mX6_come) 40 = .ok (.iload_n 1, 1) := by decide +kernel
theorem dX6_come_41 : decode (am_b mX6_come) 41 = .ok (.bipush (-6), 2) := by decide +kernel
theorem dX6_come_43 : decode (am_b mX6_come) 43 = .ok (.invokevirtual 82, 3) := by decide +kernel
theorem dX6_come_46 : decode (am_b mX6_come) 46 = .ok (.aload_n 0, 1) := by decide +kernel
theorem dX6_come_47 : decode (am_b mX6_come) 47 = .ok (.getfield 10, 3) := by decide +kernel
theorem dX6_come_50 : decode (am_b mX6_come) 50 = .ok (.getfield 79, 3) := by decide +kernel
theorem dX6_come_53 : decode (am_b mX6_come) 53 = .ok (.iconst 1, 1) := by decide +kernel
theorem dX6_come_54 : decode (am_b mX6_come) 54 = .ok (.isub, 1) := by decide +kernel
theorem dX6_come_55 : decode (am_b mX6_come) 55 = .ok (.ireturn, 1) := by decide +kernel
theorem dX6_go_0 : decode (am_b mX6_go) 0 = .ok (.aload_n 0, 1) := by decide +kernel
theorem dX6_go_1 : decode (am_b mX6_go) 1 = .ok (.getfield 10, 3) := by decide +kernel
theorem dX6_go_4 : decode (am_b mX6_go) 4 = .ok (.iload_n 1, 1) := by decide +kernel
theorem dX6_go_5 : decode (am_b mX6_go) 5 = .ok (.invokevirtual 85, 3) := by decide +kernel
theorem dX6_go_8 : decode (am_b mX6_go) 8 = .ok (.ifCond .ne 5, 3) := by decide +kernel
theorem dX6_go_11 : decode (am_b mX6_go) 11 = .ok (.iconst (-1), 1) := by decide +kernel
theorem dX6_go_12 : decode (am_b mX6_go) 12 = .ok (.ireturn, 1) := by decide +kernel
theorem dX6_go_13 : decode (am_b mX6_go) 13 = .ok (.aload_n 0, 1) := by decide +kernel
theorem dX6_go_14 : decode (am_b mX6_go) 14 = .ok (.getfield 36, 3) := by decide +kernel
theorem dX6_go_17 : decode (am_b mX6_go) 17 = .ok (.aload_n 0, 1) := by decide +kernel
theorem dX6_go_18 : decode (am_b mX6_go) 18 = .ok (.getfield 10, 3) := by decide +kernel
theorem dX6_go_21 : decode (am_b mX6_go) 21 = .ok (.invokevirtual 48, 3) := by decide +kernel
theorem dX6_go_24 : decode (am_b mX6_go) 24 = .ok (.aload_n 0, 1) := by decide +kernel
theorem dX6_go_25 : decode (am_b mX6_go) 25 = .ok (.getfield 10, 3) := by decide +kernel
theorem dX6_go_28 : decode (am_b mX6_go) 28 = .ok (.getfield 88, 3) := by decide +kernel
theorem dX6_go_31 : decode (am_b mX6_go) 31 = .ok (.iload_n 1, 1) := by decide +kernel
theorem dX6_go_32 : decode (am_b mX6_go) 32 = .ok (.iaload, 1) := by decide +kernel
theorem dX6_go_33 : decode (am_b mX6_go) 33 = .ok (.istore_n 2, 1) := by decide +kernel
theorem dX6_go_34 : decode (am_b mX6_go) 34 = .ok (.aload_n 0, 1) := by decide +kernel
theorem dX6_go_35 : decode (am_b mX6_go) 35 = .ok (.getfield 10, 3) := by decide +kernel
theorem dX6_go_38 : decode (am_b mX6_go) 38 = .ok (.iload_n 1, 1) := by decide +kernel
theorem dX6_go_39 : decode (am_b mX6_go) 39 = .ok (.invokevirtual 91, 3) := by decide +kernel
theorem dX6_go_42 : decode (am_b mX6_go) 42 = .ok (.iload_n 2, 1) := by decide +kernel
theorem dX6_go_43 : decode (am_b mX6_go) 43 = .ok (.ireturn, 1) := by decide +kernel
theorem dX6_height_0 : decode (am_b mX6_height) 0 = .ok (.aload_n 0, 1) := by decide +kernel
theorem dX6_height_1 : decode (am_b mX6_height) 1 = .ok (.getfield 10, 3) := by decide +kernel
theorem dX6_height_4 : decode (am_b mX6_height) 4 = .ok (.iload_n 1, 1) := by decide +kernel
theorem dX6_height_5 : decode (am_b mX6_height) 5 = .ok (.invokevirtual 85, 3) := by decide +kernel
theorem dX6_height_8 : decode (am_b mX6_height) 8 = .ok (.ifCond .ne 5, 3) := by decide +kernel
theorem dX6_height_11 : decode (am_b mX6_height) 11 = .ok (.iconst (-1), 1) := by decide +kernel
theorem dX6_height_12 : decode (am_b mX6_height) 12 = .ok (.ireturn, 1) := by decide +kernel
theorem dX6_height_13 : decode (am_b mX6_height) 13 = .ok (.iload_n 2, 1) := by decide +kernel
theorem dX6_height_14 : decode (am_b mX6_height) 14 = .ok (.invokestatic 76, 3) := by decide +kernel
theorem dX6_height_17 : decode (am_b mX6_height) 17 = .ok (.ifCond .ne 6, 3) := by decide +kernel
theorem dX6_height_20 : decode (am_b mX6_height) 20 = .ok (.bipush (-2), 2) := by decide +kernel
theorem dX6_height_22 : decode (am_b mX6_height) 22 = .ok (.ireturn, 1) := by decide +kernel
theorem dX6_height_23 : decode (am_b mX6_height) 23 = .ok (.aload_n 0, 1) := by decide +kernel
theorem dX6_height_24 : decode (am_b mX6_height) 24 = .ok (.getfield 36, 3) := by decide +kernel
theorem dX6_height_27 : decode (am_b mX6_height) 27 = .ok (.aload_n 0, 1) := by decide +kernel
theorem dX6_height_28 : decode (am_b mX6_height) 28 = .ok (.getfield 10, 3) := by decide +kernel
theorem dX6_height_31 : decode (am_b mX6_height) 31 = .ok (.invokevirtual 48, 3) := by decide +kernel
theorem dX6_height_34 : decode (am_b mX6_height) 34 = .ok (.aload_n 0, 1) := by decide +kernel
theorem dX6_height_35 : decode (am_b mX6_height) 35 = .ok (.getfield 10, 3) := by decide +kernel
theorem dX6_height_38 : decode (am_b mX6_height) 38 = .ok (.getfield 95, 3) := by decide +kernel
theorem dX6_height_41 : decode (am_b mX6_height) 41 = .ok (.iload_n 1, 1) := by decide +kernel
theorem dX6_height_42 : decode (am_b mX6_height) 42 = .ok (.iaload, 1) := by decide +kernel
theorem dX6_height_43 : decode (am_b mX6_height) 43 = .ok (.istore_n 3, 1) := by decide +kernel
theorem dX6_height_44 : decode (am_b mX6_height) 44 = .ok (.aload_n 0, 1) := by decide +kernel
theorem dX6_height_45 : decode (am_b mX6_height) 45 = .ok (.getfield 10, 3) := by decide +kernel
theorem dX6_height_48 : decode (am_b mX6_height) 48 = .ok (.getfield 95, 3) := by decide +kernel
theorem dX6_height_51 : decode (am_b mX6_height) 51 = .ok (.iload_n 1, 1) := by decide +kernel
theorem dX6_height_52 : decode (am_b mX6_height) 52 = .ok (.iload_n 2, 1) := by decide +kernel
theorem dX6_height_53 : decode (am_b mX6_height) 53 = .ok (.iastore, 1) := by decide +kernel
theorem dX6_height_54 : decode (am_b mX6_height) 54 = .ok (.iload_n 3, 1) := by decide +kernel
theorem dX6_height_55 : decode (am_b mX6_height) 55 = .ok (.ireturn, 1) := by decide +kernel
theorem dX6_pitch_0 : decode (am_b mX6_pitch) 0 = .ok (.iload_n 1, 1) := by decide +kernel
theorem dX6_pitch_1 : decode (am_b mX6_pitch) 1 = .ok (.invokestatic 60, 3) := by decide +kernel
theorem dX6_pitch_4 : decode (am_b mX6_pitch) 4 = .ok (.ifCond .ne 5, 3) := by decide +kernel
theorem dX6_pitch_7 : decode (am_b mX6_pitch) 7 = .ok (.iconst (-1), 1) := by decide +kernel
theorem dX6_pitch_8 : decode (am_b mX6_pitch) 8 = .ok (.ireturn, 1) := by decide +kernel
theorem dX6_pitch_9 : decode (am_b mX6_pitch) 9 = .ok (.iload_n 2, 1) := by decide +kernel
theorem dX6_pitch_10 : decode (am_b mX6_pitch) 10 = .ok (.tableswitch 90 0 2 #[26, 43, 52], 26) := by decide +kernel
theorem dX6_pitch_36 : decode (am_b mX6_pitch) 36 = .ok (.aload_n 0, 1) := by decide +kernel
theorem dX6_pitch_37 : decode (am_b mX6_pitch) 37 = .ok (.getfield 10, 3) := by decide +kernel
theorem dX6_pitch_40 : decode (am_b mX6_pitch) 40 = .ok (.iload_n 1, 1) := by decide +kernel
theorem dX6_pitch_41 : decode (am_b mX6_pitch) 41 = .ok (.invokevirtual 64, 3) := by decide +kernel
theorem dX6_pitch_44 : decode (am_b mX6_pitch) 44 = .ok (.ifCond .eq 7, 3) := by decide +kernel
theorem dX6_pitch_47 : decode (am_b mX6_pitch) 47 = .ok (.iconst 1, 1) := by decide +kernel
theorem dX6_pitch_48 : decode (am_b mX6_pitch) 48 = .ok (.goto 4, 3) := by decide +kernel
theorem dX6_pitch_51 : decode (am_b mX6_pitch) 51 = .ok (.iconst 0, 1) := by decide +kernel
theorem dX6_pitch_52 : decode (am_b mX6_pitch) 52 = .ok (.ireturn, 1) := by decide +kernel
theorem dX6_pitch_53 : decode (am_b mX6_pitch) 53 = .ok (.aload_n 0, 1) := by decide +kernel
theorem dX6_pitch_54 : decode (am_b mX6_pitch) 54 = .ok (.getfield 10, 3) := by decide +kernel
theorem dX6_pitch_57 : decode (am_b mX6_pitch) 57 = .ok (.iload_n 1, 1) := by decide +kernel
theorem dX6_pitch_58 : decode (am_b mX6_pitch) 58 = .ok (.invokevirtual 155, 3) := by decide +kernel
theorem dX6_pitch_61 : decode (am_b mX6_pitch) 61 = .ok (.ireturn, 1) := by decide +kernel
theorem dX6_pitch_62 : decode (am_b mX6_pitch) 62 = .ok (.aload_n 0, 1) := by decide +kernel
theorem dX6_pitch_63 : decode (am_b mX6_pitch) 63 = .ok (.getfield 22, 3) := by decide +kernel
theorem dX6_pitch_66 : decode (am_b mX6_pitch) 66 = .ok (.aload_n 0, 1) := by decide +kernel
theorem dX6_pitch_67 : decode (am_b mX6_pitch) 67 = .ok (.getfield 10, 3) := by decide +kernel
theorem dX6_pitch_70 : decode (am_b mX6_pitch) 70 = .ok (.bipush (-6), 2) := by decide +kernel
theorem dX6_pitch_72 : decode (am_b mX6_pitch) 72 = .ok (.invokevirtual 137, 3) := by decide +kernel
theorem dX6_pitch_75 : decode (am_b mX6_pitch) 75 = .ok (.aload_n 0, 1) := by decide +kernel
theorem dX6_pitch_76 : decode (am_b mX6_pitch) 76 = .ok (.getfield 22, 3) := by decide +kernel
theorem dX6_pitch_79 : decode (am_b mX6_pitch) 79 = .ok (.iload_n 1, 1) := by decide +kernel
theorem dX6_pitch_80 : decode (am_b mX6_pitch) 80 = .ok (.aload_n 0, 1) := by decide +kernel
theorem dX6_pitch_81 : decode (am_b mX6_pitch) 81 = .ok (.getfield 10, 3) := by decide +kernel
theorem dX6_pitch_84 : decode (am_b mX6_pitch) 84 = .ok (.iconst 4, 1) := by decide +kernel
theorem dX6_pitch_85 : decode (am_b mX6_pitch) 85 = .ok (.invokevirtual 52, 3) := by decide +kernel
theorem dX6_pitch_88 : decode (am_b mX6_pitch) 88 = .ok (.invokevirtual 158, 3) := by decide +kernel
theorem dX6_pitch_91 : decode (am_b mX6_pitch) 91 = .ok (.ifCond .eq 7, 3) := by decide +kernel
theorem dX6_pitch_94 : decode (am_b mX6_pitch) 94 = .ok (.iconst 1, 1) := by decide +kernel
theorem dX6_pitch_95 : decode (am_b mX6_pitch) 95 = .ok (.goto 4, 3) := by decide +kernel
theorem dX6_pitch_98 : decode (am_b mX6_pitch) 98 = .ok (.iconst 0, 1) := by decide +kernel
theorem dX6_pitch_99 : decode (am_b mX6_pitch) 99 = .ok (.ireturn, 1) := by decide +kernel
theorem dX6_pitch_100 : decode (am_b mX6_pitch) 100 = .ok (.bipush (-2), 2) := by decide +kernel
theorem dX6_pitch_102 : decode (am_b mX6_pitch) 102 = .ok (.ireturn, 1) := by decide +kernel
theorem dX6_restore_0 : decode (am_b mX6_restore) 0 = .ok (.iload_n 1, 1) := by decide +kernel
theorem dX6_restore_1 : decode (am_b mX6_restore) 1 = .ok (.ifCond .lt 12, 3) := by decide +kernel
theorem dX6_restore_4 : decode (am_b mX6_restore) 4 = .ok (.iload_n 1, 1) := by decide +kernel
theorem dX6_restore_5 : decode (am_b mX6_restore) 5 = .ok (.aload_n 0, 1) := by decide +kernel
theorem dX6_restore_6 : decode (am_b mX6_restore) 6 = .ok (.getfield 40, 3) := by decide +kernel
theorem dX6_restore_9 : decode (am_b mX6_restore) 9 = .ok (.arraylength, 1) := by decide +kernel
theorem dX6_restore_10 : decode (am_b mX6_restore) 10 = .ok (.if_icmp .lt 6, 3) := by decide +kernel
theorem dX6_restore_13 : decode (am_b mX6_restore) 13 = .ok (.bipush (-2), 2) := by decide +kernel
theorem dX6_restore_15 : decode (am_b mX6_restore) 15 = .ok (.ireturn, 1) := by decide +kernel
theorem dX6_restore_16 : decode (am_b mX6_restore) 16 = .ok (.aload_n 0, 1) := by decide +kernel
theorem dX6_restore_17 : decode (am_b mX6_restore) 17 = .ok (.getfield 40, 3) := by decide +kernel
theorem dX6_restore_20 : decode (am_b mX6_restore) 20 = .ok (.iload_n 1, 1) := by decide +kernel
theorem dX6_restore_21 : decode (am_b mX6_restore) 21 = .ok (.aaload, 1) := by decide +kernel
theorem dX6_restore_22 : decode (am_b mX6_restore) 22 = .ok (.astore_n 2, 1) := by decide +kernel
theorem dX6_restore_23 : decode (am_b mX6_restore) 23 = .ok (.aload_n 2, 1) := by decide +kernel
theorem dX6_restore_24 : decode (am_b mX6_restore) 24 = .ok (.ifnonnull 6, 3) := by decide +kernel
theorem dX6_restore_27 : decode (am_b mX6_restore) 27 = .ok (.bipush (-5), 2) := by decide +kernel
theorem dX6_restore_29 : decode (am_b mX6_restore) 29 = .ok (.ireturn, 1) := by decide +kernel
theorem dX6_restore_30 : decode (am_b mX6_restore) 30 = .ok (.aload_n 0, 1) := by decide +kernel
theorem dX6_restore_31 : decode (am_b mX6_restore) 31 = .ok (.getfield 36, 3) := by decide +kernel
theorem dX6_restore_34 : decode (am_b mX6_restore) 34 = .ok (.aload_n 0, 1) := by decide +kernel
theorem dX6_restore_35 : decode (am_b mX6_restore) 35 = .ok (.getfield 10, 3) := by decide +kernel
theorem dX6_restore_38 : decode (am_b mX6_restore) 38 = .ok (.invokevirtual 48, 3) := by decide +kernel
theorem dX6_restore_41 : decode (am_b mX6_restore) 41 = .ok (.aload_n 0, 1) := by decide +kernel
theorem dX6_restore_42 : decode (am_b mX6_restore) 42 = .ok (.getfield 10, 3) := by decide +kernel
theorem dX6_restore_45 : decode (am_b mX6_restore) 45 = .ok (.aload_n 2, 1) := by decide +kernel
theorem dX6_restore_46 : decode (am_b mX6_restore) 46 = .ok (.invokevirtual 201, 3) := by decide +kernel
theorem dX6_restore_49 : decode (am_b mX6_restore) 49 = .ok (.aload_n 0, 1) := by decide +kernel
theorem dX6_restore_50 : decode (am_b mX6_restore) 50 = .ok (.getfield 10, 3) := by decide +kernel
theorem dX6_restore_53 : decode (am_b mX6_restore) 53 = .ok (.getfield 79, 3) := by decide +kernel
theorem dX6_restore_56 : decode (am_b mX6_restore) 56 = .ok (.ireturn, 1) := by decide +kernel
theorem dX6_roof_0 : decode (am_b mX6_roof) 0 = .ok (.iload_n 1, 1) := by decide +kernel
theorem dX6_roof_1 : decode (am_b mX6_roof) 1 = .ok (.invokestatic 60, 3) := by decide +kernel
theorem dX6_roof_4 : decode (am_b mX6_roof) 4 = .ok (.ifCond .ne 5, 3) := by decide +kernel
theorem dX6_roof_7 : decode (am_b mX6_roof) 7 = .ok (.iconst (-1), 1) := by decide +kernel
theorem dX6_roof_8 : decode (am_b mX6_roof) 8 = .ok (.ireturn, 1) := by decide +kernel
theorem dX6_roof_9 : decode (am_b mX6_roof) 9 = .ok (.aload_n 0, 1) := by decide +kernel
theorem dX6_roof_10 : decode (am_b mX6_roof) 10 = .ok (.getfield 10, 3) := by decide +kernel
theorem dX6_roof_13 : decode (am_b mX6_roof) 13 = .ok (.iload_n 1, 1) := by decide +kernel
theorem dX6_roof_14 : decode (am_b mX6_roof) 14 = .ok (.invokevirtual 64, 3) := by decide +kernel
theorem dX6_roof_17 : decode (am_b mX6_roof) 17 = .ok (.iload_n 2, 1) := by decide +kernel
theorem dX6_roof_18 : decode (am_b mX6_roof) 18 = .ok (.if_icmp .ne 6, 3) := by decide +kernel
theorem dX6_roof_21 : decode (am_b mX6_roof) 21 = .ok (.bipush (-5), 2) := by decide +kernel
theorem dX6_roof_23 : decode (am_b mX6_roof) 23 = .ok (.ireturn, 1) := by decide +kernel
theorem dX6_roof_24 : decode (am_b mX6_roof) 24 = .ok (.aload_n 0, 1) := by decide +kernel
theorem dX6_roof_25 : decode (am_b mX6_roof) 25 = .ok (.getfield 36, 3) := by decide +kernel
theorem dX6_roof_28 : decode (am_b mX6_roof) 28 = .ok (.aload_n 0, 1) := by decide +kernel
theorem dX6_roof_29 : decode (am_b mX6_roof) 29 = .ok (.getfield 10, 3) := by decide +kernel
theorem dX6_roof_32 : decode (am_b mX6_roof) 32 = .ok (.invokevirtual 48, 3) := by decide +kernel
theorem dX6_roof_35 : decode (am_b mX6_roof) 35 = .ok (.aload_n 0, 1) := by decide +kernel
theorem dX6_roof_36 : decode (am_b mX6_roof) 36 = .ok (.getfield 10, 3) := by decide +kernel
theorem dX6_roof_39 : decode (am_b mX6_roof) 39 = .ok (.dup, 1) := by decide +kernel
theorem dX6_roof_40 : decode (am_b mX6_roof) 40 = .ok (.getfield 67, 3) := by decide +kernel
theorem dX6_roof_43 : decode (am_b mX6_roof) 43 = .ok (.iconst 1, 1) := by decide +kernel
theorem dX6_roof_44 : decode (am_b mX6_roof) 44 = .ok (.iload_n 1, 1) := by decide +kernel
theorem dX6_roof_45 : decode (am_b mX6_roof) 45 = .ok (.ishl, 1) := by decide +kernel
theorem dX6_roof_46 : decode (am_b mX6_roof) 46 = .ok (.ixor, 1) := by decide +kernel
theorem dX6_roof_47 : decode (am_b mX6_roof) 47 = .ok (.putfield 67, 3) := by decide +kernel
theorem dX6_roof_50 : decode (am_b mX6_roof) 50 = .ok (.aload_n 0, 1) := by decide +kernel
theorem dX6_roof_51 : decode (am_b mX6_roof) 51 = .ok (.getfield 10, 3) := by decide +kernel
theorem dX6_roof_54 : decode (am_b mX6_roof) 54 = .ok (.getfield 67, 3) := by decide +kernel
theorem dX6_roof_57 : decode (am_b mX6_roof) 57 = .ok (.invokestatic 71, 3) := by decide +kernel
theorem dX6_roof_60 : decode (am_b mX6_roof) 60 = .ok (.ireturn, 1) := by decide +kernel
theorem dX6_set_0 : decode (am_b mX6_set) 0 = .ok (.iload_n 1, 1) := by decide +kernel
theorem dX6_set_1 : decode (am_b mX6_set) 1 = .ok (.ifCond .lt 11, 3) := by decide +kernel
theorem dX6_set_4 : decode (am_b mX6_set) 4 = .ok (.iload_n 1, 1) := by decide +kernel
theorem dX6_set_5 : decode (am_b mX6_set) 5 = .ok (.getstatic 44, 3) := by decide +kernel
theorem dX6_set_8 : decode (am_b mX6_set) 8 = .ok (.arraylength, 1) := by decide +kernel
theorem dX6_set_9 : decode (am_b mX6_set) 9 = .ok (.if_icmp .lt 6, 3) := by decide +kernel
theorem dX6_set_12 : decode (am_b mX6_set) 12 = .ok (.bipush (-2), 2) := by decide +kernel
theorem dX6_set_14 : decode (am_b mX6_set) 14 = .ok (.ireturn, 1) := by decide +kernel
theorem dX6_set_15 : decode (am_b mX6_set) 15 = .ok (.iload_n 2, 1) := by decide +kernel
theorem dX6_set_16 : decode (am_b mX6_set) 16 = .ok (.ifCond .lt 12, 3) := by decide +kernel
theorem dX6_set_19 : decode (am_b mX6_set) 19 = .ok (.iload_n 2, 1) := by decide +kernel
theorem dX6_set_20 : decode (am_b mX6_set) 20 = .ok (.getstatic 44, 3) := by decide +kernel
theorem dX6_set_23 : decode (am_b mX6_set) 23 = .ok (.iload_n 1, 1) := by decide +kernel
theorem dX6_set_24 : decode (am_b mX6_set) 24 = .ok (.iaload, 1) := by decide +kernel
theorem dX6_set_25 : decode (am_b mX6_set) 25 = .ok (.if_icmp .le 6, 3) := by decide +kernel
theorem dX6_set_28 : decode (am_b mX6_set) 28 = .ok (.bipush (-2), 2) := by decide +kernel
theorem dX6_set_30 : decode (am_b mX6_set) 30 = .ok (.ireturn, 1) := by decide +kernel
theorem dX6_set_31 : decode (am_b mX6_set) 31 = .ok (.aload_n 0, 1) := by decide +kernel
theorem dX6_set_32 : decode (am_b mX6_set) 32 = .ok (.getfield 36, 3) := by decide +kernel
theorem dX6_set_35 : decode (am_b mX6_set) 35 = .ok (.aload_n 0, 1) := by decide +kernel
theorem dX6_set_36 : decode (am_b mX6_set) 36 = .ok (.getfield 10, 3) := by decide +kernel
theorem dX6_set_39 : decode (am_b mX6_set) 39 = .ok (.invokevirtual 48, 3) := by decide +kernel
theorem dX6_set_42 : decode (am_b mX6_set) 42 = .ok (.aload_n 0, 1) := by decide +kernel
theorem dX6_set_43 : decode (am_b mX6_set) 43 = .ok (.getfield 10, 3) := by decide +kernel
theorem dX6_set_46 : decode (am_b mX6_set) 46 = .ok (.iload_n 1, 1) := by decide +kernel
theorem dX6_set_47 : decode (am_b mX6_set) 47 = .ok (.invokevirtual 52, 3) := by decide +kernel
theorem dX6_set_50 : decode (am_b mX6_set) 50 = .ok (.istore_n 3, 1) := by decide +kernel
theorem dX6_set_51 : decode (am_b mX6_set) 51 = .ok (.aload_n 0, 1) := by decide +kernel
theorem dX6_set_52 : decode (am_b mX6_set) 52 = .ok (.getfield 10, 3) := by decide +kernel
theorem dX6_set_55 : decode (am_b mX6_set) 55 = .ok (.iload_n 1, 1) := by decide +kernel
theorem dX6_set_56 : decode (am_b mX6_set) 56 = .ok (.iload_n 2, 1) := by decide +kernel
theorem dX6_set_57 : decode (am_b mX6_set) 57 = .ok (.invokevirtual 56, 3) := by decide +kernel
theorem dX6_set_60 : decode (am_b mX6_set) 60 = .ok (.iload_n 3, 1) := by decide +kernel
theorem dX6_set_61 : decode (am_b mX6_set) 61 = .ok (.ireturn, 1) := by decide +kernel
theorem dX6_shuffle_0 : decode (am_b mX6_shuffle) 0 = .ok (.iload_n 1, 1) := by decide +kernel
theorem dX6_shuffle_1 : decode (am_b mX6_shuffle) 1 = .ok (.ifCond .ge 6, 3) := by decide +kernel
theorem dX6_shuffle_4 : decode (am_b mX6_shuffle) 4 = .ok (.bipush (-2), 2) := by decide +kernel
theorem dX6_shuffle_6 : decode (am_b mX6_shuffle) 6 = .ok (.ireturn, 1) := by decide +kernel
theorem dX6_shuffle_7 : decode (am_b mX6_shuffle) 7 = .ok (.aload_n 0, 1) := by decide +kernel
theorem dX6_shuffle_8 : decode (am_b mX6_shuffle) 8 = .ok (.getfield 36, 3) := by decide +kernel
theorem dX6_shuffle_11 : decode (am_b mX6_shuffle) 11 = .ok (.aload_n 0, 1) := by decide +kernel
theorem dX6_shuffle_12 : decode (am_b mX6_shuffle) 12 = .ok (.getfield 10, 3) := by decide +kernel
theorem dX6_shuffle_15 : decode (am_b mX6_shuffle) 15 = .ok (.invokevirtual 48, 3) := by decide +kernel
theorem dX6_shuffle_18 : decode (am_b mX6_shuffle) 18 = .ok (.aload_n 0, 1) := by decide +kernel
theorem dX6_shuffle_19 : decode (am_b mX6_shuffle) 19 = .ok (.getfield 10, 3) := by decide +kernel
theorem dX6_shuffle_22 : decode (am_b mX6_shuffle) 22 = .ok (.getfield 105, 3) := by decide +kernel
theorem dX6_shuffle_25 : decode (am_b mX6_shuffle) 25 = .ok (.l2i, 1) := by decide +kernel
theorem dX6_shuffle_26 : decode (am_b mX6_shuffle) 26 = .ok (.istore_n 2, 1) := by decide +kernel
theorem dX6_shuffle_27 : decode (am_b mX6_shuffle) 27 = .ok (.aload_n 0, 1) := by decide +kernel
theorem dX6_shuffle_28 : decode (am_b mX6_shuffle) 28 = .ok (.getfield 10, 3) := by decide +kernel
theorem dX6_shuffle_31 : decode (am_b mX6_shuffle) 31 = .ok (.iload_n 1, 1) := by decide +kernel
theorem dX6_shuffle_32 : decode (am_b mX6_shuffle) 32 = .ok (.i2l, 1) := by decide +kernel
theorem dX6_shuffle_33 : decode (am_b mX6_shuffle) 33 = .ok (.putfield 105, 3) := by decide +kernel
theorem dX6_shuffle_36 : decode (am_b mX6_shuffle) 36 = .ok (.iload_n 2, 1) := by decide +kernel
theorem dX6_shuffle_37 : decode (am_b mX6_shuffle) 37 = .ok (.ireturn, 1) := by decide +kernel
theorem dX6_stoppingFrom_0 : decode (am_b mX6_stoppingFrom) 0 = .ok (.aload_n 0, 1) := by decide +kernel
theorem dX6_stoppingFrom_1 : decode (am_b mX6_stoppingFrom) 1 = .ok (.getfield 22, 3) := by decide +kernel
theorem dX6_stoppingFrom_4 : decode (am_b mX6_stoppingFrom) 4 = .ok (.aload_n 0, 1) := by decide +kernel
theorem dX6_stoppingFrom_5 : decode (am_b mX6_stoppingFrom) 5 = .ok (.getfield 10, 3) := by decide +kernel
theorem dX6_stoppingFrom_8 : decode (am_b mX6_stoppingFrom) 8 = .ok (.bipush (-6), 2) := by decide +kernel
theorem dX6_stoppingFrom_10 : decode (am_b mX6_stoppingFrom) 10 = .ok (.invokevirtual 137, 3) := by decide +kernel
theorem dX6_stoppingFrom_13 : decode (am_b mX6_stoppingFrom) 13 = .ok (.aload_n 0, 1) := by decide +kernel
theorem dX6_stoppingFrom_14 : decode (am_b mX6_stoppingFrom) 14 = .ok (.getfield 22, 3) := by decide +kernel
theorem dX6_stoppingFrom_17 : decode (am_b mX6_stoppingFrom) 17 = .ok (.iload_n 1, 1) := by decide +kernel
theorem dX6_stoppingFrom_18 : decode (am_b mX6_stoppingFrom) 18 = .ok (.invokevirtual 168, 3) := by decide +kernel
theorem dX6_stoppingFrom_21 : decode (am_b mX6_stoppingFrom) 21 = .ok (.aload_n 0, 1) := by decide +kernel
theorem dX6_stoppingFrom_22 : decode (am_b mX6_stoppingFrom) 22 = .ok (.getfield 10, 3) := by decide +kernel
theorem dX6_stoppingFrom_25 : decode (am_b mX6_stoppingFrom) 25 = .ok (.getfield 102, 3) := by decide +kernel
theorem dX6_stoppingFrom_28 : decode (am_b mX6_stoppingFrom) 28 = .ok (.iload_n 2, 1) := by decide +kernel
theorem dX6_stoppingFrom_29 : decode (am_b mX6_stoppingFrom) 29 = .ok (.iaload, 1) := by decide +kernel
theorem dX6_stoppingFrom_30 : decode (am_b mX6_stoppingFrom) 30 = .ok (.aload_n 0, 1) := by decide +kernel
theorem dX6_stoppingFrom_31 : decode (am_b mX6_stoppingFrom) 31 = .ok (.getfield 10, 3) := by decide +kernel
theorem dX6_stoppingFrom_34 : decode (am_b mX6_stoppingFrom) 34 = .ok (.getfield 95, 3) := by decide +kernel
theorem dX6_stoppingFrom_37 : decode (am_b mX6_stoppingFrom) 37 = .ok (.iload_n 2, 1) := by decide +kernel
theorem dX6_stoppingFrom_38 : decode (am_b mX6_stoppingFrom) 38 = .ok (.iaload, 1) := by decide +kernel
theorem dX6_stoppingFrom_39 : decode (am_b mX6_stoppingFrom) 39 = .ok (.invokevirtual 215, 3) := by decide +kernel
theorem dX6_stoppingFrom_42 : decode (am_b mX6_stoppingFrom) 42 = .ok (.ireturn, 1) := by decide +kernel
theorem dX6_stoppingNowhere_0 : decode (am_b mX6_stoppingNowhere) 0 = .ok (.aload_n 0, 1) := by decide +kernel
theorem dX6_stoppingNowhere_1 : decode (am_b mX6_stoppingNowhere) 1 = .ok (.getfield 22, 3) := by decide +kernel
theorem dX6_stoppingNowhere_4 : decode (am_b mX6_stoppingNowhere) 4 = .ok (.aload_n 0, 1) := by decide +kernel
theorem dX6_stoppingNowhere_5 : decode (am_b mX6_stoppingNowhere) 5 = .ok (.getfield 10, 3) := by decide +kernel
theorem dX6_stoppingNowhere_8 : decode (am_b mX6_stoppingNowhere) 8 = .ok (.bipush (-6), 2) := by decide +kernel
theorem dX6_stoppingNowhere_10 : decode (am_b mX6_stoppingNowhere) 10 = .ok (.invokevirtual 137, 3) := by decide +kernel
theorem dX6_stoppingNowhere_13 : decode (am_b mX6_stoppingNowhere) 13 = .ok (.aload_n 0, 1) := by decide +kernel
theorem dX6_stoppingNowhere_14 : decode (am_b mX6_stoppingNowhere) 14 = .ok (.getfield 22, 3) := by decide +kernel
theorem dX6_stoppingNowhere_17 : decode (am_b mX6_stoppingNowhere) 17 = .ok (.getfield 218, 3) := by decide +kernel
theorem dX6_stoppingNowhere_20 : decode (am_b mX6_stoppingNowhere) 20 = .ok (.getfield 222, 3) := by decide +kernel
theorem dX6_stoppingNowhere_23 : decode (am_b mX6_stoppingNowhere) 23 = .ok (.aload_n 0, 1) := by decide +kernel
theorem dX6_stoppingNowhere_24 : decode (am_b mX6_stoppingNowhere) 24 = .ok (.getfield 22, 3) := by decide +kernel
theorem dX6_stoppingNowhere_27 : decode (am_b mX6_stoppingNowhere) 27 = .ok (.getfield 225, 3) := by decide +kernel
theorem dX6_stoppingNowhere_30 : decode (am_b mX6_stoppingNowhere) 30 = .ok (.getfield 222, 3) := by decide +kernel
theorem dX6_stoppingNowhere_33 : decode (am_b mX6_stoppingNowhere) 33 = .ok (.iadd, 1) := by decide +kernel
theorem dX6_stoppingNowhere_34 : decode (am_b mX6_stoppingNowhere) 34 = .ok (.ireturn, 1) := by decide +kernel
theorem dX6_undo_0 : decode (am_b mX6_undo) 0 = .ok (.aload_n 0, 1) := by decide +kernel
theorem dX6_undo_1 : decode (am_b mX6_undo) 1 = .ok (.getfield 36, 3) := by decide +kernel
theorem dX6_undo_4 : decode (am_b mX6_undo) 4 = .ok (.getfield 192, 3) := by decide +kernel
theorem dX6_undo_7 : decode (am_b mX6_undo) 7 = .ok (.ifCond .ne 6, 3) := by decide +kernel
theorem dX6_undo_10 : decode (am_b mX6_undo) 10 = .ok (.bipush (-5), 2) := by decide +kernel
theorem dX6_undo_12 : decode (am_b mX6_undo) 12 = .ok (.ireturn, 1) := by decide +kernel
theorem dX6_undo_13 : decode (am_b mX6_undo) 13 = .ok (.aload_n 0, 1) := by decide +kernel
theorem dX6_undo_14 : decode (am_b mX6_undo) 14 = .ok (.getfield 36, 3) := by decide +kernel
theorem dX6_undo_17 : decode (am_b mX6_undo) 17 = .ok (.aload_n 0, 1) := by decide +kernel
theorem dX6_undo_18 : decode (am_b mX6_undo) 18 = .ok (.getfield 10, 3) := by decide +kernel
theorem dX6_undo_21 : decode (am_b mX6_undo) 21 = .ok (.invokevirtual 212, 3) := by decide +kernel
theorem dX6_undo_24 : decode (am_b mX6_undo) 24 = .ok (.aload_n 0, 1) := by decide +kernel
theorem dX6_undo_25 : decode (am_b mX6_undo) 25 = .ok (.getfield 36, 3) := by decide +kernel
theorem dX6_undo_28 : decode (am_b mX6_undo) 28 = .ok (.getfield 192, 3) := by decide +kernel
theorem dX6_undo_31 : decode (am_b mX6_undo) 31 = .ok (.ireturn, 1) := by decide +kernel
theorem dX6_bestHeight_0 : decode (am_b mX6_bestHeight) 0 = .ok (.aload_n 0, 1) := by decide +kernel
theorem dX6_bestHeight_1 : decode (am_b mX6_bestHeight) 1 = .ok (.getfield 10, 3) := by decide +kernel
theorem dX6_bestHeight_4 : decode (am_b mX6_bestHeight) 4 = .ok (.iload_n 1, 1) := by decide +kernel
theorem dX6_bestHeight_5 : decode (am_b mX6_bestHeight) 5 = .ok (.invokevirtual 85, 3) := by decide +kernel
theorem dX6_bestHeight_8 : decode (am_b mX6_bestHeight) 8 = .ok (.ifCond .ne 5, 3) := by decide +kernel
theorem dX6_bestHeight_11 : decode (am_b mX6_bestHeight) 11 = .ok (.iconst (-1), 1) := by decide +kernel
theorem dX6_bestHeight_12 : decode (am_b mX6_bestHeight) 12 = .ok (.ireturn, 1) := by decide +kernel
theorem dX6_bestHeight_13 : decode (am_b mX6_bestHeight) 13 = .ok (.aload_n 0, 1) := by decide +kernel
theorem dX6_bestHeight_14 : decode (am_b mX6_bestHeight) 14 = .ok (.getfield 10, 3) := by decide +kernel
theorem dX6_bestHeight_17 : decode (am_b mX6_bestHeight) 17 = .ok (.iload_n 1, 1) := by decide +kernel
theorem dX6_bestHeight_18 : decode (am_b mX6_bestHeight) 18 = .ok (.invokevirtual 161, 3) := by decide +kernel
theorem dX6_bestHeight_21 : decode (am_b mX6_bestHeight) 21 = .ok (.ifCond .ne 6, 3) := by decide +kernel
theorem dX6_bestHeight_24 : decode (am_b mX6_bestHeight) 24 = .ok (.bipush (-5), 2) := by decide +kernel
theorem dX6_bestHeight_26 : decode (am_b mX6_bestHeight) 26 = .ok (.ireturn, 1) := by decide +kernel
theorem dX6_bestHeight_27 : decode (am_b mX6_bestHeight) 27 = .ok (.aload_n 0, 1) := by decide +kernel
theorem dX6_bestHeight_28 : decode (am_b mX6_bestHeight) 28 = .ok (.getfield 22, 3) := by decide +kernel
theorem dX6_bestHeight_31 : decode (am_b mX6_bestHeight) 31 = .ok (.aload_n 0, 1) := by decide +kernel
theorem dX6_bestHeight_32 : decode (am_b mX6_bestHeight) 32 = .ok (.getfield 10, 3) := by decide +kernel
theorem dX6_bestHeight_35 : decode (am_b mX6_bestHeight) 35 = .ok (.iload_n 1, 1) := by decide +kernel
theorem dX6_bestHeight_36 : decode (am_b mX6_bestHeight) 36 = .ok (.invokevirtual 137, 3) := by decide +kernel
theorem dX6_bestHeight_39 : decode (am_b mX6_bestHeight) 39 = .ok (.iconst 1, 1) := by decide +kernel
theorem dX6_bestHeight_40 : decode (am_b mX6_bestHeight) 40 = .ok (.istore_n 2, 1) := by decide +kernel
theorem dX6_bestHeight_41 : decode (am_b mX6_bestHeight) 41 = .ok (.aload_n 0, 1) := by decide +kernel
theorem dX6_bestHeight_42 : decode (am_b mX6_bestHeight) 42 = .ok (.getfield 22, 3) := by decide +kernel
theorem dX6_bestHeight_45 : decode (am_b mX6_bestHeight) 45 = .ok (.aload_n 0, 1) := by decide +kernel
theorem dX6_bestHeight_46 : decode (am_b mX6_bestHeight) 46 = .ok (.getfield 10, 3) := by decide +kernel
theorem dX6_bestHeight_49 : decode (am_b mX6_bestHeight) 49 = .ok (.getfield 102, 3) := by decide +kernel
theorem dX6_bestHeight_52 : decode (am_b mX6_bestHeight) 52 = .ok (.iload_n 1, 1) := by decide +kernel
theorem dX6_bestHeight_53 : decode (am_b mX6_bestHeight) 53 = .ok (.iaload, 1) := by decide +kernel
theorem dX6_bestHeight_54 : decode (am_b mX6_bestHeight) 54 = .ok (.iload_n 2, 1) := by decide +kernel
theorem dX6_bestHeight_55 : decode (am_b mX6_bestHeight) 55 = .ok (.invokevirtual 141, 3) := by decide +kernel
theorem dX6_bestHeight_58 : decode (am_b mX6_bestHeight) 58 = .ok (.istore_n 3, 1) := by decide +kernel
theorem dX6_bestHeight_59 : decode (am_b mX6_bestHeight) 59 = .ok (.iconst 2, 1) := by decide +kernel
theorem dX6_bestHeight_60 : decode (am_b mX6_bestHeight) 60 = .ok (.istore 4, 2) := by decide +kernel
theorem dX6_bestHeight_62 : decode (am_b mX6_bestHeight) 62 = .ok (.iload 4, 2) := by decide +kernel
theorem dX6_bestHeight_64 : decode (am_b mX6_bestHeight) 64 = .ok (.bipush 9, 2) := by decide +kernel
theorem dX6_bestHeight_66 : decode (am_b mX6_bestHeight) 66 = .ok (.if_icmp .gt 41, 3) := by decide +kernel
theorem dX6_bestHeight_69 : decode (am_b mX6_bestHeight) 69 = .ok (.aload_n 0, 1) := by decide +kernel
theorem dX6_bestHeight_70 : decode (am_b mX6_bestHeight) 70 = .ok (.getfield 22, 3) := by decide +kernel
theorem dX6_bestHeight_73 : decode (am_b mX6_bestHeight) 73 = .ok (.aload_n 0, 1) := by decide +kernel
theorem dX6_bestHeight_74 : decode (am_b mX6_bestHeight) 74 = .ok (.getfield 10, 3) := by decide +kernel
theorem dX6_bestHeight_77 : decode (am_b mX6_bestHeight) 77 = .ok (.getfield 102, 3) := by decide +kernel
theorem dX6_bestHeight_80 : decode (am_b mX6_bestHeight) 80 = .ok (.iload_n 1, 1) := by decide +kernel
theorem dX6_bestHeight_81 : decode (am_b mX6_bestHeight) 81 = .ok (.iaload, 1) := by decide +kernel
theorem dX6_bestHeight_82 : decode (am_b mX6_bestHeight) 82 = .ok (.iload 4, 2) := by decide +kernel
theorem dX6_bestHeight_84 : decode (am_b mX6_bestHeight) 84 = .ok (.invokevirtual 141, 3) := by decide +kernel
theorem dX6_bestHeight_87 : decode (am_b mX6_bestHeight) 87 = .ok (.istore 5, 2) := by decide +kernel
theorem dX6_bestHeight_89 : decode (am_b mX6_bestHeight) 89 = .ok (.iload 5, 2) := by decide +kernel
theorem dX6_bestHeight_91 : decode (am_b mX6_bestHeight) 91 = .ok (.iload_n 3, 1) := by decide +kernel
theorem dX6_bestHeight_92 : decode (am_b mX6_bestHeight) 92 = .ok (.if_icmp .le 9, 3) := by decide +kernel
theorem dX6_bestHeight_95 : decode (am_b mX6_bestHeight) 95 = .ok (.iload 4, 2) := by decide +kernel
theorem dX6_bestHeight_97 : decode (am_b mX6_bestHeight) 97 = .ok (.istore_n 2, 1) := by decide +kernel
theorem dX6_bestHeight_98 : decode (am_b mX6_bestHeight) 98 = .ok (.iload 5, 2) := by decide +kernel
theorem dX6_bestHeight_100 : decode (am_b mX6_bestHeight) 100 = .ok (.istore_n 3, 1) := by decide +kernel
theorem dX6_bestHeight_101 : decode (am_b mX6_bestHeight) 101 = .ok (.iinc 4 1, 3) := by decide +kernel
theorem dX6_bestHeight_104 : decode (am_b mX6_bestHeight) 104 = .ok (.goto (-42), 3) := by decide +kernel
theorem dX6_bestHeight_107 : decode (am_b mX6_bestHeight) 107 = .ok (.iload_n 2, 1) := by decide +kernel
theorem dX6_bestHeight_108 : decode (am_b mX6_bestHeight) 108 = .ok (.ireturn, 1) := by decide +kernel
theorem dX6_booth_0 : decode (am_b mX6_booth) 0 = .ok (.aload_n 0, 1) := by decide +kernel
theorem dX6_booth_1 : decode (am_b mX6_booth) 1 = .ok (.getfield 10, 3) := by decide +kernel
theorem dX6_booth_4 : decode (am_b mX6_booth) 4 = .ok (.iload_n 1, 1) := by decide +kernel
theorem dX6_booth_5 : decode (am_b mX6_booth) 5 = .ok (.invokevirtual 85, 3) := by decide +kernel
theorem dX6_booth_8 : decode (am_b mX6_booth) 8 = .ok (.ifCond .ne 5, 3) := by decide +kernel
theorem dX6_booth_11 : decode (am_b mX6_booth) 11 = .ok (.iconst (-1), 1) := by decide +kernel
theorem dX6_booth_12 : decode (am_b mX6_booth) 12 = .ok (.ireturn, 1) := by decide +kernel
theorem dX6_booth_13 : decode (am_b mX6_booth) 13 = .ok (.iload_n 2, 1) := by decide +kernel
theorem dX6_booth_14 : decode (am_b mX6_booth) 14 = .ok (.tableswitch 149 0 7 #[46, 56, 66, 105, 112, 119, 129, 139], 46) := by decide +kernel
theorem dX6_booth_60 : decode (am_b mX6_booth) 60 = .ok (.aload_n 0, 1) := by decide +kernel
theorem dX6_booth_61 : decode (am_b mX6_booth) 61 = .ok (.getfield 10, 3) := by decide +kernel
theorem dX6_booth_64 : decode (am_b mX6_booth) 64 = .ok (.getfield 95, 3) := by decide +kernel
theorem dX6_booth_67 : decode (am_b mX6_booth) 67 = .ok (.iload_n 1, 1) := by decide +kernel
theorem dX6_booth_68 : decode (am_b mX6_booth) 68 = .ok (.iaload, 1) := by decide +kernel
theorem dX6_booth_69 : decode (am_b mX6_booth) 69 = .ok (.ireturn, 1) := by decide +kernel
theorem dX6_booth_70 : decode (am_b mX6_booth) 70 = .ok (.aload_n 0, 1) := by decide +kernel
theorem dX6_booth_71 : decode (am_b mX6_booth) 71 = .ok (.getfield 10, 3) := by decide +kernel
theorem dX6_booth_74 : decode (am_b mX6_booth) 74 = .ok (.getfield 102, 3) := by decide +kernel
theorem dX6_booth_77 : decode (am_b mX6_booth) 77 = .ok (.iload_n 1, 1) := by decide +kernel
theorem dX6_booth_78 : decode (am_b mX6_booth) 78 = .ok (.iaload, 1) := by decide +kernel
theorem dX6_booth_79 : decode (am_b mX6_booth) 79 = .ok (.ireturn, 1) := by decide +kernel
theorem dX6_booth_80 : decode (am_b mX6_booth) 80 = .ok (.aload_n 0, 1) := by decide +kernel
theorem dX6_booth_81 : decode (am_b mX6_booth) 81 = .ok (.getfield 22, 3) := by decide +kernel
theorem dX6_booth_84 : decode (am_b mX6_booth) 84 = .ok (.aload_n 0, 1) := by decide +kernel
theorem dX6_booth_85 : decode (am_b mX6_booth) 85 = .ok (.getfield 10, 3) := by decide +kernel
theorem dX6_booth_88 : decode (am_b mX6_booth) 88 = .ok (.bipush (-6), 2) := by decide +kernel
theorem dX6_booth_90 : decode (am_b mX6_booth) 90 = .ok (.invokevirtual 137, 3) := by decide +kernel
theorem dX6_booth_93 : decode (am_b mX6_booth) 93 = .ok (.aload_n 0, 1) := by decide +kernel
theorem dX6_booth_94 : decode (am_b mX6_booth) 94 = .ok (.getfield 22, 3) := by decide +kernel
theorem dX6_booth_97 : decode (am_b mX6_booth) 97 = .ok (.aload_n 0, 1) := by decide +kernel
theorem dX6_booth_98 : decode (am_b mX6_booth) 98 = .ok (.getfield 10, 3) := by decide +kernel
theorem dX6_booth_101 : decode (am_b mX6_booth) 101 = .ok (.getfield 102, 3) := by decide +kernel
theorem dX6_booth_104 : decode (am_b mX6_booth) 104 = .ok (.iload_n 1, 1) := by decide +kernel
theorem dX6_booth_105 : decode (am_b mX6_booth) 105 = .ok (.iaload, 1) := by decide +kernel
theorem dX6_booth_106 : decode (am_b mX6_booth) 106 = .ok (.aload_n 0, 1) := by decide +kernel
theorem dX6_booth_107 : decode (am_b mX6_booth) 107 = .ok (.getfield 10, 3) := by decide +kernel
theorem dX6_booth_110 : decode (am_b mX6_booth) 110 = .ok (.getfield 95, 3) := by decide +kernel
theorem dX6_booth_113 : decode (am_b mX6_booth) 113 = .ok (.iload_n 1, 1) := by decide +kernel
theorem dX6_booth_114 : decode (am_b mX6_booth) 114 = .ok (.iaload, 1) := by decide +kernel
theorem dX6_booth_115 : decode (am_b mX6_booth) 115 = .ok (.invokevirtual 141, 3) := by decide +kernel
theorem dX6_booth_118 : decode (am_b mX6_booth) 118 = .ok (.ireturn, 1) := by decide +kernel
theorem dX6_booth_119 : decode (am_b mX6_booth) 119 = .ok (.aload_n 0, 1) := by decide +kernel
theorem dX6_booth_120 : decode (am_b mX6_booth) 120 = .ok (.iconst 1, 1) := by decide +kernel
theorem dX6_booth_121 : decode (am_b mX6_booth) 121 = .ok (.iload_n 1, 1) := by decide +kernel
theorem dX6_booth_122 : decode (am_b mX6_booth) 122 = .ok (.invokevirtual 145, 3) := by decide +kernel
theorem dX6_booth_125 : decode (am_b mX6_booth) 125 = .ok (.ireturn, 1) := by decide +kernel
theorem dX6_booth_126 : decode (am_b mX6_booth) 126 = .ok (.aload_n 0, 1) := by decide +kernel
theorem dX6_booth_127 : decode (am_b mX6_booth) 127 = .ok (.iconst 0, 1) := by decide +kernel
theorem dX6_booth_128 : decode (am_b mX6_booth) 128 = .ok (.iload_n 1, 1) := by decide +kernel
theorem dX6_booth_129 : decode (am_b mX6_booth) 129 = .ok (.invokevirtual 145, 3) := by decide +kernel
theorem dX6_booth_132 : decode (am_b mX6_booth) 132 = .ok (.ireturn, 1) := by decide +kernel
theorem dX6_booth_133 : decode (am_b mX6_booth) 133 = .ok (.aload_n 0, 1) := by decide +kernel
theorem dX6_booth_134 : decode (am_b mX6_booth) 134 = .ok (.getfield 10, 3) := by decide +kernel
theorem dX6_booth_137 : decode (am_b mX6_booth) 137 = .ok (.getfield 88, 3) := by decide +kernel
theorem dX6_booth_140 : decode (am_b mX6_booth) 140 = .ok (.iload_n 1, 1) := by decide +kernel
theorem dX6_booth_141 : decode (am_b mX6_booth) 141 = .ok (.iaload, 1) := by decide +kernel
theorem dX6_booth_142 : decode (am_b mX6_booth) 142 = .ok (.ireturn, 1) := by decide +kernel
theorem dX6_booth_143 : decode (am_b mX6_booth) 143 = .ok (.aload_n 0, 1) := by decide +kernel
theorem dX6_booth_144 : decode (am_b mX6_booth) 144 = .ok (.getfield 10, 3) := by decide +kernel
theorem dX6_booth_147 : decode (am_b mX6_booth) 147 = .ok (.getfield 149, 3) := by decide +kernel
theorem dX6_booth_150 : decode (am_b mX6_booth) 150 = .ok (.iload_n 1, 1) := by decide +kernel
theorem dX6_booth_151 : decode (am_b mX6_booth) 151 = .ok (.iaload, 1) := by decide +kernel
theorem dX6_booth_152 : decode (am_b mX6_booth) 152 = .ok (.ireturn, 1) := by decide +kernel
theorem dX6_booth_153 : decode (am_b mX6_booth) 153 = .ok (.aload_n 0, 1) := by decide +kernel
theorem dX6_booth_154 : decode (am_b mX6_booth) 154 = .ok (.getfield 10, 3) := by decide +kernel
theorem dX6_booth_157 : decode (am_b mX6_booth) 157 = .ok (.getfield 152, 3) := by decide +kernel
theorem dX6_booth_160 : decode (am_b mX6_booth) 160 = .ok (.iload_n 1, 1) := by decide +kernel
theorem dX6_booth_161 : decode (am_b mX6_booth) 161 = .ok (.iaload, 1) := by decide +kernel
theorem dX6_booth_162 : decode (am_b mX6_booth) 162 = .ok (.ireturn, 1) := by decide +kernel
theorem dX6_booth_163 : decode (am_b mX6_booth) 163 = .ok (.bipush (-2), 2) := by decide +kernel
theorem dX6_booth_165 : decode (am_b mX6_booth) 165 = .ok (.ireturn, 1) := by decide +kernel
theorem dX6_count_0 : decode (am_b mX6_count) 0 = .ok (.iload_n 1, 1) := by decide +kernel
theorem dX6_count_1 : decode (am_b mX6_count) 1 = .ok (.ifCond .lt 20, 3) := by decide +kernel
theorem dX6_count_4 : decode (am_b mX6_count) 4 = .ok (.iload_n 1, 1) := by decide +kernel
theorem dX6_count_5 : decode (am_b mX6_count) 5 = .ok (.getstatic 177, 3) := by decide +kernel
theorem dX6_count_8 : decode (am_b mX6_count) 8 = .ok (.arraylength, 1) := by decide +kernel
theorem dX6_count_9 : decode (am_b mX6_count) 9 = .ok (.if_icmp .ge 12, 3) := by decide +kernel
theorem dX6_count_12 : decode (am_b mX6_count) 12 = .ok (.aload_n 0, 1) := by decide +kernel
theorem dX6_count_13 : decode (am_b mX6_count) 13 = .ok (.getfield 10, 3) := by decide +kernel
theorem dX6_count_16 : decode (am_b mX6_count) 16 = .ok (.iload_n 1, 1) := by decide +kernel
theorem dX6_count_17 : decode (am_b mX6_count) 17 = .ok (.invokevirtual 52, 3) := by decide +kernel
theorem dX6_count_20 : decode (am_b mX6_count) 20 = .ok (.ireturn, 1) := by decide +kernel
theorem dX6_count_21 : decode (am_b mX6_count) 21 = .ok (.iload_n 1, 1) := by decide +kernel
theorem dX6_count_22 : decode (am_b mX6_count) 22 = .ok (.tableswitch 159 6 16 #[58, 67, 75, 83, 91, 114, 119, 127, 135, 143, 151], 58) := by decide +kernel
theorem dX6_count_80 : decode (am_b mX6_count) 80 = .ok (.aload_n 0, 1) := by decide +kernel
theorem dX6_count_81 : decode (am_b mX6_count) 81 = .ok (.getfield 10, 3) := by decide +kernel
theorem dX6_count_84 : decode (am_b mX6_count) 84 = .ok (.getfield 105, 3) := by decide +kernel
theorem dX6_count_87 : decode (am_b mX6_count) 87 = .ok (.l2i, 1) := by decide +kernel
theorem dX6_count_88 : decode (am_b mX6_count) 88 = .ok (.ireturn, 1) := by decide +kernel
theorem dX6_count_89 : decode (am_b mX6_count) 89 = .ok (.aload_n 0, 1) := by decide +kernel
theorem dX6_count_90 : decode (am_b mX6_count) 90 = .ok (.getfield 10, 3) := by decide +kernel
theorem dX6_count_93 : decode (am_b mX6_count) 93 = .ok (.getfield 79, 3) := by decide +kernel
theorem dX6_count_96 : decode (am_b mX6_count) 96 = .ok (.ireturn, 1) := by decide +kernel
theorem dX6_count_97 : decode (am_b mX6_count) 97 = .ok (.aload_n 0, 1) := by decide +kernel
theorem dX6_count_98 : decode (am_b mX6_count) 98 = .ok (.getfield 10, 3) := by decide +kernel
theorem dX6_count_101 : decode (am_b mX6_count) 101 = .ok (.invokevirtual 180, 3) := by decide +kernel
theorem dX6_count_104 : decode (am_b mX6_count) 104 = .ok (.ireturn, 1) := by decide +kernel
theorem dX6_count_105 : decode (am_b mX6_count) 105 = .ok (.aload_n 0, 1) := by decide +kernel
theorem dX6_count_106 : decode (am_b mX6_count) 106 = .ok (.getfield 10, 3) := by decide +kernel
theorem dX6_count_109 : decode (am_b mX6_count) 109 = .ok (.getfield 67, 3) := by decide +kernel
theorem dX6_count_112 : decode (am_b mX6_count) 112 = .ok (.ireturn, 1) := by decide +kernel
theorem dX6_count_113 : decode (am_b mX6_count) 113 = .ok (.aload_n 0, 1) := by decide +kernel
theorem dX6_count_114 : decode (am_b mX6_count) 114 = .ok (.getfield 10, 3) := by decide +kernel
theorem dX6_count_117 : decode (am_b mX6_count) 117 = .ok (.iconst 0, 1) := by decide +kernel
theorem dX6_count_118 : decode (am_b mX6_count) 118 = .ok (.invokevirtual 52, 3) := by decide +kernel
theorem dX6_count_121 : decode (am_b mX6_count) 121 = .ok (.aload_n 0, 1) := by decide +kernel
theorem dX6_count_122 : decode (am_b mX6_count) 122 = .ok (.getfield 10, 3) := by decide +kernel
theorem dX6_count_125 : decode (am_b mX6_count) 125 = .ok (.iconst 1, 1) := by decide +kernel
theorem dX6_count_126 : decode (am_b mX6_count) 126 = .ok (.invokevirtual 52, 3) := by decide +kernel
theorem dX6_count_129 : decode (am_b mX6_count) 129 = .ok (.iadd, 1) := by decide +kernel
theorem dX6_count_130 : decode (am_b mX6_count) 130 = .ok (.aload_n 0, 1) := by decide +kernel
theorem dX6_count_131 : decode (am_b mX6_count) 131 = .ok (.invokevirtual 183, 3) := by decide +kernel
theorem dX6_count_134 : decode (am_b mX6_count) 134 = .ok (.isub, 1) := by decide +kernel
theorem dX6_count_135 : decode (am_b mX6_count) 135 = .ok (.ireturn, 1) := by decide +kernel
theorem dX6_count_136 : decode (am_b mX6_count) 136 = .ok (.aload_n 0, 1) := by decide +kernel
theorem dX6_count_137 : decode (am_b mX6_count) 137 = .ok (.invokevirtual 183, 3) := by decide +kernel
theorem dX6_count_140 : decode (am_b mX6_count) 140 = .ok (.ireturn, 1) := by decide +kernel
theorem dX6_count_141 : decode (am_b mX6_count) 141 = .ok (.aload_n 0, 1) := by decide +kernel
theorem dX6_count_142 : decode (am_b mX6_count) 142 = .ok (.getfield 10, 3) := by decide +kernel
theorem dX6_count_145 : decode (am_b mX6_count) 145 = .ok (.getfield 109, 3) := by decide +kernel
theorem dX6_count_148 : decode (am_b mX6_count) 148 = .ok (.ireturn, 1) := by decide +kernel
theorem dX6_count_149 : decode (am_b mX6_count) 149 = .ok (.aload_n 0, 1) := by decide +kernel
theorem dX6_count_150 : decode (am_b mX6_count) 150 = .ok (.getfield 10, 3) := by decide +kernel
theorem dX6_count_153 : decode (am_b mX6_count) 153 = .ok (.getfield 186, 3) := by decide +kernel
theorem dX6_count_156 : decode (am_b mX6_count) 156 = .ok (.ireturn, 1) := by decide +kernel
theorem dX6_count_157 : decode (am_b mX6_count) 157 = .ok (.aload_n 0, 1) := by decide +kernel
theorem dX6_count_158 : decode (am_b mX6_count) 158 = .ok (.getfield 10, 3) := by decide +kernel
theorem dX6_count_161 : decode (am_b mX6_count) 161 = .ok (.getfield 189, 3) := by decide +kernel
theorem dX6_count_164 : decode (am_b mX6_count) 164 = .ok (.ireturn, 1) := by decide +kernel
theorem dX6_count_165 : decode (am_b mX6_count) 165 = .ok (.aload_n 0, 1) := by decide +kernel
theorem dX6_count_166 : decode (am_b mX6_count) 166 = .ok (.getfield 29, 3) := by decide +kernel
theorem dX6_count_169 : decode (am_b mX6_count) 169 = .ok (.getfield 134, 3) := by decide +kernel
theorem dX6_count_172 : decode (am_b mX6_count) 172 = .ok (.ireturn, 1) := by decide +kernel
theorem dX6_count_173 : decode (am_b mX6_count) 173 = .ok (.aload_n 0, 1) := by decide +kernel
theorem dX6_count_174 : decode (am_b mX6_count) 174 = .ok (.getfield 36, 3) := by decide +kernel
theorem dX6_count_177 : decode (am_b mX6_count) 177 = .ok (.getfield 192, 3) := by decide +kernel
theorem dX6_count_180 : decode (am_b mX6_count) 180 = .ok (.ireturn, 1) := by decide +kernel
theorem dX6_count_181 : decode (am_b mX6_count) 181 = .ok (.bipush (-2), 2) := by decide +kernel
theorem dX6_count_183 : decode (am_b mX6_count) 183 = .ok (.ireturn, 1) := by decide +kernel
theorem dX6_fault_0 : decode (am_b mX6_fault) 0 = .ok (.aload_n 0, 1) := by decide +kernel
theorem dX6_fault_1 : decode (am_b mX6_fault) 1 = .ok (.getfield 29, 3) := by decide +kernel
theorem dX6_fault_4 : decode (am_b mX6_fault) 4 = .ok (.invokevirtual 118, 3) := by decide +kernel
theorem dX6_fault_7 : decode (am_b mX6_fault) 7 = .ok (.ireturn, 1) := by decide +kernel
theorem dX6_ifStood_0 : decode (am_b mX6_ifStood) 0 = .ok (.aload_n 0, 1) := by decide +kernel
theorem dX6_ifStood_1 : decode (am_b mX6_ifStood) 1 = .ok (.getfield 10, 3) := by decide +kernel
theorem dX6_ifStood_4 : decode (am_b mX6_ifStood) 4 = .ok (.iload_n 1, 1) := by decide +kernel
theorem dX6_ifStood_5 : decode (am_b mX6_ifStood) 5 = .ok (.invokevirtual 85, 3) := by decide +kernel
theorem dX6_ifStood_8 : decode (am_b mX6_ifStood) 8 = .ok (.ifCond .eq 10, 3) := by decide +kernel
theorem dX6_ifStood_11 : decode (am_b mX6_ifStood) 11 = .ok (.iload_n 2, 1) := by decide +kernel
theorem dX6_ifStood_12 : decode (am_b mX6_ifStood) 12 = .ok (.invokestatic 60, 3) := by decide +kernel
theorem dX6_ifStood_15 : decode (am_b mX6_ifStood) 15 = .ok (.ifCond .ne 5, 3) := by decide +kernel
theorem dX6_ifStood_18 : decode (am_b mX6_ifStood) 18 = .ok (.iconst (-1), 1) := by decide +kernel
theorem dX6_ifStood_19 : decode (am_b mX6_ifStood) 19 = .ok (.ireturn, 1) := by decide +kernel
theorem dX6_ifStood_20 : decode (am_b mX6_ifStood) 20 = .ok (.aload_n 0, 1) := by decide +kernel
theorem dX6_ifStood_21 : decode (am_b mX6_ifStood) 21 = .ok (.getfield 10, 3) := by decide +kernel
theorem dX6_ifStood_24 : decode (am_b mX6_ifStood) 24 = .ok (.iload_n 2, 1) := by decide +kernel
theorem dX6_ifStood_25 : decode (am_b mX6_ifStood) 25 = .ok (.iload_n 1, 1) := by decide +kernel
theorem dX6_ifStood_26 : decode (am_b mX6_ifStood) 26 = .ok (.invokevirtual 98, 3) := by decide +kernel
theorem dX6_ifStood_29 : decode (am_b mX6_ifStood) 29 = .ok (.ifCond .eq 6, 3) := by decide +kernel
theorem dX6_ifStood_32 : decode (am_b mX6_ifStood) 32 = .ok (.bipush (-5), 2) := by decide +kernel
theorem dX6_ifStood_34 : decode (am_b mX6_ifStood) 34 = .ok (.ireturn, 1) := by decide +kernel
theorem dX6_ifStood_35 : decode (am_b mX6_ifStood) 35 = .ok (.aload_n 0, 1) := by decide +kernel
theorem dX6_ifStood_36 : decode (am_b mX6_ifStood) 36 = .ok (.getfield 22, 3) := by decide +kernel
theorem dX6_ifStood_39 : decode (am_b mX6_ifStood) 39 = .ok (.aload_n 0, 1) := by decide +kernel
theorem dX6_ifStood_40 : decode (am_b mX6_ifStood) 40 = .ok (.getfield 10, 3) := by decide +kernel
theorem dX6_ifStood_43 : decode (am_b mX6_ifStood) 43 = .ok (.iload_n 1, 1) := by decide +kernel
theorem dX6_ifStood_44 : decode (am_b mX6_ifStood) 44 = .ok (.invokevirtual 137, 3) := by decide +kernel
theorem dX6_ifStood_47 : decode (am_b mX6_ifStood) 47 = .ok (.aload_n 0, 1) := by decide +kernel
theorem dX6_ifStood_48 : decode (am_b mX6_ifStood) 48 = .ok (.getfield 22, 3) := by decide +kernel
theorem dX6_ifStood_51 : decode (am_b mX6_ifStood) 51 = .ok (.iload_n 2, 1) := by decide +kernel
theorem dX6_ifStood_52 : decode (am_b mX6_ifStood) 52 = .ok (.aload_n 0, 1) := by decide +kernel
theorem dX6_ifStood_53 : decode (am_b mX6_ifStood) 53 = .ok (.getfield 10, 3) := by decide +kernel
theorem dX6_ifStood_56 : decode (am_b mX6_ifStood) 56 = .ok (.getfield 95, 3) := by decide +kernel
theorem dX6_ifStood_59 : decode (am_b mX6_ifStood) 59 = .ok (.iload_n 1, 1) := by decide +kernel
theorem dX6_ifStood_60 : decode (am_b mX6_ifStood) 60 = .ok (.iaload, 1) := by decide +kernel
theorem dX6_ifStood_61 : decode (am_b mX6_ifStood) 61 = .ok (.invokevirtual 141, 3) := by decide +kernel
theorem dX6_ifStood_64 : decode (am_b mX6_ifStood) 64 = .ok (.ireturn, 1) := by decide +kernel
theorem dX6_read_0 : decode (am_b mX6_read) 0 = .ok (.aload_n 0, 1) := by decide +kernel
theorem dX6_read_1 : decode (am_b mX6_read) 1 = .ok (.getfield 29, 3) := by decide +kernel
theorem dX6_read_4 : decode (am_b mX6_read) 4 = .ok (.invokevirtual 118, 3) := by decide +kernel
theorem dX6_read_7 : decode (am_b mX6_read) 7 = .ok (.bipush (-6), 2) := by decide +kernel
theorem dX6_read_9 : decode (am_b mX6_read) 9 = .ok (.if_icmp .eq 6, 3) := by decide +kernel
theorem dX6_read_12 : decode (am_b mX6_read) 12 = .ok (.bipush (-3), 2) := by decide +kernel
theorem dX6_read_14 : decode (am_b mX6_read) 14 = .ok (.ireturn, 1) := by decide +kernel
theorem dX6_read_15 : decode (am_b mX6_read) 15 = .ok (.aload_n 0, 1) := by decide +kernel
theorem dX6_read_16 : decode (am_b mX6_read) 16 = .ok (.getfield 29, 3) := by decide +kernel
theorem dX6_read_19 : decode (am_b mX6_read) 19 = .ok (.invokevirtual 122, 3) := by decide +kernel
theorem dX6_read_22 : decode (am_b mX6_read) 22 = .ok (.ifCond .eq 6, 3) := by decide +kernel
theorem dX6_read_25 : decode (am_b mX6_read) 25 = .ok (.bipush (-5), 2) := by decide +kernel
theorem dX6_read_27 : decode (am_b mX6_read) 27 = .ok (.ireturn, 1) := by decide +kernel
theorem dX6_read_28 : decode (am_b mX6_read) 28 = .ok (.aload_n 0, 1) := by decide +kernel
theorem dX6_read_29 : decode (am_b mX6_read) 29 = .ok (.getfield 36, 3) := by decide +kernel
theorem dX6_read_32 : decode (am_b mX6_read) 32 = .ok (.aload_n 0, 1) := by decide +kernel
theorem dX6_read_33 : decode (am_b mX6_read) 33 = .ok (.getfield 10, 3) := by decide +kernel
theorem dX6_read_36 : decode (am_b mX6_read) 36 = .ok (.invokevirtual 48, 3) := by decide +kernel
theorem dX6_read_39 : decode (am_b mX6_read) 39 = .ok (.aload_n 0, 1) := by decide +kernel
theorem dX6_read_40 : decode (am_b mX6_read) 40 = .ok (.getfield 10, 3) := by decide +kernel
theorem dX6_read_43 : decode (am_b mX6_read) 43 = .ok (.invokevirtual 126, 3) := by decide +kernel
theorem dX6_read_46 : decode (am_b mX6_read) 46 = .ok (.iconst 0, 1) := by decide +kernel
theorem dX6_read_47 : decode (am_b mX6_read) 47 = .ok (.istore_n 1, 1) := by decide +kernel
theorem dX6_read_48 : decode (am_b mX6_read) 48 = .ok (.iload_n 1, 1) := by decide +kernel
theorem dX6_read_49 : decode (am_b mX6_read) 49 = .ok (.aload_n 0, 1) := by decide +kernel
theorem dX6_read_50 : decode (am_b mX6_read) 50 = .ok (.getfield 29, 3) := by decide +kernel
theorem dX6_read_53 : decode (am_b mX6_read) 53 = .ok (.getfield 129, 3) := by decide +kernel
theorem dX6_read_56 : decode (am_b mX6_read) 56 = .ok (.if_icmp .ge 40, 3) := by decide +kernel
theorem dX6_read_59 : decode (am_b mX6_read) 59 = .ok (.iload_n 1, 1) := by decide +kernel
theorem dX6_read_60 : decode (am_b mX6_read) 60 = .ok (.bipush 8, 2) := by decide +kernel
theorem dX6_read_62 : decode (am_b mX6_read) 62 = .ok (.if_icmp .ge 34, 3) := by decide +kernel
theorem dX6_read_65 : decode (am_b mX6_read) 65 = .ok (.aload_n 0, 1) := by decide +kernel
theorem dX6_read_66 : decode (am_b mX6_read) 66 = .ok (.getfield 10, 3) := by decide +kernel
theorem dX6_read_69 : decode (am_b mX6_read) 69 = .ok (.aload_n 0, 1) := by decide +kernel
theorem dX6_read_70 : decode (am_b mX6_read) 70 = .ok (.getfield 29, 3) := by decide +kernel
theorem dX6_read_73 : decode (am_b mX6_read) 73 = .ok (.getfield 132, 3) := by decide +kernel
theorem dX6_read_76 : decode (am_b mX6_read) 76 = .ok (.iload_n 1, 1) := by decide +kernel
theorem dX6_read_77 : decode (am_b mX6_read) 77 = .ok (.iaload, 1) := by decide +kernel
theorem dX6_read_78 : decode (am_b mX6_read) 78 = .ok (.aload_n 0, 1) := by decide +kernel
theorem dX6_read_79 : decode (am_b mX6_read) 79 = .ok (.getfield 29, 3) := by decide +kernel
theorem dX6_read_82 : decode (am_b mX6_read) 82 = .ok (.getfield 133, 3) := by decide +kernel
theorem dX6_read_85 : decode (am_b mX6_read) 85 = .ok (.iload_n 1, 1) := by decide +kernel
theorem dX6_read_86 : decode (am_b mX6_read) 86 = .ok (.iaload, 1) := by decide +kernel
theorem dX6_read_87 : decode (am_b mX6_read) 87 = .ok (.invokevirtual 82, 3) := by decide +kernel
theorem dX6_read_90 : decode (am_b mX6_read) 90 = .ok (.iinc 1 1, 3) := by decide +kernel
theorem dX6_read_93 : decode (am_b mX6_read) 93 = .ok (.goto (-45), 3) := by decide +kernel
theorem dX6_read_96 : decode (am_b mX6_read) 96 = .ok (.aload_n 0, 1) := by decide +kernel
theorem dX6_read_97 : decode (am_b mX6_read) 97 = .ok (.getfield 29, 3) := by decide +kernel
theorem dX6_read_100 : decode (am_b mX6_read) 100 = .ok (.iconst 0, 1) := by decide +kernel
theorem dX6_read_101 : decode (am_b mX6_read) 101 = .ok (.putfield 134, 3) := by decide +kernel
theorem dX6_read_104 : decode (am_b mX6_read) 104 = .ok (.aload_n 0, 1) := by decide +kernel
theorem dX6_read_105 : decode (am_b mX6_read) 105 = .ok (.getfield 10, 3) := by decide +kernel
theorem dX6_read_108 : decode (am_b mX6_read) 108 = .ok (.getfield 79, 3) := by decide +kernel
theorem dX6_read_111 : decode (am_b mX6_read) 111 = .ok (.ireturn, 1) := by decide +kernel
theorem dX6_seen_0 : decode (am_b mX6_seen) 0 = .ok (.aload_n 0, 1) := by decide +kernel
theorem dX6_seen_1 : decode (am_b mX6_seen) 1 = .ok (.getfield 10, 3) := by decide +kernel
theorem dX6_seen_4 : decode (am_b mX6_seen) 4 = .ok (.iload_n 1, 1) := by decide +kernel
theorem dX6_seen_5 : decode (am_b mX6_seen) 5 = .ok (.invokevirtual 85, 3) := by decide +kernel
theorem dX6_seen_8 : decode (am_b mX6_seen) 8 = .ok (.ifCond .ne 5, 3) := by decide +kernel
theorem dX6_seen_11 : decode (am_b mX6_seen) 11 = .ok (.iconst (-1), 1) := by decide +kernel
theorem dX6_seen_12 : decode (am_b mX6_seen) 12 = .ok (.ireturn, 1) := by decide +kernel
theorem dX6_seen_13 : decode (am_b mX6_seen) 13 = .ok (.iload_n 2, 1) := by decide +kernel
theorem dX6_seen_14 : decode (am_b mX6_seen) 14 = .ok (.ifCond .eq 8, 3) := by decide +kernel
theorem dX6_seen_17 : decode (am_b mX6_seen) 17 = .ok (.iload_n 2, 1) := by decide +kernel
theorem dX6_seen_18 : decode (am_b mX6_seen) 18 = .ok (.iconst 1, 1) := by decide +kernel
theorem dX6_seen_19 : decode (am_b mX6_seen) 19 = .ok (.if_icmp .ne 12, 3) := by decide +kernel
theorem dX6_seen_22 : decode (am_b mX6_seen) 22 = .ok (.iload_n 3, 1) := by decide +kernel
theorem dX6_seen_23 : decode (am_b mX6_seen) 23 = .ok (.ifCond .eq 11, 3) := by decide +kernel
theorem dX6_seen_26 : decode (am_b mX6_seen) 26 = .ok (.iload_n 3, 1) := by decide +kernel
theorem dX6_seen_27 : decode (am_b mX6_seen) 27 = .ok (.iconst 1, 1) := by decide +kernel
theorem dX6_seen_28 : decode (am_b mX6_seen) 28 = .ok (.if_icmp .eq 6, 3) := by decide +kernel
theorem dX6_seen_31 : decode (am_b mX6_seen) 31 = .ok (.bipush (-2), 2) := by decide +kernel
theorem dX6_seen_33 : decode (am_b mX6_seen) 33 = .ok (.ireturn, 1) := by decide +kernel
theorem dX6_seen_34 : decode (am_b mX6_seen) 34 = .ok (.aload_n 0, 1) := by decide +kernel
theorem dX6_seen_35 : decode (am_b mX6_seen) 35 = .ok (.getfield 10, 3) := by decide +kernel
theorem dX6_seen_38 : decode (am_b mX6_seen) 38 = .ok (.iload_n 1, 1) := by decide +kernel
theorem dX6_seen_39 : decode (am_b mX6_seen) 39 = .ok (.invokevirtual 161, 3) := by decide +kernel
theorem dX6_seen_42 : decode (am_b mX6_seen) 42 = .ok (.ifCond .ne 5, 3) := by decide +kernel
theorem dX6_seen_45 : decode (am_b mX6_seen) 45 = .ok (.iconst 0, 1) := by decide +kernel
theorem dX6_seen_46 : decode (am_b mX6_seen) 46 = .ok (.ireturn, 1) := by decide +kernel
theorem dX6_seen_47 : decode (am_b mX6_seen) 47 = .ok (.iload_n 2, 1) := by decide +kernel
theorem dX6_seen_48 : decode (am_b mX6_seen) 48 = .ok (.ifCond .ne 7, 3) := by decide +kernel
theorem dX6_seen_51 : decode (am_b mX6_seen) 51 = .ok (.iconst 1, 1) := by decide +kernel
theorem dX6_seen_52 : decode (am_b mX6_seen) 52 = .ok (.goto 4, 3) := by decide +kernel
theorem dX6_seen_55 : decode (am_b mX6_seen) 55 = .ok (.iconst 0, 1) := by decide +kernel
theorem dX6_seen_56 : decode (am_b mX6_seen) 56 = .ok (.istore 4, 2) := by decide +kernel
theorem dX6_seen_58 : decode (am_b mX6_seen) 58 = .ok (.iload_n 3, 1) := by decide +kernel
theorem dX6_seen_59 : decode (am_b mX6_seen) 59 = .ok (.iconst 1, 1) := by decide +kernel
theorem dX6_seen_60 : decode (am_b mX6_seen) 60 = .ok (.if_icmp .ne 22, 3) := by decide +kernel
theorem dX6_seen_63 : decode (am_b mX6_seen) 63 = .ok (.aload_n 0, 1) := by decide +kernel
theorem dX6_seen_64 : decode (am_b mX6_seen) 64 = .ok (.getfield 10, 3) := by decide +kernel
theorem dX6_seen_67 : decode (am_b mX6_seen) 67 = .ok (.iload_n 1, 1) := by decide +kernel
theorem dX6_seen_68 : decode (am_b mX6_seen) 68 = .ok (.iload 4, 2) := by decide +kernel
theorem dX6_seen_70 : decode (am_b mX6_seen) 70 = .ok (.invokevirtual 164, 3) := by decide +kernel
theorem dX6_seen_73 : decode (am_b mX6_seen) 73 = .ok (.ifCond .eq 7, 3) := by decide +kernel
theorem dX6_seen_76 : decode (am_b mX6_seen) 76 = .ok (.iconst 0, 1) := by decide +kernel
theorem dX6_seen_77 : decode (am_b mX6_seen) 77 = .ok (.goto 4, 3) := by decide +kernel
theorem dX6_seen_80 : decode (am_b mX6_seen) 80 = .ok (.iconst 1, 1) := by decide +kernel
theorem dX6_seen_81 : decode (am_b mX6_seen) 81 = .ok (.ireturn, 1) := by decide +kernel
theorem dX6_seen_82 : decode (am_b mX6_seen) 82 = .ok (.aload_n 0, 1) := by decide +kernel
theorem dX6_seen_83 : decode (am_b mX6_seen) 83 = .ok (.getfield 22, 3) := by decide +kernel
theorem dX6_seen_86 : decode (am_b mX6_seen) 86 = .ok (.aload_n 0, 1) := by decide +kernel
theorem dX6_seen_87 : decode (am_b mX6_seen) 87 = .ok (.getfield 10, 3) := by decide +kernel
theorem dX6_seen_90 : decode (am_b mX6_seen) 90 = .ok (.bipush (-6), 2) := by decide +kernel
theorem dX6_seen_92 : decode (am_b mX6_seen) 92 = .ok (.invokevirtual 137, 3) := by decide +kernel
theorem dX6_seen_95 : decode (am_b mX6_seen) 95 = .ok (.aload_n 0, 1) := by decide +kernel
theorem dX6_seen_96 : decode (am_b mX6_seen) 96 = .ok (.getfield 22, 3) := by decide +kernel
theorem dX6_seen_99 : decode (am_b mX6_seen) 99 = .ok (.iload 4, 2) := by decide +kernel
theorem dX6_seen_101 : decode (am_b mX6_seen) 101 = .ok (.invokevirtual 168, 3) := by decide +kernel
theorem dX6_seen_104 : decode (am_b mX6_seen) 104 = .ok (.astore 5, 2) := by decide +kernel
theorem dX6_seen_106 : decode (am_b mX6_seen) 106 = .ok (.aload 5, 2) := by decide +kernel
theorem dX6_seen_108 : decode (am_b mX6_seen) 108 = .ok (.aload_n 0, 1) := by decide +kernel
theorem dX6_seen_109 : decode (am_b mX6_seen) 109 = .ok (.getfield 10, 3) := by decide +kernel
theorem dX6_seen_112 : decode (am_b mX6_seen) 112 = .ok (.getfield 102, 3) := by decide +kernel
theorem dX6_seen_115 : decode (am_b mX6_seen) 115 = .ok (.iload_n 1, 1) := by decide +kernel
theorem dX6_seen_116 : decode (am_b mX6_seen) 116 = .ok (.iaload, 1) := by decide +kernel
theorem dX6_seen_117 : decode (am_b mX6_seen) 117 = .ok (.aload_n 0, 1) := by decide +kernel
theorem dX6_seen_118 : decode (am_b mX6_seen) 118 = .ok (.getfield 10, 3) := by decide +kernel
theorem dX6_seen_121 : decode (am_b mX6_seen) 121 = .ok (.getfield 95, 3) := by decide +kernel
theorem dX6_seen_124 : decode (am_b mX6_seen) 124 = .ok (.iload_n 1, 1) := by decide +kernel
theorem dX6_seen_125 : decode (am_b mX6_seen) 125 = .ok (.iaload, 1) := by decide +kernel
theorem dX6_seen_126 : decode (am_b mX6_seen) 126 = .ok (.invokevirtual 172, 3) := by decide +kernel
theorem dX6_seen_129 : decode (am_b mX6_seen) 129 = .ok (.ifCond .eq 7, 3) := by decide +kernel
theorem dX6_seen_132 : decode (am_b mX6_seen) 132 = .ok (.iconst 1, 1) := by decide +kernel
theorem dX6_seen_133 : decode (am_b mX6_seen) 133 = .ok (.goto 4, 3) := by decide +kernel
theorem dX6_seen_136 : decode (am_b mX6_seen) 136 = .ok (.iconst 0, 1) := by decide +kernel
theorem dX6_seen_137 : decode (am_b mX6_seen) 137 = .ok (.ireturn, 1) := by decide +kernel
theorem dX6_stand_0 : decode (am_b mX6_stand) 0 = .ok (.aload_n 0, 1) := by decide +kernel
theorem dX6_stand_1 : decode (am_b mX6_stand) 1 = .ok (.getfield 10, 3) := by decide +kernel
theorem dX6_stand_4 : decode (am_b mX6_stand) 4 = .ok (.iload_n 1, 1) := by decide +kernel
theorem dX6_stand_5 : decode (am_b mX6_stand) 5 = .ok (.invokevirtual 85, 3) := by decide +kernel
theorem dX6_stand_8 : decode (am_b mX6_stand) 8 = .ok (.ifCond .eq 16, 3) := by decide +kernel
theorem dX6_stand_11 : decode (am_b mX6_stand) 11 = .ok (.iload_n 2, 1) := by decide +kernel
theorem dX6_stand_12 : decode (am_b mX6_stand) 12 = .ok (.bipush (-6), 2) := by decide +kernel
theorem dX6_stand_14 : decode (am_b mX6_stand) 14 = .ok (.if_icmp .eq 12, 3) := by decide +kernel
theorem dX6_stand_17 : decode (am_b mX6_stand) 17 = .ok (.iload_n 2, 1) := by decide +kernel
theorem dX6_stand_18 : decode (am_b mX6_stand) 18 = .ok (.invokestatic 60, 3) := by decide +kernel
theorem dX6_stand_21 : decode (am_b mX6_stand) 21 = .ok (.ifCond .ne 5, 3) := by decide +kernel
theorem dX6_stand_24 : decode (am_b mX6_stand) 24 = .ok (.iconst (-1), 1) := by decide +kernel
theorem dX6_stand_25 : decode (am_b mX6_stand) 25 = .ok (.ireturn, 1) := by decide +kernel
theorem dX6_stand_26 : decode (am_b mX6_stand) 26 = .ok (.aload_n 0, 1) := by decide +kernel
theorem dX6_stand_27 : decode (am_b mX6_stand) 27 = .ok (.getfield 10, 3) := by decide +kernel
theorem dX6_stand_30 : decode (am_b mX6_stand) 30 = .ok (.iload_n 2, 1) := by decide +kernel
theorem dX6_stand_31 : decode (am_b mX6_stand) 31 = .ok (.iload_n 1, 1) := by decide +kernel
theorem dX6_stand_32 : decode (am_b mX6_stand) 32 = .ok (.invokevirtual 98, 3) := by decide +kernel
theorem dX6_stand_35 : decode (am_b mX6_stand) 35 = .ok (.ifCond .eq 6, 3) := by decide +kernel
theorem dX6_stand_38 : decode (am_b mX6_stand) 38 = .ok (.bipush (-5), 2) := by decide +kernel
theorem dX6_stand_40 : decode (am_b mX6_stand) 40 = .ok (.ireturn, 1) := by decide +kernel
theorem dX6_stand_41 : decode (am_b mX6_stand) 41 = .ok (.aload_n 0, 1) := by decide +kernel
theorem dX6_stand_42 : decode (am_b mX6_stand) 42 = .ok (.getfield 36, 3) := by decide +kernel
theorem dX6_stand_45 : decode (am_b mX6_stand) 45 = .ok (.aload_n 0, 1) := by decide +kernel
theorem dX6_stand_46 : decode (am_b mX6_stand) 46 = .ok (.getfield 10, 3) := by decide +kernel
theorem dX6_stand_49 : decode (am_b mX6_stand) 49 = .ok (.invokevirtual 48, 3) := by decide +kernel
theorem dX6_stand_52 : decode (am_b mX6_stand) 52 = .ok (.aload_n 0, 1) := by decide +kernel
theorem dX6_stand_53 : decode (am_b mX6_stand) 53 = .ok (.getfield 10, 3) := by decide +kernel
theorem dX6_stand_56 : decode (am_b mX6_stand) 56 = .ok (.getfield 102, 3) := by decide +kernel
theorem dX6_stand_59 : decode (am_b mX6_stand) 59 = .ok (.iload_n 1, 1) := by decide +kernel
theorem dX6_stand_60 : decode (am_b mX6_stand) 60 = .ok (.iaload, 1) := by decide +kernel
theorem dX6_stand_61 : decode (am_b mX6_stand) 61 = .ok (.istore_n 3, 1) := by decide +kernel
theorem dX6_stand_62 : decode (am_b mX6_stand) 62 = .ok (.aload_n 0, 1) := by decide +kernel
theorem dX6_stand_63 : decode (am_b mX6_stand) 63 = .ok (.getfield 10, 3) := by decide +kernel
theorem dX6_stand_66 : decode (am_b mX6_stand) 66 = .ok (.getfield 102, 3) := by decide +kernel
theorem dX6_stand_69 : decode (am_b mX6_stand) 69 = .ok (.iload_n 1, 1) := by decide +kernel
theorem dX6_stand_70 : decode (am_b mX6_stand) 70 = .ok (.iload_n 2, 1) := by decide +kernel
theorem dX6_stand_71 : decode (am_b mX6_stand) 71 = .ok (.iastore, 1) := by decide +kernel
theorem dX6_stand_72 : decode (am_b mX6_stand) 72 = .ok (.iload_n 3, 1) := by decide +kernel
theorem dX6_stand_73 : decode (am_b mX6_stand) 73 = .ok (.ireturn, 1) := by decide +kernel
theorem dX6_bestPitch_0 : decode (am_b mX6_bestPitch) 0 = .ok (.aload_n 0, 1) := by decide +kernel
theorem dX6_bestPitch_1 : decode (am_b mX6_bestPitch) 1 = .ok (.getfield 10, 3) := by decide +kernel
theorem dX6_bestPitch_4 : decode (am_b mX6_bestPitch) 4 = .ok (.iload_n 1, 1) := by decide +kernel
theorem dX6_bestPitch_5 : decode (am_b mX6_bestPitch) 5 = .ok (.invokevirtual 85, 3) := by decide +kernel
theorem dX6_bestPitch_8 : decode (am_b mX6_bestPitch) 8 = .ok (.ifCond .ne 5, 3) := by decide +kernel
theorem dX6_bestPitch_11 : decode (am_b mX6_bestPitch) 11 = .ok (.iconst (-1), 1) := by decide +kernel
theorem dX6_bestPitch_12 : decode (am_b mX6_bestPitch) 12 = .ok (.ireturn, 1) := by decide +kernel
theorem dX6_bestPitch_13 : decode (am_b mX6_bestPitch) 13 = .ok (.aload_n 0, 1) := by decide +kernel
theorem dX6_bestPitch_14 : decode (am_b mX6_bestPitch) 14 = .ok (.getfield 22, 3) := by decide +kernel
theorem dX6_bestPitch_17 : decode (am_b mX6_bestPitch) 17 = .ok (.aload_n 0, 1) := by decide +kernel
theorem dX6_bestPitch_18 : decode (am_b mX6_bestPitch) 18 = .ok (.getfield 10, 3) := by decide +kernel
theorem dX6_bestPitch_21 : decode (am_b mX6_bestPitch) 21 = .ok (.iload_n 1, 1) := by decide +kernel
theorem dX6_bestPitch_22 : decode (am_b mX6_bestPitch) 22 = .ok (.invokevirtual 137, 3) := by decide +kernel
theorem dX6_bestPitch_25 : decode (am_b mX6_bestPitch) 25 = .ok (.aload_n 0, 1) := by decide +kernel
theorem dX6_bestPitch_26 : decode (am_b mX6_bestPitch) 26 = .ok (.getfield 22, 3) := by decide +kernel
theorem dX6_bestPitch_29 : decode (am_b mX6_bestPitch) 29 = .ok (.aload_n 0, 1) := by decide +kernel
theorem dX6_bestPitch_30 : decode (am_b mX6_bestPitch) 30 = .ok (.getfield 10, 3) := by decide +kernel
theorem dX6_bestPitch_33 : decode (am_b mX6_bestPitch) 33 = .ok (.getfield 95, 3) := by decide +kernel
theorem dX6_bestPitch_36 : decode (am_b mX6_bestPitch) 36 = .ok (.iload_n 1, 1) := by decide +kernel
theorem dX6_bestPitch_37 : decode (am_b mX6_bestPitch) 37 = .ok (.iaload, 1) := by decide +kernel
theorem dX6_bestPitch_38 : decode (am_b mX6_bestPitch) 38 = .ok (.iconst 0, 1) := by decide +kernel
theorem dX6_bestPitch_39 : decode (am_b mX6_bestPitch) 39 = .ok (.invokevirtual 198, 3) := by decide +kernel
theorem dX6_bestPitch_42 : decode (am_b mX6_bestPitch) 42 = .ok (.ireturn, 1) := by decide +kernel
theorem dX6_ifPlayed_0 : decode (am_b mX6_ifPlayed) 0 = .ok (.iload_n 1, 1) := by decide +kernel
theorem dX6_ifPlayed_1 : decode (am_b mX6_ifPlayed) 1 = .ok (.iconst 1, 1) := by decide +kernel
theorem dX6_ifPlayed_2 : decode (am_b mX6_ifPlayed) 2 = .ok (.if_icmp .lt 18, 3) := by decide +kernel
theorem dX6_ifPlayed_5 : decode (am_b mX6_ifPlayed) 5 = .ok (.iload_n 1, 1) := by decide +kernel
theorem dX6_ifPlayed_6 : decode (am_b mX6_ifPlayed) 6 = .ok (.bipush 100, 2) := by decide +kernel
theorem dX6_ifPlayed_8 : decode (am_b mX6_ifPlayed) 8 = .ok (.if_icmp .gt 12, 3) := by decide +kernel
theorem dX6_ifPlayed_11 : decode (am_b mX6_ifPlayed) 11 = .ok (.iload_n 2, 1) := by decide +kernel
theorem dX6_ifPlayed_12 : decode (am_b mX6_ifPlayed) 12 = .ok (.ifCond .eq 11, 3) := by decide +kernel
theorem dX6_ifPlayed_15 : decode (am_b mX6_ifPlayed) 15 = .ok (.iload_n 2, 1) := by decide +kernel
theorem dX6_ifPlayed_16 : decode (am_b mX6_ifPlayed) 16 = .ok (.iconst 1, 1) := by decide +kernel
theorem dX6_ifPlayed_17 : decode (am_b mX6_ifPlayed) 17 = .ok (.if_icmp .eq 6, 3) := by decide +kernel
theorem dX6_ifPlayed_20 : decode (am_b mX6_ifPlayed) 20 = .ok (.bipush (-2), 2) := by decide +kernel
theorem dX6_ifPlayed_22 : decode (am_b mX6_ifPlayed) 22 = .ok (.ireturn, 1) := by decide +kernel
theorem dX6_ifPlayed_23 : decode (am_b mX6_ifPlayed) 23 = .ok (.aload_n 0, 1) := by decide +kernel
theorem dX6_ifPlayed_24 : decode (am_b mX6_ifPlayed) 24 = .ok (.getfield 16, 3) := by decide +kernel
theorem dX6_ifPlayed_27 : decode (am_b mX6_ifPlayed) 27 = .ok (.aload_n 0, 1) := by decide +kernel
theorem dX6_ifPlayed_28 : decode (am_b mX6_ifPlayed) 28 = .ok (.getfield 10, 3) := by decide +kernel
theorem dX6_ifPlayed_31 : decode (am_b mX6_ifPlayed) 31 = .ok (.invokevirtual 201, 3) := by decide +kernel
theorem dX6_ifPlayed_34 : decode (am_b mX6_ifPlayed) 34 = .ok (.iconst 0, 1) := by decide +kernel
theorem dX6_ifPlayed_35 : decode (am_b mX6_ifPlayed) 35 = .ok (.istore_n 3, 1) := by decide +kernel
theorem dX6_ifPlayed_36 : decode (am_b mX6_ifPlayed) 36 = .ok (.iconst 0, 1) := by decide +kernel
theorem dX6_ifPlayed_37 : decode (am_b mX6_ifPlayed) 37 = .ok (.istore 4, 2) := by decide +kernel
theorem dX6_ifPlayed_39 : decode (am_b mX6_ifPlayed) 39 = .ok (.iload 4, 2) := by decide +kernel
theorem dX6_ifPlayed_41 : decode (am_b mX6_ifPlayed) 41 = .ok (.iload_n 1, 1) := by decide +kernel
theorem dX6_ifPlayed_42 : decode (am_b mX6_ifPlayed) 42 = .ok (.if_icmp .ge 23, 3) := by decide +kernel
theorem dX6_ifPlayed_45 : decode (am_b mX6_ifPlayed) 45 = .ok (.iload_n 3, 1) := by decide +kernel
theorem dX6_ifPlayed_46 : decode (am_b mX6_ifPlayed) 46 = .ok (.aload_n 0, 1) := by decide +kernel
theorem dX6_ifPlayed_47 : decode (am_b mX6_ifPlayed) 47 = .ok (.getfield 16, 3) := by decide +kernel
theorem dX6_ifPlayed_50 : decode (am_b mX6_ifPlayed) 50 = .ok (.aload_n 0, 1) := by decide +kernel
theorem dX6_ifPlayed_51 : decode (am_b mX6_ifPlayed) 51 = .ok (.getfield 22, 3) := by decide +kernel
theorem dX6_ifPlayed_54 : decode (am_b mX6_ifPlayed) 54 = .ok (.invokestatic 112, 3) := by decide +kernel
theorem dX6_ifPlayed_57 : decode (am_b mX6_ifPlayed) 57 = .ok (.iadd, 1) := by decide +kernel
theorem dX6_ifPlayed_58 : decode (am_b mX6_ifPlayed) 58 = .ok (.istore_n 3, 1) := by decide +kernel
theorem dX6_ifPlayed_59 : decode (am_b mX6_ifPlayed) 59 = .ok (.iinc 4 1, 3) := by decide +kernel
theorem dX6_ifPlayed_62 : decode (am_b mX6_ifPlayed) 62 = .ok (.goto (-23), 3) := by decide +kernel
theorem dX6_ifPlayed_65 : decode (am_b mX6_ifPlayed) 65 = .ok (.iload_n 2, 1) := by decide +kernel
theorem dX6_ifPlayed_66 : decode (am_b mX6_ifPlayed) 66 = .ok (.ifCond .ne 7, 3) := by decide +kernel
theorem dX6_ifPlayed_69 : decode (am_b mX6_ifPlayed) 69 = .ok (.iload_n 3, 1) := by decide +kernel
theorem dX6_ifPlayed_70 : decode (am_b mX6_ifPlayed) 70 = .ok (.goto 18, 3) := by decide +kernel
theorem dX6_ifPlayed_73 : decode (am_b mX6_ifPlayed) 73 = .ok (.aload_n 0, 1) := by decide +kernel
theorem dX6_ifPlayed_74 : decode (am_b mX6_ifPlayed) 74 = .ok (.getfield 16, 3) := by decide +kernel
theorem dX6_ifPlayed_77 : decode (am_b mX6_ifPlayed) 77 = .ok (.getfield 186, 3) := by decide +kernel
theorem dX6_ifPlayed_80 : decode (am_b mX6_ifPlayed) 80 = .ok (.aload_n 0, 1) := by decide +kernel
theorem dX6_ifPlayed_81 : decode (am_b mX6_ifPlayed) 81 = .ok (.getfield 10, 3) := by decide +kernel
theorem dX6_ifPlayed_84 : decode (am_b mX6_ifPlayed) 84 = .ok (.getfield 186, 3) := by decide +kernel
theorem dX6_ifPlayed_87 : decode (am_b mX6_ifPlayed) 87 = .ok (.isub, 1) := by decide +kernel
theorem dX6_ifPlayed_88 : decode (am_b mX6_ifPlayed) 88 = .ok (.ireturn, 1) := by decide +kernel
theorem dX6_play_0 : decode (am_b mX6_play) 0 = .ok (.aload_n 0, 1) := by decide +kernel
theorem dX6_play_1 : decode (am_b mX6_play) 1 = .ok (.getfield 10, 3) := by decide +kernel
theorem dX6_play_4 : decode (am_b mX6_play) 4 = .ok (.getfield 109, 3) := by decide +kernel
theorem dX6_play_7 : decode (am_b mX6_play) 7 = .ok (.sipush 9999, 3) := by decide +kernel
theorem dX6_play_10 : decode (am_b mX6_play) 10 = .ok (.if_icmp .lt 6, 3) := by decide +kernel
theorem dX6_play_13 : decode (am_b mX6_play) 13 = .ok (.bipush (-4), 2) := by decide +kernel
theorem dX6_play_15 : decode (am_b mX6_play) 15 = .ok (.ireturn, 1) := by decide +kernel
theorem dX6_play_16 : decode (am_b mX6_play) 16 = .ok (.aload_n 0, 1) := by decide +kernel
theorem dX6_play_17 : decode (am_b mX6_play) 17 = .ok (.getfield 36, 3) := by decide +kernel
theorem dX6_play_20 : decode (am_b mX6_play) 20 = .ok (.aload_n 0, 1) := by decide +kernel
theorem dX6_play_21 : decode (am_b mX6_play) 21 = .ok (.getfield 10, 3) := by decide +kernel
theorem dX6_play_24 : decode (am_b mX6_play) 24 = .ok (.invokevirtual 48, 3) := by decide +kernel
theorem dX6_play_27 : decode (am_b mX6_play) 27 = .ok (.aload_n 0, 1) := by decide +kernel
theorem dX6_play_28 : decode (am_b mX6_play) 28 = .ok (.getfield 10, 3) := by decide +kernel
theorem dX6_play_31 : decode (am_b mX6_play) 31 = .ok (.aload_n 0, 1) := by decide +kernel
theorem dX6_play_32 : decode (am_b mX6_play) 32 = .ok (.getfield 22, 3) := by decide +kernel
theorem dX6_play_35 : decode (am_b mX6_play) 35 = .ok (.invokestatic 112, 3) := by decide +kernel
theorem dX6_play_38 : decode (am_b mX6_play) 38 = .ok (.ireturn, 1) := by decide +kernel
theorem dL_law_0 : decode (am_b mL_law) 0 = .ok (.new 7, 3) := by decide +kernel
theorem dL_law_3 : decode (am_b mL_law) 3 = .ok (.dup, 1) := by decide +kernel
theorem dL_law_4 : decode (am_b mL_law) 4 = .ok (.invokespecial 9, 3) := by decide +kernel
theorem dL_law_7 : decode (am_b mL_law) 7 = .ok (.astore_n 1, 1) := by decide +kernel
theorem dL_law_8 : decode (am_b mL_law) 8 = .ok (.new 10, 3) := by decide +kernel
theorem dL_law_11 : decode (am_b mL_law) 11 = .ok (.dup, 1) := by decide +kernel
theorem dL_law_12 : decode (am_b mL_law) 12 = .ok (.invokespecial 12, 3) := by decide +kernel
theorem dL_law_15 : decode (am_b mL_law) 15 = .ok (.astore_n 2, 1) := by decide +kernel
theorem dL_law_16 : decode (am_b mL_law) 16 = .ok (.iconst 0, 1) := by decide +kernel
theorem dL_law_17 : decode (am_b mL_law) 17 = .ok (.istore_n 3, 1) := by decide +kernel
theorem dL_law_18 : decode (am_b mL_law) 18 = .ok (.iload_n 3, 1) := by decide +kernel
theorem dL_law_19 : decode (am_b mL_law) 19 = .ok (.aload_n 0, 1) := by decide +kernel
theorem dL_law_20 : decode (am_b mL_law) 20 = .ok (.arraylength, 1) := by decide +kernel
theorem dL_law_21 : decode (am_b mL_law) 21 = .ok (.iconst 4, 1) := by decide +kernel
theorem dL_law_22 : decode (am_b mL_law) 22 = .ok (.isub, 1) := by decide +kernel
theorem dL_law_23 : decode (am_b mL_law) 23 = .ok (.if_icmp .gt 775, 3) := by decide +kernel
theorem dL_law_26 : decode (am_b mL_law) 26 = .ok (.aload_n 0, 1) := by decide +kernel
theorem dL_law_27 : decode (am_b mL_law) 27 = .ok (.iload_n 3, 1) := by decide +kernel
theorem dL_law_28 : decode (am_b mL_law) 28 = .ok (.iaload, 1) := by decide +kernel
theorem dL_law_29 : decode (am_b mL_law) 29 = .ok (.bipush 31, 2) := by decide +kernel
theorem dL_law_31 : decode (am_b mL_law) 31 = .ok (.iand, 1) := by decide +kernel
theorem dL_law_32 : decode (am_b mL_law) 32 = .ok (.tableswitch 760 0 23 #[112, 145, 194, 217, 240, 273, 306, 329, 342, 355, 388, 421, 464, 487, 510, 543, 566, 599, 622, 675, 688, 701, 714, 737], 112) := by decide +kernel
theorem dL_law_144 : decode (am_b mL_law) 144 = .ok (.aload_n 1, 1) := by decide +kernel
theorem dL_law_145 : decode (am_b mL_law) 145 = .ok (.aload_n 0, 1) := by decide +kernel
theorem dL_law_146 : decode (am_b mL_law) 146 = .ok (.iload_n 3, 1) := by decide +kernel
theorem dL_law_147 : decode (am_b mL_law) 147 = .ok (.iconst 1, 1) := by decide +kernel
theorem dL_law_148 : decode (am_b mL_law) 148 = .ok (.iadd, 1) := by decide +kernel
theorem dL_law_149 : decode (am_b mL_law) 149 = .ok (.iaload, 1) := by decide +kernel
theorem dL_law_150 : decode (am_b mL_law) 150 = .ok (.aload_n 0, 1) := by decide +kernel
theorem dL_law_151 : decode (am_b mL_law) 151 = .ok (.iload_n 3, 1) := by decide +kernel
theorem dL_law_152 : decode (am_b mL_law) 152 = .ok (.iconst 2, 1) := by decide +kernel
theorem dL_law_153 : decode (am_b mL_law) 153 = .ok (.iadd, 1) := by decide +kernel
theorem dL_law_154 : decode (am_b mL_law) 154 = .ok (.iaload, 1) := by decide +kernel
theorem dL_law_155 : decode (am_b mL_law) 155 = .ok (.invokevirtual 13, 3) := by decide +kernel
theorem dL_law_158 : decode (am_b mL_law) 158 = .ok (.aload_n 2, 1) := by decide +kernel
theorem dL_law_159 : decode (am_b mL_law) 159 = .ok (.aload_n 0, 1) := by decide +kernel
theorem dL_law_160 : decode (am_b mL_law) 160 = .ok (.iload_n 3, 1) := by decide +kernel
theorem dL_law_161 : decode (am_b mL_law) 161 = .ok (.iconst 1, 1) := by decide +kernel
theorem dL_law_162 : decode (am_b mL_law) 162 = .ok (.iadd, 1) := by decide +kernel
theorem dL_law_163 : decode (am_b mL_law) 163 = .ok (.iaload, 1) := by decide +kernel
theorem dL_law_164 : decode (am_b mL_law) 164 = .ok (.aload_n 0, 1) := by decide +kernel
theorem dL_law_165 : decode (am_b mL_law) 165 = .ok (.iload_n 3, 1) := by decide +kernel
theorem dL_law_166 : decode (am_b mL_law) 166 = .ok (.iconst 2, 1) := by decide +kernel
theorem dL_law_167 : decode (am_b mL_law) 167 = .ok (.iadd, 1) := by decide +kernel
theorem dL_law_168 : decode (am_b mL_law) 168 = .ok (.iaload, 1) := by decide +kernel
theorem dL_law_169 : decode (am_b mL_law) 169 = .ok (.invokevirtual 17, 3) := by decide +kernel
theorem dL_law_172 : decode (am_b mL_law) 172 = .ok (.if_icmp .eq 620, 3) := by decide +kernel
theorem dL_law_175 : decode (am_b mL_law) 175 = .ok (.iconst 0, 1) := by decide +kernel
theorem dL_law_176 : decode (am_b mL_law) 176 = .ok (.ireturn, 1) := by decide +kernel
theorem dL_law_177 : decode (am_b mL_law) 177 = .ok (.aload_n 1, 1) := by decide +kernel
theorem dL_law_178 : decode (am_b mL_law) 178 = .ok (.aload_n 0, 1) := by decide +kernel
theorem dL_law_179 : decode (am_b mL_law) 179 = .ok (.iload_n 3, 1) := by decide +kernel
theorem dL_law_180 : decode (am_b mL_law) 180 = .ok (.iconst 1, 1) := by decide +kernel
theorem dL_law_181 : decode (am_b mL_law) 181 = .ok (.iadd, 1) := by decide +kernel
theorem dL_law_182 : decode (am_b mL_law) 182 = .ok (.iaload, 1) := by decide +kernel
theorem dL_law_183 : decode (am_b mL_law) 183 = .ok (.aload_n 0, 1) := by decide +kernel
theorem dL_law_184 : decode (am_b mL_law) 184 = .ok (.iload_n 3, 1) := by decide +kernel
theorem dL_law_185 : decode (am_b mL_law) 185 = .ok (.iconst 2, 1) := by decide +kernel
theorem dL_law_186 : decode (am_b mL_law) 186 = .ok (.iadd, 1) := by decide +kernel
theorem dL_law_187 : decode (am_b mL_law) 187 = .ok (.iaload, 1) := by decide +kernel
theorem dL_law_188 : decode (am_b mL_law) 188 = .ok (.ifCond .eq 7, 3) := by decide +kernel
theorem dL_law_191 : decode (am_b mL_law) 191 = .ok (.iconst 1, 1) := by decide +kernel
theorem dL_law_192 : decode (am_b mL_law) 192 = .ok (.goto 4, 3) := by decide +kernel
theorem dL_law_195 : decode (am_b mL_law) 195 = .ok (.iconst 0, 1) := by decide +kernel
theorem dL_law_196 : decode (am_b mL_law) 196 = .ok (.invokevirtual 18, 3) := by decide +kernel
theorem dL_law_199 : decode (am_b mL_law) 199 = .ok (.aload_n 2, 1) := by decide +kernel
theorem dL_law_200 : decode (am_b mL_law) 200 = .ok (.aload_n 0, 1) := by decide +kernel
theorem dL_law_201 : decode (am_b mL_law) 201 = .ok (.iload_n 3, 1) := by decide +kernel
theorem dL_law_202 : decode (am_b mL_law) 202 = .ok (.iconst 1, 1) := by decide +kernel
theorem dL_law_203 : decode (am_b mL_law) 203 = .ok (.iadd, 1) := by decide +kernel
theorem dL_law_204 : decode (am_b mL_law) 204 = .ok (.iaload, 1) := by decide +kernel
theorem dL_law_205 : decode (am_b mL_law) 205 = .ok (.aload_n 0, 1) := by decide +kernel
theorem dL_law_206 : decode (am_b mL_law) 206 = .ok (.iload_n 3, 1) := by decide +kernel
theorem dL_law_207 : decode (am_b mL_law) 207 = .ok (.iconst 2, 1) := by decide +kernel
theorem dL_law_208 : decode (am_b mL_law) 208 = .ok (.iadd, 1) := by decide +kernel
theorem dL_law_209 : decode (am_b mL_law) 209 = .ok (.iaload, 1) := by decide +kernel
theorem dL_law_210 : decode (am_b mL_law) 210 = .ok (.ifCond .eq 7, 3) := by decide +kernel
theorem dL_law_213 : decode (am_b mL_law) 213 = .ok (.iconst 1, 1) := by decide +kernel
theorem dL_law_214 : decode (am_b mL_law) 214 = .ok (.goto 4, 3) := by decide +kernel
theorem dL_law_217 : decode (am_b mL_law) 217 = .ok (.iconst 0, 1) := by decide +kernel
theorem dL_law_218 : decode (am_b mL_law) 218 = .ok (.invokevirtual 22, 3) := by decide +kernel
theorem dL_law_221 : decode (am_b mL_law) 221 = .ok (.if_icmp .eq 571, 3) := by decide +kernel
theorem dL_law_224 : decode (am_b mL_law) 224 = .ok (.iconst 0, 1) := by decide +kernel
theorem dL_law_225 : decode (am_b mL_law) 225 = .ok (.ireturn, 1) := by decide +kernel
theorem dL_law_226 : decode (am_b mL_law) 226 = .ok (.aload_n 1, 1) := by decide +kernel
theorem dL_law_227 : decode (am_b mL_law) 227 = .ok (.aload_n 0, 1) := by decide +kernel
theorem dL_law_228 : decode (am_b mL_law) 228 = .ok (.iload_n 3, 1) := by decide +kernel
theorem dL_law_229 : decode (am_b mL_law) 229 = .ok (.iconst 1, 1) := by decide +kernel
theorem dL_law_230 : decode (am_b mL_law) 230 = .ok (.iadd, 1) := by decide +kernel
theorem dL_law_231 : decode (am_b mL_law) 231 = .ok (.iaload, 1) := by decide +kernel
theorem dL_law_232 : decode (am_b mL_law) 232 = .ok (.invokevirtual 23, 3) := by decide +kernel
theorem dL_law_235 : decode (am_b mL_law) 235 = .ok (.aload_n 2, 1) := by decide +kernel
theorem dL_law_236 : decode (am_b mL_law) 236 = .ok (.aload_n 0, 1) := by decide +kernel
theorem dL_law_237 : decode (am_b mL_law) 237 = .ok (.iload_n 3, 1) := by decide +kernel
theorem dL_law_238 : decode (am_b mL_law) 238 = .ok (.iconst 1, 1) := by decide +kernel
theorem dL_law_239 : decode (am_b mL_law) 239 = .ok (.iadd, 1) := by decide +kernel
theorem dL_law_240 : decode (am_b mL_law) 240 = .ok (.iaload, 1) := by decide +kernel
theorem dL_law_241 : decode (am_b mL_law) 241 = .ok (.invokevirtual 27, 3) := by decide +kernel
theorem dL_law_244 : decode (am_b mL_law) 244 = .ok (.if_icmp .eq 548, 3) := by decide +kernel
theorem dL_law_247 : decode (am_b mL_law) 247 = .ok (.iconst 0, 1) := by decide +kernel
theorem dL_law_248 : decode (am_b mL_law) 248 = .ok (.ireturn, 1) := by decide +kernel
theorem dL_law_249 : decode (am_b mL_law) 249 = .ok (.aload_n 1, 1) := by decide +kernel
theorem dL_law_250 : decode (am_b mL_law) 250 = .ok (.aload_n 0, 1) := by decide +kernel
theorem dL_law_251 : decode (am_b mL_law) 251 = .ok (.iload_n 3, 1) := by decide +kernel
theorem dL_law_252 : decode (am_b mL_law) 252 = .ok (.iconst 1, 1) := by decide +kernel
theorem dL_law_253 : decode (am_b mL_law) 253 = .ok (.iadd, 1) := by decide +kernel
theorem dL_law_254 : decode (am_b mL_law) 254 = .ok (.iaload, 1) := by decide +kernel
theorem dL_law_255 : decode (am_b mL_law) 255 = .ok (.invokevirtual 28, 3) := by decide +kernel
theorem dL_law_258 : decode (am_b mL_law) 258 = .ok (.aload_n 2, 1) := by decide +kernel
theorem dL_law_259 : decode (am_b mL_law) 259 = .ok (.aload_n 0, 1) := by decide +kernel
theorem dL_law_260 : decode (am_b mL_law) 260 = .ok (.iload_n 3, 1) := by decide +kernel
theorem dL_law_261 : decode (am_b mL_law) 261 = .ok (.iconst 1, 1) := by decide +kernel
theorem dL_law_262 : decode (am_b mL_law) 262 = .ok (.iadd, 1) := by decide +kernel
theorem dL_law_263 : decode (am_b mL_law) 263 = .ok (.iaload, 1) := by decide +kernel
theorem dL_law_264 : decode (am_b mL_law) 264 = .ok (.invokevirtual 31, 3) := by decide +kernel
theorem dL_law_267 : decode (am_b mL_law) 267 = .ok (.if_icmp .eq 525, 3) := by decide +kernel
theorem dL_law_270 : decode (am_b mL_law) 270 = .ok (.iconst 0, 1) := by decide +kernel
theorem dL_law_271 : decode (am_b mL_law) 271 = .ok (.ireturn, 1) := by decide +kernel
theorem dL_law_272 : decode (am_b mL_law) 272 = .ok (.aload_n 1, 1) := by decide +kernel
theorem dL_law_273 : decode (am_b mL_law) 273 = .ok (.aload_n 0, 1) := by decide +kernel
theorem dL_law_274 : decode (am_b mL_law) 274 = .ok (.iload_n 3, 1) := by decide +kernel
theorem dL_law_275 : decode (am_b mL_law) 275 = .ok (.iconst 1, 1) := by decide +kernel
theorem dL_law_276 : decode (am_b mL_law) 276 = .ok (.iadd, 1) := by decide +kernel
theorem dL_law_277 : decode (am_b mL_law) 277 = .ok (.iaload, 1) := by decide +kernel
theorem dL_law_278 : decode (am_b mL_law) 278 = .ok (.aload_n 0, 1) := by decide +kernel
theorem dL_law_279 : decode (am_b mL_law) 279 = .ok (.iload_n 3, 1) := by decide +kernel
theorem dL_law_280 : decode (am_b mL_law) 280 = .ok (.iconst 2, 1) := by decide +kernel
theorem dL_law_281 : decode (am_b mL_law) 281 = .ok (.iadd, 1) := by decide +kernel
theorem dL_law_282 : decode (am_b mL_law) 282 = .ok (.iaload, 1) := by decide +kernel
theorem dL_law_283 : decode (am_b mL_law) 283 = .ok (.invokevirtual 32, 3) := by decide +kernel
theorem dL_law_286 : decode (am_b mL_law) 286 = .ok (.aload_n 2, 1) := by decide +kernel
theorem dL_law_287 : decode (am_b mL_law) 287 = .ok (.aload_n 0, 1) := by decide +kernel
theorem dL_law_288 : decode (am_b mL_law) 288 = .ok (.iload_n 3, 1) := by decide +kernel
theorem dL_law_289 : decode (am_b mL_law) 289 = .ok (.iconst 1, 1) := by decide +kernel
theorem dL_law_290 : decode (am_b mL_law) 290 = .ok (.iadd, 1) := by decide +kernel
theorem dL_law_291 : decode (am_b mL_law) 291 = .ok (.iaload, 1) := by decide +kernel
theorem dL_law_292 : decode (am_b mL_law) 292 = .ok (.aload_n 0, 1) := by decide +kernel
theorem dL_law_293 : decode (am_b mL_law) 293 = .ok (.iload_n 3, 1) := by decide +kernel
theorem dL_law_294 : decode (am_b mL_law) 294 = .ok (.iconst 2, 1) := by decide +kernel
theorem dL_law_295 : decode (am_b mL_law) 295 = .ok (.iadd, 1) := by decide +kernel
theorem dL_law_296 : decode (am_b mL_law) 296 = .ok (.iaload, 1) := by decide +kernel
theorem dL_law_297 : decode (am_b mL_law) 297 = .ok (.invokevirtual 35, 3) := by decide +kernel
theorem dL_law_300 : decode (am_b mL_law) 300 = .ok (.if_icmp .eq 492, 3) := by decide +kernel
theorem dL_law_303 : decode (am_b mL_law) 303 = .ok (.iconst 0, 1) := by decide +kernel
theorem dL_law_304 : decode (am_b mL_law) 304 = .ok (.ireturn, 1) := by decide +kernel
theorem dL_law_305 : decode (am_b mL_law) 305 = .ok (.aload_n 1, 1) := by decide +kernel
theorem dL_law_306 : decode (am_b mL_law) 306 = .ok (.aload_n 0, 1) := by decide +kernel
theorem dL_law_307 : decode (am_b mL_law) 307 = .ok (.iload_n 3, 1) := by decide +kernel
theorem dL_law_308 : decode (am_b mL_law) 308 = .ok (.iconst 1, 1) := by decide +kernel
theorem dL_law_309 : decode (am_b mL_law) 309 = .ok (.iadd, 1) := by decide +kernel
theorem dL_law_310 : decode (am_b mL_law) 310 = .ok (.iaload, 1) := by decide +kernel
theorem dL_law_311 : decode (am_b mL_law) 311 = .ok (.aload_n 0, 1) := by decide +kernel
theorem dL_law_312 : decode (am_b mL_law) 312 = .ok (.iload_n 3, 1) := by decide +kernel
theorem dL_law_313 : decode (am_b mL_law) 313 = .ok (.iconst 2, 1) := by decide +kernel
theorem dL_law_314 : decode (am_b mL_law) 314 = .ok (.iadd, 1) := by decide +kernel
theorem dL_law_315 : decode (am_b mL_law) 315 = .ok (.iaload, 1) := by decide +kernel
theorem dL_law_316 : decode (am_b mL_law) 316 = .ok (.invokevirtual 36, 3) := by decide +kernel
theorem dL_law_319 : decode (am_b mL_law) 319 = .ok (.aload_n 2, 1) := by decide +kernel
theorem dL_law_320 : decode (am_b mL_law) 320 = .ok (.aload_n 0, 1) := by decide +kernel
theorem dL_law_321 : decode (am_b mL_law) 321 = .ok (.iload_n 3, 1) := by decide +kernel
theorem dL_law_322 : decode (am_b mL_law) 322 = .ok (.iconst 1, 1) := by decide +kernel
theorem dL_law_323 : decode (am_b mL_law) 323 = .ok (.iadd, 1) := by decide +kernel
theorem dL_law_324 : decode (am_b mL_law) 324 = .ok (.iaload, 1) := by decide +kernel
theorem dL_law_325 : decode (am_b mL_law) 325 = .ok (.aload_n 0, 1) := by decide +kernel
theorem dL_law_326 : decode (am_b mL_law) 326 = .ok (.iload_n 3, 1) := by decide +kernel
theorem dL_law_327 : decode (am_b mL_law) 327 = .ok (.iconst 2, 1) := by decide +kernel
theorem dL_law_328 : decode (am_b mL_law) 328 = .ok (.iadd, 1) := by decide +kernel
theorem dL_law_329 : decode (am_b mL_law) 329 = .ok (.iaload, 1) := by decide +kernel
theorem dL_law_330 : decode (am_b mL_law) 330 = .ok (.invokevirtual 39, 3) := by decide +kernel
theorem dL_law_333 : decode (am_b mL_law) 333 = .ok (.if_icmp .eq 459, 3) := by decide +kernel
theorem dL_law_336 : decode (am_b mL_law) 336 = .ok (.iconst 0, 1) := by decide +kernel
theorem dL_law_337 : decode (am_b mL_law) 337 = .ok (.ireturn, 1) := by decide +kernel
theorem dL_law_338 : decode (am_b mL_law) 338 = .ok (.aload_n 1, 1) := by decide +kernel
theorem dL_law_339 : decode (am_b mL_law) 339 = .ok (.aload_n 0, 1) := by decide +kernel
theorem dL_law_340 : decode (am_b mL_law) 340 = .ok (.iload_n 3, 1) := by decide +kernel
theorem dL_law_341 : decode (am_b mL_law) 341 = .ok (.iconst 1, 1) := by decide +kernel
theorem dL_law_342 : decode (am_b mL_law) 342 = .ok (.iadd, 1) := by decide +kernel
theorem dL_law_343 : decode (am_b mL_law) 343 = .ok (.iaload, 1) := by decide +kernel
theorem dL_law_344 : decode (am_b mL_law) 344 = .ok (.invokevirtual 40, 3) := by decide +kernel
theorem dL_law_347 : decode (am_b mL_law) 347 = .ok (.aload_n 2, 1) := by decide +kernel
theorem dL_law_348 : decode (am_b mL_law) 348 = .ok (.aload_n 0, 1) := by decide +kernel
theorem dL_law_349 : decode (am_b mL_law) 349 = .ok (.iload_n 3, 1) := by decide +kernel
theorem dL_law_350 : decode (am_b mL_law) 350 = .ok (.iconst 1, 1) := by decide +kernel
theorem dL_law_351 : decode (am_b mL_law) 351 = .ok (.iadd, 1) := by decide +kernel
theorem dL_law_352 : decode (am_b mL_law) 352 = .ok (.iaload, 1) := by decide +kernel
theorem dL_law_353 : decode (am_b mL_law) 353 = .ok (.invokevirtual 43, 3) := by decide +kernel
theorem dL_law_356 : decode (am_b mL_law) 356 = .ok (.if_icmp .eq 436, 3) := by decide +kernel
theorem dL_law_359 : decode (am_b mL_law) 359 = .ok (.iconst 0, 1) := by decide +kernel
theorem dL_law_360 : decode (am_b mL_law) 360 = .ok (.ireturn, 1) := by decide +kernel
theorem dL_law_361 : decode (am_b mL_law) 361 = .ok (.aload_n 1, 1) := by decide +kernel
theorem dL_law_362 : decode (am_b mL_law) 362 = .ok (.invokevirtual 44, 3) := by decide +kernel
theorem dL_law_365 : decode (am_b mL_law) 365 = .ok (.aload_n 2, 1) := by decide +kernel
theorem dL_law_366 : decode (am_b mL_law) 366 = .ok (.invokevirtual 48, 3) := by decide +kernel
theorem dL_law_369 : decode (am_b mL_law) 369 = .ok (.if_icmp .eq 423, 3) := by decide +kernel
theorem dL_law_372 : decode (am_b mL_law) 372 = .ok (.iconst 0, 1) := by decide +kernel
theorem dL_law_373 : decode (am_b mL_law) 373 = .ok (.ireturn, 1) := by decide +kernel
theorem dL_law_374 : decode (am_b mL_law) 374 = .ok (.aload_n 1, 1) := by decide +kernel
theorem dL_law_375 : decode (am_b mL_law) 375 = .ok (.invokevirtual 49, 3) := by decide +kernel
theorem dL_law_378 : decode (am_b mL_law) 378 = .ok (.aload_n 2, 1) := by decide +kernel
theorem dL_law_379 : decode (am_b mL_law) 379 = .ok (.invokevirtual 52, 3) := by decide +kernel
theorem dL_law_382 : decode (am_b mL_law) 382 = .ok (.if_icmp .eq 410, 3) := by decide +kernel
theorem dL_law_385 : decode (am_b mL_law) 385 = .ok (.iconst 0, 1) := by decide +kernel
theorem dL_law_386 : decode (am_b mL_law) 386 = .ok (.ireturn, 1) := by decide +kernel
theorem dL_law_387 : decode (am_b mL_law) 387 = .ok (.aload_n 1, 1) := by decide +kernel
theorem dL_law_388 : decode (am_b mL_law) 388 = .ok (.aload_n 0, 1) := by decide +kernel
theorem dL_law_389 : decode (am_b mL_law) 389 = .ok (.iload_n 3, 1) := by decide +kernel
theorem dL_law_390 : decode (am_b mL_law) 390 = .ok (.iconst 1, 1) := by decide +kernel
theorem dL_law_391 : decode (am_b mL_law) 391 = .ok (.iadd, 1) := by decide +kernel
theorem dL_law_392 : decode (am_b mL_law) 392 = .ok (.iaload, 1) := by decide +kernel
theorem dL_law_393 : decode (am_b mL_law) 393 = .ok (.aload_n 0, 1) := by decide +kernel
theorem dL_law_394 : decode (am_b mL_law) 394 = .ok (.iload_n 3, 1) := by decide +kernel
theorem dL_law_395 : decode (am_b mL_law) 395 = .ok (.iconst 2, 1) := by decide +kernel
theorem dL_law_396 : decode (am_b mL_law) 396 = .ok (.iadd, 1) := by decide +kernel
theorem dL_law_397 : decode (am_b mL_law) 397 = .ok (.iaload, 1) := by decide +kernel
theorem dL_law_398 : decode (am_b mL_law) 398 = .ok (.invokevirtual 53, 3) := by decide +kernel
theorem dL_law_401 : decode (am_b mL_law) 401 = .ok (.aload_n 2, 1) := by decide +kernel
theorem dL_law_402 : decode (am_b mL_law) 402 = .ok (.aload_n 0, 1) := by decide +kernel
theorem dL_law_403 : decode (am_b mL_law) 403 = .ok (.iload_n 3, 1) := by decide +kernel
theorem dL_law_404 : decode (am_b mL_law) 404 = .ok (.iconst 1, 1) := by decide +kernel
theorem dL_law_405 : decode (am_b mL_law) 405 = .ok (.iadd, 1) := by decide +kernel
theorem dL_law_406 : decode (am_b mL_law) 406 = .ok (.iaload, 1) := by decide +kernel
theorem dL_law_407 : decode (am_b mL_law) 407 = .ok (.aload_n 0, 1) := by decide +kernel
theorem dL_law_408 : decode (am_b mL_law) 408 = .ok (.iload_n 3, 1) := by decide +kernel
theorem dL_law_409 : decode (am_b mL_law) 409 = .ok (.iconst 2, 1) := by decide +kernel
theorem dL_law_410 : decode (am_b mL_law) 410 = .ok (.iadd, 1) := by decide +kernel
theorem dL_law_411 : decode (am_b mL_law) 411 = .ok (.iaload, 1) := by decide +kernel
theorem dL_law_412 : decode (am_b mL_law) 412 = .ok (.invokevirtual 56, 3) := by decide +kernel
theorem dL_law_415 : decode (am_b mL_law) 415 = .ok (.if_icmp .eq 377, 3) := by decide +kernel
theorem dL_law_418 : decode (am_b mL_law) 418 = .ok (.iconst 0, 1) := by decide +kernel
theorem dL_law_419 : decode (am_b mL_law) 419 = .ok (.ireturn, 1) := by decide +kernel
theorem dL_law_420 : decode (am_b mL_law) 420 = .ok (.aload_n 1, 1) := by decide +kernel
theorem dL_law_421 : decode (am_b mL_law) 421 = .ok (.aload_n 0, 1) := by decide +kernel
theorem dL_law_422 : decode (am_b mL_law) 422 = .ok (.iload_n 3, 1) := by decide +kernel
theorem dL_law_423 : decode (am_b mL_law) 423 = .ok (.iconst 1, 1) := by decide +kernel
theorem dL_law_424 : decode (am_b mL_law) 424 = .ok (.iadd, 1) := by decide +kernel
theorem dL_law_425 : decode (am_b mL_law) 425 = .ok (.iaload, 1) := by decide +kernel
theorem dL_law_426 : decode (am_b mL_law) 426 = .ok (.aload_n 0, 1) := by decide +kernel
theorem dL_law_427 : decode (am_b mL_law) 427 = .ok (.iload_n 3, 1) := by decide +kernel
theorem dL_law_428 : decode (am_b mL_law) 428 = .ok (.iconst 2, 1) := by decide +kernel
theorem dL_law_429 : decode (am_b mL_law) 429 = .ok (.iadd, 1) := by decide +kernel
theorem dL_law_430 : decode (am_b mL_law) 430 = .ok (.iaload, 1) := by decide +kernel
theorem dL_law_431 : decode (am_b mL_law) 431 = .ok (.invokevirtual 57, 3) := by decide +kernel
theorem dL_law_434 : decode (am_b mL_law) 434 = .ok (.aload_n 2, 1) := by decide +kernel
theorem dL_law_435 : decode (am_b mL_law) 435 = .ok (.aload_n 0, 1) := by decide +kernel
theorem dL_law_436 : decode (am_b mL_law) 436 = .ok (.iload_n 3, 1) := by decide +kernel
theorem dL_law_437 : decode (am_b mL_law) 437 = .ok (.iconst 1, 1) := by decide +kernel
theorem dL_law_438 : decode (am_b mL_law) 438 = .ok (.iadd, 1) := by decide +kernel
theorem dL_law_439 : decode (am_b mL_law) 439 = .ok (.iaload, 1) := by decide +kernel
theorem dL_law_440 : decode (am_b mL_law) 440 = .ok (.aload_n 0, 1) := by decide +kernel
theorem dL_law_441 : decode (am_b mL_law) 441 = .ok (.iload_n 3, 1) := by decide +kernel
theorem dL_law_442 : decode (am_b mL_law) 442 = .ok (.iconst 2, 1) := by decide +kernel
theorem dL_law_443 : decode (am_b mL_law) 443 = .ok (.iadd, 1) := by decide +kernel
theorem dL_law_444 : decode (am_b mL_law) 444 = .ok (.iaload, 1) := by decide +kernel
theorem dL_law_445 : decode (am_b mL_law) 445 = .ok (.invokevirtual 60, 3) := by decide +kernel
theorem dL_law_448 : decode (am_b mL_law) 448 = .ok (.if_icmp .eq 344, 3) := by decide +kernel
theorem dL_law_451 : decode (am_b mL_law) 451 = .ok (.iconst 0, 1) := by decide +kernel
theorem dL_law_452 : decode (am_b mL_law) 452 = .ok (.ireturn, 1) := by decide +kernel
theorem dL_law_453 : decode (am_b mL_law) 453 = .ok (.aload_n 1, 1) := by decide +kernel
theorem dL_law_454 : decode (am_b mL_law) 454 = .ok (.aload_n 0, 1) := by decide +kernel
theorem dL_law_455 : decode (am_b mL_law) 455 = .ok (.iload_n 3, 1) := by decide +kernel
theorem dL_law_456 : decode (am_b mL_law) 456 = .ok (.iconst 1, 1) := by decide +kernel
theorem dL_law_457 : decode (am_b mL_law) 457 = .ok (.iadd, 1) := by decide +kernel
theorem dL_law_458 : decode (am_b mL_law) 458 = .ok (.iaload, 1) := by decide +kernel
theorem dL_law_459 : decode (am_b mL_law) 459 = .ok (.aload_n 0, 1) := by decide +kernel
theorem dL_law_460 : decode (am_b mL_law) 460 = .ok (.iload_n 3, 1) := by decide +kernel
theorem dL_law_461 : decode (am_b mL_law) 461 = .ok (.iconst 2, 1) := by decide +kernel
theorem dL_law_462 : decode (am_b mL_law) 462 = .ok (.iadd, 1) := by decide +kernel
theorem dL_law_463 : decode (am_b mL_law) 463 = .ok (.iaload, 1) := by decide +kernel
theorem dL_law_464 : decode (am_b mL_law) 464 = .ok (.aload_n 0, 1) := by decide +kernel
theorem dL_law_465 : decode (am_b mL_law) 465 = .ok (.iload_n 3, 1) := by decide +kernel
theorem dL_law_466 : decode (am_b mL_law) 466 = .ok (.iconst 3, 1) := by decide +kernel
theorem dL_law_467 : decode (am_b mL_law) 467 = .ok (.iadd, 1) := by decide +kernel
theorem dL_law_468 : decode (am_b mL_law) 468 = .ok (.iaload, 1) := by decide +kernel
theorem dL_law_469 : decode (am_b mL_law) 469 = .ok (.invokevirtual 61, 3) := by decide +kernel
theorem dL_law_472 : decode (am_b mL_law) 472 = .ok (.aload_n 2, 1) := by decide +kernel
theorem dL_law_473 : decode (am_b mL_law) 473 = .ok (.aload_n 0, 1) := by decide +kernel
theorem dL_law_474 : decode (am_b mL_law) 474 = .ok (.iload_n 3, 1) := by decide +kernel
theorem dL_law_475 : decode (am_b mL_law) 475 = .ok (.iconst 1, 1) := by decide +kernel
theorem dL_law_476 : decode (am_b mL_law) 476 = .ok (.iadd, 1) := by decide +kernel
theorem dL_law_477 : decode (am_b mL_law) 477 = .ok (.iaload, 1) := by decide +kernel
theorem dL_law_478 : decode (am_b mL_law) 478 = .ok (.aload_n 0, 1) := by decide +kernel
theorem dL_law_479 : decode (am_b mL_law) 479 = .ok (.iload_n 3, 1) := by decide +kernel
theorem dL_law_480 : decode (am_b mL_law) 480 = .ok (.iconst 2, 1) := by decide +kernel
theorem dL_law_481 : decode (am_b mL_law) 481 = .ok (.iadd, 1) := by decide +kernel
theorem dL_law_482 : decode (am_b mL_law) 482 = .ok (.iaload, 1) := by decide +kernel
theorem dL_law_483 : decode (am_b mL_law) 483 = .ok (.aload_n 0, 1) := by decide +kernel
theorem dL_law_484 : decode (am_b mL_law) 484 = .ok (.iload_n 3, 1) := by decide +kernel
theorem dL_law_485 : decode (am_b mL_law) 485 = .ok (.iconst 3, 1) := by decide +kernel
theorem dL_law_486 : decode (am_b mL_law) 486 = .ok (.iadd, 1) := by decide +kernel
theorem dL_law_487 : decode (am_b mL_law) 487 = .ok (.iaload, 1) := by decide +kernel
theorem dL_law_488 : decode (am_b mL_law) 488 = .ok (.invokevirtual 65, 3) := by decide +kernel
theorem dL_law_491 : decode (am_b mL_law) 491 = .ok (.if_icmp .eq 301, 3) := by decide +kernel
theorem dL_law_494 : decode (am_b mL_law) 494 = .ok (.iconst 0, 1) := by decide +kernel
theorem dL_law_495 : decode (am_b mL_law) 495 = .ok (.ireturn, 1) := by decide +kernel
theorem dL_law_496 : decode (am_b mL_law) 496 = .ok (.aload_n 1, 1) := by decide +kernel
theorem dL_law_497 : decode (am_b mL_law) 497 = .ok (.aload_n 0, 1) := by decide +kernel
theorem dL_law_498 : decode (am_b mL_law) 498 = .ok (.iload_n 3, 1) := by decide +kernel
theorem dL_law_499 : decode (am_b mL_law) 499 = .ok (.iconst 1, 1) := by decide +kernel
theorem dL_law_500 : decode (am_b mL_law) 500 = .ok (.iadd, 1) := by decide +kernel
theorem dL_law_501 : decode (am_b mL_law) 501 = .ok (.iaload, 1) := by decide +kernel
theorem dL_law_502 : decode (am_b mL_law) 502 = .ok (.invokevirtual 66, 3) := by decide +kernel
theorem dL_law_505 : decode (am_b mL_law) 505 = .ok (.aload_n 2, 1) := by decide +kernel
theorem dL_law_506 : decode (am_b mL_law) 506 = .ok (.aload_n 0, 1) := by decide +kernel
theorem dL_law_507 : decode (am_b mL_law) 507 = .ok (.iload_n 3, 1) := by decide +kernel
theorem dL_law_508 : decode (am_b mL_law) 508 = .ok (.iconst 1, 1) := by decide +kernel
theorem dL_law_509 : decode (am_b mL_law) 509 = .ok (.iadd, 1) := by decide +kernel
theorem dL_law_510 : decode (am_b mL_law) 510 = .ok (.iaload, 1) := by decide +kernel
theorem dL_law_511 : decode (am_b mL_law) 511 = .ok (.invokevirtual 69, 3) := by decide +kernel
theorem dL_law_514 : decode (am_b mL_law) 514 = .ok (.if_icmp .eq 278, 3) := by decide +kernel
theorem dL_law_517 : decode (am_b mL_law) 517 = .ok (.iconst 0, 1) := by decide +kernel
theorem dL_law_518 : decode (am_b mL_law) 518 = .ok (.ireturn, 1) := by decide +kernel
theorem dL_law_519 : decode (am_b mL_law) 519 = .ok (.aload_n 1, 1) := by decide +kernel
theorem dL_law_520 : decode (am_b mL_law) 520 = .ok (.aload_n 0, 1) := by decide +kernel
theorem dL_law_521 : decode (am_b mL_law) 521 = .ok (.iload_n 3, 1) := by decide +kernel
theorem dL_law_522 : decode (am_b mL_law) 522 = .ok (.iconst 1, 1) := by decide +kernel
theorem dL_law_523 : decode (am_b mL_law) 523 = .ok (.iadd, 1) := by decide +kernel
theorem dL_law_524 : decode (am_b mL_law) 524 = .ok (.iaload, 1) := by decide +kernel
theorem dL_law_525 : decode (am_b mL_law) 525 = .ok (.invokevirtual 70, 3) := by decide +kernel
theorem dL_law_528 : decode (am_b mL_law) 528 = .ok (.aload_n 2, 1) := by decide +kernel
theorem dL_law_529 : decode (am_b mL_law) 529 = .ok (.aload_n 0, 1) := by decide +kernel
theorem dL_law_530 : decode (am_b mL_law) 530 = .ok (.iload_n 3, 1) := by decide +kernel
theorem dL_law_531 : decode (am_b mL_law) 531 = .ok (.iconst 1, 1) := by decide +kernel
theorem dL_law_532 : decode (am_b mL_law) 532 = .ok (.iadd, 1) := by decide +kernel
theorem dL_law_533 : decode (am_b mL_law) 533 = .ok (.iaload, 1) := by decide +kernel
theorem dL_law_534 : decode (am_b mL_law) 534 = .ok (.invokevirtual 73, 3) := by decide +kernel
theorem dL_law_537 : decode (am_b mL_law) 537 = .ok (.if_icmp .eq 255, 3) := by decide +kernel
theorem dL_law_540 : decode (am_b mL_law) 540 = .ok (.iconst 0, 1) := by decide +kernel
theorem dL_law_541 : decode (am_b mL_law) 541 = .ok (.ireturn, 1) := by decide +kernel
theorem dL_law_542 : decode (am_b mL_law) 542 = .ok (.aload_n 1, 1) := by decide +kernel
theorem dL_law_543 : decode (am_b mL_law) 543 = .ok (.aload_n 0, 1) := by decide +kernel
theorem dL_law_544 : decode (am_b mL_law) 544 = .ok (.iload_n 3, 1) := by decide +kernel
theorem dL_law_545 : decode (am_b mL_law) 545 = .ok (.iconst 1, 1) := by decide +kernel
theorem dL_law_546 : decode (am_b mL_law) 546 = .ok (.iadd, 1) := by decide +kernel
theorem dL_law_547 : decode (am_b mL_law) 547 = .ok (.iaload, 1) := by decide +kernel
theorem dL_law_548 : decode (am_b mL_law) 548 = .ok (.aload_n 0, 1) := by decide +kernel
theorem dL_law_549 : decode (am_b mL_law) 549 = .ok (.iload_n 3, 1) := by decide +kernel
theorem dL_law_550 : decode (am_b mL_law) 550 = .ok (.iconst 2, 1) := by decide +kernel
theorem dL_law_551 : decode (am_b mL_law) 551 = .ok (.iadd, 1) := by decide +kernel
theorem dL_law_552 : decode (am_b mL_law) 552 = .ok (.iaload, 1) := by decide +kernel
theorem dL_law_553 : decode (am_b mL_law) 553 = .ok (.invokevirtual 74, 3) := by decide +kernel
theorem dL_law_556 : decode (am_b mL_law) 556 = .ok (.aload_n 2, 1) := by decide +kernel
theorem dL_law_557 : decode (am_b mL_law) 557 = .ok (.aload_n 0, 1) := by decide +kernel
theorem dL_law_558 : decode (am_b mL_law) 558 = .ok (.iload_n 3, 1) := by decide +kernel
theorem dL_law_559 : decode (am_b mL_law) 559 = .ok (.iconst 1, 1) := by decide +kernel
theorem dL_law_560 : decode (am_b mL_law) 560 = .ok (.iadd, 1) := by decide +kernel
theorem dL_law_561 : decode (am_b mL_law) 561 = .ok (.iaload, 1) := by decide +kernel
theorem dL_law_562 : decode (am_b mL_law) 562 = .ok (.aload_n 0, 1) := by decide +kernel
theorem dL_law_563 : decode (am_b mL_law) 563 = .ok (.iload_n 3, 1) := by decide +kernel
theorem dL_law_564 : decode (am_b mL_law) 564 = .ok (.iconst 2, 1) := by decide +kernel
theorem dL_law_565 : decode (am_b mL_law) 565 = .ok (.iadd, 1) := by decide +kernel
theorem dL_law_566 : decode (am_b mL_law) 566 = .ok (.iaload, 1) := by decide +kernel
theorem dL_law_567 : decode (am_b mL_law) 567 = .ok (.invokevirtual 77, 3) := by decide +kernel
theorem dL_law_570 : decode (am_b mL_law) 570 = .ok (.if_icmp .eq 222, 3) := by decide +kernel
theorem dL_law_573 : decode (am_b mL_law) 573 = .ok (.iconst 0, 1) := by decide +kernel
theorem dL_law_574 : decode (am_b mL_law) 574 = .ok (.ireturn, 1) := by decide +kernel
theorem dL_law_575 : decode (am_b mL_law) 575 = .ok (.aload_n 1, 1) := by decide +kernel
theorem dL_law_576 : decode (am_b mL_law) 576 = .ok (.aload_n 0, 1) := by decide +kernel
theorem dL_law_577 : decode (am_b mL_law) 577 = .ok (.iload_n 3, 1) := by decide +kernel
theorem dL_law_578 : decode (am_b mL_law) 578 = .ok (.iconst 1, 1) := by decide +kernel
theorem dL_law_579 : decode (am_b mL_law) 579 = .ok (.iadd, 1) := by decide +kernel
theorem dL_law_580 : decode (am_b mL_law) 580 = .ok (.iaload, 1) := by decide +kernel
theorem dL_law_581 : decode (am_b mL_law) 581 = .ok (.invokevirtual 78, 3) := by decide +kernel
theorem dL_law_584 : decode (am_b mL_law) 584 = .ok (.aload_n 2, 1) := by decide +kernel
theorem dL_law_585 : decode (am_b mL_law) 585 = .ok (.aload_n 0, 1) := by decide +kernel
theorem dL_law_586 : decode (am_b mL_law) 586 = .ok (.iload_n 3, 1) := by decide +kernel
theorem dL_law_587 : decode (am_b mL_law) 587 = .ok (.iconst 1, 1) := by decide +kernel
theorem dL_law_588 : decode (am_b mL_law) 588 = .ok (.iadd, 1) := by decide +kernel
theorem dL_law_589 : decode (am_b mL_law) 589 = .ok (.iaload, 1) := by decide +kernel
theorem dL_law_590 : decode (am_b mL_law) 590 = .ok (.invokevirtual 81, 3) := by decide +kernel
theorem dL_law_593 : decode (am_b mL_law) 593 = .ok (.if_icmp .eq 199, 3) := by decide +kernel
theorem dL_law_596 : decode (am_b mL_law) 596 = .ok (.iconst 0, 1) := by decide +kernel
theorem dL_law_597 : decode (am_b mL_law) 597 = .ok (.ireturn, 1) := by decide +kernel
theorem dL_law_598 : decode (am_b mL_law) 598 = .ok (.aload_n 1, 1) := by decide +kernel
theorem dL_law_599 : decode (am_b mL_law) 599 = .ok (.aload_n 0, 1) := by decide +kernel
theorem dL_law_600 : decode (am_b mL_law) 600 = .ok (.iload_n 3, 1) := by decide +kernel
theorem dL_law_601 : decode (am_b mL_law) 601 = .ok (.iconst 1, 1) := by decide +kernel
theorem dL_law_602 : decode (am_b mL_law) 602 = .ok (.iadd, 1) := by decide +kernel
theorem dL_law_603 : decode (am_b mL_law) 603 = .ok (.iaload, 1) := by decide +kernel
theorem dL_law_604 : decode (am_b mL_law) 604 = .ok (.aload_n 0, 1) := by decide +kernel
theorem dL_law_605 : decode (am_b mL_law) 605 = .ok (.iload_n 3, 1) := by decide +kernel
theorem dL_law_606 : decode (am_b mL_law) 606 = .ok (.iconst 2, 1) := by decide +kernel
theorem dL_law_607 : decode (am_b mL_law) 607 = .ok (.iadd, 1) := by decide +kernel
theorem dL_law_608 : decode (am_b mL_law) 608 = .ok (.iaload, 1) := by decide +kernel
theorem dL_law_609 : decode (am_b mL_law) 609 = .ok (.invokevirtual 82, 3) := by decide +kernel
theorem dL_law_612 : decode (am_b mL_law) 612 = .ok (.aload_n 2, 1) := by decide +kernel
theorem dL_law_613 : decode (am_b mL_law) 613 = .ok (.aload_n 0, 1) := by decide +kernel
theorem dL_law_614 : decode (am_b mL_law) 614 = .ok (.iload_n 3, 1) := by decide +kernel
theorem dL_law_615 : decode (am_b mL_law) 615 = .ok (.iconst 1, 1) := by decide +kernel
theorem dL_law_616 : decode (am_b mL_law) 616 = .ok (.iadd, 1) := by decide +kernel
theorem dL_law_617 : decode (am_b mL_law) 617 = .ok (.iaload, 1) := by decide +kernel
theorem dL_law_618 : decode (am_b mL_law) 618 = .ok (.aload_n 0, 1) := by decide +kernel
theorem dL_law_619 : decode (am_b mL_law) 619 = .ok (.iload_n 3, 1) := by decide +kernel
theorem dL_law_620 : decode (am_b mL_law) 620 = .ok (.iconst 2, 1) := by decide +kernel
theorem dL_law_621 : decode (am_b mL_law) 621 = .ok (.iadd, 1) := by decide +kernel
theorem dL_law_622 : decode (am_b mL_law) 622 = .ok (.iaload, 1) := by decide +kernel
theorem dL_law_623 : decode (am_b mL_law) 623 = .ok (.invokevirtual 85, 3) := by decide +kernel
theorem dL_law_626 : decode (am_b mL_law) 626 = .ok (.if_icmp .eq 166, 3) := by decide +kernel
theorem dL_law_629 : decode (am_b mL_law) 629 = .ok (.iconst 0, 1) := by decide +kernel
theorem dL_law_630 : decode (am_b mL_law) 630 = .ok (.ireturn, 1) := by decide +kernel
theorem dL_law_631 : decode (am_b mL_law) 631 = .ok (.aload_n 1, 1) := by decide +kernel
theorem dL_law_632 : decode (am_b mL_law) 632 = .ok (.aload_n 0, 1) := by decide +kernel
theorem dL_law_633 : decode (am_b mL_law) 633 = .ok (.iload_n 3, 1) := by decide +kernel
theorem dL_law_634 : decode (am_b mL_law) 634 = .ok (.iconst 1, 1) := by decide +kernel
theorem dL_law_635 : decode (am_b mL_law) 635 = .ok (.iadd, 1) := by decide +kernel
theorem dL_law_636 : decode (am_b mL_law) 636 = .ok (.iaload, 1) := by decide +kernel
theorem dL_law_637 : decode (am_b mL_law) 637 = .ok (.invokevirtual 86, 3) := by decide +kernel
theorem dL_law_640 : decode (am_b mL_law) 640 = .ok (.aload_n 2, 1) := by decide +kernel
theorem dL_law_641 : decode (am_b mL_law) 641 = .ok (.aload_n 0, 1) := by decide +kernel
theorem dL_law_642 : decode (am_b mL_law) 642 = .ok (.iload_n 3, 1) := by decide +kernel
theorem dL_law_643 : decode (am_b mL_law) 643 = .ok (.iconst 1, 1) := by decide +kernel
theorem dL_law_644 : decode (am_b mL_law) 644 = .ok (.iadd, 1) := by decide +kernel
theorem dL_law_645 : decode (am_b mL_law) 645 = .ok (.iaload, 1) := by decide +kernel
theorem dL_law_646 : decode (am_b mL_law) 646 = .ok (.invokevirtual 89, 3) := by decide +kernel
theorem dL_law_649 : decode (am_b mL_law) 649 = .ok (.if_icmp .eq 143, 3) := by decide +kernel
theorem dL_law_652 : decode (am_b mL_law) 652 = .ok (.iconst 0, 1) := by decide +kernel
theorem dL_law_653 : decode (am_b mL_law) 653 = .ok (.ireturn, 1) := by decide +kernel
theorem dL_law_654 : decode (am_b mL_law) 654 = .ok (.aload_n 1, 1) := by decide +kernel
theorem dL_law_655 : decode (am_b mL_law) 655 = .ok (.aload_n 0, 1) := by decide +kernel
theorem dL_law_656 : decode (am_b mL_law) 656 = .ok (.iload_n 3, 1) := by decide +kernel
theorem dL_law_657 : decode (am_b mL_law) 657 = .ok (.iconst 1, 1) := by decide +kernel
theorem dL_law_658 : decode (am_b mL_law) 658 = .ok (.iadd, 1) := by decide +kernel
theorem dL_law_659 : decode (am_b mL_law) 659 = .ok (.iaload, 1) := by decide +kernel
theorem dL_law_660 : decode (am_b mL_law) 660 = .ok (.i2l, 1) := by decide +kernel
theorem dL_law_661 : decode (am_b mL_law) 661 = .ok (.bipush 32, 2) := by decide +kernel
theorem dL_law_663 : decode (am_b mL_law) 663 = .ok (.lshl, 1) := by decide +kernel
theorem dL_law_664 : decode (am_b mL_law) 664 = .ok (.aload_n 0, 1) := by decide +kernel
theorem dL_law_665 : decode (am_b mL_law) 665 = .ok (.iload_n 3, 1) := by decide +kernel
theorem dL_law_666 : decode (am_b mL_law) 666 = .ok (.iconst 2, 1) := by decide +kernel
theorem dL_law_667 : decode (am_b mL_law) 667 = .ok (.iadd, 1) := by decide +kernel
theorem dL_law_668 : decode (am_b mL_law) 668 = .ok (.iaload, 1) := by decide +kernel
theorem dL_law_669 : decode (am_b mL_law) 669 = .ok (.i2l, 1) := by decide +kernel
theorem dL_law_670 : decode (am_b mL_law) 670 = .ok (.ldc2_w 90, 3) := by decide +kernel
theorem dL_law_673 : decode (am_b mL_law) 673 = .ok (.land, 1) := by decide +kernel
theorem dL_law_674 : decode (am_b mL_law) 674 = .ok (.lor, 1) := by decide +kernel
theorem dL_law_675 : decode (am_b mL_law) 675 = .ok (.invokevirtual 92, 3) := by decide +kernel
theorem dL_law_678 : decode (am_b mL_law) 678 = .ok (.aload_n 2, 1) := by decide +kernel
theorem dL_law_679 : decode (am_b mL_law) 679 = .ok (.aload_n 0, 1) := by decide +kernel
theorem dL_law_680 : decode (am_b mL_law) 680 = .ok (.iload_n 3, 1) := by decide +kernel
theorem dL_law_681 : decode (am_b mL_law) 681 = .ok (.iconst 1, 1) := by decide +kernel
theorem dL_law_682 : decode (am_b mL_law) 682 = .ok (.iadd, 1) := by decide +kernel
theorem dL_law_683 : decode (am_b mL_law) 683 = .ok (.iaload, 1) := by decide +kernel
theorem dL_law_684 : decode (am_b mL_law) 684 = .ok (.i2l, 1) := by decide +kernel
theorem dL_law_685 : decode (am_b mL_law) 685 = .ok (.bipush 32, 2) := by decide +kernel
theorem dL_law_687 : decode (am_b mL_law) 687 = .ok (.lshl, 1) := by decide +kernel
theorem dL_law_688 : decode (am_b mL_law) 688 = .ok (.aload_n 0, 1) := by decide +kernel
theorem dL_law_689 : decode (am_b mL_law) 689 = .ok (.iload_n 3, 1) := by decide +kernel
theorem dL_law_690 : decode (am_b mL_law) 690 = .ok (.iconst 2, 1) := by decide +kernel
theorem dL_law_691 : decode (am_b mL_law) 691 = .ok (.iadd, 1) := by decide +kernel
theorem dL_law_692 : decode (am_b mL_law) 692 = .ok (.iaload, 1) := by decide +kernel
theorem dL_law_693 : decode (am_b mL_law) 693 = .ok (.i2l, 1) := by decide +kernel
theorem dL_law_694 : decode (am_b mL_law) 694 = .ok (.ldc2_w 90, 3) := by decide +kernel
theorem dL_law_697 : decode (am_b mL_law) 697 = .ok (.land, 1) := by decide +kernel
theorem dL_law_698 : decode (am_b mL_law) 698 = .ok (.lor, 1) := by decide +kernel
theorem dL_law_699 : decode (am_b mL_law) 699 = .ok (.invokevirtual 96, 3) := by decide +kernel
theorem dL_law_702 : decode (am_b mL_law) 702 = .ok (.if_icmp .eq 90, 3) := by decide +kernel
theorem dL_law_705 : decode (am_b mL_law) 705 = .ok (.iconst 0, 1) := by decide +kernel
theorem dL_law_706 : decode (am_b mL_law) 706 = .ok (.ireturn, 1) := by decide +kernel
theorem dL_law_707 : decode (am_b mL_law) 707 = .ok (.aload_n 1, 1) := by decide +kernel
theorem dL_law_708 : decode (am_b mL_law) 708 = .ok (.invokevirtual 97, 3) := by decide +kernel
theorem dL_law_711 : decode (am_b mL_law) 711 = .ok (.aload_n 2, 1) := by decide +kernel
theorem dL_law_712 : decode (am_b mL_law) 712 = .ok (.invokevirtual 100, 3) := by decide +kernel
theorem dL_law_715 : decode (am_b mL_law) 715 = .ok (.if_icmp .eq 77, 3) := by decide +kernel
theorem dL_law_718 : decode (am_b mL_law) 718 = .ok (.iconst 0, 1) := by decide +kernel
theorem dL_law_719 : decode (am_b mL_law) 719 = .ok (.ireturn, 1) := by decide +kernel
theorem dL_law_720 : decode (am_b mL_law) 720 = .ok (.aload_n 1, 1) := by decide +kernel
theorem dL_law_721 : decode (am_b mL_law) 721 = .ok (.invokevirtual 101, 3) := by decide +kernel
theorem dL_law_724 : decode (am_b mL_law) 724 = .ok (.aload_n 2, 1) := by decide +kernel
theorem dL_law_725 : decode (am_b mL_law) 725 = .ok (.invokevirtual 104, 3) := by decide +kernel
theorem dL_law_728 : decode (am_b mL_law) 728 = .ok (.if_icmp .eq 64, 3) := by decide +kernel
theorem dL_law_731 : decode (am_b mL_law) 731 = .ok (.iconst 0, 1) := by decide +kernel
theorem dL_law_732 : decode (am_b mL_law) 732 = .ok (.ireturn, 1) := by decide +kernel
theorem dL_law_733 : decode (am_b mL_law) 733 = .ok (.aload_n 1, 1) := by decide +kernel
theorem dL_law_734 : decode (am_b mL_law) 734 = .ok (.invokevirtual 105, 3) := by decide +kernel
theorem dL_law_737 : decode (am_b mL_law) 737 = .ok (.aload_n 2, 1) := by decide +kernel
theorem dL_law_738 : decode (am_b mL_law) 738 = .ok (.invokevirtual 108, 3) := by decide +kernel
theorem dL_law_741 : decode (am_b mL_law) 741 = .ok (.if_icmp .eq 51, 3) := by decide +kernel
theorem dL_law_744 : decode (am_b mL_law) 744 = .ok (.iconst 0, 1) := by decide +kernel
theorem dL_law_745 : decode (am_b mL_law) 745 = .ok (.ireturn, 1) := by decide +kernel
theorem dL_law_746 : decode (am_b mL_law) 746 = .ok (.aload_n 1, 1) := by decide +kernel
theorem dL_law_747 : decode (am_b mL_law) 747 = .ok (.aload_n 0, 1) := by decide +kernel
theorem dL_law_748 : decode (am_b mL_law) 748 = .ok (.iload_n 3, 1) := by decide +kernel
theorem dL_law_749 : decode (am_b mL_law) 749 = .ok (.iconst 1, 1) := by decide +kernel
theorem dL_law_750 : decode (am_b mL_law) 750 = .ok (.iadd, 1) := by decide +kernel
theorem dL_law_751 : decode (am_b mL_law) 751 = .ok (.iaload, 1) := by decide +kernel
theorem dL_law_752 : decode (am_b mL_law) 752 = .ok (.invokevirtual 109, 3) := by decide +kernel
theorem dL_law_755 : decode (am_b mL_law) 755 = .ok (.aload_n 2, 1) := by decide +kernel
theorem dL_law_756 : decode (am_b mL_law) 756 = .ok (.aload_n 0, 1) := by decide +kernel
theorem dL_law_757 : decode (am_b mL_law) 757 = .ok (.iload_n 3, 1) := by decide +kernel
theorem dL_law_758 : decode (am_b mL_law) 758 = .ok (.iconst 1, 1) := by decide +kernel
theorem dL_law_759 : decode (am_b mL_law) 759 = .ok (.iadd, 1) := by decide +kernel
theorem dL_law_760 : decode (am_b mL_law) 760 = .ok (.iaload, 1) := by decide +kernel
theorem dL_law_761 : decode (am_b mL_law) 761 = .ok (.invokevirtual 112, 3) := by decide +kernel
theorem dL_law_764 : decode (am_b mL_law) 764 = .ok (.if_icmp .eq 28, 3) := by decide +kernel
theorem dL_law_767 : decode (am_b mL_law) 767 = .ok (.iconst 0, 1) := by decide +kernel
theorem dL_law_768 : decode (am_b mL_law) 768 = .ok (.ireturn, 1) := by decide +kernel
theorem dL_law_769 : decode (am_b mL_law) 769 = .ok (.aload_n 1, 1) := by decide +kernel
theorem dL_law_770 : decode (am_b mL_law) 770 = .ok (.aload_n 0, 1) := by decide +kernel
theorem dL_law_771 : decode (am_b mL_law) 771 = .ok (.iload_n 3, 1) := by decide +kernel
theorem dL_law_772 : decode (am_b mL_law) 772 = .ok (.iconst 1, 1) := by decide +kernel
theorem dL_law_773 : decode (am_b mL_law) 773 = .ok (.iadd, 1) := by decide +kernel
theorem dL_law_774 : decode (am_b mL_law) 774 = .ok (.iaload, 1) := by decide +kernel
theorem dL_law_775 : decode (am_b mL_law) 775 = .ok (.invokevirtual 113, 3) := by decide +kernel
theorem dL_law_778 : decode (am_b mL_law) 778 = .ok (.aload_n 2, 1) := by decide +kernel
theorem dL_law_779 : decode (am_b mL_law) 779 = .ok (.aload_n 0, 1) := by decide +kernel
theorem dL_law_780 : decode (am_b mL_law) 780 = .ok (.iload_n 3, 1) := by decide +kernel
theorem dL_law_781 : decode (am_b mL_law) 781 = .ok (.iconst 1, 1) := by decide +kernel
theorem dL_law_782 : decode (am_b mL_law) 782 = .ok (.iadd, 1) := by decide +kernel
theorem dL_law_783 : decode (am_b mL_law) 783 = .ok (.iaload, 1) := by decide +kernel
theorem dL_law_784 : decode (am_b mL_law) 784 = .ok (.invokevirtual 116, 3) := by decide +kernel
theorem dL_law_787 : decode (am_b mL_law) 787 = .ok (.if_icmp .eq 5, 3) := by decide +kernel
theorem dL_law_790 : decode (am_b mL_law) 790 = .ok (.iconst 0, 1) := by decide +kernel
theorem dL_law_791 : decode (am_b mL_law) 791 = .ok (.ireturn, 1) := by decide +kernel
theorem dL_law_792 : decode (am_b mL_law) 792 = .ok (.iinc 3 4, 3) := by decide +kernel
theorem dL_law_795 : decode (am_b mL_law) 795 = .ok (.goto (-777), 3) := by decide +kernel
theorem dL_law_798 : decode (am_b mL_law) 798 = .ok (.iconst 1, 1) := by decide +kernel
theorem dL_law_799 : decode (am_b mL_law) 799 = .ok (.ireturn, 1) := by decide +kernel
