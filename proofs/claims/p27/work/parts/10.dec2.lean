/-! printed: decode rows -/
theorem dX6_copyRow_0 : decode (am_b mX6_copyRow) 0 = .ok (.iconst 0, 1) := by decide +kernel
theorem dX6_copyRow_1 : decode (am_b mX6_copyRow) 1 = .ok (.istore_n 2, 1) := by decide +kernel
theorem dX6_copyRow_2 : decode (am_b mX6_copyRow) 2 = .ok (.iload_n 2, 1) := by decide +kernel
theorem dX6_copyRow_3 : decode (am_b mX6_copyRow) 3 = .ok (.aload_n 0, 1) := by decide +kernel
theorem dX6_copyRow_4 : decode (am_b mX6_copyRow) 4 = .ok (.arraylength, 1) := by decide +kernel
theorem dX6_copyRow_5 : decode (am_b mX6_copyRow) 5 = .ok (.if_icmp .ge 21, 3) := by decide +kernel
theorem dX6_copyRow_8 : decode (am_b mX6_copyRow) 8 = .ok (.iload_n 2, 1) := by decide +kernel
theorem dX6_copyRow_9 : decode (am_b mX6_copyRow) 9 = .ok (.aload_n 1, 1) := by decide +kernel
theorem dX6_copyRow_10 : decode (am_b mX6_copyRow) 10 = .ok (.arraylength, 1) := by decide +kernel
theorem dX6_copyRow_11 : decode (am_b mX6_copyRow) 11 = .ok (.if_icmp .ge 15, 3) := by decide +kernel
theorem dX6_copyRow_14 : decode (am_b mX6_copyRow) 14 = .ok (.aload_n 1, 1) := by decide +kernel
theorem dX6_copyRow_15 : decode (am_b mX6_copyRow) 15 = .ok (.iload_n 2, 1) := by decide +kernel
theorem dX6_copyRow_16 : decode (am_b mX6_copyRow) 16 = .ok (.aload_n 0, 1) := by decide +kernel
theorem dX6_copyRow_17 : decode (am_b mX6_copyRow) 17 = .ok (.iload_n 2, 1) := by decide +kernel
theorem dX6_copyRow_18 : decode (am_b mX6_copyRow) 18 = .ok (.iaload, 1) := by decide +kernel
theorem dX6_copyRow_19 : decode (am_b mX6_copyRow) 19 = .ok (.iastore, 1) := by decide +kernel
theorem dX6_copyRow_20 : decode (am_b mX6_copyRow) 20 = .ok (.iinc 2 1, 3) := by decide +kernel
theorem dX6_copyRow_23 : decode (am_b mX6_copyRow) 23 = .ok (.goto (-21), 3) := by decide +kernel
theorem dX6_copyRow_26 : decode (am_b mX6_copyRow) 26 = .ok (.return_, 1) := by decide +kernel
theorem dX6_isHeight_0 : decode (am_b mX6_isHeight) 0 = .ok (.iload_n 0, 1) := by decide +kernel
theorem dX6_isHeight_1 : decode (am_b mX6_isHeight) 1 = .ok (.iconst 1, 1) := by decide +kernel
theorem dX6_isHeight_2 : decode (am_b mX6_isHeight) 2 = .ok (.if_icmp .lt 13, 3) := by decide +kernel
theorem dX6_isHeight_5 : decode (am_b mX6_isHeight) 5 = .ok (.iload_n 0, 1) := by decide +kernel
theorem dX6_isHeight_6 : decode (am_b mX6_isHeight) 6 = .ok (.bipush 9, 2) := by decide +kernel
theorem dX6_isHeight_8 : decode (am_b mX6_isHeight) 8 = .ok (.if_icmp .gt 7, 3) := by decide +kernel
theorem dX6_isHeight_11 : decode (am_b mX6_isHeight) 11 = .ok (.iconst 1, 1) := by decide +kernel
theorem dX6_isHeight_12 : decode (am_b mX6_isHeight) 12 = .ok (.goto 4, 3) := by decide +kernel
theorem dX6_isHeight_15 : decode (am_b mX6_isHeight) 15 = .ok (.iconst 0, 1) := by decide +kernel
theorem dX6_isHeight_16 : decode (am_b mX6_isHeight) 16 = .ok (.ireturn, 1) := by decide +kernel
theorem dX6_isPitch_0 : decode (am_b mX6_isPitch) 0 = .ok (.iload_n 0, 1) := by decide +kernel
theorem dX6_isPitch_1 : decode (am_b mX6_isPitch) 1 = .ok (.ifCond .lt 13, 3) := by decide +kernel
theorem dX6_isPitch_4 : decode (am_b mX6_isPitch) 4 = .ok (.iload_n 0, 1) := by decide +kernel
theorem dX6_isPitch_5 : decode (am_b mX6_isPitch) 5 = .ok (.bipush 12, 2) := by decide +kernel
theorem dX6_isPitch_7 : decode (am_b mX6_isPitch) 7 = .ok (.if_icmp .ge 7, 3) := by decide +kernel
theorem dX6_isPitch_10 : decode (am_b mX6_isPitch) 10 = .ok (.iconst 1, 1) := by decide +kernel
theorem dX6_isPitch_11 : decode (am_b mX6_isPitch) 11 = .ok (.goto 4, 3) := by decide +kernel
theorem dX6_isPitch_14 : decode (am_b mX6_isPitch) 14 = .ok (.iconst 0, 1) := by decide +kernel
theorem dX6_isPitch_15 : decode (am_b mX6_isPitch) 15 = .ok (.ireturn, 1) := by decide +kernel
theorem dX6_lot_0 : decode (am_b mX6_lot) 0 = .ok (.iload_n 1, 1) := by decide +kernel
theorem dX6_lot_1 : decode (am_b mX6_lot) 1 = .ok (.ifCond .lt 9, 3) := by decide +kernel
theorem dX6_lot_4 : decode (am_b mX6_lot) 4 = .ok (.iload_n 1, 1) := by decide +kernel
theorem dX6_lot_5 : decode (am_b mX6_lot) 5 = .ok (.bipush 8, 2) := by decide +kernel
theorem dX6_lot_7 : decode (am_b mX6_lot) 7 = .ok (.if_icmp .lt 7, 3) := by decide +kernel
theorem dX6_lot_10 : decode (am_b mX6_lot) 10 = .ok (.iconst (-1), 1) := by decide +kernel
theorem dX6_lot_11 : decode (am_b mX6_lot) 11 = .ok (.goto 12, 3) := by decide +kernel
theorem dX6_lot_14 : decode (am_b mX6_lot) 14 = .ok (.aload_n 0, 1) := by decide +kernel
theorem dX6_lot_15 : decode (am_b mX6_lot) 15 = .ok (.getfield 10, 3) := by decide +kernel
theorem dX6_lot_18 : decode (am_b mX6_lot) 18 = .ok (.getfield 195, 3) := by decide +kernel
theorem dX6_lot_21 : decode (am_b mX6_lot) 21 = .ok (.iload_n 1, 1) := by decide +kernel
theorem dX6_lot_22 : decode (am_b mX6_lot) 22 = .ok (.iaload, 1) := by decide +kernel
theorem dX6_lot_23 : decode (am_b mX6_lot) 23 = .ok (.ireturn, 1) := by decide +kernel
theorem dX6_init_0 : decode (am_b mX6_init) 0 = .ok (.aload_n 0, 1) := by decide +kernel
theorem dX6_init_1 : decode (am_b mX6_init) 1 = .ok (.invokespecial 1, 3) := by decide +kernel
theorem dX6_init_4 : decode (am_b mX6_init) 4 = .ok (.aload_n 0, 1) := by decide +kernel
theorem dX6_init_5 : decode (am_b mX6_init) 5 = .ok (.new 7, 3) := by decide +kernel
theorem dX6_init_8 : decode (am_b mX6_init) 8 = .ok (.dup, 1) := by decide +kernel
theorem dX6_init_9 : decode (am_b mX6_init) 9 = .ok (.invokespecial 9, 3) := by decide +kernel
theorem dX6_init_12 : decode (am_b mX6_init) 12 = .ok (.putfield 10, 3) := by decide +kernel
theorem dX6_init_15 : decode (am_b mX6_init) 15 = .ok (.aload_n 0, 1) := by decide +kernel
theorem dX6_init_16 : decode (am_b mX6_init) 16 = .ok (.new 7, 3) := by decide +kernel
theorem dX6_init_19 : decode (am_b mX6_init) 19 = .ok (.dup, 1) := by decide +kernel
theorem dX6_init_20 : decode (am_b mX6_init) 20 = .ok (.invokespecial 9, 3) := by decide +kernel
theorem dX6_init_23 : decode (am_b mX6_init) 23 = .ok (.putfield 16, 3) := by decide +kernel
theorem dX6_init_26 : decode (am_b mX6_init) 26 = .ok (.aload_n 0, 1) := by decide +kernel
theorem dX6_init_27 : decode (am_b mX6_init) 27 = .ok (.new 19, 3) := by decide +kernel
theorem dX6_init_30 : decode (am_b mX6_init) 30 = .ok (.dup, 1) := by decide +kernel
theorem dX6_init_31 : decode (am_b mX6_init) 31 = .ok (.invokespecial 21, 3) := by decide +kernel
theorem dX6_init_34 : decode (am_b mX6_init) 34 = .ok (.putfield 22, 3) := by decide +kernel
theorem dX6_init_37 : decode (am_b mX6_init) 37 = .ok (.aload_n 0, 1) := by decide +kernel
theorem dX6_init_38 : decode (am_b mX6_init) 38 = .ok (.new 26, 3) := by decide +kernel
theorem dX6_init_41 : decode (am_b mX6_init) 41 = .ok (.dup, 1) := by decide +kernel
theorem dX6_init_42 : decode (am_b mX6_init) 42 = .ok (.invokespecial 28, 3) := by decide +kernel
theorem dX6_init_45 : decode (am_b mX6_init) 45 = .ok (.putfield 29, 3) := by decide +kernel
theorem dX6_init_48 : decode (am_b mX6_init) 48 = .ok (.aload_n 0, 1) := by decide +kernel
theorem dX6_init_49 : decode (am_b mX6_init) 49 = .ok (.new 33, 3) := by decide +kernel
theorem dX6_init_52 : decode (am_b mX6_init) 52 = .ok (.dup, 1) := by decide +kernel
theorem dX6_init_53 : decode (am_b mX6_init) 53 = .ok (.invokespecial 35, 3) := by decide +kernel
theorem dX6_init_56 : decode (am_b mX6_init) 56 = .ok (.putfield 36, 3) := by decide +kernel
theorem dX6_init_59 : decode (am_b mX6_init) 59 = .ok (.aload_n 0, 1) := by decide +kernel
theorem dX6_init_60 : decode (am_b mX6_init) 60 = .ok (.iconst 2, 1) := by decide +kernel
theorem dX6_init_61 : decode (am_b mX6_init) 61 = .ok (.anewarray 7, 3) := by decide +kernel
theorem dX6_init_64 : decode (am_b mX6_init) 64 = .ok (.putfield 40, 3) := by decide +kernel
theorem dX6_init_67 : decode (am_b mX6_init) 67 = .ok (.return_, 1) := by decide +kernel
theorem dX6_come_0 : decode (am_b mX6_come) 0 = .ok (.iload_n 1, 1) := by decide +kernel
theorem dX6_come_1 : decode (am_b mX6_come) 1 = .ok (.invokestatic 76, 3) := by decide +kernel
theorem dX6_come_4 : decode (am_b mX6_come) 4 = .ok (.ifCond .ne 6, 3) := by decide +kernel
theorem dX6_come_7 : decode (am_b mX6_come) 7 = .ok (.bipush (-2), 2) := by decide +kernel
theorem dX6_come_9 : decode (am_b mX6_come) 9 = .ok (.ireturn, 1) := by decide +kernel
theorem dX6_come_10 : decode (am_b mX6_come) 10 = .ok (.aload_n 0, 1) := by decide +kernel
theorem dX6_come_11 : decode (am_b mX6_come) 11 = .ok (.getfield 10, 3) := by decide +kernel
theorem dX6_come_14 : decode (am_b mX6_come) 14 = .ok (.getfield 79, 3) := by decide +kernel
theorem dX6_come_17 : decode (am_b mX6_come) 17 = .ok (.bipush 8, 2) := by decide +kernel
theorem dX6_come_19 : decode (am_b mX6_come) 19 = .ok (.if_icmp .lt 6, 3) := by decide +kernel
theorem dX6_come_22 : decode (am_b mX6_come) 22 = .ok (.bipush (-4), 2) := by decide +kernel
theorem dX6_come_24 : decode (am_b mX6_come) 24 = .ok (.ireturn, 1) := by decide +kernel
theorem dX6_come_25 : decode (am_b mX6_come) 25 = .ok (.aload_n 0, 1) := by decide +kernel
theorem dX6_come_26 : decode (am_b mX6_come) 26 = .ok (.getfield 36, 3) := by decide +kernel
theorem dX6_come_29 : decode (am_b mX6_come) 29 = .ok (.aload_n 0, 1) := by decide +kernel
theorem dX6_come_30 : decode (am_b mX6_come) 30 = .ok (.getfield 10, 3) := by decide +kernel
theorem dX6_come_33 : decode (am_b mX6_come) 33 = .ok (.invokevirtual 48, 3) := by decide +kernel
theorem dX6_come_36 : decode (am_b mX6_come) 36 = .ok (.aload_n 0, 1) := by decide +kernel
theorem dX6_come_37 : decode (am_b mX6_come) 37 = .ok (.getfield 10, 3) := by decide +kernel
theorem dX6_come_40 : decode (am_b mX6_come) 40 = .ok (.iload_n 1, 1) := by decide +kernel
theorem dX6_come_41 : decode (am_b mX6_come) 41 = .ok (.bipush (-6), 2) := by decide +kernel
theorem dX6_come_43 : decode (am_b mX6_come) 43 = .ok (.invokevirtual 82, 3) := by decide +kernel
theorem dX6_come_46 : decode (am_b mX6_come) 46 = .ok (.aload_n 0, 1) := by decide +kernel
theorem dX6_come_47 : decode (am_b mX6_come) 47 = .ok (.getfield 10, 3) := by decide +kernel
theorem dX6_come_50 : decode (am_b mX6_come) 50 = .ok (.getfield 79, 3) := by decide +kernel
theorem dX6_come_53 : decode (am_b mX6_come) 53 = .ok (.iconst 1, 1) := by decide +kernel
theorem dX6_come_54 : decode (am_b mX6_come) 54 = .ok (.isub, 1) := by decide +kernel
theorem dX6_come_55 : decode (am_b mX6_come) 55 = .ok (.ireturn, 1) := by decide +kernel
theorem dX6_go_0 : decode (am_b mX6_go) 0 = .ok (.aload_n 0, 1) := by decide +kernel
theorem dX6_go_1 : decode (am_b mX6_go) 1 = .ok (.getfield 10, 3) := by decide +kernel
theorem dX6_go_4 : decode (am_b mX6_go) 4 = .ok (.iload_n 1, 1) := by decide +kernel
theorem dX6_go_5 : decode (am_b mX6_go) 5 = .ok (.invokevirtual 85, 3) := by decide +kernel
theorem dX6_go_8 : decode (am_b mX6_go) 8 = .ok (.ifCond .ne 5, 3) := by decide +kernel
theorem dX6_go_11 : decode (am_b mX6_go) 11 = .ok (.iconst (-1), 1) := by decide +kernel
theorem dX6_go_12 : decode (am_b mX6_go) 12 = .ok (.ireturn, 1) := by decide +kernel
theorem dX6_go_13 : decode (am_b mX6_go) 13 = .ok (.aload_n 0, 1) := by decide +kernel
theorem dX6_go_14 : decode (am_b mX6_go) 14 = .ok (.getfield 36, 3) := by decide +kernel
theorem dX6_go_17 : decode (am_b mX6_go) 17 = .ok (.aload_n 0, 1) := by decide +kernel
theorem dX6_go_18 : decode (am_b mX6_go) 18 = .ok (.getfield 10, 3) := by decide +kernel
theorem dX6_go_21 : decode (am_b mX6_go) 21 = .ok (.invokevirtual 48, 3) := by decide +kernel
theorem dX6_go_24 : decode (am_b mX6_go) 24 = .ok (.aload_n 0, 1) := by decide +kernel
theorem dX6_go_25 : decode (am_b mX6_go) 25 = .ok (.getfield 10, 3) := by decide +kernel
theorem dX6_go_28 : decode (am_b mX6_go) 28 = .ok (.getfield 88, 3) := by decide +kernel
theorem dX6_go_31 : decode (am_b mX6_go) 31 = .ok (.iload_n 1, 1) := by decide +kernel
theorem dX6_go_32 : decode (am_b mX6_go) 32 = .ok (.iaload, 1) := by decide +kernel
theorem dX6_go_33 : decode (am_b mX6_go) 33 = .ok (.istore_n 2, 1) := by decide +kernel
theorem dX6_go_34 : decode (am_b mX6_go) 34 = .ok (.aload_n 0, 1) := by decide +kernel
theorem dX6_go_35 : decode (am_b mX6_go) 35 = .ok (.getfield 10, 3) := by decide +kernel
theorem dX6_go_38 : decode (am_b mX6_go) 38 = .ok (.iload_n 1, 1) := by decide +kernel
theorem dX6_go_39 : decode (am_b mX6_go) 39 = .ok (.invokevirtual 91, 3) := by decide +kernel
theorem dX6_go_42 : decode (am_b mX6_go) 42 = .ok (.iload_n 2, 1) := by decide +kernel
theorem dX6_go_43 : decode (am_b mX6_go) 43 = .ok (.ireturn, 1) := by decide +kernel
theorem dX6_height_0 : decode (am_b mX6_height) 0 = .ok (.aload_n 0, 1) := by decide +kernel
theorem dX6_height_1 : decode (am_b mX6_height) 1 = .ok (.getfield 10, 3) := by decide +kernel
theorem dX6_height_4 : decode (am_b mX6_height) 4 = .ok (.iload_n 1, 1) := by decide +kernel
theorem dX6_height_5 : decode (am_b mX6_height) 5 = .ok (.invokevirtual 85, 3) := by decide +kernel
theorem dX6_height_8 : decode (am_b mX6_height) 8 = .ok (.ifCond .ne 5, 3) := by decide +kernel
theorem dX6_height_11 : decode (am_b mX6_height) 11 = .ok (.iconst (-1), 1) := by decide +kernel
theorem dX6_height_12 : decode (am_b mX6_height) 12 = .ok (.ireturn, 1) := by decide +kernel
theorem dX6_height_13 : decode (am_b mX6_height) 13 = .ok (.iload_n 2, 1) := by decide +kernel
theorem dX6_height_14 : decode (am_b mX6_height) 14 = .ok (.invokestatic 76, 3) := by decide +kernel
theorem dX6_height_17 : decode (am_b mX6_height) 17 = .ok (.ifCond .ne 6, 3) := by decide +kernel
theorem dX6_height_20 : decode (am_b mX6_height) 20 = .ok (.bipush (-2), 2) := by decide +kernel
theorem dX6_height_22 : decode (am_b mX6_height) 22 = .ok (.ireturn, 1) := by decide +kernel
theorem dX6_height_23 : decode (am_b mX6_height) 23 = .ok (.aload_n 0, 1) := by decide +kernel
theorem dX6_height_24 : decode (am_b mX6_height) 24 = .ok (.getfield 36, 3) := by decide +kernel
theorem dX6_height_27 : decode (am_b mX6_height) 27 = .ok (.aload_n 0, 1) := by decide +kernel
theorem dX6_height_28 : decode (am_b mX6_height) 28 = .ok (.getfield 10, 3) := by decide +kernel
theorem dX6_height_31 : decode (am_b mX6_height) 31 = .ok (.invokevirtual 48, 3) := by decide +kernel
theorem dX6_height_34 : decode (am_b mX6_height) 34 = .ok (.aload_n 0, 1) := by decide +kernel
theorem dX6_height_35 : decode (am_b mX6_height) 35 = .ok (.getfield 10, 3) := by decide +kernel
theorem dX6_height_38 : decode (am_b mX6_height) 38 = .ok (.getfield 95, 3) := by decide +kernel
theorem dX6_height_41 : decode (am_b mX6_height) 41 = .ok (.iload_n 1, 1) := by decide +kernel
theorem dX6_height_42 : decode (am_b mX6_height) 42 = .ok (.iaload, 1) := by decide +kernel
theorem dX6_height_43 : decode (am_b mX6_height) 43 = .ok (.istore_n 3, 1) := by decide +kernel
theorem dX6_height_44 : decode (am_b mX6_height) 44 = .ok (.aload_n 0, 1) := by decide +kernel
theorem dX6_height_45 : decode (am_b mX6_height) 45 = .ok (.getfield 10, 3) := by decide +kernel
theorem dX6_height_48 : decode (am_b mX6_height) 48 = .ok (.getfield 95, 3) := by decide +kernel
theorem dX6_height_51 : decode (am_b mX6_height) 51 = .ok (.iload_n 1, 1) := by decide +kernel
theorem dX6_height_52 : decode (am_b mX6_height) 52 = .ok (.iload_n 2, 1) := by decide +kernel
theorem dX6_height_53 : decode (am_b mX6_height) 53 = .ok (.iastore, 1) := by decide +kernel
theorem dX6_height_54 : decode (am_b mX6_height) 54 = .ok (.iload_n 3, 1) := by decide +kernel
theorem dX6_height_55 : decode (am_b mX6_height) 55 = .ok (.ireturn, 1) := by decide +kernel
theorem dX6_pitch_0 : decode (am_b mX6_pitch) 0 = .ok (.iload_n 1, 1) := by decide +kernel
theorem dX6_pitch_1 : decode (am_b mX6_pitch) 1 = .ok (.invokestatic 60, 3) := by decide +kernel
theorem dX6_pitch_4 : decode (am_b mX6_pitch) 4 = .ok (.ifCond .ne 5, 3) := by decide +kernel
theorem dX6_pitch_7 : decode (am_b mX6_pitch) 7 = .ok (.iconst (-1), 1) := by decide +kernel
theorem dX6_pitch_8 : decode (am_b mX6_pitch) 8 = .ok (.ireturn, 1) := by decide +kernel
theorem dX6_pitch_9 : decode (am_b mX6_pitch) 9 = .ok (.iload_n 2, 1) := by decide +kernel
theorem dX6_pitch_10 : decode (am_b mX6_pitch) 10 = .ok (.tableswitch 90 0 2 #[26, 43, 52], 26) := by decide +kernel
theorem dX6_pitch_36 : decode (am_b mX6_pitch) 36 = .ok (.aload_n 0, 1) := by decide +kernel
theorem dX6_pitch_37 : decode (am_b mX6_pitch) 37 = .ok (.getfield 10, 3) := by decide +kernel
theorem dX6_pitch_40 : decode (am_b mX6_pitch) 40 = .ok (.iload_n 1, 1) := by decide +kernel
theorem dX6_pitch_41 : decode (am_b mX6_pitch) 41 = .ok (.invokevirtual 64, 3) := by decide +kernel
theorem dX6_pitch_44 : decode (am_b mX6_pitch) 44 = .ok (.ifCond .eq 7, 3) := by decide +kernel
theorem dX6_pitch_47 : decode (am_b mX6_pitch) 47 = .ok (.iconst 1, 1) := by decide +kernel
theorem dX6_pitch_48 : decode (am_b mX6_pitch) 48 = .ok (.goto 4, 3) := by decide +kernel
theorem dX6_pitch_51 : decode (am_b mX6_pitch) 51 = .ok (.iconst 0, 1) := by decide +kernel
theorem dX6_pitch_52 : decode (am_b mX6_pitch) 52 = .ok (.ireturn, 1) := by decide +kernel
theorem dX6_pitch_53 : decode (am_b mX6_pitch) 53 = .ok (.aload_n 0, 1) := by decide +kernel
theorem dX6_pitch_54 : decode (am_b mX6_pitch) 54 = .ok (.getfield 10, 3) := by decide +kernel
theorem dX6_pitch_57 : decode (am_b mX6_pitch) 57 = .ok (.iload_n 1, 1) := by decide +kernel
theorem dX6_pitch_58 : decode (am_b mX6_pitch) 58 = .ok (.invokevirtual 155, 3) := by decide +kernel
theorem dX6_pitch_61 : decode (am_b mX6_pitch) 61 = .ok (.ireturn, 1) := by decide +kernel
theorem dX6_pitch_62 : decode (am_b mX6_pitch) 62 = .ok (.aload_n 0, 1) := by decide +kernel
theorem dX6_pitch_63 : decode (am_b mX6_pitch) 63 = .ok (.getfield 22, 3) := by decide +kernel
theorem dX6_pitch_66 : decode (am_b mX6_pitch) 66 = .ok (.aload_n 0, 1) := by decide +kernel
theorem dX6_pitch_67 : decode (am_b mX6_pitch) 67 = .ok (.getfield 10, 3) := by decide +kernel
theorem dX6_pitch_70 : decode (am_b mX6_pitch) 70 = .ok (.bipush (-6), 2) := by decide +kernel
theorem dX6_pitch_72 : decode (am_b mX6_pitch) 72 = .ok (.invokevirtual 137, 3) := by decide +kernel
theorem dX6_pitch_75 : decode (am_b mX6_pitch) 75 = .ok (.aload_n 0, 1) := by decide +kernel
theorem dX6_pitch_76 : decode (am_b mX6_pitch) 76 = .ok (.getfield 22, 3) := by decide +kernel
theorem dX6_pitch_79 : decode (am_b mX6_pitch) 79 = .ok (.iload_n 1, 1) := by decide +kernel
theorem dX6_pitch_80 : decode (am_b mX6_pitch) 80 = .ok (.aload_n 0, 1) := by decide +kernel
theorem dX6_pitch_81 : decode (am_b mX6_pitch) 81 = .ok (.getfield 10, 3) := by decide +kernel
theorem dX6_pitch_84 : decode (am_b mX6_pitch) 84 = .ok (.iconst 4, 1) := by decide +kernel
theorem dX6_pitch_85 : decode (am_b mX6_pitch) 85 = .ok (.invokevirtual 52, 3) := by decide +kernel
theorem dX6_pitch_88 : decode (am_b mX6_pitch) 88 = .ok (.invokevirtual 158, 3) := by decide +kernel
theorem dX6_pitch_91 : decode (am_b mX6_pitch) 91 = .ok (.ifCond .eq 7, 3) := by decide +kernel
theorem dX6_pitch_94 : decode (am_b mX6_pitch) 94 = .ok (.iconst 1, 1) := by decide +kernel
theorem dX6_pitch_95 : decode (am_b mX6_pitch) 95 = .ok (.goto 4, 3) := by decide +kernel
theorem dX6_pitch_98 : decode (am_b mX6_pitch) 98 = .ok (.iconst 0, 1) := by decide +kernel
theorem dX6_pitch_99 : decode (am_b mX6_pitch) 99 = .ok (.ireturn, 1) := by decide +kernel
theorem dX6_pitch_100 : decode (am_b mX6_pitch) 100 = .ok (.bipush (-2), 2) := by decide +kernel
theorem dX6_pitch_102 : decode (am_b mX6_pitch) 102 = .ok (.ireturn, 1) := by decide +kernel
theorem dX6_roof_0 : decode (am_b mX6_roof) 0 = .ok (.iload_n 1, 1) := by decide +kernel
theorem dX6_roof_1 : decode (am_b mX6_roof) 1 = .ok (.invokestatic 60, 3) := by decide +kernel
theorem dX6_roof_4 : decode (am_b mX6_roof) 4 = .ok (.ifCond .ne 5, 3) := by decide +kernel
theorem dX6_roof_7 : decode (am_b mX6_roof) 7 = .ok (.iconst (-1), 1) := by decide +kernel
theorem dX6_roof_8 : decode (am_b mX6_roof) 8 = .ok (.ireturn, 1) := by decide +kernel
theorem dX6_roof_9 : decode (am_b mX6_roof) 9 = .ok (.aload_n 0, 1) := by decide +kernel
theorem dX6_roof_10 : decode (am_b mX6_roof) 10 = .ok (.getfield 10, 3) := by decide +kernel
theorem dX6_roof_13 : decode (am_b mX6_roof) 13 = .ok (.iload_n 1, 1) := by decide +kernel
theorem dX6_roof_14 : decode (am_b mX6_roof) 14 = .ok (.invokevirtual 64, 3) := by decide +kernel
theorem dX6_roof_17 : decode (am_b mX6_roof) 17 = .ok (.iload_n 2, 1) := by decide +kernel
theorem dX6_roof_18 : decode (am_b mX6_roof) 18 = .ok (.if_icmp .ne 6, 3) := by decide +kernel
theorem dX6_roof_21 : decode (am_b mX6_roof) 21 = .ok (.bipush (-5), 2) := by decide +kernel
theorem dX6_roof_23 : decode (am_b mX6_roof) 23 = .ok (.ireturn, 1) := by decide +kernel
theorem dX6_roof_24 : decode (am_b mX6_roof) 24 = .ok (.aload_n 0, 1) := by decide +kernel
theorem dX6_roof_25 : decode (am_b mX6_roof) 25 = .ok (.getfield 36, 3) := by decide +kernel
theorem dX6_roof_28 : decode (am_b mX6_roof) 28 = .ok (.aload_n 0, 1) := by decide +kernel
theorem dX6_roof_29 : decode (am_b mX6_roof) 29 = .ok (.getfield 10, 3) := by decide +kernel
theorem dX6_roof_32 : decode (am_b mX6_roof) 32 = .ok (.invokevirtual 48, 3) := by decide +kernel
theorem dX6_roof_35 : decode (am_b mX6_roof) 35 = .ok (.aload_n 0, 1) := by decide +kernel
theorem dX6_roof_36 : decode (am_b mX6_roof) 36 = .ok (.getfield 10, 3) := by decide +kernel
theorem dX6_roof_39 : decode (am_b mX6_roof) 39 = .ok (.dup, 1) := by decide +kernel
theorem dX6_roof_40 : decode (am_b mX6_roof) 40 = .ok (.getfield 67, 3) := by decide +kernel
theorem dX6_roof_43 : decode (am_b mX6_roof) 43 = .ok (.iconst 1, 1) := by decide +kernel
theorem dX6_roof_44 : decode (am_b mX6_roof) 44 = .ok (.iload_n 1, 1) := by decide +kernel
theorem dX6_roof_45 : decode (am_b mX6_roof) 45 = .ok (.ishl, 1) := by decide +kernel
theorem dX6_roof_46 : decode (am_b mX6_roof) 46 = .ok (.ixor, 1) := by decide +kernel
theorem dX6_roof_47 : decode (am_b mX6_roof) 47 = .ok (.putfield 67, 3) := by decide +kernel
theorem dX6_roof_50 : decode (am_b mX6_roof) 50 = .ok (.aload_n 0, 1) := by decide +kernel
theorem dX6_roof_51 : decode (am_b mX6_roof) 51 = .ok (.getfield 10, 3) := by decide +kernel
theorem dX6_roof_54 : decode (am_b mX6_roof) 54 = .ok (.getfield 67, 3) := by decide +kernel
theorem dX6_roof_57 : decode (am_b mX6_roof) 57 = .ok (.invokestatic 71, 3) := by decide +kernel
theorem dX6_roof_60 : decode (am_b mX6_roof) 60 = .ok (.ireturn, 1) := by decide +kernel
theorem dX6_set_0 : decode (am_b mX6_set) 0 = .ok (.iload_n 1, 1) := by decide +kernel
theorem dX6_set_1 : decode (am_b mX6_set) 1 = .ok (.ifCond .lt 11, 3) := by decide +kernel
theorem dX6_set_4 : decode (am_b mX6_set) 4 = .ok (.iload_n 1, 1) := by decide +kernel
theorem dX6_set_5 : decode (am_b mX6_set) 5 = .ok (.getstatic 44, 3) := by decide +kernel
theorem dX6_set_8 : decode (am_b mX6_set) 8 = .ok (.arraylength, 1) := by decide +kernel
theorem dX6_set_9 : decode (am_b mX6_set) 9 = .ok (.if_icmp .lt 6, 3) := by decide +kernel
theorem dX6_set_12 : decode (am_b mX6_set) 12 = .ok (.bipush (-2), 2) := by decide +kernel
theorem dX6_set_14 : decode (am_b mX6_set) 14 = .ok (.ireturn, 1) := by decide +kernel
theorem dX6_set_15 : decode (am_b mX6_set) 15 = .ok (.iload_n 2, 1) := by decide +kernel
theorem dX6_set_16 : decode (am_b mX6_set) 16 = .ok (.ifCond .lt 12, 3) := by decide +kernel
theorem dX6_set_19 : decode (am_b mX6_set) 19 = .ok (.iload_n 2, 1) := by decide +kernel
theorem dX6_set_20 : decode (am_b mX6_set) 20 = .ok (.getstatic 44, 3) := by decide +kernel
theorem dX6_set_23 : decode (am_b mX6_set) 23 = .ok (.iload_n 1, 1) := by decide +kernel
theorem dX6_set_24 : decode (am_b mX6_set) 24 = .ok (.iaload, 1) := by decide +kernel
theorem dX6_set_25 : decode (am_b mX6_set) 25 = .ok (.if_icmp .le 6, 3) := by decide +kernel
theorem dX6_set_28 : decode (am_b mX6_set) 28 = .ok (.bipush (-2), 2) := by decide +kernel
theorem dX6_set_30 : decode (am_b mX6_set) 30 = .ok (.ireturn, 1) := by decide +kernel
theorem dX6_set_31 : decode (am_b mX6_set) 31 = .ok (.aload_n 0, 1) := by decide +kernel
theorem dX6_set_32 : decode (am_b mX6_set) 32 = .ok (.getfield 36, 3) := by decide +kernel
theorem dX6_set_35 : decode (am_b mX6_set) 35 = .ok (.aload_n 0, 1) := by decide +kernel
theorem dX6_set_36 : decode (am_b mX6_set) 36 = .ok (.getfield 10, 3) := by decide +kernel
theorem dX6_set_39 : decode (am_b mX6_set) 39 = .ok (.invokevirtual 48, 3) := by decide +kernel
theorem dX6_set_42 : decode (am_b mX6_set) 42 = .ok (.aload_n 0, 1) := by decide +kernel
theorem dX6_set_43 : decode (am_b mX6_set) 43 = .ok (.getfield 10, 3) := by decide +kernel
theorem dX6_set_46 : decode (am_b mX6_set) 46 = .ok (.iload_n 1, 1) := by decide +kernel
theorem dX6_set_47 : decode (am_b mX6_set) 47 = .ok (.invokevirtual 52, 3) := by decide +kernel
theorem dX6_set_50 : decode (am_b mX6_set) 50 = .ok (.istore_n 3, 1) := by decide +kernel
theorem dX6_set_51 : decode (am_b mX6_set) 51 = .ok (.aload_n 0, 1) := by decide +kernel
theorem dX6_set_52 : decode (am_b mX6_set) 52 = .ok (.getfield 10, 3) := by decide +kernel
theorem dX6_set_55 : decode (am_b mX6_set) 55 = .ok (.iload_n 1, 1) := by decide +kernel
theorem dX6_set_56 : decode (am_b mX6_set) 56 = .ok (.iload_n 2, 1) := by decide +kernel
theorem dX6_set_57 : decode (am_b mX6_set) 57 = .ok (.invokevirtual 56, 3) := by decide +kernel
theorem dX6_set_60 : decode (am_b mX6_set) 60 = .ok (.iload_n 3, 1) := by decide +kernel
theorem dX6_set_61 : decode (am_b mX6_set) 61 = .ok (.ireturn, 1) := by decide +kernel
theorem dX6_shuffle_0 : decode (am_b mX6_shuffle) 0 = .ok (.iload_n 1, 1) := by decide +kernel
theorem dX6_shuffle_1 : decode (am_b mX6_shuffle) 1 = .ok (.ifCond .ge 6, 3) := by decide +kernel
theorem dX6_shuffle_4 : decode (am_b mX6_shuffle) 4 = .ok (.bipush (-2), 2) := by decide +kernel
theorem dX6_shuffle_6 : decode (am_b mX6_shuffle) 6 = .ok (.ireturn, 1) := by decide +kernel
theorem dX6_shuffle_7 : decode (am_b mX6_shuffle) 7 = .ok (.aload_n 0, 1) := by decide +kernel
theorem dX6_shuffle_8 : decode (am_b mX6_shuffle) 8 = .ok (.getfield 36, 3) := by decide +kernel
theorem dX6_shuffle_11 : decode (am_b mX6_shuffle) 11 = .ok (.aload_n 0, 1) := by decide +kernel
theorem dX6_shuffle_12 : decode (am_b mX6_shuffle) 12 = .ok (.getfield 10, 3) := by decide +kernel
theorem dX6_shuffle_15 : decode (am_b mX6_shuffle) 15 = .ok (.invokevirtual 48, 3) := by decide +kernel
theorem dX6_shuffle_18 : decode (am_b mX6_shuffle) 18 = .ok (.aload_n 0, 1) := by decide +kernel
theorem dX6_shuffle_19 : decode (am_b mX6_shuffle) 19 = .ok (.getfield 10, 3) := by decide +kernel
theorem dX6_shuffle_22 : decode (am_b mX6_shuffle) 22 = .ok (.getfield 105, 3) := by decide +kernel
theorem dX6_shuffle_25 : decode (am_b mX6_shuffle) 25 = .ok (.l2i, 1) := by decide +kernel
theorem dX6_shuffle_26 : decode (am_b mX6_shuffle) 26 = .ok (.istore_n 2, 1) := by decide +kernel
theorem dX6_shuffle_27 : decode (am_b mX6_shuffle) 27 = .ok (.aload_n 0, 1) := by decide +kernel
theorem dX6_shuffle_28 : decode (am_b mX6_shuffle) 28 = .ok (.getfield 10, 3) := by decide +kernel
theorem dX6_shuffle_31 : decode (am_b mX6_shuffle) 31 = .ok (.iload_n 1, 1) := by decide +kernel
theorem dX6_shuffle_32 : decode (am_b mX6_shuffle) 32 = .ok (.i2l, 1) := by decide +kernel
theorem dX6_shuffle_33 : decode (am_b mX6_shuffle) 33 = .ok (.putfield 105, 3) := by decide +kernel
theorem dX6_shuffle_36 : decode (am_b mX6_shuffle) 36 = .ok (.iload_n 2, 1) := by decide +kernel
theorem dX6_shuffle_37 : decode (am_b mX6_shuffle) 37 = .ok (.ireturn, 1) := by decide +kernel
theorem dX6_stoppingFrom_0 : decode (am_b mX6_stoppingFrom) 0 = .ok (.aload_n 0, 1) := by decide +kernel
theorem dX6_stoppingFrom_1 : decode (am_b mX6_stoppingFrom) 1 = .ok (.getfield 22, 3) := by decide +kernel
theorem dX6_stoppingFrom_4 : decode (am_b mX6_stoppingFrom) 4 = .ok (.aload_n 0, 1) := by decide +kernel
theorem dX6_stoppingFrom_5 : decode (am_b mX6_stoppingFrom) 5 = .ok (.getfield 10, 3) := by decide +kernel
theorem dX6_stoppingFrom_8 : decode (am_b mX6_stoppingFrom) 8 = .ok (.bipush (-6), 2) := by decide +kernel
theorem dX6_stoppingFrom_10 : decode (am_b mX6_stoppingFrom) 10 = .ok (.invokevirtual 137, 3) := by decide +kernel
theorem dX6_stoppingFrom_13 : decode (am_b mX6_stoppingFrom) 13 = .ok (.aload_n 0, 1) := by decide +kernel
theorem dX6_stoppingFrom_14 : decode (am_b mX6_stoppingFrom) 14 = .ok (.getfield 22, 3) := by decide +kernel
theorem dX6_stoppingFrom_17 : decode (am_b mX6_stoppingFrom) 17 = .ok (.iload_n 1, 1) := by decide +kernel
theorem dX6_stoppingFrom_18 : decode (am_b mX6_stoppingFrom) 18 = .ok (.invokevirtual 168, 3) := by decide +kernel
theorem dX6_stoppingFrom_21 : decode (am_b mX6_stoppingFrom) 21 = .ok (.aload_n 0, 1) := by decide +kernel
theorem dX6_stoppingFrom_22 : decode (am_b mX6_stoppingFrom) 22 = .ok (.getfield 10, 3) := by decide +kernel
theorem dX6_stoppingFrom_25 : decode (am_b mX6_stoppingFrom) 25 = .ok (.getfield 102, 3) := by decide +kernel
theorem dX6_stoppingFrom_28 : decode (am_b mX6_stoppingFrom) 28 = .ok (.iload_n 2, 1) := by decide +kernel
theorem dX6_stoppingFrom_29 : decode (am_b mX6_stoppingFrom) 29 = .ok (.iaload, 1) := by decide +kernel
theorem dX6_stoppingFrom_30 : decode (am_b mX6_stoppingFrom) 30 = .ok (.aload_n 0, 1) := by decide +kernel
theorem dX6_stoppingFrom_31 : decode (am_b mX6_stoppingFrom) 31 = .ok (.getfield 10, 3) := by decide +kernel
theorem dX6_stoppingFrom_34 : decode (am_b mX6_stoppingFrom) 34 = .ok (.getfield 95, 3) := by decide +kernel
theorem dX6_stoppingFrom_37 : decode (am_b mX6_stoppingFrom) 37 = .ok (.iload_n 2, 1) := by decide +kernel
theorem dX6_stoppingFrom_38 : decode (am_b mX6_stoppingFrom) 38 = .ok (.iaload, 1) := by decide +kernel
theorem dX6_stoppingFrom_39 : decode (am_b mX6_stoppingFrom) 39 = .ok (.invokevirtual 215, 3) := by decide +kernel
theorem dX6_stoppingFrom_42 : decode (am_b mX6_stoppingFrom) 42 = .ok (.ireturn, 1) := by decide +kernel
theorem dX6_stoppingNowhere_0 : decode (am_b mX6_stoppingNowhere) 0 = .ok (.aload_n 0, 1) := by decide +kernel
theorem dX6_stoppingNowhere_1 : decode (am_b mX6_stoppingNowhere) 1 = .ok (.getfield 22, 3) := by decide +kernel
theorem dX6_stoppingNowhere_4 : decode (am_b mX6_stoppingNowhere) 4 = .ok (.aload_n 0, 1) := by decide +kernel
theorem dX6_stoppingNowhere_5 : decode (am_b mX6_stoppingNowhere) 5 = .ok (.getfield 10, 3) := by decide +kernel
theorem dX6_stoppingNowhere_8 : decode (am_b mX6_stoppingNowhere) 8 = .ok (.bipush (-6), 2) := by decide +kernel
theorem dX6_stoppingNowhere_10 : decode (am_b mX6_stoppingNowhere) 10 = .ok (.invokevirtual 137, 3) := by decide +kernel
theorem dX6_stoppingNowhere_13 : decode (am_b mX6_stoppingNowhere) 13 = .ok (.aload_n 0, 1) := by decide +kernel
theorem dX6_stoppingNowhere_14 : decode (am_b mX6_stoppingNowhere) 14 = .ok (.getfield 22, 3) := by decide +kernel
theorem dX6_stoppingNowhere_17 : decode (am_b mX6_stoppingNowhere) 17 = .ok (.getfield 218, 3) := by decide +kernel
theorem dX6_stoppingNowhere_20 : decode (am_b mX6_stoppingNowhere) 20 = .ok (.getfield 222, 3) := by decide +kernel
theorem dX6_stoppingNowhere_23 : decode (am_b mX6_stoppingNowhere) 23 = .ok (.aload_n 0, 1) := by decide +kernel
theorem dX6_stoppingNowhere_24 : decode (am_b mX6_stoppingNowhere) 24 = .ok (.getfield 22, 3) := by decide +kernel
theorem dX6_stoppingNowhere_27 : decode (am_b mX6_stoppingNowhere) 27 = .ok (.getfield 225, 3) := by decide +kernel
theorem dX6_stoppingNowhere_30 : decode (am_b mX6_stoppingNowhere) 30 = .ok (.getfield 222, 3) := by decide +kernel
theorem dX6_stoppingNowhere_33 : decode (am_b mX6_stoppingNowhere) 33 = .ok (.iadd, 1) := by decide +kernel
theorem dX6_stoppingNowhere_34 : decode (am_b mX6_stoppingNowhere) 34 = .ok (.ireturn, 1) := by decide +kernel
theorem dX6_undo_0 : decode (am_b mX6_undo) 0 = .ok (.aload_n 0, 1) := by decide +kernel
theorem dX6_undo_1 : decode (am_b mX6_undo) 1 = .ok (.getfield 36, 3) := by decide +kernel
theorem dX6_undo_4 : decode (am_b mX6_undo) 4 = .ok (.getfield 192, 3) := by decide +kernel
theorem dX6_undo_7 : decode (am_b mX6_undo) 7 = .ok (.ifCond .ne 6, 3) := by decide +kernel
theorem dX6_undo_10 : decode (am_b mX6_undo) 10 = .ok (.bipush (-5), 2) := by decide +kernel
theorem dX6_undo_12 : decode (am_b mX6_undo) 12 = .ok (.ireturn, 1) := by decide +kernel
theorem dX6_undo_13 : decode (am_b mX6_undo) 13 = .ok (.aload_n 0, 1) := by decide +kernel
theorem dX6_undo_14 : decode (am_b mX6_undo) 14 = .ok (.getfield 36, 3) := by decide +kernel
theorem dX6_undo_17 : decode (am_b mX6_undo) 17 = .ok (.aload_n 0, 1) := by decide +kernel
theorem dX6_undo_18 : decode (am_b mX6_undo) 18 = .ok (.getfield 10, 3) := by decide +kernel
theorem dX6_undo_21 : decode (am_b mX6_undo) 21 = .ok (.invokevirtual 212, 3) := by decide +kernel
theorem dX6_undo_24 : decode (am_b mX6_undo) 24 = .ok (.aload_n 0, 1) := by decide +kernel
theorem dX6_undo_25 : decode (am_b mX6_undo) 25 = .ok (.getfield 36, 3) := by decide +kernel
theorem dX6_undo_28 : decode (am_b mX6_undo) 28 = .ok (.getfield 192, 3) := by decide +kernel
theorem dX6_undo_31 : decode (am_b mX6_undo) 31 = .ok (.ireturn, 1) := by decide +kernel
theorem dX6_bestHeight_0 : decode (am_b mX6_bestHeight) 0 = .ok (.aload_n 0, 1) := by decide +kernel
theorem dX6_bestHeight_1 : decode (am_b mX6_bestHeight) 1 = .ok (.getfield 10, 3) := by decide +kernel
theorem dX6_bestHeight_4 : decode (am_b mX6_bestHeight) 4 = .ok (.iload_n 1, 1) := by decide +kernel
theorem dX6_bestHeight_5 : decode (am_b mX6_bestHeight) 5 = .ok (.invokevirtual 85, 3) := by decide +kernel
theorem dX6_bestHeight_8 : decode (am_b mX6_bestHeight) 8 = .ok (.ifCond .ne 5, 3) := by decide +kernel
theorem dX6_bestHeight_11 : decode (am_b mX6_bestHeight) 11 = .ok (.iconst (-1), 1) := by decide +kernel
theorem dX6_bestHeight_12 : decode (am_b mX6_bestHeight) 12 = .ok (.ireturn, 1) := by decide +kernel
theorem dX6_bestHeight_13 : decode (am_b mX6_bestHeight) 13 = .ok (.aload_n 0, 1) := by decide +kernel
theorem dX6_bestHeight_14 : decode (am_b mX6_bestHeight) 14 = .ok (.getfield 10, 3) := by decide +kernel
theorem dX6_bestHeight_17 : decode (am_b mX6_bestHeight) 17 = .ok (.iload_n 1, 1) := by decide +kernel
theorem dX6_bestHeight_18 : decode (am_b mX6_bestHeight) 18 = .ok (.invokevirtual 161, 3) := by decide +kernel
theorem dX6_bestHeight_21 : decode (am_b mX6_bestHeight) 21 = .ok (.ifCond .ne 6, 3) := by decide +kernel
theorem dX6_bestHeight_24 : decode (am_b mX6_bestHeight) 24 = .ok (.bipush (-5), 2) := by decide +kernel
theorem dX6_bestHeight_26 : decode (am_b mX6_bestHeight) 26 = .ok (.ireturn, 1) := by decide +kernel
theorem dX6_bestHeight_27 : decode (am_b mX6_bestHeight) 27 = .ok (.aload_n 0, 1) := by decide +kernel
theorem dX6_bestHeight_28 : decode (am_b mX6_bestHeight) 28 = .ok (.getfield 22, 3) := by decide +kernel
theorem dX6_bestHeight_31 : decode (am_b mX6_bestHeight) 31 = .ok (.aload_n 0, 1) := by decide +kernel
theorem dX6_bestHeight_32 : decode (am_b mX6_bestHeight) 32 = .ok (.getfield 10, 3) := by decide +kernel
theorem dX6_bestHeight_35 : decode (am_b mX6_bestHeight) 35 = .ok (.iload_n 1, 1) := by decide +kernel
theorem dX6_bestHeight_36 : decode (am_b mX6_bestHeight) 36 = .ok (.invokevirtual 137, 3) := by decide +kernel
theorem dX6_bestHeight_39 : decode (am_b mX6_bestHeight) 39 = .ok (.iconst 1, 1) := by decide +kernel
theorem dX6_bestHeight_40 : decode (am_b mX6_bestHeight) 40 = .ok (.istore_n 2, 1) := by decide +kernel
theorem dX6_bestHeight_41 : decode (am_b mX6_bestHeight) 41 = .ok (.aload_n 0, 1) := by decide +kernel
theorem dX6_bestHeight_42 : decode (am_b mX6_bestHeight) 42 = .ok (.getfield 22, 3) := by decide +kernel
theorem dX6_bestHeight_45 : decode (am_b mX6_bestHeight) 45 = .ok (.aload_n 0, 1) := by decide +kernel
theorem dX6_bestHeight_46 : decode (am_b mX6_bestHeight) 46 = .ok (.getfield 10, 3) := by decide +kernel
theorem dX6_bestHeight_49 : decode (am_b mX6_bestHeight) 49 = .ok (.getfield 102, 3) := by decide +kernel
theorem dX6_bestHeight_52 : decode (am_b mX6_bestHeight) 52 = .ok (.iload_n 1, 1) := by decide +kernel
theorem dX6_bestHeight_53 : decode (am_b mX6_bestHeight) 53 = .ok (.iaload, 1) := by decide +kernel
theorem dX6_bestHeight_54 : decode (am_b mX6_bestHeight) 54 = .ok (.iload_n 2, 1) := by decide +kernel
theorem dX6_bestHeight_55 : decode (am_b mX6_bestHeight) 55 = .ok (.invokevirtual 141, 3) := by decide +kernel
theorem dX6_bestHeight_58 : decode (am_b mX6_bestHeight) 58 = .ok (.istore_n 3, 1) := by decide +kernel
theorem dX6_bestHeight_59 : decode (am_b mX6_bestHeight) 59 = .ok (.iconst 2, 1) := by decide +kernel
theorem dX6_bestHeight_60 : decode (am_b mX6_bestHeight) 60 = .ok (.istore 4, 2) := by decide +kernel
theorem dX6_bestHeight_62 : decode (am_b mX6_bestHeight) 62 = .ok (.iload 4, 2) := by decide +kernel
theorem dX6_bestHeight_64 : decode (am_b mX6_bestHeight) 64 = .ok (.bipush 9, 2) := by decide +kernel
theorem dX6_bestHeight_66 : decode (am_b mX6_bestHeight) 66 = .ok (.if_icmp .gt 41, 3) := by decide +kernel
theorem dX6_bestHeight_69 : decode (am_b mX6_bestHeight) 69 = .ok (.aload_n 0, 1) := by decide +kernel
theorem dX6_bestHeight_70 : decode (am_b mX6_bestHeight) 70 = .ok (.getfield 22, 3) := by decide +kernel
theorem dX6_bestHeight_73 : decode (am_b mX6_bestHeight) 73 = .ok (.aload_n 0, 1) := by decide +kernel
theorem dX6_bestHeight_74 : decode (am_b mX6_bestHeight) 74 = .ok (.getfield 10, 3) := by decide +kernel
theorem dX6_bestHeight_77 : decode (am_b mX6_bestHeight) 77 = .ok (.getfield 102, 3) := by decide +kernel
theorem dX6_bestHeight_80 : decode (am_b mX6_bestHeight) 80 = .ok (.iload_n 1, 1) := by decide +kernel
theorem dX6_bestHeight_81 : decode (am_b mX6_bestHeight) 81 = .ok (.iaload, 1) := by decide +kernel
theorem dX6_bestHeight_82 : decode (am_b mX6_bestHeight) 82 = .ok (.iload 4, 2) := by decide +kernel
theorem dX6_bestHeight_84 : decode (am_b mX6_bestHeight) 84 = .ok (.invokevirtual 141, 3) := by decide +kernel
theorem dX6_bestHeight_87 : decode (am_b mX6_bestHeight) 87 = .ok (.istore 5, 2) := by decide +kernel
theorem dX6_bestHeight_89 : decode (am_b mX6_bestHeight) 89 = .ok (.iload 5, 2) := by decide +kernel
theorem dX6_bestHeight_91 : decode (am_b mX6_bestHeight) 91 = .ok (.iload_n 3, 1) := by decide +kernel
theorem dX6_bestHeight_92 : decode (am_b mX6_bestHeight) 92 = .ok (.if_icmp .le 9, 3) := by decide +kernel
theorem dX6_bestHeight_95 : decode (am_b mX6_bestHeight) 95 = .ok (.iload 4, 2) := by decide +kernel
theorem dX6_bestHeight_97 : decode (am_b mX6_bestHeight) 97 = .ok (.istore_n 2, 1) := by decide +kernel
theorem dX6_bestHeight_98 : decode (am_b mX6_bestHeight) 98 = .ok (.iload 5, 2) := by decide +kernel
theorem dX6_bestHeight_100 : decode (am_b mX6_bestHeight) 100 = .ok (.istore_n 3, 1) := by decide +kernel
theorem dX6_bestHeight_101 : decode (am_b mX6_bestHeight) 101 = .ok (.iinc 4 1, 3) := by decide +kernel
theorem dX6_bestHeight_104 : decode (am_b mX6_bestHeight) 104 = .ok (.goto (-42), 3) := by decide +kernel
theorem dX6_bestHeight_107 : decode (am_b mX6_bestHeight) 107 = .ok (.iload_n 2, 1) := by decide +kernel
theorem dX6_bestHeight_108 : decode (am_b mX6_bestHeight) 108 = .ok (.ireturn, 1) := by decide +kernel
theorem dX6_booth_0 : decode (am_b mX6_booth) 0 = .ok (.aload_n 0, 1) := by decide +kernel
theorem dX6_booth_1 : decode (am_b mX6_booth) 1 = .ok (.getfield 10, 3) := by decide +kernel
theorem dX6_booth_4 : decode (am_b mX6_booth) 4 = .ok (.iload_n 1, 1) := by decide +kernel
theorem dX6_booth_5 : decode (am_b mX6_booth) 5 = .ok (.invokevirtual 85, 3) := by decide +kernel
theorem dX6_booth_8 : decode (am_b mX6_booth) 8 = .ok (.ifCond .ne 5, 3) := by decide +kernel
theorem dX6_booth_11 : decode (am_b mX6_booth) 11 = .ok (.iconst (-1), 1) := by decide +kernel
theorem dX6_booth_12 : decode (am_b mX6_booth) 12 = .ok (.ireturn, 1) := by decide +kernel
theorem dX6_booth_13 : decode (am_b mX6_booth) 13 = .ok (.iload_n 2, 1) := by decide +kernel
theorem dX6_booth_14 : decode (am_b mX6_booth) 14 = .ok (.tableswitch 149 0 7 #[46, 56, 66, 105, 112, 119, 129, 139], 46) := by decide +kernel
theorem dX6_booth_60 : decode (am_b mX6_booth) 60 = .ok (.aload_n 0, 1) := by decide +kernel
theorem dX6_booth_61 : decode (am_b mX6_booth) 61 = .ok (.getfield 10, 3) := by decide +kernel
theorem dX6_booth_64 : decode (am_b mX6_booth) 64 = .ok (.getfield 95, 3) := by decide +kernel
theorem dX6_booth_67 : decode (am_b mX6_booth) 67 = .ok (.iload_n 1, 1) := by decide +kernel
theorem dX6_booth_68 : decode (am_b mX6_booth) 68 = .ok (.iaload, 1) := by decide +kernel
theorem dX6_booth_69 : decode (am_b mX6_booth) 69 = .ok (.ireturn, 1) := by decide +kernel
theorem dX6_booth_70 : decode (am_b mX6_booth) 70 = .ok (.aload_n 0, 1) := by decide +kernel
theorem dX6_booth_71 : decode (am_b mX6_booth) 71 = .ok (.getfield 10, 3) := by decide +kernel
theorem dX6_booth_74 : decode (am_b mX6_booth) 74 = .ok (.getfield 102, 3) := by decide +kernel
theorem dX6_booth_77 : decode (am_b mX6_booth) 77 = .ok (.iload_n 1, 1) := by decide +kernel
theorem dX6_booth_78 : decode (am_b mX6_booth) 78 = .ok (.iaload, 1) := by decide +kernel
theorem dX6_booth_79 : decode (am_b mX6_booth) 79 = .ok (.ireturn, 1) := by decide +kernel
theorem dX6_booth_80 : decode (am_b mX6_booth) 80 = .ok (.aload_n 0, 1) := by decide +kernel
theorem dX6_booth_81 : decode (am_b mX6_booth) 81 = .ok (.getfield 22, 3) := by decide +kernel
theorem dX6_booth_84 : decode (am_b mX6_booth) 84 = .ok (.aload_n 0, 1) := by decide +kernel
theorem dX6_booth_85 : decode (am_b mX6_booth) 85 = .ok (.getfield 10, 3) := by decide +kernel
theorem dX6_booth_88 : decode (am_b mX6_booth) 88 = .ok (.bipush (-6), 2) := by decide +kernel
theorem dX6_booth_90 : decode (am_b mX6_booth) 90 = .ok (.invokevirtual 137, 3) := by decide +kernel
theorem dX6_booth_93 : decode (am_b mX6_booth) 93 = .ok (.aload_n 0, 1) := by decide +kernel
theorem dX6_booth_94 : decode (am_b mX6_booth) 94 = .ok (.getfield 22, 3) := by decide +kernel
theorem dX6_booth_97 : decode (am_b mX6_booth) 97 = .ok (.aload_n 0, 1) := by decide +kernel
theorem dX6_booth_98 : decode (am_b mX6_booth) 98 = .ok (.getfield 10, 3) := by decide +kernel
theorem dX6_booth_101 : decode (am_b mX6_booth) 101 = .ok (.getfield 102, 3) := by decide +kernel
theorem dX6_booth_104 : decode (am_b mX6_booth) 104 = .ok (.iload_n 1, 1) := by decide +kernel
theorem dX6_booth_105 : decode (am_b mX6_booth) 105 = .ok (.iaload, 1) := by decide +kernel
theorem dX6_booth_106 : decode (am_b mX6_booth) 106 = .ok (.aload_n 0, 1) := by decide +kernel
theorem dX6_booth_107 : decode (am_b mX6_booth) 107 = .ok (.getfield 10, 3) := by decide +kernel
theorem dX6_booth_110 : decode (am_b mX6_booth) 110 = .ok (.getfield 95, 3) := by decide +kernel
theorem dX6_booth_113 : decode (am_b mX6_booth) 113 = .ok (.iload_n 1, 1) := by decide +kernel
theorem dX6_booth_114 : decode (am_b mX6_booth) 114 = .ok (.iaload, 1) := by decide +kernel
theorem dX6_booth_115 : decode (am_b mX6_booth) 115 = .ok (.invokevirtual 141, 3) := by decide +kernel
theorem dX6_booth_118 : decode (am_b mX6_booth) 118 = .ok (.ireturn, 1) := by decide +kernel
theorem dX6_booth_119 : decode (am_b mX6_booth) 119 = .ok (.aload_n 0, 1) := by decide +kernel
theorem dX6_booth_120 : decode (am_b mX6_booth) 120 = .ok (.iconst 1, 1) := by decide +kernel
theorem dX6_booth_121 : decode (am_b mX6_booth) 121 = .ok (.iload_n 1, 1) := by decide +kernel
theorem dX6_booth_122 : decode (am_b mX6_booth) 122 = .ok (.invokevirtual 145, 3) := by decide +kernel
theorem dX6_booth_125 : decode (am_b mX6_booth) 125 = .ok (.ireturn, 1) := by decide +kernel
theorem dX6_booth_126 : decode (am_b mX6_booth) 126 = .ok (.aload_n 0, 1) := by decide +kernel
theorem dX6_booth_127 : decode (am_b mX6_booth) 127 = .ok (.iconst 0, 1) := by decide +kernel
theorem dX6_booth_128 : decode (am_b mX6_booth) 128 = .ok (.iload_n 1, 1) := by decide +kernel
theorem dX6_booth_129 : decode (am_b mX6_booth) 129 = .ok (.invokevirtual 145, 3) := by decide +kernel
theorem dX6_booth_132 : decode (am_b mX6_booth) 132 = .ok (.ireturn, 1) := by decide +kernel
theorem dX6_booth_133 : decode (am_b mX6_booth) 133 = .ok (.aload_n 0, 1) := by decide +kernel
theorem dX6_booth_134 : decode (am_b mX6_booth) 134 = .ok (.getfield 10, 3) := by decide +kernel
theorem dX6_booth_137 : decode (am_b mX6_booth) 137 = .ok (.getfield 88, 3) := by decide +kernel
theorem dX6_booth_140 : decode (am_b mX6_booth) 140 = .ok (.iload_n 1, 1) := by decide +kernel
theorem dX6_booth_141 : decode (am_b mX6_booth) 141 = .ok (.iaload, 1) := by decide +kernel
theorem dX6_booth_142 : decode (am_b mX6_booth) 142 = .ok (.ireturn, 1) := by decide +kernel
theorem dX6_booth_143 : decode (am_b mX6_booth) 143 = .ok (.aload_n 0, 1) := by decide +kernel
theorem dX6_booth_144 : decode (am_b mX6_booth) 144 = .ok (.getfield 10, 3) := by decide +kernel
theorem dX6_booth_147 : decode (am_b mX6_booth) 147 = .ok (.getfield 149, 3) := by decide +kernel
theorem dX6_booth_150 : decode (am_b mX6_booth) 150 = .ok (.iload_n 1, 1) := by decide +kernel
theorem dX6_booth_151 : decode (am_b mX6_booth) 151 = .ok (.iaload, 1) := by decide +kernel
theorem dX6_booth_152 : decode (am_b mX6_booth) 152 = .ok (.ireturn, 1) := by decide +kernel
theorem dX6_booth_153 : decode (am_b mX6_booth) 153 = .ok (.aload_n 0, 1) := by decide +kernel
theorem dX6_booth_154 : decode (am_b mX6_booth) 154 = .ok (.getfield 10, 3) := by decide +kernel
theorem dX6_booth_157 : decode (am_b mX6_booth) 157 = .ok (.getfield 152, 3) := by decide +kernel
theorem dX6_booth_160 : decode (am_b mX6_booth) 160 = .ok (.iload_n 1, 1) := by decide +kernel
theorem dX6_booth_161 : decode (am_b mX6_booth) 161 = .ok (.iaload, 1) := by decide +kernel
theorem dX6_booth_162 : decode (am_b mX6_booth) 162 = .ok (.ireturn, 1) := by decide +kernel
theorem dX6_booth_163 : decode (am_b mX6_booth) 163 = .ok (.bipush (-2), 2) := by decide +kernel
theorem dX6_booth_165 : decode (am_b mX6_booth) 165 = .ok (.ireturn, 1) := by decide +kernel
theorem dX6_count_0 : decode (am_b mX6_count) 0 = .ok (.iload_n 1, 1) := by decide +kernel
theorem dX6_count_1 : decode (am_b mX6_count) 1 = .ok (.ifCond .lt 20, 3) := by decide +kernel
theorem dX6_count_4 : decode (am_b mX6_count) 4 = .ok (.iload_n 1, 1) := by decide +kernel
theorem dX6_count_5 : decode (am_b mX6_count) 5 = .ok (.getstatic 177, 3) := by decide +kernel
theorem dX6_count_8 : decode (am_b mX6_count) 8 = .ok (.arraylength, 1) := by decide +kernel
theorem dX6_count_9 : decode (am_b mX6_count) 9 = .ok (.if_icmp .ge 12, 3) := by decide +kernel
theorem dX6_count_12 : decode (am_b mX6_count) 12 = .ok (.aload_n 0, 1) := by decide +kernel
theorem dX6_count_13 : decode (am_b mX6_count) 13 = .ok (.getfield 10, 3) := by decide +kernel
theorem dX6_count_16 : decode (am_b mX6_count) 16 = .ok (.iload_n 1, 1) := by decide +kernel
theorem dX6_count_17 : decode (am_b mX6_count) 17 = .ok (.invokevirtual 52, 3) := by decide +kernel
theorem dX6_count_20 : decode (am_b mX6_count) 20 = .ok (.ireturn, 1) := by decide +kernel
theorem dX6_count_21 : decode (am_b mX6_count) 21 = .ok (.iload_n 1, 1) := by decide +kernel
theorem dX6_count_22 : decode (am_b mX6_count) 22 = .ok (.tableswitch 159 6 16 #[58, 67, 75, 83, 91, 114, 119, 127, 135, 143, 151], 58) := by decide +kernel
theorem dX6_count_80 : decode (am_b mX6_count) 80 = .ok (.aload_n 0, 1) := by decide +kernel
theorem dX6_count_81 : decode (am_b mX6_count) 81 = .ok (.getfield 10, 3) := by decide +kernel
theorem dX6_count_84 : decode (am_b mX6_count) 84 = .ok (.getfield 105, 3) := by decide +kernel
theorem dX6_count_87 : decode (am_b mX6_count) 87 = .ok (.l2i, 1) := by decide +kernel
theorem dX6_count_88 : decode (am_b mX6_count) 88 = .ok (.ireturn, 1) := by decide +kernel
theorem dX6_count_89 : decode (am_b mX6_count) 89 = .ok (.aload_n 0, 1) := by decide +kernel
theorem dX6_count_90 : decode (am_b mX6_count) 90 = .ok (.getfield 10, 3) := by decide +kernel
theorem dX6_count_93 : decode (am_b mX6_count) 93 = .ok (.getfield 79, 3) := by decide +kernel
theorem dX6_count_96 : decode (am_b mX6_count) 96 = .ok (.ireturn, 1) := by decide +kernel
theorem dX6_count_97 : decode (am_b mX6_count) 97 = .ok (.aload_n 0, 1) := by decide +kernel
theorem dX6_count_98 : decode (am_b mX6_count) 98 = .ok (.getfield 10, 3) := by decide +kernel
theorem dX6_count_101 : decode (am_b mX6_count) 101 = .ok (.invokevirtual 180, 3) := by decide +kernel
theorem dX6_count_104 : decode (am_b mX6_count) 104 = .ok (.ireturn, 1) := by decide +kernel
theorem dX6_count_105 : decode (am_b mX6_count) 105 = .ok (.aload_n 0, 1) := by decide +kernel
theorem dX6_count_106 : decode (am_b mX6_count) 106 = .ok (.getfield 10, 3) := by decide +kernel
theorem dX6_count_109 : decode (am_b mX6_count) 109 = .ok (.getfield 67, 3) := by decide +kernel
theorem dX6_count_112 : decode (am_b mX6_count) 112 = .ok (.ireturn, 1) := by decide +kernel
theorem dX6_count_113 : decode (am_b mX6_count) 113 = .ok (.aload_n 0, 1) := by decide +kernel
theorem dX6_count_114 : decode (am_b mX6_count) 114 = .ok (.getfield 10, 3) := by decide +kernel
theorem dX6_count_117 : decode (am_b mX6_count) 117 = .ok (.iconst 0, 1) := by decide +kernel
theorem dX6_count_118 : decode (am_b mX6_count) 118 = .ok (.invokevirtual 52, 3) := by decide +kernel
theorem dX6_count_121 : decode (am_b mX6_count) 121 = .ok (.aload_n 0, 1) := by decide +kernel
theorem dX6_count_122 : decode (am_b mX6_count) 122 = .ok (.getfield 10, 3) := by decide +kernel
theorem dX6_count_125 : decode (am_b mX6_count) 125 = .ok (.iconst 1, 1) := by decide +kernel
theorem dX6_count_126 : decode (am_b mX6_count) 126 = .ok (.invokevirtual 52, 3) := by decide +kernel
theorem dX6_count_129 : decode (am_b mX6_count) 129 = .ok (.iadd, 1) := by decide +kernel
theorem dX6_count_130 : decode (am_b mX6_count) 130 = .ok (.aload_n 0, 1) := by decide +kernel
theorem dX6_count_131 : decode (am_b mX6_count) 131 = .ok (.invokevirtual 183, 3) := by decide +kernel
theorem dX6_count_134 : decode (am_b mX6_count) 134 = .ok (.isub, 1) := by decide +kernel
theorem dX6_count_135 : decode (am_b mX6_count) 135 = .ok (.ireturn, 1) := by decide +kernel
theorem dX6_count_136 : decode (am_b mX6_count) 136 = .ok (.aload_n 0, 1) := by decide +kernel
theorem dX6_count_137 : decode (am_b mX6_count) 137 = .ok (.invokevirtual 183, 3) := by decide +kernel
theorem dX6_count_140 : decode (am_b mX6_count) 140 = .ok (.ireturn, 1) := by decide +kernel
theorem dX6_count_141 : decode (am_b mX6_count) 141 = .ok (.aload_n 0, 1) := by decide +kernel
theorem dX6_count_142 : decode (am_b mX6_count) 142 = .ok (.getfield 10, 3) := by decide +kernel
theorem dX6_count_145 : decode (am_b mX6_count) 145 = .ok (.getfield 109, 3) := by decide +kernel
theorem dX6_count_148 : decode (am_b mX6_count) 148 = .ok (.ireturn, 1) := by decide +kernel
theorem dX6_count_149 : decode (am_b mX6_count) 149 = .ok (.aload_n 0, 1) := by decide +kernel
theorem dX6_count_150 : decode (am_b mX6_count) 150 = .ok (.getfield 10, 3) := by decide +kernel
theorem dX6_count_153 : decode (am_b mX6_count) 153 = .ok (.getfield 186, 3) := by decide +kernel
theorem dX6_count_156 : decode (am_b mX6_count) 156 = .ok (.ireturn, 1) := by decide +kernel
theorem dX6_count_157 : decode (am_b mX6_count) 157 = .ok (.aload_n 0, 1) := by decide +kernel
theorem dX6_count_158 : decode (am_b mX6_count) 158 = .ok (.getfield 10, 3) := by decide +kernel
theorem dX6_count_161 : decode (am_b mX6_count) 161 = .ok (.getfield 189, 3) := by decide +kernel
theorem dX6_count_164 : decode (am_b mX6_count) 164 = .ok (.ireturn, 1) := by decide +kernel
theorem dX6_count_165 : decode (am_b mX6_count) 165 = .ok (.aload_n 0, 1) := by decide +kernel
theorem dX6_count_166 : decode (am_b mX6_count) 166 = .ok (.getfield 29, 3) := by decide +kernel
theorem dX6_count_169 : decode (am_b mX6_count) 169 = .ok (.getfield 134, 3) := by decide +kernel
theorem dX6_count_172 : decode (am_b mX6_count) 172 = .ok (.ireturn, 1) := by decide +kernel
theorem dX6_count_173 : decode (am_b mX6_count) 173 = .ok (.aload_n 0, 1) := by decide +kernel
theorem dX6_count_174 : decode (am_b mX6_count) 174 = .ok (.getfield 36, 3) := by decide +kernel
theorem dX6_count_177 : decode (am_b mX6_count) 177 = .ok (.getfield 192, 3) := by decide +kernel
theorem dX6_count_180 : decode (am_b mX6_count) 180 = .ok (.ireturn, 1) := by decide +kernel
theorem dX6_count_181 : decode (am_b mX6_count) 181 = .ok (.bipush (-2), 2) := by decide +kernel
theorem dX6_count_183 : decode (am_b mX6_count) 183 = .ok (.ireturn, 1) := by decide +kernel
theorem dX6_ifStood_0 : decode (am_b mX6_ifStood) 0 = .ok (.aload_n 0, 1) := by decide +kernel
theorem dX6_ifStood_1 : decode (am_b mX6_ifStood) 1 = .ok (.getfield 10, 3) := by decide +kernel
theorem dX6_ifStood_4 : decode (am_b mX6_ifStood) 4 = .ok (.iload_n 1, 1) := by decide +kernel
theorem dX6_ifStood_5 : decode (am_b mX6_ifStood) 5 = .ok (.invokevirtual 85, 3) := by decide +kernel
theorem dX6_ifStood_8 : decode (am_b mX6_ifStood) 8 = .ok (.ifCond .eq 10, 3) := by decide +kernel
theorem dX6_ifStood_11 : decode (am_b mX6_ifStood) 11 = .ok (.iload_n 2, 1) := by decide +kernel
theorem dX6_ifStood_12 : decode (am_b mX6_ifStood) 12 = .ok (.invokestatic 60, 3) := by decide +kernel
theorem dX6_ifStood_15 : decode (am_b mX6_ifStood) 15 = .ok (.ifCond .ne 5, 3) := by decide +kernel
theorem dX6_ifStood_18 : decode (am_b mX6_ifStood) 18 = .ok (.iconst (-1), 1) := by decide +kernel
theorem dX6_ifStood_19 : decode (am_b mX6_ifStood) 19 = .ok (.ireturn, 1) := by decide +kernel
theorem dX6_ifStood_20 : decode (am_b mX6_ifStood) 20 = .ok (.aload_n 0, 1) := by decide +kernel
theorem dX6_ifStood_21 : decode (am_b mX6_ifStood) 21 = .ok (.getfield 10, 3) := by decide +kernel
theorem dX6_ifStood_24 : decode (am_b mX6_ifStood) 24 = .ok (.iload_n 2, 1) := by decide +kernel
theorem dX6_ifStood_25 : decode (am_b mX6_ifStood) 25 = .ok (.iload_n 1, 1) := by decide +kernel
theorem dX6_ifStood_26 : decode (am_b mX6_ifStood) 26 = .ok (.invokevirtual 98, 3) := by decide +kernel
theorem dX6_ifStood_29 : decode (am_b mX6_ifStood) 29 = .ok (.ifCond .eq 6, 3) := by decide +kernel
theorem dX6_ifStood_32 : decode (am_b mX6_ifStood) 32 = .ok (.bipush (-5), 2) := by decide +kernel
theorem dX6_ifStood_34 : decode (am_b mX6_ifStood) 34 = .ok (.ireturn, 1) := by decide +kernel
theorem dX6_ifStood_35 : decode (am_b mX6_ifStood) 35 = .ok (.aload_n 0, 1) := by decide +kernel
theorem dX6_ifStood_36 : decode (am_b mX6_ifStood) 36 = .ok (.getfield 22, 3) := by decide +kernel
theorem dX6_ifStood_39 : decode (am_b mX6_ifStood) 39 = .ok (.aload_n 0, 1) := by decide +kernel
theorem dX6_ifStood_40 : decode (am_b mX6_ifStood) 40 = .ok (.getfield 10, 3) := by decide +kernel
theorem dX6_ifStood_43 : decode (am_b mX6_ifStood) 43 = .ok (.iload_n 1, 1) := by decide +kernel
theorem dX6_ifStood_44 : decode (am_b mX6_ifStood) 44 = .ok (.invokevirtual 137, 3) := by decide +kernel
theorem dX6_ifStood_47 : decode (am_b mX6_ifStood) 47 = .ok (.aload_n 0, 1) := by decide +kernel
theorem dX6_ifStood_48 : decode (am_b mX6_ifStood) 48 = .ok (.getfield 22, 3) := by decide +kernel
theorem dX6_ifStood_51 : decode (am_b mX6_ifStood) 51 = .ok (.iload_n 2, 1) := by decide +kernel
theorem dX6_ifStood_52 : decode (am_b mX6_ifStood) 52 = .ok (.aload_n 0, 1) := by decide +kernel
theorem dX6_ifStood_53 : decode (am_b mX6_ifStood) 53 = .ok (.getfield 10, 3) := by decide +kernel
theorem dX6_ifStood_56 : decode (am_b mX6_ifStood) 56 = .ok (.getfield 95, 3) := by decide +kernel
theorem dX6_ifStood_59 : decode (am_b mX6_ifStood) 59 = .ok (.iload_n 1, 1) := by decide +kernel
theorem dX6_ifStood_60 : decode (am_b mX6_ifStood) 60 = .ok (.iaload, 1) := by decide +kernel
theorem dX6_ifStood_61 : decode (am_b mX6_ifStood) 61 = .ok (.invokevirtual 141, 3) := by decide +kernel
theorem dX6_ifStood_64 : decode (am_b mX6_ifStood) 64 = .ok (.ireturn, 1) := by decide +kernel
theorem dX6_seen_0 : decode (am_b mX6_seen) 0 = .ok (.aload_n 0, 1) := by decide +kernel
theorem dX6_seen_1 : decode (am_b mX6_seen) 1 = .ok (.getfield 10, 3) := by decide +kernel
theorem dX6_seen_4 : decode (am_b mX6_seen) 4 = .ok (.iload_n 1, 1) := by decide +kernel
theorem dX6_seen_5 : decode (am_b mX6_seen) 5 = .ok (.invokevirtual 85, 3) := by decide +kernel
theorem dX6_seen_8 : decode (am_b mX6_seen) 8 = .ok (.ifCond .ne 5, 3) := by decide +kernel
theorem dX6_seen_11 : decode (am_b mX6_seen) 11 = .ok (.iconst (-1), 1) := by decide +kernel
theorem dX6_seen_12 : decode (am_b mX6_seen) 12 = .ok (.ireturn, 1) := by decide +kernel
theorem dX6_seen_13 : decode (am_b mX6_seen) 13 = .ok (.iload_n 2, 1) := by decide +kernel
theorem dX6_seen_14 : decode (am_b mX6_seen) 14 = .ok (.ifCond .eq 8, 3) := by decide +kernel
theorem dX6_seen_17 : decode (am_b mX6_seen) 17 = .ok (.iload_n 2, 1) := by decide +kernel
theorem dX6_seen_18 : decode (am_b mX6_seen) 18 = .ok (.iconst 1, 1) := by decide +kernel
theorem dX6_seen_19 : decode (am_b mX6_seen) 19 = .ok (.if_icmp .ne 12, 3) := by decide +kernel
theorem dX6_seen_22 : decode (am_b mX6_seen) 22 = .ok (.iload_n 3, 1) := by decide +kernel
theorem dX6_seen_23 : decode (am_b mX6_seen) 23 = .ok (.ifCond .eq 11, 3) := by decide +kernel
theorem dX6_seen_26 : decode (am_b mX6_seen) 26 = .ok (.iload_n 3, 1) := by decide +kernel
theorem dX6_seen_27 : decode (am_b mX6_seen) 27 = .ok (.iconst 1, 1) := by decide +kernel
theorem dX6_seen_28 : decode (am_b mX6_seen) 28 = .ok (.if_icmp .eq 6, 3) := by decide +kernel
theorem dX6_seen_31 : decode (am_b mX6_seen) 31 = .ok (.bipush (-2), 2) := by decide +kernel
theorem dX6_seen_33 : decode (am_b mX6_seen) 33 = .ok (.ireturn, 1) := by decide +kernel
theorem dX6_seen_34 : decode (am_b mX6_seen) 34 = .ok (.aload_n 0, 1) := by decide +kernel
theorem dX6_seen_35 : decode (am_b mX6_seen) 35 = .ok (.getfield 10, 3) := by decide +kernel
theorem dX6_seen_38 : decode (am_b mX6_seen) 38 = .ok (.iload_n 1, 1) := by decide +kernel
theorem dX6_seen_39 : decode (am_b mX6_seen) 39 = .ok (.invokevirtual 161, 3) := by decide +kernel
theorem dX6_seen_42 : decode (am_b mX6_seen) 42 = .ok (.ifCond .ne 5, 3) := by decide +kernel
theorem dX6_seen_45 : decode (am_b mX6_seen) 45 = .ok (.iconst 0, 1) := by decide +kernel
theorem dX6_seen_46 : decode (am_b mX6_seen) 46 = .ok (.ireturn, 1) := by decide +kernel
theorem dX6_seen_47 : decode (am_b mX6_seen) 47 = .ok (.iload_n 2, 1) := by decide +kernel
theorem dX6_seen_48 : decode (am_b mX6_seen) 48 = .ok (.ifCond .ne 7, 3) := by decide +kernel
theorem dX6_seen_51 : decode (am_b mX6_seen) 51 = .ok (.iconst 1, 1) := by decide +kernel
theorem dX6_seen_52 : decode (am_b mX6_seen) 52 = .ok (.goto 4, 3) := by decide +kernel
theorem dX6_seen_55 : decode (am_b mX6_seen) 55 = .ok (.iconst 0, 1) := by decide +kernel
theorem dX6_seen_56 : decode (am_b mX6_seen) 56 = .ok (.istore 4, 2) := by decide +kernel
theorem dX6_seen_58 : decode (am_b mX6_seen) 58 = .ok (.iload_n 3, 1) := by decide +kernel
theorem dX6_seen_59 : decode (am_b mX6_seen) 59 = .ok (.iconst 1, 1) := by decide +kernel
theorem dX6_seen_60 : decode (am_b mX6_seen) 60 = .ok (.if_icmp .ne 22, 3) := by decide +kernel
theorem dX6_seen_63 : decode (am_b mX6_seen) 63 = .ok (.aload_n 0, 1) := by decide +kernel
theorem dX6_seen_64 : decode (am_b mX6_seen) 64 = .ok (.getfield 10, 3) := by decide +kernel
theorem dX6_seen_67 : decode (am_b mX6_seen) 67 = .ok (.iload_n 1, 1) := by decide +kernel
theorem dX6_seen_68 : decode (am_b mX6_seen) 68 = .ok (.iload 4, 2) := by decide +kernel
theorem dX6_seen_70 : decode (am_b mX6_seen) 70 = .ok (.invokevirtual 164, 3) := by decide +kernel
theorem dX6_seen_73 : decode (am_b mX6_seen) 73 = .ok (.ifCond .eq 7, 3) := by decide +kernel
theorem dX6_seen_76 : decode (am_b mX6_seen) 76 = .ok (.iconst 0, 1) := by decide +kernel
theorem dX6_seen_77 : decode (am_b mX6_seen) 77 = .ok (.goto 4, 3) := by decide +kernel
theorem dX6_seen_80 : decode (am_b mX6_seen) 80 = .ok (.iconst 1, 1) := by decide +kernel
theorem dX6_seen_81 : decode (am_b mX6_seen) 81 = .ok (.ireturn, 1) := by decide +kernel
theorem dX6_seen_82 : decode (am_b mX6_seen) 82 = .ok (.aload_n 0, 1) := by decide +kernel
theorem dX6_seen_83 : decode (am_b mX6_seen) 83 = .ok (.getfield 22, 3) := by decide +kernel
theorem dX6_seen_86 : decode (am_b mX6_seen) 86 = .ok (.aload_n 0, 1) := by decide +kernel
theorem dX6_seen_87 : decode (am_b mX6_seen) 87 = .ok (.getfield 10, 3) := by decide +kernel
theorem dX6_seen_90 : decode (am_b mX6_seen) 90 = .ok (.bipush (-6), 2) := by decide +kernel
theorem dX6_seen_92 : decode (am_b mX6_seen) 92 = .ok (.invokevirtual 137, 3) := by decide +kernel
theorem dX6_seen_95 : decode (am_b mX6_seen) 95 = .ok (.aload_n 0, 1) := by decide +kernel
theorem dX6_seen_96 : decode (am_b mX6_seen) 96 = .ok (.getfield 22, 3) := by decide +kernel
theorem dX6_seen_99 : decode (am_b mX6_seen) 99 = .ok (.iload 4, 2) := by decide +kernel
theorem dX6_seen_101 : decode (am_b mX6_seen) 101 = .ok (.invokevirtual 168, 3) := by decide +kernel
theorem dX6_seen_104 : decode (am_b mX6_seen) 104 = .ok (.astore 5, 2) := by decide +kernel
theorem dX6_seen_106 : decode (am_b mX6_seen) 106 = .ok (.aload 5, 2) := by decide +kernel
theorem dX6_seen_108 : decode (am_b mX6_seen) 108 = .ok (.aload_n 0, 1) := by decide +kernel
theorem dX6_seen_109 : decode (am_b mX6_seen) 109 = .ok (.getfield 10, 3) := by decide +kernel
theorem dX6_seen_112 : decode (am_b mX6_seen) 112 = .ok (.getfield 102, 3) := by decide +kernel
theorem dX6_seen_115 : decode (am_b mX6_seen) 115 = .ok (.iload_n 1, 1) := by decide +kernel
theorem dX6_seen_116 : decode (am_b mX6_seen) 116 = .ok (.iaload, 1) := by decide +kernel
theorem dX6_seen_117 : decode (am_b mX6_seen) 117 = .ok (.aload_n 0, 1) := by decide +kernel
theorem dX6_seen_118 : decode (am_b mX6_seen) 118 = .ok (.getfield 10, 3) := by decide +kernel
theorem dX6_seen_121 : decode (am_b mX6_seen) 121 = .ok (.getfield 95, 3) := by decide +kernel
theorem dX6_seen_124 : decode (am_b mX6_seen) 124 = .ok (.iload_n 1, 1) := by decide +kernel
theorem dX6_seen_125 : decode (am_b mX6_seen) 125 = .ok (.iaload, 1) := by decide +kernel
theorem dX6_seen_126 : decode (am_b mX6_seen) 126 = .ok (.invokevirtual 172, 3) := by decide +kernel
theorem dX6_seen_129 : decode (am_b mX6_seen) 129 = .ok (.ifCond .eq 7, 3) := by decide +kernel
theorem dX6_seen_132 : decode (am_b mX6_seen) 132 = .ok (.iconst 1, 1) := by decide +kernel
theorem dX6_seen_133 : decode (am_b mX6_seen) 133 = .ok (.goto 4, 3) := by decide +kernel
theorem dX6_seen_136 : decode (am_b mX6_seen) 136 = .ok (.iconst 0, 1) := by decide +kernel
theorem dX6_seen_137 : decode (am_b mX6_seen) 137 = .ok (.ireturn, 1) := by decide +kernel
theorem dX6_stand_0 : decode (am_b mX6_stand) 0 = .ok (.aload_n 0, 1) := by decide +kernel
theorem dX6_stand_1 : decode (am_b mX6_stand) 1 = .ok (.getfield 10, 3) := by decide +kernel
theorem dX6_stand_4 : decode (am_b mX6_stand) 4 = .ok (.iload_n 1, 1) := by decide +kernel
theorem dX6_stand_5 : decode (am_b mX6_stand) 5 = .ok (.invokevirtual 85, 3) := by decide +kernel
theorem dX6_stand_8 : decode (am_b mX6_stand) 8 = .ok (.ifCond .eq 16, 3) := by decide +kernel
theorem dX6_stand_11 : decode (am_b mX6_stand) 11 = .ok (.iload_n 2, 1) := by decide +kernel
theorem dX6_stand_12 : decode (am_b mX6_stand) 12 = .ok (.bipush (-6), 2) := by decide +kernel
theorem dX6_stand_14 : decode (am_b mX6_stand) 14 = .ok (.if_icmp .eq 12, 3) := by decide +kernel
theorem dX6_stand_17 : decode (am_b mX6_stand) 17 = .ok (.iload_n 2, 1) := by decide +kernel
theorem dX6_stand_18 : decode (am_b mX6_stand) 18 = .ok (.invokestatic 60, 3) := by decide +kernel
theorem dX6_stand_21 : decode (am_b mX6_stand) 21 = .ok (.ifCond .ne 5, 3) := by decide +kernel
theorem dX6_stand_24 : decode (am_b mX6_stand) 24 = .ok (.iconst (-1), 1) := by decide +kernel
theorem dX6_stand_25 : decode (am_b mX6_stand) 25 = .ok (.ireturn, 1) := by decide +kernel
theorem dX6_stand_26 : decode (am_b mX6_stand) 26 = .ok (.aload_n 0, 1) := by decide +kernel
theorem dX6_stand_27 : decode (am_b mX6_stand) 27 = .ok (.getfield 10, 3) := by decide +kernel
theorem dX6_stand_30 : decode (am_b mX6_stand) 30 = .ok (.iload_n 2, 1) := by decide +kernel
theorem dX6_stand_31 : decode (am_b mX6_stand) 31 = .ok (.iload_n 1, 1) := by decide +kernel
theorem dX6_stand_32 : decode (am_b mX6_stand) 32 = .ok (.invokevirtual 98, 3) := by decide +kernel
theorem dX6_stand_35 : decode (am_b mX6_stand) 35 = .ok (.ifCond .eq 6, 3) := by decide +kernel
theorem dX6_stand_38 : decode (am_b mX6_stand) 38 = .ok (.bipush (-5), 2) := by decide +kernel
theorem dX6_stand_40 : decode (am_b mX6_stand) 40 = .ok (.ireturn, 1) := by decide +kernel
theorem dX6_stand_41 : decode (am_b mX6_stand) 41 = .ok (.aload_n 0, 1) := by decide +kernel
theorem dX6_stand_42 : decode (am_b mX6_stand) 42 = .ok (.getfield 36, 3) := by decide +kernel
theorem dX6_stand_45 : decode (am_b mX6_stand) 45 = .ok (.aload_n 0, 1) := by decide +kernel
theorem dX6_stand_46 : decode (am_b mX6_stand) 46 = .ok (.getfield 10, 3) := by decide +kernel
theorem dX6_stand_49 : decode (am_b mX6_stand) 49 = .ok (.invokevirtual 48, 3) := by decide +kernel
theorem dX6_stand_52 : decode (am_b mX6_stand) 52 = .ok (.aload_n 0, 1) := by decide +kernel
theorem dX6_stand_53 : decode (am_b mX6_stand) 53 = .ok (.getfield 10, 3) := by decide +kernel
theorem dX6_stand_56 : decode (am_b mX6_stand) 56 = .ok (.getfield 102, 3) := by decide +kernel
theorem dX6_stand_59 : decode (am_b mX6_stand) 59 = .ok (.iload_n 1, 1) := by decide +kernel
theorem dX6_stand_60 : decode (am_b mX6_stand) 60 = .ok (.iaload, 1) := by decide +kernel
theorem dX6_stand_61 : decode (am_b mX6_stand) 61 = .ok (.istore_n 3, 1) := by decide +kernel
theorem dX6_stand_62 : decode (am_b mX6_stand) 62 = .ok (.aload_n 0, 1) := by decide +kernel
theorem dX6_stand_63 : decode (am_b mX6_stand) 63 = .ok (.getfield 10, 3) := by decide +kernel
theorem dX6_stand_66 : decode (am_b mX6_stand) 66 = .ok (.getfield 102, 3) := by decide +kernel
theorem dX6_stand_69 : decode (am_b mX6_stand) 69 = .ok (.iload_n 1, 1) := by decide +kernel
theorem dX6_stand_70 : decode (am_b mX6_stand) 70 = .ok (.iload_n 2, 1) := by decide +kernel
theorem dX6_stand_71 : decode (am_b mX6_stand) 71 = .ok (.iastore, 1) := by decide +kernel
theorem dX6_stand_72 : decode (am_b mX6_stand) 72 = .ok (.iload_n 3, 1) := by decide +kernel
theorem dX6_stand_73 : decode (am_b mX6_stand) 73 = .ok (.ireturn, 1) := by decide +kernel
theorem dX6_bestPitch_0 : decode (am_b mX6_bestPitch) 0 = .ok (.aload_n 0, 1) := by decide +kernel
theorem dX6_bestPitch_1 : decode (am_b mX6_bestPitch) 1 = .ok (.getfield 10, 3) := by decide +kernel
theorem dX6_bestPitch_4 : decode (am_b mX6_bestPitch) 4 = .ok (.iload_n 1, 1) := by decide +kernel
theorem dX6_bestPitch_5 : decode (am_b mX6_bestPitch) 5 = .ok (.invokevirtual 85, 3) := by decide +kernel
theorem dX6_bestPitch_8 : decode (am_b mX6_bestPitch) 8 = .ok (.ifCond .ne 5, 3) := by decide +kernel
theorem dX6_bestPitch_11 : decode (am_b mX6_bestPitch) 11 = .ok (.iconst (-1), 1) := by decide +kernel
theorem dX6_bestPitch_12 : decode (am_b mX6_bestPitch) 12 = .ok (.ireturn, 1) := by decide +kernel
theorem dX6_bestPitch_13 : decode (am_b mX6_bestPitch) 13 = .ok (.aload_n 0, 1) := by decide +kernel
theorem dX6_bestPitch_14 : decode (am_b mX6_bestPitch) 14 = .ok (.getfield 22, 3) := by decide +kernel
theorem dX6_bestPitch_17 : decode (am_b mX6_bestPitch) 17 = .ok (.aload_n 0, 1) := by decide +kernel
theorem dX6_bestPitch_18 : decode (am_b mX6_bestPitch) 18 = .ok (.getfield 10, 3) := by decide +kernel
theorem dX6_bestPitch_21 : decode (am_b mX6_bestPitch) 21 = .ok (.iload_n 1, 1) := by decide +kernel
theorem dX6_bestPitch_22 : decode (am_b mX6_bestPitch) 22 = .ok (.invokevirtual 137, 3) := by decide +kernel
theorem dX6_bestPitch_25 : decode (am_b mX6_bestPitch) 25 = .ok (.aload_n 0, 1) := by decide +kernel
theorem dX6_bestPitch_26 : decode (am_b mX6_bestPitch) 26 = .ok (.getfield 22, 3) := by decide +kernel
theorem dX6_bestPitch_29 : decode (am_b mX6_bestPitch) 29 = .ok (.aload_n 0, 1) := by decide +kernel
theorem dX6_bestPitch_30 : decode (am_b mX6_bestPitch) 30 = .ok (.getfield 10, 3) := by decide +kernel
theorem dX6_bestPitch_33 : decode (am_b mX6_bestPitch) 33 = .ok (.getfield 95, 3) := by decide +kernel
theorem dX6_bestPitch_36 : decode (am_b mX6_bestPitch) 36 = .ok (.iload_n 1, 1) := by decide +kernel
theorem dX6_bestPitch_37 : decode (am_b mX6_bestPitch) 37 = .ok (.iaload, 1) := by decide +kernel
theorem dX6_bestPitch_38 : decode (am_b mX6_bestPitch) 38 = .ok (.iconst 0, 1) := by decide +kernel
theorem dX6_bestPitch_39 : decode (am_b mX6_bestPitch) 39 = .ok (.invokevirtual 198, 3) := by decide +kernel
theorem dX6_bestPitch_42 : decode (am_b mX6_bestPitch) 42 = .ok (.ireturn, 1) := by decide +kernel
theorem dX6_ifPlayed_0 : decode (am_b mX6_ifPlayed) 0 = .ok (.iload_n 1, 1) := by decide +kernel
theorem dX6_ifPlayed_1 : decode (am_b mX6_ifPlayed) 1 = .ok (.iconst 1, 1) := by decide +kernel
theorem dX6_ifPlayed_2 : decode (am_b mX6_ifPlayed) 2 = .ok (.if_icmp .lt 18, 3) := by decide +kernel
theorem dX6_ifPlayed_5 : decode (am_b mX6_ifPlayed) 5 = .ok (.iload_n 1, 1) := by decide +kernel
theorem dX6_ifPlayed_6 : decode (am_b mX6_ifPlayed) 6 = .ok (.bipush 100, 2) := by decide +kernel
theorem dX6_ifPlayed_8 : decode (am_b mX6_ifPlayed) 8 = .ok (.if_icmp .gt 12, 3) := by decide +kernel
theorem dX6_ifPlayed_11 : decode (am_b mX6_ifPlayed) 11 = .ok (.iload_n 2, 1) := by decide +kernel
theorem dX6_ifPlayed_12 : decode (am_b mX6_ifPlayed) 12 = .ok (.ifCond .eq 11, 3) := by decide +kernel
theorem dX6_ifPlayed_15 : decode (am_b mX6_ifPlayed) 15 = .ok (.iload_n 2, 1) := by decide +kernel
theorem dX6_ifPlayed_16 : decode (am_b mX6_ifPlayed) 16 = .ok (.iconst 1, 1) := by decide +kernel
theorem dX6_ifPlayed_17 : decode (am_b mX6_ifPlayed) 17 = .ok (.if_icmp .eq 6, 3) := by decide +kernel
theorem dX6_ifPlayed_20 : decode (am_b mX6_ifPlayed) 20 = .ok (.bipush (-2), 2) := by decide +kernel
theorem dX6_ifPlayed_22 : decode (am_b mX6_ifPlayed) 22 = .ok (.ireturn, 1) := by decide +kernel
theorem dX6_ifPlayed_23 : decode (am_b mX6_ifPlayed) 23 = .ok (.aload_n 0, 1) := by decide +kernel
theorem dX6_ifPlayed_24 : decode (am_b mX6_ifPlayed) 24 = .ok (.getfield 16, 3) := by decide +kernel
theorem dX6_ifPlayed_27 : decode (am_b mX6_ifPlayed) 27 = .ok (.aload_n 0, 1) := by decide +kernel
theorem dX6_ifPlayed_28 : decode (am_b mX6_ifPlayed) 28 = .ok (.getfield 10, 3) := by decide +kernel
theorem dX6_ifPlayed_31 : decode (am_b mX6_ifPlayed) 31 = .ok (.invokevirtual 201, 3) := by decide +kernel
theorem dX6_ifPlayed_34 : decode (am_b mX6_ifPlayed) 34 = .ok (.iconst 0, 1) := by decide +kernel
theorem dX6_ifPlayed_35 : decode (am_b mX6_ifPlayed) 35 = .ok (.istore_n 3, 1) := by decide +kernel
theorem dX6_ifPlayed_36 : decode (am_b mX6_ifPlayed) 36 = .ok (.iconst 0, 1) := by decide +kernel
theorem dX6_ifPlayed_37 : decode (am_b mX6_ifPlayed) 37 = .ok (.istore 4, 2) := by decide +kernel
theorem dX6_ifPlayed_39 : decode (am_b mX6_ifPlayed) 39 = .ok (.iload 4, 2) := by decide +kernel
theorem dX6_ifPlayed_41 : decode (am_b mX6_ifPlayed) 41 = .ok (.iload_n 1, 1) := by decide +kernel
theorem dX6_ifPlayed_42 : decode (am_b mX6_ifPlayed) 42 = .ok (.if_icmp .ge 23, 3) := by decide +kernel
theorem dX6_ifPlayed_45 : decode (am_b mX6_ifPlayed) 45 = .ok (.iload_n 3, 1) := by decide +kernel
theorem dX6_ifPlayed_46 : decode (am_b mX6_ifPlayed) 46 = .ok (.aload_n 0, 1) := by decide +kernel
theorem dX6_ifPlayed_47 : decode (am_b mX6_ifPlayed) 47 = .ok (.getfield 16, 3) := by decide +kernel
theorem dX6_ifPlayed_50 : decode (am_b mX6_ifPlayed) 50 = .ok (.aload_n 0, 1) := by decide +kernel
theorem dX6_ifPlayed_51 : decode (am_b mX6_ifPlayed) 51 = .ok (.getfield 22, 3) := by decide +kernel
theorem dX6_ifPlayed_54 : decode (am_b mX6_ifPlayed) 54 = .ok (.invokestatic 112, 3) := by decide +kernel
theorem dX6_ifPlayed_57 : decode (am_b mX6_ifPlayed) 57 = .ok (.iadd, 1) := by decide +kernel
theorem dX6_ifPlayed_58 : decode (am_b mX6_ifPlayed) 58 = .ok (.istore_n 3, 1) := by decide +kernel
theorem dX6_ifPlayed_59 : decode (am_b mX6_ifPlayed) 59 = .ok (.iinc 4 1, 3) := by decide +kernel
theorem dX6_ifPlayed_62 : decode (am_b mX6_ifPlayed) 62 = .ok (.goto (-23), 3) := by decide +kernel
theorem dX6_ifPlayed_65 : decode (am_b mX6_ifPlayed) 65 = .ok (.iload_n 2, 1) := by decide +kernel
theorem dX6_ifPlayed_66 : decode (am_b mX6_ifPlayed) 66 = .ok (.ifCond .ne 7, 3) := by decide +kernel
theorem dX6_ifPlayed_69 : decode (am_b mX6_ifPlayed) 69 = .ok (.iload_n 3, 1) := by decide +kernel
theorem dX6_ifPlayed_70 : decode (am_b mX6_ifPlayed) 70 = .ok (.goto 18, 3) := by decide +kernel
theorem dX6_ifPlayed_73 : decode (am_b mX6_ifPlayed) 73 = .ok (.aload_n 0, 1) := by decide +kernel
theorem dX6_ifPlayed_74 : decode (am_b mX6_ifPlayed) 74 = .ok (.getfield 16, 3) := by decide +kernel
theorem dX6_ifPlayed_77 : decode (am_b mX6_ifPlayed) 77 = .ok (.getfield 186, 3) := by decide +kernel
theorem dX6_ifPlayed_80 : decode (am_b mX6_ifPlayed) 80 = .ok (.aload_n 0, 1) := by decide +kernel
theorem dX6_ifPlayed_81 : decode (am_b mX6_ifPlayed) 81 = .ok (.getfield 10, 3) := by decide +kernel
theorem dX6_ifPlayed_84 : decode (am_b mX6_ifPlayed) 84 = .ok (.getfield 186, 3) := by decide +kernel
theorem dX6_ifPlayed_87 : decode (am_b mX6_ifPlayed) 87 = .ok (.isub, 1) := by decide +kernel
theorem dX6_ifPlayed_88 : decode (am_b mX6_ifPlayed) 88 = .ok (.ireturn, 1) := by decide +kernel
theorem dX6_play_0 : decode (am_b mX6_play) 0 = .ok (.aload_n 0, 1) := by decide +kernel
theorem dX6_play_1 : decode (am_b mX6_play) 1 = .ok (.getfield 10, 3) := by decide +kernel
theorem dX6_play_4 : decode (am_b mX6_play) 4 = .ok (.getfield 109, 3) := by decide +kernel
theorem dX6_play_7 : decode (am_b mX6_play) 7 = .ok (.sipush 9999, 3) := by decide +kernel
theorem dX6_play_10 : decode (am_b mX6_play) 10 = .ok (.if_icmp .lt 6, 3) := by decide +kernel
theorem dX6_play_13 : decode (am_b mX6_play) 13 = .ok (.bipush (-4), 2) := by decide +kernel
theorem dX6_play_15 : decode (am_b mX6_play) 15 = .ok (.ireturn, 1) := by decide +kernel
theorem dX6_play_16 : decode (am_b mX6_play) 16 = .ok (.aload_n 0, 1) := by decide +kernel
theorem dX6_play_17 : decode (am_b mX6_play) 17 = .ok (.getfield 36, 3) := by decide +kernel
theorem dX6_play_20 : decode (am_b mX6_play) 20 = .ok (.aload_n 0, 1) := by decide +kernel
theorem dX6_play_21 : decode (am_b mX6_play) 21 = .ok (.getfield 10, 3) := by decide +kernel
theorem dX6_play_24 : decode (am_b mX6_play) 24 = .ok (.invokevirtual 48, 3) := by decide +kernel
theorem dX6_play_27 : decode (am_b mX6_play) 27 = .ok (.aload_n 0, 1) := by decide +kernel
theorem dX6_play_28 : decode (am_b mX6_play) 28 = .ok (.getfield 10, 3) := by decide +kernel
theorem dX6_play_31 : decode (am_b mX6_play) 31 = .ok (.aload_n 0, 1) := by decide +kernel
theorem dX6_play_32 : decode (am_b mX6_play) 32 = .ok (.getfield 22, 3) := by decide +kernel
theorem dX6_play_35 : decode (am_b mX6_play) 35 = .ok (.invokestatic 112, 3) := by decide +kernel
theorem dX6_play_38 : decode (am_b mX6_play) 38 = .ok (.ireturn, 1) := by decide +kernel
