/-! printed: decode rows -/
theorem dJ6_bitCount_0f7a4_0 : decode (am_b mJ6_bitCount_0f7a4) 0 = .ok (.iload_n 0, 1) := by decide +kernel
theorem dJ6_bitCount_0f7a4_1 : decode (am_b mJ6_bitCount_0f7a4) 1 = .ok (.iload_n 0, 1) := by decide +kernel
theorem dJ6_bitCount_0f7a4_2 : decode (am_b mJ6_bitCount_0f7a4) 2 = .ok (.iconst 1, 1) := by decide +kernel
theorem dJ6_bitCount_0f7a4_3 : decode (am_b mJ6_bitCount_0f7a4) 3 = .ok (.iushr, 1) := by decide +kernel
theorem dJ6_bitCount_0f7a4_4 : decode (am_b mJ6_bitCount_0f7a4) 4 = .ok (.ldc_w 265, 3) := by decide +kernel
theorem dJ6_bitCount_0f7a4_7 : decode (am_b mJ6_bitCount_0f7a4) 7 = .ok (.iand, 1) := by decide +kernel
theorem dJ6_bitCount_0f7a4_8 : decode (am_b mJ6_bitCount_0f7a4) 8 = .ok (.isub, 1) := by decide +kernel
theorem dJ6_bitCount_0f7a4_9 : decode (am_b mJ6_bitCount_0f7a4) 9 = .ok (.istore_n 0, 1) := by decide +kernel
theorem dJ6_bitCount_0f7a4_10 : decode (am_b mJ6_bitCount_0f7a4) 10 = .ok (.iload_n 0, 1) := by decide +kernel
theorem dJ6_bitCount_0f7a4_11 : decode (am_b mJ6_bitCount_0f7a4) 11 = .ok (.ldc_w 266, 3) := by decide +kernel
theorem dJ6_bitCount_0f7a4_14 : decode (am_b mJ6_bitCount_0f7a4) 14 = .ok (.iand, 1) := by decide +kernel
theorem dJ6_bitCount_0f7a4_15 : decode (am_b mJ6_bitCount_0f7a4) 15 = .ok (.iload_n 0, 1) := by decide +kernel
theorem dJ6_bitCount_0f7a4_16 : decode (am_b mJ6_bitCount_0f7a4) 16 = .ok (.iconst 2, 1) := by decide +kernel
theorem dJ6_bitCount_0f7a4_17 : decode (am_b mJ6_bitCount_0f7a4) 17 = .ok (.iushr, 1) := by decide +kernel
theorem dJ6_bitCount_0f7a4_18 : decode (am_b mJ6_bitCount_0f7a4) 18 = .ok (.ldc_w 266, 3) := by decide +kernel
theorem dJ6_bitCount_0f7a4_21 : decode (am_b mJ6_bitCount_0f7a4) 21 = .ok (.iand, 1) := by decide +kernel
theorem dJ6_bitCount_0f7a4_22 : decode (am_b mJ6_bitCount_0f7a4) 22 = .ok (.iadd, 1) := by decide +kernel
theorem dJ6_bitCount_0f7a4_23 : decode (am_b mJ6_bitCount_0f7a4) 23 = .ok (.istore_n 0, 1) := by decide +kernel
theorem dJ6_bitCount_0f7a4_24 : decode (am_b mJ6_bitCount_0f7a4) 24 = .ok (.iload_n 0, 1) := by decide +kernel
theorem dJ6_bitCount_0f7a4_25 : decode (am_b mJ6_bitCount_0f7a4) 25 = .ok (.iload_n 0, 1) := by decide +kernel
theorem dJ6_bitCount_0f7a4_26 : decode (am_b mJ6_bitCount_0f7a4) 26 = .ok (.iconst 4, 1) := by decide +kernel
theorem dJ6_bitCount_0f7a4_27 : decode (am_b mJ6_bitCount_0f7a4) 27 = .ok (.iushr, 1) := by decide +kernel
theorem dJ6_bitCount_0f7a4_28 : decode (am_b mJ6_bitCount_0f7a4) 28 = .ok (.iadd, 1) := by decide +kernel
theorem dJ6_bitCount_0f7a4_29 : decode (am_b mJ6_bitCount_0f7a4) 29 = .ok (.ldc_w 267, 3) := by decide +kernel
theorem dJ6_bitCount_0f7a4_32 : decode (am_b mJ6_bitCount_0f7a4) 32 = .ok (.iand, 1) := by decide +kernel
theorem dJ6_bitCount_0f7a4_33 : decode (am_b mJ6_bitCount_0f7a4) 33 = .ok (.istore_n 0, 1) := by decide +kernel
theorem dJ6_bitCount_0f7a4_34 : decode (am_b mJ6_bitCount_0f7a4) 34 = .ok (.iload_n 0, 1) := by decide +kernel
theorem dJ6_bitCount_0f7a4_35 : decode (am_b mJ6_bitCount_0f7a4) 35 = .ok (.iload_n 0, 1) := by decide +kernel
theorem dJ6_bitCount_0f7a4_36 : decode (am_b mJ6_bitCount_0f7a4) 36 = .ok (.bipush 8, 2) := by decide +kernel
theorem dJ6_bitCount_0f7a4_38 : decode (am_b mJ6_bitCount_0f7a4) 38 = .ok (.iushr, 1) := by decide +kernel
theorem dJ6_bitCount_0f7a4_39 : decode (am_b mJ6_bitCount_0f7a4) 39 = .ok (.iadd, 1) := by decide +kernel
theorem dJ6_bitCount_0f7a4_40 : decode (am_b mJ6_bitCount_0f7a4) 40 = .ok (.istore_n 0, 1) := by decide +kernel
theorem dJ6_bitCount_0f7a4_41 : decode (am_b mJ6_bitCount_0f7a4) 41 = .ok (.iload_n 0, 1) := by decide +kernel
theorem dJ6_bitCount_0f7a4_42 : decode (am_b mJ6_bitCount_0f7a4) 42 = .ok (.iload_n 0, 1) := by decide +kernel
theorem dJ6_bitCount_0f7a4_43 : decode (am_b mJ6_bitCount_0f7a4) 43 = .ok (.bipush 16, 2) := by decide +kernel
theorem dJ6_bitCount_0f7a4_45 : decode (am_b mJ6_bitCount_0f7a4) 45 = .ok (.iushr, 1) := by decide +kernel
theorem dJ6_bitCount_0f7a4_46 : decode (am_b mJ6_bitCount_0f7a4) 46 = .ok (.iadd, 1) := by decide +kernel
theorem dJ6_bitCount_0f7a4_47 : decode (am_b mJ6_bitCount_0f7a4) 47 = .ok (.istore_n 0, 1) := by decide +kernel
theorem dJ6_bitCount_0f7a4_48 : decode (am_b mJ6_bitCount_0f7a4) 48 = .ok (.iload_n 0, 1) := by decide +kernel
theorem dJ6_bitCount_0f7a4_49 : decode (am_b mJ6_bitCount_0f7a4) 49 = .ok (.bipush 63, 2) := by decide +kernel
theorem dJ6_bitCount_0f7a4_51 : decode (am_b mJ6_bitCount_0f7a4) 51 = .ok (.iand, 1) := by decide +kernel
theorem dJ6_bitCount_0f7a4_52 : decode (am_b mJ6_bitCount_0f7a4) 52 = .ok (.ireturn, 1) := by decide +kernel
theorem dJ9_abs_0f7a4_0 : decode (am_b mJ9_abs_0f7a4) 0 = .ok (.iload_n 0, 1) := by decide +kernel
theorem dJ9_abs_0f7a4_1 : decode (am_b mJ9_abs_0f7a4) 1 = .ok (.ifCond .ge 8, 3) := by decide +kernel
theorem dJ9_abs_0f7a4_4 : decode (am_b mJ9_abs_0f7a4) 4 = .ok (.iload_n 0, 1) := by decide +kernel
theorem dJ9_abs_0f7a4_5 : decode (am_b mJ9_abs_0f7a4) 5 = .ok (.ineg, 1) := by decide +kernel
theorem dJ9_abs_0f7a4_6 : decode (am_b mJ9_abs_0f7a4) 6 = .ok (.goto 4, 3) := by decide +kernel
theorem dJ9_abs_0f7a4_9 : decode (am_b mJ9_abs_0f7a4) 9 = .ok (.iload_n 0, 1) := by decide +kernel
theorem dJ9_abs_0f7a4_10 : decode (am_b mJ9_abs_0f7a4) 10 = .ok (.ireturn, 1) := by decide +kernel
theorem dJ9_max_7cf53_0 : decode (am_b mJ9_max_7cf53) 0 = .ok (.iload_n 0, 1) := by decide +kernel
theorem dJ9_max_7cf53_1 : decode (am_b mJ9_max_7cf53) 1 = .ok (.iload_n 1, 1) := by decide +kernel
theorem dJ9_max_7cf53_2 : decode (am_b mJ9_max_7cf53) 2 = .ok (.if_icmp .lt 7, 3) := by decide +kernel
theorem dJ9_max_7cf53_5 : decode (am_b mJ9_max_7cf53) 5 = .ok (.iload_n 0, 1) := by decide +kernel
theorem dJ9_max_7cf53_6 : decode (am_b mJ9_max_7cf53) 6 = .ok (.goto 4, 3) := by decide +kernel
theorem dJ9_max_7cf53_9 : decode (am_b mJ9_max_7cf53) 9 = .ok (.iload_n 1, 1) := by decide +kernel
theorem dJ9_max_7cf53_10 : decode (am_b mJ9_max_7cf53) 10 = .ok (.ireturn, 1) := by decide +kernel
theorem dJ9_min_7cf53_0 : decode (am_b mJ9_min_7cf53) 0 = .ok (.iload_n 0, 1) := by decide +kernel
theorem dJ9_min_7cf53_1 : decode (am_b mJ9_min_7cf53) 1 = .ok (.iload_n 1, 1) := by decide +kernel
theorem dJ9_min_7cf53_2 : decode (am_b mJ9_min_7cf53) 2 = .ok (.if_icmp .gt 7, 3) := by decide +kernel
theorem dJ9_min_7cf53_5 : decode (am_b mJ9_min_7cf53) 5 = .ok (.iload_n 0, 1) := by decide +kernel
theorem dJ9_min_7cf53_6 : decode (am_b mJ9_min_7cf53) 6 = .ok (.goto 4, 3) := by decide +kernel
theorem dJ9_min_7cf53_9 : decode (am_b mJ9_min_7cf53) 9 = .ok (.iload_n 1, 1) := by decide +kernel
theorem dJ9_min_7cf53_10 : decode (am_b mJ9_min_7cf53) 10 = .ok (.ireturn, 1) := by decide +kernel
theorem dX1_init_0 : decode (am_b mX1_init) 0 = .ok (.aload_n 0, 1) := by decide +kernel
theorem dX1_init_1 : decode (am_b mX1_init) 1 = .ok (.invokespecial 3, 3) := by decide +kernel
theorem dX1_init_4 : decode (am_b mX1_init) 4 = .ok (.aload_n 0, 1) := by decide +kernel
theorem dX1_init_5 : decode (am_b mX1_init) 5 = .ok (.bipush 6, 2) := by decide +kernel
theorem dX1_init_7 : decode (am_b mX1_init) 7 = .ok (.anewarray 9, 3) := by decide +kernel
theorem dX1_init_10 : decode (am_b mX1_init) 10 = .ok (.putfield 11, 3) := by decide +kernel
theorem dX1_init_13 : decode (am_b mX1_init) 13 = .ok (.return_, 1) := by decide +kernel
theorem dX2_init_0 : decode (am_b mX2_init) 0 = .ok (.aload_n 0, 1) := by decide +kernel
theorem dX2_init_1 : decode (am_b mX2_init) 1 = .ok (.invokespecial 3, 3) := by decide +kernel
theorem dX2_init_4 : decode (am_b mX2_init) 4 = .ok (.aload_n 0, 1) := by decide +kernel
theorem dX2_init_5 : decode (am_b mX2_init) 5 = .ok (.bipush 60, 2) := by decide +kernel
theorem dX2_init_7 : decode (am_b mX2_init) 7 = .ok (.newarray .char, 2) := by decide +kernel
theorem dX2_init_9 : decode (am_b mX2_init) 9 = .ok (.putfield 9, 3) := by decide +kernel
theorem dX2_init_12 : decode (am_b mX2_init) 12 = .ok (.aload_n 0, 1) := by decide +kernel
theorem dX2_init_13 : decode (am_b mX2_init) 13 = .ok (.bipush 8, 2) := by decide +kernel
theorem dX2_init_15 : decode (am_b mX2_init) 15 = .ok (.newarray .int, 2) := by decide +kernel
theorem dX2_init_17 : decode (am_b mX2_init) 17 = .ok (.putfield 15, 3) := by decide +kernel
theorem dX2_init_20 : decode (am_b mX2_init) 20 = .ok (.aload_n 0, 1) := by decide +kernel
theorem dX2_init_21 : decode (am_b mX2_init) 21 = .ok (.bipush 8, 2) := by decide +kernel
theorem dX2_init_23 : decode (am_b mX2_init) 23 = .ok (.newarray .int, 2) := by decide +kernel
theorem dX2_init_25 : decode (am_b mX2_init) 25 = .ok (.putfield 19, 3) := by decide +kernel
theorem dX2_init_28 : decode (am_b mX2_init) 28 = .ok (.return_, 1) := by decide +kernel
theorem dX3_addBooth_0 : decode (am_b mX3_addBooth) 0 = .ok (.aload_n 0, 1) := by decide +kernel
theorem dX3_addBooth_1 : decode (am_b mX3_addBooth) 1 = .ok (.getfield 60, 3) := by decide +kernel
theorem dX3_addBooth_4 : decode (am_b mX3_addBooth) 4 = .ok (.ifCond .lt 12, 3) := by decide +kernel
theorem dX3_addBooth_7 : decode (am_b mX3_addBooth) 7 = .ok (.aload_n 0, 1) := by decide +kernel
theorem dX3_addBooth_8 : decode (am_b mX3_addBooth) 8 = .ok (.getfield 60, 3) := by decide +kernel
theorem dX3_addBooth_11 : decode (am_b mX3_addBooth) 11 = .ok (.bipush 8, 2) := by decide +kernel
theorem dX3_addBooth_13 : decode (am_b mX3_addBooth) 13 = .ok (.if_icmp .lt 4, 3) := by decide +kernel
theorem dX3_addBooth_16 : decode (am_b mX3_addBooth) 16 = .ok (.return_, 1) := by decide +kernel
theorem dX3_addBooth_17 : decode (am_b mX3_addBooth) 17 = .ok (.aload_n 0, 1) := by decide +kernel
theorem dX3_addBooth_18 : decode (am_b mX3_addBooth) 18 = .ok (.getfield 26, 3) := by decide +kernel
theorem dX3_addBooth_21 : decode (am_b mX3_addBooth) 21 = .ok (.aload_n 0, 1) := by decide +kernel
theorem dX3_addBooth_22 : decode (am_b mX3_addBooth) 22 = .ok (.getfield 60, 3) := by decide +kernel
theorem dX3_addBooth_25 : decode (am_b mX3_addBooth) 25 = .ok (.iload_n 1, 1) := by decide +kernel
theorem dX3_addBooth_26 : decode (am_b mX3_addBooth) 26 = .ok (.iastore, 1) := by decide +kernel
theorem dX3_addBooth_27 : decode (am_b mX3_addBooth) 27 = .ok (.aload_n 0, 1) := by decide +kernel
theorem dX3_addBooth_28 : decode (am_b mX3_addBooth) 28 = .ok (.getfield 29, 3) := by decide +kernel
theorem dX3_addBooth_31 : decode (am_b mX3_addBooth) 31 = .ok (.aload_n 0, 1) := by decide +kernel
theorem dX3_addBooth_32 : decode (am_b mX3_addBooth) 32 = .ok (.getfield 60, 3) := by decide +kernel
theorem dX3_addBooth_35 : decode (am_b mX3_addBooth) 35 = .ok (.iload_n 2, 1) := by decide +kernel
theorem dX3_addBooth_36 : decode (am_b mX3_addBooth) 36 = .ok (.iastore, 1) := by decide +kernel
theorem dX3_addBooth_37 : decode (am_b mX3_addBooth) 37 = .ok (.aload_n 0, 1) := by decide +kernel
theorem dX3_addBooth_38 : decode (am_b mX3_addBooth) 38 = .ok (.getfield 32, 3) := by decide +kernel
theorem dX3_addBooth_41 : decode (am_b mX3_addBooth) 41 = .ok (.aload_n 0, 1) := by decide +kernel
theorem dX3_addBooth_42 : decode (am_b mX3_addBooth) 42 = .ok (.getfield 60, 3) := by decide +kernel
theorem dX3_addBooth_45 : decode (am_b mX3_addBooth) 45 = .ok (.iconst 0, 1) := by decide +kernel
theorem dX3_addBooth_46 : decode (am_b mX3_addBooth) 46 = .ok (.iastore, 1) := by decide +kernel
theorem dX3_addBooth_47 : decode (am_b mX3_addBooth) 47 = .ok (.aload_n 0, 1) := by decide +kernel
theorem dX3_addBooth_48 : decode (am_b mX3_addBooth) 48 = .ok (.getfield 35, 3) := by decide +kernel
theorem dX3_addBooth_51 : decode (am_b mX3_addBooth) 51 = .ok (.aload_n 0, 1) := by decide +kernel
theorem dX3_addBooth_52 : decode (am_b mX3_addBooth) 52 = .ok (.getfield 60, 3) := by decide +kernel
theorem dX3_addBooth_55 : decode (am_b mX3_addBooth) 55 = .ok (.iconst 0, 1) := by decide +kernel
theorem dX3_addBooth_56 : decode (am_b mX3_addBooth) 56 = .ok (.iastore, 1) := by decide +kernel
theorem dX3_addBooth_57 : decode (am_b mX3_addBooth) 57 = .ok (.aload_n 0, 1) := by decide +kernel
theorem dX3_addBooth_58 : decode (am_b mX3_addBooth) 58 = .ok (.getfield 38, 3) := by decide +kernel
theorem dX3_addBooth_61 : decode (am_b mX3_addBooth) 61 = .ok (.aload_n 0, 1) := by decide +kernel
theorem dX3_addBooth_62 : decode (am_b mX3_addBooth) 62 = .ok (.getfield 60, 3) := by decide +kernel
theorem dX3_addBooth_65 : decode (am_b mX3_addBooth) 65 = .ok (.iconst 0, 1) := by decide +kernel
theorem dX3_addBooth_66 : decode (am_b mX3_addBooth) 66 = .ok (.iastore, 1) := by decide +kernel
theorem dX3_addBooth_67 : decode (am_b mX3_addBooth) 67 = .ok (.aload_n 0, 1) := by decide +kernel
theorem dX3_addBooth_68 : decode (am_b mX3_addBooth) 68 = .ok (.dup, 1) := by decide +kernel
theorem dX3_addBooth_69 : decode (am_b mX3_addBooth) 69 = .ok (.getfield 60, 3) := by decide +kernel
theorem dX3_addBooth_72 : decode (am_b mX3_addBooth) 72 = .ok (.iconst 1, 1) := by decide +kernel
theorem dX3_addBooth_73 : decode (am_b mX3_addBooth) 73 = .ok (.iadd, 1) := by decide +kernel
theorem dX3_addBooth_74 : decode (am_b mX3_addBooth) 74 = .ok (.putfield 60, 3) := by decide +kernel
theorem dX3_addBooth_77 : decode (am_b mX3_addBooth) 77 = .ok (.return_, 1) := by decide +kernel
theorem dX3_changeSetting_0 : decode (am_b mX3_changeSetting) 0 = .ok (.iload_n 1, 1) := by decide +kernel
theorem dX3_changeSetting_1 : decode (am_b mX3_changeSetting) 1 = .ok (.ifCond .lt 19, 3) := by decide +kernel
theorem dX3_changeSetting_4 : decode (am_b mX3_changeSetting) 4 = .ok (.iload_n 1, 1) := by decide +kernel
theorem dX3_changeSetting_5 : decode (am_b mX3_changeSetting) 5 = .ok (.aload_n 0, 1) := by decide +kernel
theorem dX3_changeSetting_6 : decode (am_b mX3_changeSetting) 6 = .ok (.getfield 13, 3) := by decide +kernel
theorem dX3_changeSetting_9 : decode (am_b mX3_changeSetting) 9 = .ok (.arraylength, 1) := by decide +kernel
theorem dX3_changeSetting_10 : decode (am_b mX3_changeSetting) 10 = .ok (.if_icmp .ge 10, 3) := by decide +kernel
theorem dX3_changeSetting_13 : decode (am_b mX3_changeSetting) 13 = .ok (.aload_n 0, 1) := by decide +kernel
theorem dX3_changeSetting_14 : decode (am_b mX3_changeSetting) 14 = .ok (.getfield 13, 3) := by decide +kernel
theorem dX3_changeSetting_17 : decode (am_b mX3_changeSetting) 17 = .ok (.iload_n 1, 1) := by decide +kernel
theorem dX3_changeSetting_18 : decode (am_b mX3_changeSetting) 18 = .ok (.iload_n 2, 1) := by decide +kernel
theorem dX3_changeSetting_19 : decode (am_b mX3_changeSetting) 19 = .ok (.iastore, 1) := by decide +kernel
theorem dX3_changeSetting_20 : decode (am_b mX3_changeSetting) 20 = .ok (.return_, 1) := by decide +kernel
theorem dX3_draw_0 : decode (am_b mX3_draw) 0 = .ok (.aload_n 0, 1) := by decide +kernel
theorem dX3_draw_1 : decode (am_b mX3_draw) 1 = .ok (.aload_n 0, 1) := by decide +kernel
theorem dX3_draw_2 : decode (am_b mX3_draw) 2 = .ok (.getfield 18, 3) := by decide +kernel
theorem dX3_draw_5 : decode (am_b mX3_draw) 5 = .ok (.ldc2_w 91, 3) := by decide +kernel
theorem dX3_draw_8 : decode (am_b mX3_draw) 8 = .ok (.lmul, 1) := by decide +kernel
theorem dX3_draw_9 : decode (am_b mX3_draw) 9 = .ok (.ldc2_w 93, 3) := by decide +kernel
theorem dX3_draw_12 : decode (am_b mX3_draw) 12 = .ok (.ladd, 1) := by decide +kernel
theorem dX3_draw_13 : decode (am_b mX3_draw) 13 = .ok (.ldc2_w 95, 3) := by decide +kernel
theorem dX3_draw_16 : decode (am_b mX3_draw) 16 = .ok (.lrem, 1) := by decide +kernel
theorem dX3_draw_17 : decode (am_b mX3_draw) 17 = .ok (.putfield 18, 3) := by decide +kernel
theorem dX3_draw_20 : decode (am_b mX3_draw) 20 = .ok (.iload_n 1, 1) := by decide +kernel
theorem dX3_draw_21 : decode (am_b mX3_draw) 21 = .ok (.iconst 1, 1) := by decide +kernel
theorem dX3_draw_22 : decode (am_b mX3_draw) 22 = .ok (.if_icmp .ge 7, 3) := by decide +kernel
theorem dX3_draw_25 : decode (am_b mX3_draw) 25 = .ok (.iconst 0, 1) := by decide +kernel
theorem dX3_draw_26 : decode (am_b mX3_draw) 26 = .ok (.goto 15, 3) := by decide +kernel
theorem dX3_draw_29 : decode (am_b mX3_draw) 29 = .ok (.aload_n 0, 1) := by decide +kernel
theorem dX3_draw_30 : decode (am_b mX3_draw) 30 = .ok (.getfield 18, 3) := by decide +kernel
theorem dX3_draw_33 : decode (am_b mX3_draw) 33 = .ok (.ldc2_w 97, 3) := by decide +kernel
theorem dX3_draw_36 : decode (am_b mX3_draw) 36 = .ok (.ldiv, 1) := by decide +kernel
theorem dX3_draw_37 : decode (am_b mX3_draw) 37 = .ok (.iload_n 1, 1) := by decide +kernel
theorem dX3_draw_38 : decode (am_b mX3_draw) 38 = .ok (.i2l, 1) := by decide +kernel
theorem dX3_draw_39 : decode (am_b mX3_draw) 39 = .ok (.lrem, 1) := by decide +kernel
theorem dX3_draw_40 : decode (am_b mX3_draw) 40 = .ok (.l2i, 1) := by decide +kernel
theorem dX3_draw_41 : decode (am_b mX3_draw) 41 = .ok (.ireturn, 1) := by decide +kernel
theorem dX3_forgetLots_0 : decode (am_b mX3_forgetLots) 0 = .ok (.iconst 0, 1) := by decide +kernel
theorem dX3_forgetLots_1 : decode (am_b mX3_forgetLots) 1 = .ok (.istore_n 1, 1) := by decide +kernel
theorem dX3_forgetLots_2 : decode (am_b mX3_forgetLots) 2 = .ok (.iload_n 1, 1) := by decide +kernel
theorem dX3_forgetLots_3 : decode (am_b mX3_forgetLots) 3 = .ok (.aload_n 0, 1) := by decide +kernel
theorem dX3_forgetLots_4 : decode (am_b mX3_forgetLots) 4 = .ok (.getfield 41, 3) := by decide +kernel
theorem dX3_forgetLots_7 : decode (am_b mX3_forgetLots) 7 = .ok (.arraylength, 1) := by decide +kernel
theorem dX3_forgetLots_8 : decode (am_b mX3_forgetLots) 8 = .ok (.if_icmp .ge 17, 3) := by decide +kernel
theorem dX3_forgetLots_11 : decode (am_b mX3_forgetLots) 11 = .ok (.aload_n 0, 1) := by decide +kernel
theorem dX3_forgetLots_12 : decode (am_b mX3_forgetLots) 12 = .ok (.getfield 41, 3) := by decide +kernel
theorem dX3_forgetLots_15 : decode (am_b mX3_forgetLots) 15 = .ok (.iload_n 1, 1) := by decide +kernel
theorem dX3_forgetLots_16 : decode (am_b mX3_forgetLots) 16 = .ok (.bipush (-6), 2) := by decide +kernel
theorem dX3_forgetLots_18 : decode (am_b mX3_forgetLots) 18 = .ok (.iastore, 1) := by decide +kernel
theorem dX3_forgetLots_19 : decode (am_b mX3_forgetLots) 19 = .ok (.iinc 1 1, 3) := by decide +kernel
theorem dX3_forgetLots_22 : decode (am_b mX3_forgetLots) 22 = .ok (.goto (-20), 3) := by decide +kernel
theorem dX3_forgetLots_25 : decode (am_b mX3_forgetLots) 25 = .ok (.return_, 1) := by decide +kernel
theorem dX3_isBooth_0 : decode (am_b mX3_isBooth) 0 = .ok (.iload_n 1, 1) := by decide +kernel
theorem dX3_isBooth_1 : decode (am_b mX3_isBooth) 1 = .ok (.ifCond .lt 21, 3) := by decide +kernel
theorem dX3_isBooth_4 : decode (am_b mX3_isBooth) 4 = .ok (.iload_n 1, 1) := by decide +kernel
theorem dX3_isBooth_5 : decode (am_b mX3_isBooth) 5 = .ok (.aload_n 0, 1) := by decide +kernel
theorem dX3_isBooth_6 : decode (am_b mX3_isBooth) 6 = .ok (.getfield 60, 3) := by decide +kernel
theorem dX3_isBooth_9 : decode (am_b mX3_isBooth) 9 = .ok (.if_icmp .ge 13, 3) := by decide +kernel
theorem dX3_isBooth_12 : decode (am_b mX3_isBooth) 12 = .ok (.iload_n 1, 1) := by decide +kernel
theorem dX3_isBooth_13 : decode (am_b mX3_isBooth) 13 = .ok (.bipush 8, 2) := by decide +kernel
theorem dX3_isBooth_15 : decode (am_b mX3_isBooth) 15 = .ok (.if_icmp .ge 7, 3) := by decide +kernel
theorem dX3_isBooth_18 : decode (am_b mX3_isBooth) 18 = .ok (.iconst 1, 1) := by decide +kernel
theorem dX3_isBooth_19 : decode (am_b mX3_isBooth) 19 = .ok (.goto 4, 3) := by decide +kernel
theorem dX3_isBooth_22 : decode (am_b mX3_isBooth) 22 = .ok (.iconst 0, 1) := by decide +kernel
theorem dX3_isBooth_23 : decode (am_b mX3_isBooth) 23 = .ok (.ireturn, 1) := by decide +kernel
theorem dX3_setting_0 : decode (am_b mX3_setting) 0 = .ok (.iload_n 1, 1) := by decide +kernel
theorem dX3_setting_1 : decode (am_b mX3_setting) 1 = .ok (.ifCond .lt 21, 3) := by decide +kernel
theorem dX3_setting_4 : decode (am_b mX3_setting) 4 = .ok (.iload_n 1, 1) := by decide +kernel
theorem dX3_setting_5 : decode (am_b mX3_setting) 5 = .ok (.aload_n 0, 1) := by decide +kernel
theorem dX3_setting_6 : decode (am_b mX3_setting) 6 = .ok (.getfield 13, 3) := by decide +kernel
theorem dX3_setting_9 : decode (am_b mX3_setting) 9 = .ok (.arraylength, 1) := by decide +kernel
theorem dX3_setting_10 : decode (am_b mX3_setting) 10 = .ok (.if_icmp .ge 12, 3) := by decide +kernel
theorem dX3_setting_13 : decode (am_b mX3_setting) 13 = .ok (.aload_n 0, 1) := by decide +kernel
theorem dX3_setting_14 : decode (am_b mX3_setting) 14 = .ok (.getfield 13, 3) := by decide +kernel
theorem dX3_setting_17 : decode (am_b mX3_setting) 17 = .ok (.iload_n 1, 1) := by decide +kernel
theorem dX3_setting_18 : decode (am_b mX3_setting) 18 = .ok (.iaload, 1) := by decide +kernel
theorem dX3_setting_19 : decode (am_b mX3_setting) 19 = .ok (.goto 4, 3) := by decide +kernel
theorem dX3_setting_22 : decode (am_b mX3_setting) 22 = .ok (.iconst 0, 1) := by decide +kernel
theorem dX3_setting_23 : decode (am_b mX3_setting) 23 = .ok (.ireturn, 1) := by decide +kernel
theorem dX4_init_0 : decode (am_b mX4_init) 0 = .ok (.aload_n 0, 1) := by decide +kernel
theorem dX4_init_1 : decode (am_b mX4_init) 1 = .ok (.invokespecial 3, 3) := by decide +kernel
theorem dX4_init_4 : decode (am_b mX4_init) 4 = .ok (.aload_n 0, 1) := by decide +kernel
theorem dX4_init_5 : decode (am_b mX4_init) 5 = .ok (.bipush 12, 2) := by decide +kernel
theorem dX4_init_7 : decode (am_b mX4_init) 7 = .ok (.newarray .int, 2) := by decide +kernel
theorem dX4_init_9 : decode (am_b mX4_init) 9 = .ok (.putfield 9, 3) := by decide +kernel
theorem dX4_init_12 : decode (am_b mX4_init) 12 = .ok (.aload_n 0, 1) := by decide +kernel
theorem dX4_init_13 : decode (am_b mX4_init) 13 = .ok (.bipush 12, 2) := by decide +kernel
theorem dX4_init_15 : decode (am_b mX4_init) 15 = .ok (.newarray .int, 2) := by decide +kernel
theorem dX4_init_17 : decode (am_b mX4_init) 17 = .ok (.putfield 15, 3) := by decide +kernel
theorem dX4_init_20 : decode (am_b mX4_init) 20 = .ok (.aload_n 0, 1) := by decide +kernel
theorem dX4_init_21 : decode (am_b mX4_init) 21 = .ok (.iload_n 1, 1) := by decide +kernel
theorem dX4_init_22 : decode (am_b mX4_init) 22 = .ok (.putfield 18, 3) := by decide +kernel
theorem dX4_init_25 : decode (am_b mX4_init) 25 = .ok (.return_, 1) := by decide +kernel
theorem dX4_walk_0 : decode (am_b mX4_walk) 0 = .ok (.aload_n 0, 1) := by decide +kernel
theorem dX4_walk_1 : decode (am_b mX4_walk) 1 = .ok (.iload_n 3, 1) := by decide +kernel
theorem dX4_walk_2 : decode (am_b mX4_walk) 2 = .ok (.putfield 22, 3) := by decide +kernel
theorem dX4_walk_5 : decode (am_b mX4_walk) 5 = .ok (.iload_n 2, 1) := by decide +kernel
theorem dX4_walk_6 : decode (am_b mX4_walk) 6 = .ok (.istore 4, 2) := by decide +kernel
theorem dX4_walk_8 : decode (am_b mX4_walk) 8 = .ok (.iconst 0, 1) := by decide +kernel
theorem dX4_walk_9 : decode (am_b mX4_walk) 9 = .ok (.istore 5, 2) := by decide +kernel
theorem dX4_walk_11 : decode (am_b mX4_walk) 11 = .ok (.iconst 0, 1) := by decide +kernel
theorem dX4_walk_12 : decode (am_b mX4_walk) 12 = .ok (.istore 6, 2) := by decide +kernel
theorem dX4_walk_14 : decode (am_b mX4_walk) 14 = .ok (.iload 6, 2) := by decide +kernel
theorem dX4_walk_16 : decode (am_b mX4_walk) 16 = .ok (.bipush 12, 2) := by decide +kernel
theorem dX4_walk_18 : decode (am_b mX4_walk) 18 = .ok (.if_icmp .ge 80, 3) := by decide +kernel
theorem dX4_walk_21 : decode (am_b mX4_walk) 21 = .ok (.aload_n 0, 1) := by decide +kernel
theorem dX4_walk_22 : decode (am_b mX4_walk) 22 = .ok (.getfield 18, 3) := by decide +kernel
theorem dX4_walk_25 : decode (am_b mX4_walk) 25 = .ok (.ifCond .eq 8, 3) := by decide +kernel
theorem dX4_walk_28 : decode (am_b mX4_walk) 28 = .ok (.iload 6, 2) := by decide +kernel
theorem dX4_walk_30 : decode (am_b mX4_walk) 30 = .ok (.goto 8, 3) := by decide +kernel
theorem dX4_walk_33 : decode (am_b mX4_walk) 33 = .ok (.bipush 11, 2) := by decide +kernel
theorem dX4_walk_35 : decode (am_b mX4_walk) 35 = .ok (.iload 6, 2) := by decide +kernel
theorem dX4_walk_37 : decode (am_b mX4_walk) 37 = .ok (.isub, 1) := by decide +kernel
theorem dX4_walk_38 : decode (am_b mX4_walk) 38 = .ok (.istore 7, 2) := by decide +kernel
theorem dX4_walk_40 : decode (am_b mX4_walk) 40 = .ok (.aload_n 0, 1) := by decide +kernel
theorem dX4_walk_41 : decode (am_b mX4_walk) 41 = .ok (.getfield 9, 3) := by decide +kernel
theorem dX4_walk_44 : decode (am_b mX4_walk) 44 = .ok (.iload 7, 2) := by decide +kernel
theorem dX4_walk_46 : decode (am_b mX4_walk) 46 = .ok (.iload 4, 2) := by decide +kernel
theorem dX4_walk_48 : decode (am_b mX4_walk) 48 = .ok (.iastore, 1) := by decide +kernel
theorem dX4_walk_49 : decode (am_b mX4_walk) 49 = .ok (.aload_n 0, 1) := by decide +kernel
theorem dX4_walk_50 : decode (am_b mX4_walk) 50 = .ok (.getfield 15, 3) := by decide +kernel
theorem dX4_walk_53 : decode (am_b mX4_walk) 53 = .ok (.iload 7, 2) := by decide +kernel
theorem dX4_walk_55 : decode (am_b mX4_walk) 55 = .ok (.iload 5, 2) := by decide +kernel
theorem dX4_walk_57 : decode (am_b mX4_walk) 57 = .ok (.iastore, 1) := by decide +kernel
theorem dX4_walk_58 : decode (am_b mX4_walk) 58 = .ok (.iload 7, 2) := by decide +kernel
theorem dX4_walk_60 : decode (am_b mX4_walk) 60 = .ok (.aload_n 1, 1) := by decide +kernel
theorem dX4_walk_61 : decode (am_b mX4_walk) 61 = .ok (.arraylength, 1) := by decide +kernel
theorem dX4_walk_62 : decode (am_b mX4_walk) 62 = .ok (.if_icmp .ge 30, 3) := by decide +kernel
theorem dX4_walk_65 : decode (am_b mX4_walk) 65 = .ok (.aload_n 1, 1) := by decide +kernel
theorem dX4_walk_66 : decode (am_b mX4_walk) 66 = .ok (.iload 7, 2) := by decide +kernel
theorem dX4_walk_68 : decode (am_b mX4_walk) 68 = .ok (.iaload, 1) := by decide +kernel
theorem dX4_walk_69 : decode (am_b mX4_walk) 69 = .ok (.iload 5, 2) := by decide +kernel
theorem dX4_walk_71 : decode (am_b mX4_walk) 71 = .ok (.if_icmp .le 21, 3) := by decide +kernel
theorem dX4_walk_74 : decode (am_b mX4_walk) 74 = .ok (.iload 4, 2) := by decide +kernel
theorem dX4_walk_76 : decode (am_b mX4_walk) 76 = .ok (.iload 4, 2) := by decide +kernel
theorem dX4_walk_78 : decode (am_b mX4_walk) 78 = .ok (.iload_n 3, 1) := by decide +kernel
theorem dX4_walk_79 : decode (am_b mX4_walk) 79 = .ok (.imul, 1) := by decide +kernel
theorem dX4_walk_80 : decode (am_b mX4_walk) 80 = .ok (.bipush 100, 2) := by decide +kernel
theorem dX4_walk_82 : decode (am_b mX4_walk) 82 = .ok (.idiv, 1) := by decide +kernel
theorem dX4_walk_83 : decode (am_b mX4_walk) 83 = .ok (.isub, 1) := by decide +kernel
theorem dX4_walk_84 : decode (am_b mX4_walk) 84 = .ok (.istore 4, 2) := by decide +kernel
theorem dX4_walk_86 : decode (am_b mX4_walk) 86 = .ok (.aload_n 1, 1) := by decide +kernel
theorem dX4_walk_87 : decode (am_b mX4_walk) 87 = .ok (.iload 7, 2) := by decide +kernel
theorem dX4_walk_89 : decode (am_b mX4_walk) 89 = .ok (.iaload, 1) := by decide +kernel
theorem dX4_walk_90 : decode (am_b mX4_walk) 90 = .ok (.istore 5, 2) := by decide +kernel
theorem dX4_walk_92 : decode (am_b mX4_walk) 92 = .ok (.iinc 6 1, 3) := by decide +kernel
theorem dX4_walk_95 : decode (am_b mX4_walk) 95 = .ok (.goto (-81), 3) := by decide +kernel
theorem dX4_walk_98 : decode (am_b mX4_walk) 98 = .ok (.aload_n 0, 1) := by decide +kernel
theorem dX4_walk_99 : decode (am_b mX4_walk) 99 = .ok (.iload 4, 2) := by decide +kernel
theorem dX4_walk_101 : decode (am_b mX4_walk) 101 = .ok (.putfield 26, 3) := by decide +kernel
theorem dX4_walk_104 : decode (am_b mX4_walk) 104 = .ok (.return_, 1) := by decide +kernel
theorem dX5_clear_0 : decode (am_b mX5_clear) 0 = .ok (.iconst 0, 1) := by decide +kernel
theorem dX5_clear_1 : decode (am_b mX5_clear) 1 = .ok (.istore_n 1, 1) := by decide +kernel
theorem dX5_clear_2 : decode (am_b mX5_clear) 2 = .ok (.iload_n 1, 1) := by decide +kernel
theorem dX5_clear_3 : decode (am_b mX5_clear) 3 = .ok (.aload_n 0, 1) := by decide +kernel
theorem dX5_clear_4 : decode (am_b mX5_clear) 4 = .ok (.getfield 9, 3) := by decide +kernel
theorem dX5_clear_7 : decode (am_b mX5_clear) 7 = .ok (.arraylength, 1) := by decide +kernel
theorem dX5_clear_8 : decode (am_b mX5_clear) 8 = .ok (.if_icmp .ge 16, 3) := by decide +kernel
theorem dX5_clear_11 : decode (am_b mX5_clear) 11 = .ok (.aload_n 0, 1) := by decide +kernel
theorem dX5_clear_12 : decode (am_b mX5_clear) 12 = .ok (.getfield 9, 3) := by decide +kernel
theorem dX5_clear_15 : decode (am_b mX5_clear) 15 = .ok (.iload_n 1, 1) := by decide +kernel
theorem dX5_clear_16 : decode (am_b mX5_clear) 16 = .ok (.iconst 0, 1) := by decide +kernel
theorem dX5_clear_17 : decode (am_b mX5_clear) 17 = .ok (.iastore, 1) := by decide +kernel
theorem dX5_clear_18 : decode (am_b mX5_clear) 18 = .ok (.iinc 1 1, 3) := by decide +kernel
theorem dX5_clear_21 : decode (am_b mX5_clear) 21 = .ok (.goto (-19), 3) := by decide +kernel
theorem dX5_clear_24 : decode (am_b mX5_clear) 24 = .ok (.return_, 1) := by decide +kernel
theorem dX5_streamFrom_0 : decode (am_b mX5_streamFrom) 0 = .ok (.iload_n 1, 1) := by decide +kernel
theorem dX5_streamFrom_1 : decode (am_b mX5_streamFrom) 1 = .ok (.ifCond .eq 10, 3) := by decide +kernel
theorem dX5_streamFrom_4 : decode (am_b mX5_streamFrom) 4 = .ok (.aload_n 0, 1) := by decide +kernel
theorem dX5_streamFrom_5 : decode (am_b mX5_streamFrom) 5 = .ok (.getfield 20, 3) := by decide +kernel
theorem dX5_streamFrom_8 : decode (am_b mX5_streamFrom) 8 = .ok (.goto 7, 3) := by decide +kernel
theorem dX5_streamFrom_11 : decode (am_b mX5_streamFrom) 11 = .ok (.aload_n 0, 1) := by decide +kernel
theorem dX5_streamFrom_12 : decode (am_b mX5_streamFrom) 12 = .ok (.getfield 24, 3) := by decide +kernel
theorem dX5_streamFrom_15 : decode (am_b mX5_streamFrom) 15 = .ok (.areturn, 1) := by decide +kernel
theorem dX0_drawLots_0 : decode (am_b mX0_drawLots) 0 = .ok (.aload_n 0, 1) := by decide +kernel
theorem dX0_drawLots_1 : decode (am_b mX0_drawLots) 1 = .ok (.getfield 39, 3) := by decide +kernel
theorem dX0_drawLots_4 : decode (am_b mX0_drawLots) 4 = .ok (.astore_n 1, 1) := by decide +kernel
theorem dX0_drawLots_5 : decode (am_b mX0_drawLots) 5 = .ok (.iconst 0, 1) := by decide +kernel
theorem dX0_drawLots_6 : decode (am_b mX0_drawLots) 6 = .ok (.istore_n 2, 1) := by decide +kernel
theorem dX0_drawLots_7 : decode (am_b mX0_drawLots) 7 = .ok (.iload_n 2, 1) := by decide +kernel
theorem dX0_drawLots_8 : decode (am_b mX0_drawLots) 8 = .ok (.aload_n 1, 1) := by decide +kernel
theorem dX0_drawLots_9 : decode (am_b mX0_drawLots) 9 = .ok (.arraylength, 1) := by decide +kernel
theorem dX0_drawLots_10 : decode (am_b mX0_drawLots) 10 = .ok (.if_icmp .ge 26, 3) := by decide +kernel
theorem dX0_drawLots_13 : decode (am_b mX0_drawLots) 13 = .ok (.aload_n 1, 1) := by decide +kernel
theorem dX0_drawLots_14 : decode (am_b mX0_drawLots) 14 = .ok (.iload_n 2, 1) := by decide +kernel
theorem dX0_drawLots_15 : decode (am_b mX0_drawLots) 15 = .ok (.aload_n 0, 1) := by decide +kernel
theorem dX0_drawLots_16 : decode (am_b mX0_drawLots) 16 = .ok (.iload_n 2, 1) := by decide +kernel
theorem dX0_drawLots_17 : decode (am_b mX0_drawLots) 17 = .ok (.invokevirtual 43, 3) := by decide +kernel
theorem dX0_drawLots_20 : decode (am_b mX0_drawLots) 20 = .ok (.ifCond .eq 7, 3) := by decide +kernel
theorem dX0_drawLots_23 : decode (am_b mX0_drawLots) 23 = .ok (.iload_n 2, 1) := by decide +kernel
theorem dX0_drawLots_24 : decode (am_b mX0_drawLots) 24 = .ok (.goto 5, 3) := by decide +kernel
theorem dX0_drawLots_27 : decode (am_b mX0_drawLots) 27 = .ok (.bipush (-6), 2) := by decide +kernel
theorem dX0_drawLots_29 : decode (am_b mX0_drawLots) 29 = .ok (.iastore, 1) := by decide +kernel
theorem dX0_drawLots_30 : decode (am_b mX0_drawLots) 30 = .ok (.iinc 2 1, 3) := by decide +kernel
theorem dX0_drawLots_33 : decode (am_b mX0_drawLots) 33 = .ok (.goto (-26), 3) := by decide +kernel
theorem dX0_drawLots_36 : decode (am_b mX0_drawLots) 36 = .ok (.aload_n 0, 1) := by decide +kernel
theorem dX0_drawLots_37 : decode (am_b mX0_drawLots) 37 = .ok (.getfield 47, 3) := by decide +kernel
theorem dX0_drawLots_40 : decode (am_b mX0_drawLots) 40 = .ok (.aload_n 1, 1) := by decide +kernel
theorem dX0_drawLots_41 : decode (am_b mX0_drawLots) 41 = .ok (.arraylength, 1) := by decide +kernel
theorem dX0_drawLots_42 : decode (am_b mX0_drawLots) 42 = .ok (.invokestatic 50, 3) := by decide +kernel
theorem dX0_drawLots_45 : decode (am_b mX0_drawLots) 45 = .ok (.iconst 1, 1) := by decide +kernel
theorem dX0_drawLots_46 : decode (am_b mX0_drawLots) 46 = .ok (.isub, 1) := by decide +kernel
theorem dX0_drawLots_47 : decode (am_b mX0_drawLots) 47 = .ok (.istore_n 2, 1) := by decide +kernel
theorem dX0_drawLots_48 : decode (am_b mX0_drawLots) 48 = .ok (.iload_n 2, 1) := by decide +kernel
theorem dX0_drawLots_49 : decode (am_b mX0_drawLots) 49 = .ok (.iconst 1, 1) := by decide +kernel
theorem dX0_drawLots_50 : decode (am_b mX0_drawLots) 50 = .ok (.if_icmp .lt 43, 3) := by decide +kernel
theorem dX0_drawLots_53 : decode (am_b mX0_drawLots) 53 = .ok (.aload_n 0, 1) := by decide +kernel
theorem dX0_drawLots_54 : decode (am_b mX0_drawLots) 54 = .ok (.iload_n 2, 1) := by decide +kernel
theorem dX0_drawLots_55 : decode (am_b mX0_drawLots) 55 = .ok (.iconst 1, 1) := by decide +kernel
theorem dX0_drawLots_56 : decode (am_b mX0_drawLots) 56 = .ok (.iadd, 1) := by decide +kernel
theorem dX0_drawLots_57 : decode (am_b mX0_drawLots) 57 = .ok (.invokevirtual 19, 3) := by decide +kernel
theorem dX0_drawLots_60 : decode (am_b mX0_drawLots) 60 = .ok (.istore_n 3, 1) := by decide +kernel
theorem dX0_drawLots_61 : decode (am_b mX0_drawLots) 61 = .ok (.iload_n 3, 1) := by decide +kernel
theorem dX0_drawLots_62 : decode (am_b mX0_drawLots) 62 = .ok (.ifCond .lt 25, 3) := by decide +kernel
theorem dX0_drawLots_65 : decode (am_b mX0_drawLots) 65 = .ok (.iload_n 3, 1) := by decide +kernel
theorem dX0_drawLots_66 : decode (am_b mX0_drawLots) 66 = .ok (.aload_n 1, 1) := by decide +kernel
theorem dX0_drawLots_67 : decode (am_b mX0_drawLots) 67 = .ok (.arraylength, 1) := by decide +kernel
theorem dX0_drawLots_68 : decode (am_b mX0_drawLots) 68 = .ok (.if_icmp .ge 19, 3) := by decide +kernel
theorem dX0_drawLots_71 : decode (am_b mX0_drawLots) 71 = .ok (.aload_n 1, 1) := by decide +kernel
theorem dX0_drawLots_72 : decode (am_b mX0_drawLots) 72 = .ok (.iload_n 2, 1) := by decide +kernel
theorem dX0_drawLots_73 : decode (am_b mX0_drawLots) 73 = .ok (.iaload, 1) := by decide +kernel
theorem dX0_drawLots_74 : decode (am_b mX0_drawLots) 74 = .ok (.istore 4, 2) := by decide +kernel
theorem dX0_drawLots_76 : decode (am_b mX0_drawLots) 76 = .ok (.aload_n 1, 1) := by decide +kernel
theorem dX0_drawLots_77 : decode (am_b mX0_drawLots) 77 = .ok (.iload_n 2, 1) := by decide +kernel
theorem dX0_drawLots_78 : decode (am_b mX0_drawLots) 78 = .ok (.aload_n 1, 1) := by decide +kernel
theorem dX0_drawLots_79 : decode (am_b mX0_drawLots) 79 = .ok (.iload_n 3, 1) := by decide +kernel
theorem dX0_drawLots_80 : decode (am_b mX0_drawLots) 80 = .ok (.iaload, 1) := by decide +kernel
theorem dX0_drawLots_81 : decode (am_b mX0_drawLots) 81 = .ok (.iastore, 1) := by decide +kernel
theorem dX0_drawLots_82 : decode (am_b mX0_drawLots) 82 = .ok (.aload_n 1, 1) := by decide +kernel
theorem dX0_drawLots_83 : decode (am_b mX0_drawLots) 83 = .ok (.iload_n 3, 1) := by decide +kernel
theorem dX0_drawLots_84 : decode (am_b mX0_drawLots) 84 = .ok (.iload 4, 2) := by decide +kernel
theorem dX0_drawLots_86 : decode (am_b mX0_drawLots) 86 = .ok (.iastore, 1) := by decide +kernel
theorem dX0_drawLots_87 : decode (am_b mX0_drawLots) 87 = .ok (.iinc 2 (-1), 3) := by decide +kernel
theorem dX0_drawLots_90 : decode (am_b mX0_drawLots) 90 = .ok (.goto (-42), 3) := by decide +kernel
theorem dX0_drawLots_93 : decode (am_b mX0_drawLots) 93 = .ok (.aload_n 1, 1) := by decide +kernel
theorem dX0_drawLots_94 : decode (am_b mX0_drawLots) 94 = .ok (.iconst 0, 1) := by decide +kernel
theorem dX0_drawLots_95 : decode (am_b mX0_drawLots) 95 = .ok (.iaload, 1) := by decide +kernel
theorem dX0_drawLots_96 : decode (am_b mX0_drawLots) 96 = .ok (.istore_n 2, 1) := by decide +kernel
theorem dX0_drawLots_97 : decode (am_b mX0_drawLots) 97 = .ok (.aload_n 0, 1) := by decide +kernel
theorem dX0_drawLots_98 : decode (am_b mX0_drawLots) 98 = .ok (.iload_n 2, 1) := by decide +kernel
theorem dX0_drawLots_99 : decode (am_b mX0_drawLots) 99 = .ok (.invokevirtual 43, 3) := by decide +kernel
theorem dX0_drawLots_102 : decode (am_b mX0_drawLots) 102 = .ok (.ifCond .eq 13, 3) := by decide +kernel
theorem dX0_drawLots_105 : decode (am_b mX0_drawLots) 105 = .ok (.aload_n 0, 1) := by decide +kernel
theorem dX0_drawLots_106 : decode (am_b mX0_drawLots) 106 = .ok (.getfield 56, 3) := by decide +kernel
theorem dX0_drawLots_109 : decode (am_b mX0_drawLots) 109 = .ok (.iload_n 2, 1) := by decide +kernel
theorem dX0_drawLots_110 : decode (am_b mX0_drawLots) 110 = .ok (.dup2, 1) := by decide +kernel
theorem dX0_drawLots_111 : decode (am_b mX0_drawLots) 111 = .ok (.iaload, 1) := by decide +kernel
theorem dX0_drawLots_112 : decode (am_b mX0_drawLots) 112 = .ok (.iconst 1, 1) := by decide +kernel
theorem dX0_drawLots_113 : decode (am_b mX0_drawLots) 113 = .ok (.iadd, 1) := by decide +kernel
theorem dX0_drawLots_114 : decode (am_b mX0_drawLots) 114 = .ok (.iastore, 1) := by decide +kernel
theorem dX0_drawLots_115 : decode (am_b mX0_drawLots) 115 = .ok (.return_, 1) := by decide +kernel
theorem dX3_closeUp_0 : decode (am_b mX3_closeUp) 0 = .ok (.iload_n 1, 1) := by decide +kernel
theorem dX3_closeUp_1 : decode (am_b mX3_closeUp) 1 = .ok (.iconst 0, 1) := by decide +kernel
theorem dX3_closeUp_2 : decode (am_b mX3_closeUp) 2 = .ok (.invokestatic 85, 3) := by decide +kernel
theorem dX3_closeUp_5 : decode (am_b mX3_closeUp) 5 = .ok (.istore_n 2, 1) := by decide +kernel
theorem dX3_closeUp_6 : decode (am_b mX3_closeUp) 6 = .ok (.iload_n 2, 1) := by decide +kernel
theorem dX3_closeUp_7 : decode (am_b mX3_closeUp) 7 = .ok (.aload_n 0, 1) := by decide +kernel
theorem dX3_closeUp_8 : decode (am_b mX3_closeUp) 8 = .ok (.arraylength, 1) := by decide +kernel
theorem dX3_closeUp_9 : decode (am_b mX3_closeUp) 9 = .ok (.iconst 1, 1) := by decide +kernel
theorem dX3_closeUp_10 : decode (am_b mX3_closeUp) 10 = .ok (.isub, 1) := by decide +kernel
theorem dX3_closeUp_11 : decode (am_b mX3_closeUp) 11 = .ok (.if_icmp .ge 17, 3) := by decide +kernel
theorem dX3_closeUp_14 : decode (am_b mX3_closeUp) 14 = .ok (.aload_n 0, 1) := by decide +kernel
theorem dX3_closeUp_15 : decode (am_b mX3_closeUp) 15 = .ok (.iload_n 2, 1) := by decide +kernel
theorem dX3_closeUp_16 : decode (am_b mX3_closeUp) 16 = .ok (.aload_n 0, 1) := by decide +kernel
theorem dX3_closeUp_17 : decode (am_b mX3_closeUp) 17 = .ok (.iload_n 2, 1) := by decide +kernel
theorem dX3_closeUp_18 : decode (am_b mX3_closeUp) 18 = .ok (.iconst 1, 1) := by decide +kernel
theorem dX3_closeUp_19 : decode (am_b mX3_closeUp) 19 = .ok (.iadd, 1) := by decide +kernel
theorem dX3_closeUp_20 : decode (am_b mX3_closeUp) 20 = .ok (.iaload, 1) := by decide +kernel
theorem dX3_closeUp_21 : decode (am_b mX3_closeUp) 21 = .ok (.iastore, 1) := by decide +kernel
theorem dX3_closeUp_22 : decode (am_b mX3_closeUp) 22 = .ok (.iinc 2 1, 3) := by decide +kernel
theorem dX3_closeUp_25 : decode (am_b mX3_closeUp) 25 = .ok (.goto (-19), 3) := by decide +kernel
theorem dX3_closeUp_28 : decode (am_b mX3_closeUp) 28 = .ok (.return_, 1) := by decide +kernel
theorem dX3_copyFrom_0 : decode (am_b mX3_copyFrom) 0 = .ok (.aload_n 1, 1) := by decide +kernel
theorem dX3_copyFrom_1 : decode (am_b mX3_copyFrom) 1 = .ok (.getfield 13, 3) := by decide +kernel
theorem dX3_copyFrom_4 : decode (am_b mX3_copyFrom) 4 = .ok (.aload_n 0, 1) := by decide +kernel
theorem dX3_copyFrom_5 : decode (am_b mX3_copyFrom) 5 = .ok (.getfield 13, 3) := by decide +kernel
theorem dX3_copyFrom_8 : decode (am_b mX3_copyFrom) 8 = .ok (.invokestatic 44, 3) := by decide +kernel
theorem dX3_copyFrom_11 : decode (am_b mX3_copyFrom) 11 = .ok (.aload_n 0, 1) := by decide +kernel
theorem dX3_copyFrom_12 : decode (am_b mX3_copyFrom) 12 = .ok (.aload_n 1, 1) := by decide +kernel
theorem dX3_copyFrom_13 : decode (am_b mX3_copyFrom) 13 = .ok (.getfield 18, 3) := by decide +kernel
theorem dX3_copyFrom_16 : decode (am_b mX3_copyFrom) 16 = .ok (.putfield 18, 3) := by decide +kernel
theorem dX3_copyFrom_19 : decode (am_b mX3_copyFrom) 19 = .ok (.aload_n 0, 1) := by decide +kernel
theorem dX3_copyFrom_20 : decode (am_b mX3_copyFrom) 20 = .ok (.aload_n 1, 1) := by decide +kernel
theorem dX3_copyFrom_21 : decode (am_b mX3_copyFrom) 21 = .ok (.getfield 22, 3) := by decide +kernel
theorem dX3_copyFrom_24 : decode (am_b mX3_copyFrom) 24 = .ok (.putfield 22, 3) := by decide +kernel
theorem dX3_copyFrom_27 : decode (am_b mX3_copyFrom) 27 = .ok (.aload_n 0, 1) := by decide +kernel
theorem dX3_copyFrom_28 : decode (am_b mX3_copyFrom) 28 = .ok (.aload_n 1, 1) := by decide +kernel
theorem dX3_copyFrom_29 : decode (am_b mX3_copyFrom) 29 = .ok (.getfield 51, 3) := by decide +kernel
theorem dX3_copyFrom_32 : decode (am_b mX3_copyFrom) 32 = .ok (.putfield 51, 3) := by decide +kernel
theorem dX3_copyFrom_35 : decode (am_b mX3_copyFrom) 35 = .ok (.aload_n 0, 1) := by decide +kernel
theorem dX3_copyFrom_36 : decode (am_b mX3_copyFrom) 36 = .ok (.aload_n 1, 1) := by decide +kernel
theorem dX3_copyFrom_37 : decode (am_b mX3_copyFrom) 37 = .ok (.getfield 54, 3) := by decide +kernel
theorem dX3_copyFrom_40 : decode (am_b mX3_copyFrom) 40 = .ok (.putfield 54, 3) := by decide +kernel
theorem dX3_copyFrom_43 : decode (am_b mX3_copyFrom) 43 = .ok (.aload_n 0, 1) := by decide +kernel
theorem dX3_copyFrom_44 : decode (am_b mX3_copyFrom) 44 = .ok (.aload_n 1, 1) := by decide +kernel
theorem dX3_copyFrom_45 : decode (am_b mX3_copyFrom) 45 = .ok (.getfield 57, 3) := by decide +kernel
theorem dX3_copyFrom_48 : decode (am_b mX3_copyFrom) 48 = .ok (.putfield 57, 3) := by decide +kernel
theorem dX3_copyFrom_51 : decode (am_b mX3_copyFrom) 51 = .ok (.aload_n 0, 1) := by decide +kernel
theorem dX3_copyFrom_52 : decode (am_b mX3_copyFrom) 52 = .ok (.aload_n 1, 1) := by decide +kernel
theorem dX3_copyFrom_53 : decode (am_b mX3_copyFrom) 53 = .ok (.getfield 60, 3) := by decide +kernel
theorem dX3_copyFrom_56 : decode (am_b mX3_copyFrom) 56 = .ok (.putfield 60, 3) := by decide +kernel
theorem dX3_copyFrom_59 : decode (am_b mX3_copyFrom) 59 = .ok (.aload_n 1, 1) := by decide +kernel
theorem dX3_copyFrom_60 : decode (am_b mX3_copyFrom) 60 = .ok (.getfield 26, 3) := by decide +kernel
theorem dX3_copyFrom_63 : decode (am_b mX3_copyFrom) 63 = .ok (.aload_n 0, 1) := by decide +kernel
theorem dX3_copyFrom_64 : decode (am_b mX3_copyFrom) 64 = .ok (.getfield 26, 3) := by decide +kernel
theorem dX3_copyFrom_67 : decode (am_b mX3_copyFrom) 67 = .ok (.invokestatic 44, 3) := by decide +kernel
theorem dX3_copyFrom_70 : decode (am_b mX3_copyFrom) 70 = .ok (.aload_n 1, 1) := by decide +kernel
theorem dX3_copyFrom_71 : decode (am_b mX3_copyFrom) 71 = .ok (.getfield 29, 3) := by decide +kernel
theorem dX3_copyFrom_74 : decode (am_b mX3_copyFrom) 74 = .ok (.aload_n 0, 1) := by decide +kernel
theorem dX3_copyFrom_75 : decode (am_b mX3_copyFrom) 75 = .ok (.getfield 29, 3) := by decide +kernel
theorem dX3_copyFrom_78 : decode (am_b mX3_copyFrom) 78 = .ok (.invokestatic 44, 3) := by decide +kernel
theorem dX3_copyFrom_81 : decode (am_b mX3_copyFrom) 81 = .ok (.aload_n 1, 1) := by decide +kernel
theorem dX3_copyFrom_82 : decode (am_b mX3_copyFrom) 82 = .ok (.getfield 32, 3) := by decide +kernel
theorem dX3_copyFrom_85 : decode (am_b mX3_copyFrom) 85 = .ok (.aload_n 0, 1) := by decide +kernel
theorem dX3_copyFrom_86 : decode (am_b mX3_copyFrom) 86 = .ok (.getfield 32, 3) := by decide +kernel
theorem dX3_copyFrom_89 : decode (am_b mX3_copyFrom) 89 = .ok (.invokestatic 44, 3) := by decide +kernel
theorem dX3_copyFrom_92 : decode (am_b mX3_copyFrom) 92 = .ok (.aload_n 1, 1) := by decide +kernel
theorem dX3_copyFrom_93 : decode (am_b mX3_copyFrom) 93 = .ok (.getfield 35, 3) := by decide +kernel
theorem dX3_copyFrom_96 : decode (am_b mX3_copyFrom) 96 = .ok (.aload_n 0, 1) := by decide +kernel
theorem dX3_copyFrom_97 : decode (am_b mX3_copyFrom) 97 = .ok (.getfield 35, 3) := by decide +kernel
theorem dX3_copyFrom_100 : decode (am_b mX3_copyFrom) 100 = .ok (.invokestatic 44, 3) := by decide +kernel
theorem dX3_copyFrom_103 : decode (am_b mX3_copyFrom) 103 = .ok (.aload_n 1, 1) := by decide +kernel
theorem dX3_copyFrom_104 : decode (am_b mX3_copyFrom) 104 = .ok (.getfield 38, 3) := by decide +kernel
theorem dX3_copyFrom_107 : decode (am_b mX3_copyFrom) 107 = .ok (.aload_n 0, 1) := by decide +kernel
theorem dX3_copyFrom_108 : decode (am_b mX3_copyFrom) 108 = .ok (.getfield 38, 3) := by decide +kernel
theorem dX3_copyFrom_111 : decode (am_b mX3_copyFrom) 111 = .ok (.invokestatic 44, 3) := by decide +kernel
theorem dX3_copyFrom_114 : decode (am_b mX3_copyFrom) 114 = .ok (.aload_n 1, 1) := by decide +kernel
theorem dX3_copyFrom_115 : decode (am_b mX3_copyFrom) 115 = .ok (.getfield 41, 3) := by decide +kernel
theorem dX3_copyFrom_118 : decode (am_b mX3_copyFrom) 118 = .ok (.aload_n 0, 1) := by decide +kernel
theorem dX3_copyFrom_119 : decode (am_b mX3_copyFrom) 119 = .ok (.getfield 41, 3) := by decide +kernel
theorem dX3_copyFrom_122 : decode (am_b mX3_copyFrom) 122 = .ok (.invokestatic 44, 3) := by decide +kernel
theorem dX3_copyFrom_125 : decode (am_b mX3_copyFrom) 125 = .ok (.return_, 1) := by decide +kernel
theorem dX3_init_0 : decode (am_b mX3_init) 0 = .ok (.aload_n 0, 1) := by decide +kernel
theorem dX3_init_1 : decode (am_b mX3_init) 1 = .ok (.invokespecial 3, 3) := by decide +kernel
theorem dX3_init_4 : decode (am_b mX3_init) 4 = .ok (.aload_n 0, 1) := by decide +kernel
theorem dX3_init_5 : decode (am_b mX3_init) 5 = .ok (.getstatic 9, 3) := by decide +kernel
theorem dX3_init_8 : decode (am_b mX3_init) 8 = .ok (.arraylength, 1) := by decide +kernel
theorem dX3_init_9 : decode (am_b mX3_init) 9 = .ok (.newarray .int, 2) := by decide +kernel
theorem dX3_init_11 : decode (am_b mX3_init) 11 = .ok (.putfield 13, 3) := by decide +kernel
theorem dX3_init_14 : decode (am_b mX3_init) 14 = .ok (.aload_n 0, 1) := by decide +kernel
theorem dX3_init_15 : decode (am_b mX3_init) 15 = .ok (.lconst 1, 1) := by decide +kernel
theorem dX3_init_16 : decode (am_b mX3_init) 16 = .ok (.putfield 18, 3) := by decide +kernel
theorem dX3_init_19 : decode (am_b mX3_init) 19 = .ok (.aload_n 0, 1) := by decide +kernel
theorem dX3_init_20 : decode (am_b mX3_init) 20 = .ok (.bipush 48, 2) := by decide +kernel
theorem dX3_init_22 : decode (am_b mX3_init) 22 = .ok (.putfield 22, 3) := by decide +kernel
theorem dX3_init_25 : decode (am_b mX3_init) 25 = .ok (.aload_n 0, 1) := by decide +kernel
theorem dX3_init_26 : decode (am_b mX3_init) 26 = .ok (.bipush 8, 2) := by decide +kernel
theorem dX3_init_28 : decode (am_b mX3_init) 28 = .ok (.newarray .int, 2) := by decide +kernel
theorem dX3_init_30 : decode (am_b mX3_init) 30 = .ok (.putfield 26, 3) := by decide +kernel
theorem dX3_init_33 : decode (am_b mX3_init) 33 = .ok (.aload_n 0, 1) := by decide +kernel
theorem dX3_init_34 : decode (am_b mX3_init) 34 = .ok (.bipush 8, 2) := by decide +kernel
theorem dX3_init_36 : decode (am_b mX3_init) 36 = .ok (.newarray .int, 2) := by decide +kernel
theorem dX3_init_38 : decode (am_b mX3_init) 38 = .ok (.putfield 29, 3) := by decide +kernel
theorem dX3_init_41 : decode (am_b mX3_init) 41 = .ok (.aload_n 0, 1) := by decide +kernel
theorem dX3_init_42 : decode (am_b mX3_init) 42 = .ok (.bipush 8, 2) := by decide +kernel
theorem dX3_init_44 : decode (am_b mX3_init) 44 = .ok (.newarray .int, 2) := by decide +kernel
theorem dX3_init_46 : decode (am_b mX3_init) 46 = .ok (.putfield 32, 3) := by decide +kernel
theorem dX3_init_49 : decode (am_b mX3_init) 49 = .ok (.aload_n 0, 1) := by decide +kernel
theorem dX3_init_50 : decode (am_b mX3_init) 50 = .ok (.bipush 8, 2) := by decide +kernel
theorem dX3_init_52 : decode (am_b mX3_init) 52 = .ok (.newarray .int, 2) := by decide +kernel
theorem dX3_init_54 : decode (am_b mX3_init) 54 = .ok (.putfield 35, 3) := by decide +kernel
theorem dX3_init_57 : decode (am_b mX3_init) 57 = .ok (.aload_n 0, 1) := by decide +kernel
theorem dX3_init_58 : decode (am_b mX3_init) 58 = .ok (.bipush 8, 2) := by decide +kernel
theorem dX3_init_60 : decode (am_b mX3_init) 60 = .ok (.newarray .int, 2) := by decide +kernel
theorem dX3_init_62 : decode (am_b mX3_init) 62 = .ok (.putfield 38, 3) := by decide +kernel
theorem dX3_init_65 : decode (am_b mX3_init) 65 = .ok (.aload_n 0, 1) := by decide +kernel
theorem dX3_init_66 : decode (am_b mX3_init) 66 = .ok (.bipush 8, 2) := by decide +kernel
theorem dX3_init_68 : decode (am_b mX3_init) 68 = .ok (.newarray .int, 2) := by decide +kernel
theorem dX3_init_70 : decode (am_b mX3_init) 70 = .ok (.putfield 41, 3) := by decide +kernel
theorem dX3_init_73 : decode (am_b mX3_init) 73 = .ok (.getstatic 9, 3) := by decide +kernel
theorem dX3_init_76 : decode (am_b mX3_init) 76 = .ok (.aload_n 0, 1) := by decide +kernel
theorem dX3_init_77 : decode (am_b mX3_init) 77 = .ok (.getfield 13, 3) := by decide +kernel
theorem dX3_init_80 : decode (am_b mX3_init) 80 = .ok (.invokestatic 44, 3) := by decide +kernel
theorem dX3_init_83 : decode (am_b mX3_init) 83 = .ok (.aload_n 0, 1) := by decide +kernel
theorem dX3_init_84 : decode (am_b mX3_init) 84 = .ok (.invokevirtual 48, 3) := by decide +kernel
theorem dX3_init_87 : decode (am_b mX3_init) 87 = .ok (.return_, 1) := by decide +kernel
theorem dX3_isRoofed_0 : decode (am_b mX3_isRoofed) 0 = .ok (.iload_n 1, 1) := by decide +kernel
theorem dX3_isRoofed_1 : decode (am_b mX3_isRoofed) 1 = .ok (.invokestatic 63, 3) := by decide +kernel
theorem dX3_isRoofed_4 : decode (am_b mX3_isRoofed) 4 = .ok (.ifCond .eq 19, 3) := by decide +kernel
theorem dX3_isRoofed_7 : decode (am_b mX3_isRoofed) 7 = .ok (.aload_n 0, 1) := by decide +kernel
theorem dX3_isRoofed_8 : decode (am_b mX3_isRoofed) 8 = .ok (.getfield 22, 3) := by decide +kernel
theorem dX3_isRoofed_11 : decode (am_b mX3_isRoofed) 11 = .ok (.iload_n 1, 1) := by decide +kernel
theorem dX3_isRoofed_12 : decode (am_b mX3_isRoofed) 12 = .ok (.ishr, 1) := by decide +kernel
theorem dX3_isRoofed_13 : decode (am_b mX3_isRoofed) 13 = .ok (.iconst 1, 1) := by decide +kernel
theorem dX3_isRoofed_14 : decode (am_b mX3_isRoofed) 14 = .ok (.iand, 1) := by decide +kernel
theorem dX3_isRoofed_15 : decode (am_b mX3_isRoofed) 15 = .ok (.iconst 1, 1) := by decide +kernel
theorem dX3_isRoofed_16 : decode (am_b mX3_isRoofed) 16 = .ok (.if_icmp .ne 7, 3) := by decide +kernel
theorem dX3_isRoofed_19 : decode (am_b mX3_isRoofed) 19 = .ok (.iconst 1, 1) := by decide +kernel
theorem dX3_isRoofed_20 : decode (am_b mX3_isRoofed) 20 = .ok (.goto 4, 3) := by decide +kernel
theorem dX3_isRoofed_23 : decode (am_b mX3_isRoofed) 23 = .ok (.iconst 0, 1) := by decide +kernel
theorem dX3_isRoofed_24 : decode (am_b mX3_isRoofed) 24 = .ok (.ireturn, 1) := by decide +kernel
theorem dX3_isStanding_0 : decode (am_b mX3_isStanding) 0 = .ok (.aload_n 0, 1) := by decide +kernel
theorem dX3_isStanding_1 : decode (am_b mX3_isStanding) 1 = .ok (.iload_n 1, 1) := by decide +kernel
theorem dX3_isStanding_2 : decode (am_b mX3_isStanding) 2 = .ok (.invokevirtual 67, 3) := by decide +kernel
theorem dX3_isStanding_5 : decode (am_b mX3_isStanding) 5 = .ok (.ifCond .eq 18, 3) := by decide +kernel
theorem dX3_isStanding_8 : decode (am_b mX3_isStanding) 8 = .ok (.aload_n 0, 1) := by decide +kernel
theorem dX3_isStanding_9 : decode (am_b mX3_isStanding) 9 = .ok (.getfield 29, 3) := by decide +kernel
theorem dX3_isStanding_12 : decode (am_b mX3_isStanding) 12 = .ok (.iload_n 1, 1) := by decide +kernel
theorem dX3_isStanding_13 : decode (am_b mX3_isStanding) 13 = .ok (.iaload, 1) := by decide +kernel
theorem dX3_isStanding_14 : decode (am_b mX3_isStanding) 14 = .ok (.bipush (-6), 2) := by decide +kernel
theorem dX3_isStanding_16 : decode (am_b mX3_isStanding) 16 = .ok (.if_icmp .eq 7, 3) := by decide +kernel
theorem dX3_isStanding_19 : decode (am_b mX3_isStanding) 19 = .ok (.iconst 1, 1) := by decide +kernel
theorem dX3_isStanding_20 : decode (am_b mX3_isStanding) 20 = .ok (.goto 4, 3) := by decide +kernel
theorem dX3_isStanding_23 : decode (am_b mX3_isStanding) 23 = .ok (.iconst 0, 1) := by decide +kernel
theorem dX3_isStanding_24 : decode (am_b mX3_isStanding) 24 = .ok (.ireturn, 1) := by decide +kernel
theorem dX4_isSeen_0 : decode (am_b mX4_isSeen) 0 = .ok (.iload_n 1, 1) := by decide +kernel
theorem dX4_isSeen_1 : decode (am_b mX4_isSeen) 1 = .ok (.invokestatic 29, 3) := by decide +kernel
theorem dX4_isSeen_4 : decode (am_b mX4_isSeen) 4 = .ok (.ifCond .eq 17, 3) := by decide +kernel
theorem dX4_isSeen_7 : decode (am_b mX4_isSeen) 7 = .ok (.iload_n 2, 1) := by decide +kernel
theorem dX4_isSeen_8 : decode (am_b mX4_isSeen) 8 = .ok (.aload_n 0, 1) := by decide +kernel
theorem dX4_isSeen_9 : decode (am_b mX4_isSeen) 9 = .ok (.getfield 15, 3) := by decide +kernel
theorem dX4_isSeen_12 : decode (am_b mX4_isSeen) 12 = .ok (.iload_n 1, 1) := by decide +kernel
theorem dX4_isSeen_13 : decode (am_b mX4_isSeen) 13 = .ok (.iaload, 1) := by decide +kernel
theorem dX4_isSeen_14 : decode (am_b mX4_isSeen) 14 = .ok (.if_icmp .le 7, 3) := by decide +kernel
theorem dX4_isSeen_17 : decode (am_b mX4_isSeen) 17 = .ok (.iconst 1, 1) := by decide +kernel
theorem dX4_isSeen_18 : decode (am_b mX4_isSeen) 18 = .ok (.goto 4, 3) := by decide +kernel
theorem dX4_isSeen_21 : decode (am_b mX4_isSeen) 21 = .ok (.iconst 0, 1) := by decide +kernel
theorem dX4_isSeen_22 : decode (am_b mX4_isSeen) 22 = .ok (.ireturn, 1) := by decide +kernel
theorem dX5_init_0 : decode (am_b mX5_init) 0 = .ok (.aload_n 0, 1) := by decide +kernel
theorem dX5_init_1 : decode (am_b mX5_init) 1 = .ok (.invokespecial 3, 3) := by decide +kernel
theorem dX5_init_4 : decode (am_b mX5_init) 4 = .ok (.aload_n 0, 1) := by decide +kernel
theorem dX5_init_5 : decode (am_b mX5_init) 5 = .ok (.bipush 12, 2) := by decide +kernel
theorem dX5_init_7 : decode (am_b mX5_init) 7 = .ok (.newarray .int, 2) := by decide +kernel
theorem dX5_init_9 : decode (am_b mX5_init) 9 = .ok (.putfield 9, 3) := by decide +kernel
theorem dX5_init_12 : decode (am_b mX5_init) 12 = .ok (.aload_n 0, 1) := by decide +kernel
theorem dX5_init_13 : decode (am_b mX5_init) 13 = .ok (.new 15, 3) := by decide +kernel
theorem dX5_init_16 : decode (am_b mX5_init) 16 = .ok (.dup, 1) := by decide +kernel
theorem dX5_init_17 : decode (am_b mX5_init) 17 = .ok (.iconst 1, 1) := by decide +kernel
theorem dX5_init_18 : decode (am_b mX5_init) 18 = .ok (.invokespecial 17, 3) := by decide +kernel
theorem dX5_init_21 : decode (am_b mX5_init) 21 = .ok (.putfield 20, 3) := by decide +kernel
theorem dX5_init_24 : decode (am_b mX5_init) 24 = .ok (.aload_n 0, 1) := by decide +kernel
theorem dX5_init_25 : decode (am_b mX5_init) 25 = .ok (.new 15, 3) := by decide +kernel
theorem dX5_init_28 : decode (am_b mX5_init) 28 = .ok (.dup, 1) := by decide +kernel
theorem dX5_init_29 : decode (am_b mX5_init) 29 = .ok (.iconst 0, 1) := by decide +kernel
theorem dX5_init_30 : decode (am_b mX5_init) 30 = .ok (.invokespecial 17, 3) := by decide +kernel
theorem dX5_init_33 : decode (am_b mX5_init) 33 = .ok (.putfield 24, 3) := by decide +kernel
theorem dX5_init_36 : decode (am_b mX5_init) 36 = .ok (.return_, 1) := by decide +kernel
theorem dX5_isOpen_0 : decode (am_b mX5_isOpen) 0 = .ok (.iconst 0, 1) := by decide +kernel
theorem dX5_isOpen_1 : decode (am_b mX5_isOpen) 1 = .ok (.istore_n 3, 1) := by decide +kernel
theorem dX5_isOpen_2 : decode (am_b mX5_isOpen) 2 = .ok (.iload_n 3, 1) := by decide +kernel
theorem dX5_isOpen_3 : decode (am_b mX5_isOpen) 3 = .ok (.aload_n 0, 1) := by decide +kernel
theorem dX5_isOpen_4 : decode (am_b mX5_isOpen) 4 = .ok (.getfield 9, 3) := by decide +kernel
theorem dX5_isOpen_7 : decode (am_b mX5_isOpen) 7 = .ok (.arraylength, 1) := by decide +kernel
theorem dX5_isOpen_8 : decode (am_b mX5_isOpen) 8 = .ok (.if_icmp .ge 30, 3) := by decide +kernel
theorem dX5_isOpen_11 : decode (am_b mX5_isOpen) 11 = .ok (.aload_n 0, 1) := by decide +kernel
theorem dX5_isOpen_12 : decode (am_b mX5_isOpen) 12 = .ok (.getfield 9, 3) := by decide +kernel
theorem dX5_isOpen_15 : decode (am_b mX5_isOpen) 15 = .ok (.iload_n 3, 1) := by decide +kernel
theorem dX5_isOpen_16 : decode (am_b mX5_isOpen) 16 = .ok (.iaload, 1) := by decide +kernel
theorem dX5_isOpen_17 : decode (am_b mX5_isOpen) 17 = .ok (.ifCond .le 15, 3) := by decide +kernel
theorem dX5_isOpen_20 : decode (am_b mX5_isOpen) 20 = .ok (.iload_n 3, 1) := by decide +kernel
theorem dX5_isOpen_21 : decode (am_b mX5_isOpen) 21 = .ok (.iload_n 1, 1) := by decide +kernel
theorem dX5_isOpen_22 : decode (am_b mX5_isOpen) 22 = .ok (.isub, 1) := by decide +kernel
theorem dX5_isOpen_23 : decode (am_b mX5_isOpen) 23 = .ok (.invokestatic 65, 3) := by decide +kernel
theorem dX5_isOpen_26 : decode (am_b mX5_isOpen) 26 = .ok (.iload_n 2, 1) := by decide +kernel
theorem dX5_isOpen_27 : decode (am_b mX5_isOpen) 27 = .ok (.if_icmp .gt 5, 3) := by decide +kernel
theorem dX5_isOpen_30 : decode (am_b mX5_isOpen) 30 = .ok (.iconst 0, 1) := by decide +kernel
theorem dX5_isOpen_31 : decode (am_b mX5_isOpen) 31 = .ok (.ireturn, 1) := by decide +kernel
theorem dX5_isOpen_32 : decode (am_b mX5_isOpen) 32 = .ok (.iinc 3 1, 3) := by decide +kernel
theorem dX5_isOpen_35 : decode (am_b mX5_isOpen) 35 = .ok (.goto (-33), 3) := by decide +kernel
theorem dX5_isOpen_38 : decode (am_b mX5_isOpen) 38 = .ok (.iconst 1, 1) := by decide +kernel
theorem dX5_isOpen_39 : decode (am_b mX5_isOpen) 39 = .ok (.ireturn, 1) := by decide +kernel
theorem dX5_letPeoplePass_0 : decode (am_b mX5_letPeoplePass) 0 = .ok (.aload_n 0, 1) := by decide +kernel
theorem dX5_letPeoplePass_1 : decode (am_b mX5_letPeoplePass) 1 = .ok (.getfield 20, 3) := by decide +kernel
theorem dX5_letPeoplePass_4 : decode (am_b mX5_letPeoplePass) 4 = .ok (.aload_n 0, 1) := by decide +kernel
theorem dX5_letPeoplePass_5 : decode (am_b mX5_letPeoplePass) 5 = .ok (.getfield 9, 3) := by decide +kernel
theorem dX5_letPeoplePass_8 : decode (am_b mX5_letPeoplePass) 8 = .ok (.aload_n 1, 1) := by decide +kernel
theorem dX5_letPeoplePass_9 : decode (am_b mX5_letPeoplePass) 9 = .ok (.iconst 0, 1) := by decide +kernel
theorem dX5_letPeoplePass_10 : decode (am_b mX5_letPeoplePass) 10 = .ok (.invokevirtual 53, 3) := by decide +kernel
theorem dX5_letPeoplePass_13 : decode (am_b mX5_letPeoplePass) 13 = .ok (.aload_n 1, 1) := by decide +kernel
theorem dX5_letPeoplePass_14 : decode (am_b mX5_letPeoplePass) 14 = .ok (.iconst 2, 1) := by decide +kernel
theorem dX5_letPeoplePass_15 : decode (am_b mX5_letPeoplePass) 15 = .ok (.invokevirtual 53, 3) := by decide +kernel
theorem dX5_letPeoplePass_18 : decode (am_b mX5_letPeoplePass) 18 = .ok (.invokevirtual 57, 3) := by decide +kernel
theorem dX5_letPeoplePass_21 : decode (am_b mX5_letPeoplePass) 21 = .ok (.aload_n 0, 1) := by decide +kernel
theorem dX5_letPeoplePass_22 : decode (am_b mX5_letPeoplePass) 22 = .ok (.getfield 24, 3) := by decide +kernel
theorem dX5_letPeoplePass_25 : decode (am_b mX5_letPeoplePass) 25 = .ok (.aload_n 0, 1) := by decide +kernel
theorem dX5_letPeoplePass_26 : decode (am_b mX5_letPeoplePass) 26 = .ok (.getfield 9, 3) := by decide +kernel
theorem dX5_letPeoplePass_29 : decode (am_b mX5_letPeoplePass) 29 = .ok (.aload_n 1, 1) := by decide +kernel
theorem dX5_letPeoplePass_30 : decode (am_b mX5_letPeoplePass) 30 = .ok (.iconst 1, 1) := by decide +kernel
theorem dX5_letPeoplePass_31 : decode (am_b mX5_letPeoplePass) 31 = .ok (.invokevirtual 53, 3) := by decide +kernel
theorem dX5_letPeoplePass_34 : decode (am_b mX5_letPeoplePass) 34 = .ok (.aload_n 1, 1) := by decide +kernel
theorem dX5_letPeoplePass_35 : decode (am_b mX5_letPeoplePass) 35 = .ok (.iconst 2, 1) := by decide +kernel
theorem dX5_letPeoplePass_36 : decode (am_b mX5_letPeoplePass) 36 = .ok (.invokevirtual 53, 3) := by decide +kernel
theorem dX5_letPeoplePass_39 : decode (am_b mX5_letPeoplePass) 39 = .ok (.invokevirtual 57, 3) := by decide +kernel
theorem dX5_letPeoplePass_42 : decode (am_b mX5_letPeoplePass) 42 = .ok (.return_, 1) := by decide +kernel
theorem dX5_raise_0 : decode (am_b mX5_raise) 0 = .ok (.iload_n 1, 1) := by decide +kernel
theorem dX5_raise_1 : decode (am_b mX5_raise) 1 = .ok (.invokestatic 50, 3) := by decide +kernel
theorem dX5_raise_4 : decode (am_b mX5_raise) 4 = .ok (.ifCond .eq 10, 3) := by decide +kernel
theorem dX5_raise_7 : decode (am_b mX5_raise) 7 = .ok (.aload_n 0, 1) := by decide +kernel
theorem dX5_raise_8 : decode (am_b mX5_raise) 8 = .ok (.getfield 9, 3) := by decide +kernel
theorem dX5_raise_11 : decode (am_b mX5_raise) 11 = .ok (.iload_n 1, 1) := by decide +kernel
theorem dX5_raise_12 : decode (am_b mX5_raise) 12 = .ok (.iload_n 2, 1) := by decide +kernel
theorem dX5_raise_13 : decode (am_b mX5_raise) 13 = .ok (.iastore, 1) := by decide +kernel
theorem dX5_raise_14 : decode (am_b mX5_raise) 14 = .ok (.return_, 1) := by decide +kernel
theorem dX1_record_0 : decode (am_b mX1_record) 0 = .ok (.aload_n 0, 1) := by decide +kernel
theorem dX1_record_1 : decode (am_b mX1_record) 1 = .ok (.getfield 17, 3) := by decide +kernel
theorem dX1_record_4 : decode (am_b mX1_record) 4 = .ok (.ifCond .lt 15, 3) := by decide +kernel
theorem dX1_record_7 : decode (am_b mX1_record) 7 = .ok (.aload_n 0, 1) := by decide +kernel
theorem dX1_record_8 : decode (am_b mX1_record) 8 = .ok (.getfield 17, 3) := by decide +kernel
theorem dX1_record_11 : decode (am_b mX1_record) 11 = .ok (.aload_n 0, 1) := by decide +kernel
theorem dX1_record_12 : decode (am_b mX1_record) 12 = .ok (.getfield 11, 3) := by decide +kernel
theorem dX1_record_15 : decode (am_b mX1_record) 15 = .ok (.arraylength, 1) := by decide +kernel
theorem dX1_record_16 : decode (am_b mX1_record) 16 = .ok (.if_icmp .lt 4, 3) := by decide +kernel
theorem dX1_record_19 : decode (am_b mX1_record) 19 = .ok (.return_, 1) := by decide +kernel
theorem dX1_record_20 : decode (am_b mX1_record) 20 = .ok (.aload_n 0, 1) := by decide +kernel
theorem dX1_record_21 : decode (am_b mX1_record) 21 = .ok (.getfield 11, 3) := by decide +kernel
theorem dX1_record_24 : decode (am_b mX1_record) 24 = .ok (.aload_n 0, 1) := by decide +kernel
theorem dX1_record_25 : decode (am_b mX1_record) 25 = .ok (.getfield 17, 3) := by decide +kernel
theorem dX1_record_28 : decode (am_b mX1_record) 28 = .ok (.aaload, 1) := by decide +kernel
theorem dX1_record_29 : decode (am_b mX1_record) 29 = .ok (.ifnonnull 19, 3) := by decide +kernel
theorem dX1_record_32 : decode (am_b mX1_record) 32 = .ok (.aload_n 0, 1) := by decide +kernel
theorem dX1_record_33 : decode (am_b mX1_record) 33 = .ok (.getfield 11, 3) := by decide +kernel
theorem dX1_record_36 : decode (am_b mX1_record) 36 = .ok (.aload_n 0, 1) := by decide +kernel
theorem dX1_record_37 : decode (am_b mX1_record) 37 = .ok (.getfield 17, 3) := by decide +kernel
theorem dX1_record_40 : decode (am_b mX1_record) 40 = .ok (.new 9, 3) := by decide +kernel
theorem dX1_record_43 : decode (am_b mX1_record) 43 = .ok (.dup, 1) := by decide +kernel
theorem dX1_record_44 : decode (am_b mX1_record) 44 = .ok (.invokespecial 21, 3) := by decide +kernel
theorem dX1_record_47 : decode (am_b mX1_record) 47 = .ok (.aastore, 1) := by decide +kernel
theorem dX1_record_48 : decode (am_b mX1_record) 48 = .ok (.aload_n 0, 1) := by decide +kernel
theorem dX1_record_49 : decode (am_b mX1_record) 49 = .ok (.getfield 11, 3) := by decide +kernel
theorem dX1_record_52 : decode (am_b mX1_record) 52 = .ok (.aload_n 0, 1) := by decide +kernel
theorem dX1_record_53 : decode (am_b mX1_record) 53 = .ok (.getfield 17, 3) := by decide +kernel
theorem dX1_record_56 : decode (am_b mX1_record) 56 = .ok (.aaload, 1) := by decide +kernel
theorem dX1_record_57 : decode (am_b mX1_record) 57 = .ok (.aload_n 1, 1) := by decide +kernel
theorem dX1_record_58 : decode (am_b mX1_record) 58 = .ok (.invokevirtual 22, 3) := by decide +kernel
theorem dX1_record_61 : decode (am_b mX1_record) 61 = .ok (.aload_n 0, 1) := by decide +kernel
theorem dX1_record_62 : decode (am_b mX1_record) 62 = .ok (.aload_n 0, 1) := by decide +kernel
theorem dX1_record_63 : decode (am_b mX1_record) 63 = .ok (.getfield 17, 3) := by decide +kernel
theorem dX1_record_66 : decode (am_b mX1_record) 66 = .ok (.iconst 1, 1) := by decide +kernel
theorem dX1_record_67 : decode (am_b mX1_record) 67 = .ok (.iadd, 1) := by decide +kernel
theorem dX1_record_68 : decode (am_b mX1_record) 68 = .ok (.aload_n 0, 1) := by decide +kernel
theorem dX1_record_69 : decode (am_b mX1_record) 69 = .ok (.getfield 11, 3) := by decide +kernel
theorem dX1_record_72 : decode (am_b mX1_record) 72 = .ok (.arraylength, 1) := by decide +kernel
theorem dX1_record_73 : decode (am_b mX1_record) 73 = .ok (.if_icmp .ge 12, 3) := by decide +kernel
theorem dX1_record_76 : decode (am_b mX1_record) 76 = .ok (.aload_n 0, 1) := by decide +kernel
theorem dX1_record_77 : decode (am_b mX1_record) 77 = .ok (.getfield 17, 3) := by decide +kernel
theorem dX1_record_80 : decode (am_b mX1_record) 80 = .ok (.iconst 1, 1) := by decide +kernel
theorem dX1_record_81 : decode (am_b mX1_record) 81 = .ok (.iadd, 1) := by decide +kernel
theorem dX1_record_82 : decode (am_b mX1_record) 82 = .ok (.goto 4, 3) := by decide +kernel
theorem dX1_record_85 : decode (am_b mX1_record) 85 = .ok (.iconst 0, 1) := by decide +kernel
theorem dX1_record_86 : decode (am_b mX1_record) 86 = .ok (.putfield 17, 3) := by decide +kernel
theorem dX1_record_89 : decode (am_b mX1_record) 89 = .ok (.aload_n 0, 1) := by decide +kernel
theorem dX1_record_90 : decode (am_b mX1_record) 90 = .ok (.aload_n 0, 1) := by decide +kernel
theorem dX1_record_91 : decode (am_b mX1_record) 91 = .ok (.getfield 26, 3) := by decide +kernel
theorem dX1_record_94 : decode (am_b mX1_record) 94 = .ok (.iconst 1, 1) := by decide +kernel
theorem dX1_record_95 : decode (am_b mX1_record) 95 = .ok (.iadd, 1) := by decide +kernel
theorem dX1_record_96 : decode (am_b mX1_record) 96 = .ok (.aload_n 0, 1) := by decide +kernel
theorem dX1_record_97 : decode (am_b mX1_record) 97 = .ok (.getfield 11, 3) := by decide +kernel
theorem dX1_record_100 : decode (am_b mX1_record) 100 = .ok (.arraylength, 1) := by decide +kernel
theorem dX1_record_101 : decode (am_b mX1_record) 101 = .ok (.invokestatic 29, 3) := by decide +kernel
theorem dX1_record_104 : decode (am_b mX1_record) 104 = .ok (.putfield 26, 3) := by decide +kernel
theorem dX1_record_107 : decode (am_b mX1_record) 107 = .ok (.return_, 1) := by decide +kernel
theorem dX1_takeBack_0 : decode (am_b mX1_takeBack) 0 = .ok (.aload_n 0, 1) := by decide +kernel
theorem dX1_takeBack_1 : decode (am_b mX1_takeBack) 1 = .ok (.getfield 17, 3) := by decide +kernel
theorem dX1_takeBack_4 : decode (am_b mX1_takeBack) 4 = .ok (.ifCond .le 12, 3) := by decide +kernel
theorem dX1_takeBack_7 : decode (am_b mX1_takeBack) 7 = .ok (.aload_n 0, 1) := by decide +kernel
theorem dX1_takeBack_8 : decode (am_b mX1_takeBack) 8 = .ok (.getfield 17, 3) := by decide +kernel
theorem dX1_takeBack_11 : decode (am_b mX1_takeBack) 11 = .ok (.iconst 1, 1) := by decide +kernel
theorem dX1_takeBack_12 : decode (am_b mX1_takeBack) 12 = .ok (.isub, 1) := by decide +kernel
theorem dX1_takeBack_13 : decode (am_b mX1_takeBack) 13 = .ok (.goto 10, 3) := by decide +kernel
theorem dX1_takeBack_16 : decode (am_b mX1_takeBack) 16 = .ok (.aload_n 0, 1) := by decide +kernel
theorem dX1_takeBack_17 : decode (am_b mX1_takeBack) 17 = .ok (.getfield 11, 3) := by decide +kernel
theorem dX1_takeBack_20 : decode (am_b mX1_takeBack) 20 = .ok (.arraylength, 1) := by decide +kernel
theorem dX1_takeBack_21 : decode (am_b mX1_takeBack) 21 = .ok (.iconst 1, 1) := by decide +kernel
theorem dX1_takeBack_22 : decode (am_b mX1_takeBack) 22 = .ok (.isub, 1) := by decide +kernel
theorem dX1_takeBack_23 : decode (am_b mX1_takeBack) 23 = .ok (.istore_n 2, 1) := by decide +kernel
theorem dX1_takeBack_24 : decode (am_b mX1_takeBack) 24 = .ok (.aload_n 0, 1) := by decide +kernel
theorem dX1_takeBack_25 : decode (am_b mX1_takeBack) 25 = .ok (.getfield 26, 3) := by decide +kernel
theorem dX1_takeBack_28 : decode (am_b mX1_takeBack) 28 = .ok (.iconst 1, 1) := by decide +kernel
theorem dX1_takeBack_29 : decode (am_b mX1_takeBack) 29 = .ok (.if_icmp .lt 21, 3) := by decide +kernel
theorem dX1_takeBack_32 : decode (am_b mX1_takeBack) 32 = .ok (.iload_n 2, 1) := by decide +kernel
theorem dX1_takeBack_33 : decode (am_b mX1_takeBack) 33 = .ok (.aload_n 0, 1) := by decide +kernel
theorem dX1_takeBack_34 : decode (am_b mX1_takeBack) 34 = .ok (.getfield 11, 3) := by decide +kernel
theorem dX1_takeBack_37 : decode (am_b mX1_takeBack) 37 = .ok (.arraylength, 1) := by decide +kernel
theorem dX1_takeBack_38 : decode (am_b mX1_takeBack) 38 = .ok (.if_icmp .ge 12, 3) := by decide +kernel
theorem dX1_takeBack_41 : decode (am_b mX1_takeBack) 41 = .ok (.aload_n 0, 1) := by decide +kernel
theorem dX1_takeBack_42 : decode (am_b mX1_takeBack) 42 = .ok (.getfield 11, 3) := by decide +kernel
theorem dX1_takeBack_45 : decode (am_b mX1_takeBack) 45 = .ok (.iload_n 2, 1) := by decide +kernel
theorem dX1_takeBack_46 : decode (am_b mX1_takeBack) 46 = .ok (.aaload, 1) := by decide +kernel
theorem dX1_takeBack_47 : decode (am_b mX1_takeBack) 47 = .ok (.ifnonnull 4, 3) := by decide +kernel
theorem dX1_takeBack_50 : decode (am_b mX1_takeBack) 50 = .ok (.return_, 1) := by decide +kernel
theorem dX1_takeBack_51 : decode (am_b mX1_takeBack) 51 = .ok (.aload_n 1, 1) := by decide +kernel
theorem dX1_takeBack_52 : decode (am_b mX1_takeBack) 52 = .ok (.aload_n 0, 1) := by decide +kernel
theorem dX1_takeBack_53 : decode (am_b mX1_takeBack) 53 = .ok (.getfield 11, 3) := by decide +kernel
theorem dX1_takeBack_56 : decode (am_b mX1_takeBack) 56 = .ok (.iload_n 2, 1) := by decide +kernel
theorem dX1_takeBack_57 : decode (am_b mX1_takeBack) 57 = .ok (.aaload, 1) := by decide +kernel
theorem dX1_takeBack_58 : decode (am_b mX1_takeBack) 58 = .ok (.invokevirtual 22, 3) := by decide +kernel
theorem dX1_takeBack_61 : decode (am_b mX1_takeBack) 61 = .ok (.aload_n 0, 1) := by decide +kernel
theorem dX1_takeBack_62 : decode (am_b mX1_takeBack) 62 = .ok (.iload_n 2, 1) := by decide +kernel
theorem dX1_takeBack_63 : decode (am_b mX1_takeBack) 63 = .ok (.putfield 17, 3) := by decide +kernel
theorem dX1_takeBack_66 : decode (am_b mX1_takeBack) 66 = .ok (.aload_n 0, 1) := by decide +kernel
theorem dX1_takeBack_67 : decode (am_b mX1_takeBack) 67 = .ok (.dup, 1) := by decide +kernel
theorem dX1_takeBack_68 : decode (am_b mX1_takeBack) 68 = .ok (.getfield 26, 3) := by decide +kernel
theorem dX1_takeBack_71 : decode (am_b mX1_takeBack) 71 = .ok (.iconst 1, 1) := by decide +kernel
theorem dX1_takeBack_72 : decode (am_b mX1_takeBack) 72 = .ok (.isub, 1) := by decide +kernel
theorem dX1_takeBack_73 : decode (am_b mX1_takeBack) 73 = .ok (.putfield 26, 3) := by decide +kernel
theorem dX1_takeBack_76 : decode (am_b mX1_takeBack) 76 = .ok (.return_, 1) := by decide +kernel
theorem dX3_boothAt_0 : decode (am_b mX3_boothAt) 0 = .ok (.iconst 0, 1) := by decide +kernel
theorem dX3_boothAt_1 : decode (am_b mX3_boothAt) 1 = .ok (.istore_n 2, 1) := by decide +kernel
theorem dX3_boothAt_2 : decode (am_b mX3_boothAt) 2 = .ok (.iload_n 2, 1) := by decide +kernel
theorem dX3_boothAt_3 : decode (am_b mX3_boothAt) 3 = .ok (.bipush 8, 2) := by decide +kernel
theorem dX3_boothAt_5 : decode (am_b mX3_boothAt) 5 = .ok (.if_icmp .ge 29, 3) := by decide +kernel
theorem dX3_boothAt_8 : decode (am_b mX3_boothAt) 8 = .ok (.aload_n 0, 1) := by decide +kernel
theorem dX3_boothAt_9 : decode (am_b mX3_boothAt) 9 = .ok (.iload_n 2, 1) := by decide +kernel
theorem dX3_boothAt_10 : decode (am_b mX3_boothAt) 10 = .ok (.invokevirtual 70, 3) := by decide +kernel
theorem dX3_boothAt_13 : decode (am_b mX3_boothAt) 13 = .ok (.ifCond .eq 15, 3) := by decide +kernel
theorem dX3_boothAt_16 : decode (am_b mX3_boothAt) 16 = .ok (.aload_n 0, 1) := by decide +kernel
theorem dX3_boothAt_17 : decode (am_b mX3_boothAt) 17 = .ok (.getfield 29, 3) := by decide +kernel
theorem dX3_boothAt_20 : decode (am_b mX3_boothAt) 20 = .ok (.iload_n 2, 1) := by decide +kernel
theorem dX3_boothAt_21 : decode (am_b mX3_boothAt) 21 = .ok (.iaload, 1) := by decide +kernel
theorem dX3_boothAt_22 : decode (am_b mX3_boothAt) 22 = .ok (.iload_n 1, 1) := by decide +kernel
theorem dX3_boothAt_23 : decode (am_b mX3_boothAt) 23 = .ok (.if_icmp .ne 5, 3) := by decide +kernel
theorem dX3_boothAt_26 : decode (am_b mX3_boothAt) 26 = .ok (.iload_n 2, 1) := by decide +kernel
theorem dX3_boothAt_27 : decode (am_b mX3_boothAt) 27 = .ok (.ireturn, 1) := by decide +kernel
theorem dX3_boothAt_28 : decode (am_b mX3_boothAt) 28 = .ok (.iinc 2 1, 3) := by decide +kernel
theorem dX3_boothAt_31 : decode (am_b mX3_boothAt) 31 = .ok (.goto (-29), 3) := by decide +kernel
theorem dX3_boothAt_34 : decode (am_b mX3_boothAt) 34 = .ok (.bipush (-6), 2) := by decide +kernel
theorem dX3_boothAt_36 : decode (am_b mX3_boothAt) 36 = .ok (.ireturn, 1) := by decide +kernel
theorem dX3_countStanding_0 : decode (am_b mX3_countStanding) 0 = .ok (.iconst 0, 1) := by decide +kernel
theorem dX3_countStanding_1 : decode (am_b mX3_countStanding) 1 = .ok (.istore_n 1, 1) := by decide +kernel
theorem dX3_countStanding_2 : decode (am_b mX3_countStanding) 2 = .ok (.iconst 0, 1) := by decide +kernel
theorem dX3_countStanding_3 : decode (am_b mX3_countStanding) 3 = .ok (.istore_n 2, 1) := by decide +kernel
theorem dX3_countStanding_4 : decode (am_b mX3_countStanding) 4 = .ok (.iload_n 2, 1) := by decide +kernel
theorem dX3_countStanding_5 : decode (am_b mX3_countStanding) 5 = .ok (.bipush 8, 2) := by decide +kernel
theorem dX3_countStanding_7 : decode (am_b mX3_countStanding) 7 = .ok (.if_icmp .ge 20, 3) := by decide +kernel
theorem dX3_countStanding_10 : decode (am_b mX3_countStanding) 10 = .ok (.aload_n 0, 1) := by decide +kernel
theorem dX3_countStanding_11 : decode (am_b mX3_countStanding) 11 = .ok (.iload_n 2, 1) := by decide +kernel
theorem dX3_countStanding_12 : decode (am_b mX3_countStanding) 12 = .ok (.invokevirtual 70, 3) := by decide +kernel
theorem dX3_countStanding_15 : decode (am_b mX3_countStanding) 15 = .ok (.ifCond .eq 6, 3) := by decide +kernel
theorem dX3_countStanding_18 : decode (am_b mX3_countStanding) 18 = .ok (.iinc 1 1, 3) := by decide +kernel
theorem dX3_countStanding_21 : decode (am_b mX3_countStanding) 21 = .ok (.iinc 2 1, 3) := by decide +kernel
theorem dX3_countStanding_24 : decode (am_b mX3_countStanding) 24 = .ok (.goto (-20), 3) := by decide +kernel
theorem dX3_countStanding_27 : decode (am_b mX3_countStanding) 27 = .ok (.iload_n 1, 1) := by decide +kernel
theorem dX3_countStanding_28 : decode (am_b mX3_countStanding) 28 = .ok (.ireturn, 1) := by decide +kernel
theorem dX3_hides_0 : decode (am_b mX3_hides) 0 = .ok (.aload_n 0, 1) := by decide +kernel
theorem dX3_hides_1 : decode (am_b mX3_hides) 1 = .ok (.iload_n 1, 1) := by decide +kernel
theorem dX3_hides_2 : decode (am_b mX3_hides) 2 = .ok (.invokevirtual 70, 3) := by decide +kernel
theorem dX3_hides_5 : decode (am_b mX3_hides) 5 = .ok (.ifCond .eq 26, 3) := by decide +kernel
theorem dX3_hides_8 : decode (am_b mX3_hides) 8 = .ok (.aload_n 0, 1) := by decide +kernel
theorem dX3_hides_9 : decode (am_b mX3_hides) 9 = .ok (.iload_n 2, 1) := by decide +kernel
theorem dX3_hides_10 : decode (am_b mX3_hides) 10 = .ok (.invokevirtual 70, 3) := by decide +kernel
theorem dX3_hides_13 : decode (am_b mX3_hides) 13 = .ok (.ifCond .eq 18, 3) := by decide +kernel
theorem dX3_hides_16 : decode (am_b mX3_hides) 16 = .ok (.aload_n 0, 1) := by decide +kernel
theorem dX3_hides_17 : decode (am_b mX3_hides) 17 = .ok (.getfield 26, 3) := by decide +kernel
theorem dX3_hides_20 : decode (am_b mX3_hides) 20 = .ok (.iload_n 1, 1) := by decide +kernel
theorem dX3_hides_21 : decode (am_b mX3_hides) 21 = .ok (.iaload, 1) := by decide +kernel
theorem dX3_hides_22 : decode (am_b mX3_hides) 22 = .ok (.aload_n 0, 1) := by decide +kernel
theorem dX3_hides_23 : decode (am_b mX3_hides) 23 = .ok (.getfield 26, 3) := by decide +kernel
theorem dX3_hides_26 : decode (am_b mX3_hides) 26 = .ok (.iload_n 2, 1) := by decide +kernel
theorem dX3_hides_27 : decode (am_b mX3_hides) 27 = .ok (.iaload, 1) := by decide +kernel
theorem dX3_hides_28 : decode (am_b mX3_hides) 28 = .ok (.if_icmp .ge 5, 3) := by decide +kernel
theorem dX3_hides_31 : decode (am_b mX3_hides) 31 = .ok (.iconst 0, 1) := by decide +kernel
theorem dX3_hides_32 : decode (am_b mX3_hides) 32 = .ok (.ireturn, 1) := by decide +kernel
theorem dX3_hides_33 : decode (am_b mX3_hides) 33 = .ok (.iload_n 3, 1) := by decide +kernel
theorem dX3_hides_34 : decode (am_b mX3_hides) 34 = .ok (.ifCond .eq 26, 3) := by decide +kernel
theorem dX3_hides_37 : decode (am_b mX3_hides) 37 = .ok (.aload_n 0, 1) := by decide +kernel
theorem dX3_hides_38 : decode (am_b mX3_hides) 38 = .ok (.getfield 29, 3) := by decide +kernel
theorem dX3_hides_41 : decode (am_b mX3_hides) 41 = .ok (.iload_n 1, 1) := by decide +kernel
theorem dX3_hides_42 : decode (am_b mX3_hides) 42 = .ok (.iaload, 1) := by decide +kernel
theorem dX3_hides_43 : decode (am_b mX3_hides) 43 = .ok (.aload_n 0, 1) := by decide +kernel
theorem dX3_hides_44 : decode (am_b mX3_hides) 44 = .ok (.getfield 29, 3) := by decide +kernel
theorem dX3_hides_47 : decode (am_b mX3_hides) 47 = .ok (.iload_n 2, 1) := by decide +kernel
theorem dX3_hides_48 : decode (am_b mX3_hides) 48 = .ok (.iaload, 1) := by decide +kernel
theorem dX3_hides_49 : decode (am_b mX3_hides) 49 = .ok (.if_icmp .ge 7, 3) := by decide +kernel
theorem dX3_hides_52 : decode (am_b mX3_hides) 52 = .ok (.iconst 1, 1) := by decide +kernel
theorem dX3_hides_53 : decode (am_b mX3_hides) 53 = .ok (.goto 27, 3) := by decide +kernel
theorem dX3_hides_56 : decode (am_b mX3_hides) 56 = .ok (.iconst 0, 1) := by decide +kernel
theorem dX3_hides_57 : decode (am_b mX3_hides) 57 = .ok (.goto 23, 3) := by decide +kernel
theorem dX3_hides_60 : decode (am_b mX3_hides) 60 = .ok (.aload_n 0, 1) := by decide +kernel
theorem dX3_hides_61 : decode (am_b mX3_hides) 61 = .ok (.getfield 29, 3) := by decide +kernel
theorem dX3_hides_64 : decode (am_b mX3_hides) 64 = .ok (.iload_n 1, 1) := by decide +kernel
theorem dX3_hides_65 : decode (am_b mX3_hides) 65 = .ok (.iaload, 1) := by decide +kernel
theorem dX3_hides_66 : decode (am_b mX3_hides) 66 = .ok (.aload_n 0, 1) := by decide +kernel
theorem dX3_hides_67 : decode (am_b mX3_hides) 67 = .ok (.getfield 29, 3) := by decide +kernel
theorem dX3_hides_70 : decode (am_b mX3_hides) 70 = .ok (.iload_n 2, 1) := by decide +kernel
theorem dX3_hides_71 : decode (am_b mX3_hides) 71 = .ok (.iaload, 1) := by decide +kernel
theorem dX3_hides_72 : decode (am_b mX3_hides) 72 = .ok (.if_icmp .le 7, 3) := by decide +kernel
theorem dX3_hides_75 : decode (am_b mX3_hides) 75 = .ok (.iconst 1, 1) := by decide +kernel
theorem dX3_hides_76 : decode (am_b mX3_hides) 76 = .ok (.goto 4, 3) := by decide +kernel
theorem dX3_hides_79 : decode (am_b mX3_hides) 79 = .ok (.iconst 0, 1) := by decide +kernel
theorem dX3_hides_80 : decode (am_b mX3_hides) 80 = .ok (.ireturn, 1) := by decide +kernel
theorem dX3_removeBooth_0 : decode (am_b mX3_removeBooth) 0 = .ok (.aload_n 0, 1) := by decide +kernel
theorem dX3_removeBooth_1 : decode (am_b mX3_removeBooth) 1 = .ok (.iload_n 1, 1) := by decide +kernel
theorem dX3_removeBooth_2 : decode (am_b mX3_removeBooth) 2 = .ok (.invokevirtual 67, 3) := by decide +kernel
theorem dX3_removeBooth_5 : decode (am_b mX3_removeBooth) 5 = .ok (.ifCond .ne 4, 3) := by decide +kernel
theorem dX3_removeBooth_8 : decode (am_b mX3_removeBooth) 8 = .ok (.return_, 1) := by decide +kernel
theorem dX3_removeBooth_9 : decode (am_b mX3_removeBooth) 9 = .ok (.aload_n 0, 1) := by decide +kernel
theorem dX3_removeBooth_10 : decode (am_b mX3_removeBooth) 10 = .ok (.getfield 26, 3) := by decide +kernel
theorem dX3_removeBooth_13 : decode (am_b mX3_removeBooth) 13 = .ok (.iload_n 1, 1) := by decide +kernel
theorem dX3_removeBooth_14 : decode (am_b mX3_removeBooth) 14 = .ok (.invokestatic 81, 3) := by decide +kernel
theorem dX3_removeBooth_17 : decode (am_b mX3_removeBooth) 17 = .ok (.aload_n 0, 1) := by decide +kernel
theorem dX3_removeBooth_18 : decode (am_b mX3_removeBooth) 18 = .ok (.getfield 29, 3) := by decide +kernel
theorem dX3_removeBooth_21 : decode (am_b mX3_removeBooth) 21 = .ok (.iload_n 1, 1) := by decide +kernel
theorem dX3_removeBooth_22 : decode (am_b mX3_removeBooth) 22 = .ok (.invokestatic 81, 3) := by decide +kernel
theorem dX3_removeBooth_25 : decode (am_b mX3_removeBooth) 25 = .ok (.aload_n 0, 1) := by decide +kernel
theorem dX3_removeBooth_26 : decode (am_b mX3_removeBooth) 26 = .ok (.getfield 32, 3) := by decide +kernel
theorem dX3_removeBooth_29 : decode (am_b mX3_removeBooth) 29 = .ok (.iload_n 1, 1) := by decide +kernel
theorem dX3_removeBooth_30 : decode (am_b mX3_removeBooth) 30 = .ok (.invokestatic 81, 3) := by decide +kernel
theorem dX3_removeBooth_33 : decode (am_b mX3_removeBooth) 33 = .ok (.aload_n 0, 1) := by decide +kernel
theorem dX3_removeBooth_34 : decode (am_b mX3_removeBooth) 34 = .ok (.getfield 35, 3) := by decide +kernel
theorem dX3_removeBooth_37 : decode (am_b mX3_removeBooth) 37 = .ok (.iload_n 1, 1) := by decide +kernel
theorem dX3_removeBooth_38 : decode (am_b mX3_removeBooth) 38 = .ok (.invokestatic 81, 3) := by decide +kernel
theorem dX3_removeBooth_41 : decode (am_b mX3_removeBooth) 41 = .ok (.aload_n 0, 1) := by decide +kernel
theorem dX3_removeBooth_42 : decode (am_b mX3_removeBooth) 42 = .ok (.getfield 38, 3) := by decide +kernel
theorem dX3_removeBooth_45 : decode (am_b mX3_removeBooth) 45 = .ok (.iload_n 1, 1) := by decide +kernel
theorem dX3_removeBooth_46 : decode (am_b mX3_removeBooth) 46 = .ok (.invokestatic 81, 3) := by decide +kernel
theorem dX3_removeBooth_49 : decode (am_b mX3_removeBooth) 49 = .ok (.aload_n 0, 1) := by decide +kernel
theorem dX3_removeBooth_50 : decode (am_b mX3_removeBooth) 50 = .ok (.dup, 1) := by decide +kernel
theorem dX3_removeBooth_51 : decode (am_b mX3_removeBooth) 51 = .ok (.getfield 60, 3) := by decide +kernel
theorem dX3_removeBooth_54 : decode (am_b mX3_removeBooth) 54 = .ok (.iconst 1, 1) := by decide +kernel
theorem dX3_removeBooth_55 : decode (am_b mX3_removeBooth) 55 = .ok (.isub, 1) := by decide +kernel
theorem dX3_removeBooth_56 : decode (am_b mX3_removeBooth) 56 = .ok (.putfield 60, 3) := by decide +kernel
theorem dX3_removeBooth_59 : decode (am_b mX3_removeBooth) 59 = .ok (.iconst 0, 1) := by decide +kernel
theorem dX3_removeBooth_60 : decode (am_b mX3_removeBooth) 60 = .ok (.istore_n 2, 1) := by decide +kernel
theorem dX3_removeBooth_61 : decode (am_b mX3_removeBooth) 61 = .ok (.iload_n 2, 1) := by decide +kernel
theorem dX3_removeBooth_62 : decode (am_b mX3_removeBooth) 62 = .ok (.aload_n 0, 1) := by decide +kernel
theorem dX3_removeBooth_63 : decode (am_b mX3_removeBooth) 63 = .ok (.getfield 41, 3) := by decide +kernel
theorem dX3_removeBooth_66 : decode (am_b mX3_removeBooth) 66 = .ok (.arraylength, 1) := by decide +kernel
theorem dX3_removeBooth_67 : decode (am_b mX3_removeBooth) 67 = .ok (.if_icmp .ge 50, 3) := by decide +kernel
theorem dX3_removeBooth_70 : decode (am_b mX3_removeBooth) 70 = .ok (.aload_n 0, 1) := by decide +kernel
theorem dX3_removeBooth_71 : decode (am_b mX3_removeBooth) 71 = .ok (.getfield 41, 3) := by decide +kernel
theorem dX3_removeBooth_74 : decode (am_b mX3_removeBooth) 74 = .ok (.iload_n 2, 1) := by decide +kernel
theorem dX3_removeBooth_75 : decode (am_b mX3_removeBooth) 75 = .ok (.iaload, 1) := by decide +kernel
theorem dX3_removeBooth_76 : decode (am_b mX3_removeBooth) 76 = .ok (.iload_n 1, 1) := by decide +kernel
theorem dX3_removeBooth_77 : decode (am_b mX3_removeBooth) 77 = .ok (.if_icmp .ne 14, 3) := by decide +kernel
theorem dX3_removeBooth_80 : decode (am_b mX3_removeBooth) 80 = .ok (.aload_n 0, 1) := by decide +kernel
theorem dX3_removeBooth_81 : decode (am_b mX3_removeBooth) 81 = .ok (.getfield 41, 3) := by decide +kernel
theorem dX3_removeBooth_84 : decode (am_b mX3_removeBooth) 84 = .ok (.iload_n 2, 1) := by decide +kernel
theorem dX3_removeBooth_85 : decode (am_b mX3_removeBooth) 85 = .ok (.bipush (-6), 2) := by decide +kernel
theorem dX3_removeBooth_87 : decode (am_b mX3_removeBooth) 87 = .ok (.iastore, 1) := by decide +kernel
theorem dX3_removeBooth_88 : decode (am_b mX3_removeBooth) 88 = .ok (.goto 23, 3) := by decide +kernel
theorem dX3_removeBooth_91 : decode (am_b mX3_removeBooth) 91 = .ok (.aload_n 0, 1) := by decide +kernel
theorem dX3_removeBooth_92 : decode (am_b mX3_removeBooth) 92 = .ok (.getfield 41, 3) := by decide +kernel
theorem dX3_removeBooth_95 : decode (am_b mX3_removeBooth) 95 = .ok (.iload_n 2, 1) := by decide +kernel
theorem dX3_removeBooth_96 : decode (am_b mX3_removeBooth) 96 = .ok (.iaload, 1) := by decide +kernel
theorem dX3_removeBooth_97 : decode (am_b mX3_removeBooth) 97 = .ok (.iload_n 1, 1) := by decide +kernel
theorem dX3_removeBooth_98 : decode (am_b mX3_removeBooth) 98 = .ok (.if_icmp .le 13, 3) := by decide +kernel
theorem dX3_removeBooth_101 : decode (am_b mX3_removeBooth) 101 = .ok (.aload_n 0, 1) := by decide +kernel
theorem dX3_removeBooth_102 : decode (am_b mX3_removeBooth) 102 = .ok (.getfield 41, 3) := by decide +kernel
theorem dX3_removeBooth_105 : decode (am_b mX3_removeBooth) 105 = .ok (.iload_n 2, 1) := by decide +kernel
theorem dX3_removeBooth_106 : decode (am_b mX3_removeBooth) 106 = .ok (.dup2, 1) := by decide +kernel
theorem dX3_removeBooth_107 : decode (am_b mX3_removeBooth) 107 = .ok (.iaload, 1) := by decide +kernel
theorem dX3_removeBooth_108 : decode (am_b mX3_removeBooth) 108 = .ok (.iconst 1, 1) := by decide +kernel
theorem dX3_removeBooth_109 : decode (am_b mX3_removeBooth) 109 = .ok (.isub, 1) := by decide +kernel
theorem dX3_removeBooth_110 : decode (am_b mX3_removeBooth) 110 = .ok (.iastore, 1) := by decide +kernel
theorem dX3_removeBooth_111 : decode (am_b mX3_removeBooth) 111 = .ok (.iinc 2 1, 3) := by decide +kernel
theorem dX3_removeBooth_114 : decode (am_b mX3_removeBooth) 114 = .ok (.goto (-53), 3) := by decide +kernel
theorem dX3_removeBooth_117 : decode (am_b mX3_removeBooth) 117 = .ok (.return_, 1) := by decide +kernel
theorem dX4_stopping_0 : decode (am_b mX4_stopping) 0 = .ok (.aload_n 0, 1) := by decide +kernel
theorem dX4_stopping_1 : decode (am_b mX4_stopping) 1 = .ok (.iload_n 1, 1) := by decide +kernel
theorem dX4_stopping_2 : decode (am_b mX4_stopping) 2 = .ok (.iload_n 2, 1) := by decide +kernel
theorem dX4_stopping_3 : decode (am_b mX4_stopping) 3 = .ok (.invokevirtual 33, 3) := by decide +kernel
theorem dX4_stopping_6 : decode (am_b mX4_stopping) 6 = .ok (.ifCond .eq 20, 3) := by decide +kernel
theorem dX4_stopping_9 : decode (am_b mX4_stopping) 9 = .ok (.aload_n 0, 1) := by decide +kernel
theorem dX4_stopping_10 : decode (am_b mX4_stopping) 10 = .ok (.getfield 9, 3) := by decide +kernel
theorem dX4_stopping_13 : decode (am_b mX4_stopping) 13 = .ok (.iload_n 1, 1) := by decide +kernel
theorem dX4_stopping_14 : decode (am_b mX4_stopping) 14 = .ok (.iaload, 1) := by decide +kernel
theorem dX4_stopping_15 : decode (am_b mX4_stopping) 15 = .ok (.aload_n 0, 1) := by decide +kernel
theorem dX4_stopping_16 : decode (am_b mX4_stopping) 16 = .ok (.getfield 22, 3) := by decide +kernel
theorem dX4_stopping_19 : decode (am_b mX4_stopping) 19 = .ok (.imul, 1) := by decide +kernel
theorem dX4_stopping_20 : decode (am_b mX4_stopping) 20 = .ok (.bipush 100, 2) := by decide +kernel
theorem dX4_stopping_22 : decode (am_b mX4_stopping) 22 = .ok (.idiv, 1) := by decide +kernel
theorem dX4_stopping_23 : decode (am_b mX4_stopping) 23 = .ok (.goto 4, 3) := by decide +kernel
theorem dX4_stopping_26 : decode (am_b mX4_stopping) 26 = .ok (.iconst 0, 1) := by decide +kernel
theorem dX4_stopping_27 : decode (am_b mX4_stopping) 27 = .ok (.ireturn, 1) := by decide +kernel
theorem dX5_look_0 : decode (am_b mX5_look) 0 = .ok (.aload_n 0, 1) := by decide +kernel
theorem dX5_look_1 : decode (am_b mX5_look) 1 = .ok (.invokevirtual 27, 3) := by decide +kernel
theorem dX5_look_4 : decode (am_b mX5_look) 4 = .ok (.iconst 0, 1) := by decide +kernel
theorem dX5_look_5 : decode (am_b mX5_look) 5 = .ok (.istore_n 3, 1) := by decide +kernel
theorem dX5_look_6 : decode (am_b mX5_look) 6 = .ok (.iload_n 3, 1) := by decide +kernel
theorem dX5_look_7 : decode (am_b mX5_look) 7 = .ok (.bipush 8, 2) := by decide +kernel
theorem dX5_look_9 : decode (am_b mX5_look) 9 = .ok (.if_icmp .ge 38, 3) := by decide +kernel
theorem dX5_look_12 : decode (am_b mX5_look) 12 = .ok (.iload_n 3, 1) := by decide +kernel
theorem dX5_look_13 : decode (am_b mX5_look) 13 = .ok (.iload_n 2, 1) := by decide +kernel
theorem dX5_look_14 : decode (am_b mX5_look) 14 = .ok (.if_icmp .eq 27, 3) := by decide +kernel
theorem dX5_look_17 : decode (am_b mX5_look) 17 = .ok (.aload_n 1, 1) := by decide +kernel
theorem dX5_look_18 : decode (am_b mX5_look) 18 = .ok (.iload_n 3, 1) := by decide +kernel
theorem dX5_look_19 : decode (am_b mX5_look) 19 = .ok (.invokevirtual 30, 3) := by decide +kernel
theorem dX5_look_22 : decode (am_b mX5_look) 22 = .ok (.ifCond .eq 19, 3) := by decide +kernel
theorem dX5_look_25 : decode (am_b mX5_look) 25 = .ok (.aload_n 0, 1) := by decide +kernel
theorem dX5_look_26 : decode (am_b mX5_look) 26 = .ok (.aload_n 1, 1) := by decide +kernel
theorem dX5_look_27 : decode (am_b mX5_look) 27 = .ok (.getfield 36, 3) := by decide +kernel
theorem dX5_look_30 : decode (am_b mX5_look) 30 = .ok (.iload_n 3, 1) := by decide +kernel
theorem dX5_look_31 : decode (am_b mX5_look) 31 = .ok (.iaload, 1) := by decide +kernel
theorem dX5_look_32 : decode (am_b mX5_look) 32 = .ok (.aload_n 1, 1) := by decide +kernel
theorem dX5_look_33 : decode (am_b mX5_look) 33 = .ok (.getfield 39, 3) := by decide +kernel
theorem dX5_look_36 : decode (am_b mX5_look) 36 = .ok (.iload_n 3, 1) := by decide +kernel
theorem dX5_look_37 : decode (am_b mX5_look) 37 = .ok (.iaload, 1) := by decide +kernel
theorem dX5_look_38 : decode (am_b mX5_look) 38 = .ok (.invokevirtual 42, 3) := by decide +kernel
theorem dX5_look_41 : decode (am_b mX5_look) 41 = .ok (.iinc 3 1, 3) := by decide +kernel
theorem dX5_look_44 : decode (am_b mX5_look) 44 = .ok (.goto (-38), 3) := by decide +kernel
theorem dX5_look_47 : decode (am_b mX5_look) 47 = .ok (.aload_n 0, 1) := by decide +kernel
theorem dX5_look_48 : decode (am_b mX5_look) 48 = .ok (.aload_n 1, 1) := by decide +kernel
theorem dX5_look_49 : decode (am_b mX5_look) 49 = .ok (.invokevirtual 46, 3) := by decide +kernel
theorem dX5_look_52 : decode (am_b mX5_look) 52 = .ok (.return_, 1) := by decide +kernel
theorem dX3_isHidden_0 : decode (am_b mX3_isHidden) 0 = .ok (.iconst 0, 1) := by decide +kernel
theorem dX3_isHidden_1 : decode (am_b mX3_isHidden) 1 = .ok (.istore_n 3, 1) := by decide +kernel
theorem dX3_isHidden_2 : decode (am_b mX3_isHidden) 2 = .ok (.iload_n 3, 1) := by decide +kernel
theorem dX3_isHidden_3 : decode (am_b mX3_isHidden) 3 = .ok (.bipush 8, 2) := by decide +kernel
theorem dX3_isHidden_5 : decode (am_b mX3_isHidden) 5 = .ok (.if_icmp .ge 26, 3) := by decide +kernel
theorem dX3_isHidden_8 : decode (am_b mX3_isHidden) 8 = .ok (.iload_n 3, 1) := by decide +kernel
theorem dX3_isHidden_9 : decode (am_b mX3_isHidden) 9 = .ok (.iload_n 1, 1) := by decide +kernel
theorem dX3_isHidden_10 : decode (am_b mX3_isHidden) 10 = .ok (.if_icmp .eq 15, 3) := by decide +kernel
theorem dX3_isHidden_13 : decode (am_b mX3_isHidden) 13 = .ok (.aload_n 0, 1) := by decide +kernel
theorem dX3_isHidden_14 : decode (am_b mX3_isHidden) 14 = .ok (.iload_n 3, 1) := by decide +kernel
theorem dX3_isHidden_15 : decode (am_b mX3_isHidden) 15 = .ok (.iload_n 1, 1) := by decide +kernel
theorem dX3_isHidden_16 : decode (am_b mX3_isHidden) 16 = .ok (.iload_n 2, 1) := by decide +kernel
theorem dX3_isHidden_17 : decode (am_b mX3_isHidden) 17 = .ok (.invokevirtual 77, 3) := by decide +kernel
theorem dX3_isHidden_20 : decode (am_b mX3_isHidden) 20 = .ok (.ifCond .eq 5, 3) := by decide +kernel
theorem dX3_isHidden_23 : decode (am_b mX3_isHidden) 23 = .ok (.iconst 1, 1) := by decide +kernel
theorem dX3_isHidden_24 : decode (am_b mX3_isHidden) 24 = .ok (.ireturn, 1) := by decide +kernel
theorem dX3_isHidden_25 : decode (am_b mX3_isHidden) 25 = .ok (.iinc 3 1, 3) := by decide +kernel
theorem dX3_isHidden_28 : decode (am_b mX3_isHidden) 28 = .ok (.goto (-26), 3) := by decide +kernel
theorem dX3_isHidden_31 : decode (am_b mX3_isHidden) 31 = .ok (.iconst 0, 1) := by decide +kernel
theorem dX3_isHidden_32 : decode (am_b mX3_isHidden) 32 = .ok (.ireturn, 1) := by decide +kernel
theorem dX3_isTakenByOther_0 : decode (am_b mX3_isTakenByOther) 0 = .ok (.aload_n 0, 1) := by decide +kernel
theorem dX3_isTakenByOther_1 : decode (am_b mX3_isTakenByOther) 1 = .ok (.iload_n 1, 1) := by decide +kernel
theorem dX3_isTakenByOther_2 : decode (am_b mX3_isTakenByOther) 2 = .ok (.invokevirtual 73, 3) := by decide +kernel
theorem dX3_isTakenByOther_5 : decode (am_b mX3_isTakenByOther) 5 = .ok (.istore_n 3, 1) := by decide +kernel
theorem dX3_isTakenByOther_6 : decode (am_b mX3_isTakenByOther) 6 = .ok (.iload_n 3, 1) := by decide +kernel
theorem dX3_isTakenByOther_7 : decode (am_b mX3_isTakenByOther) 7 = .ok (.bipush (-6), 2) := by decide +kernel
theorem dX3_isTakenByOther_9 : decode (am_b mX3_isTakenByOther) 9 = .ok (.if_icmp .eq 12, 3) := by decide +kernel
theorem dX3_isTakenByOther_12 : decode (am_b mX3_isTakenByOther) 12 = .ok (.iload_n 3, 1) := by decide +kernel
theorem dX3_isTakenByOther_13 : decode (am_b mX3_isTakenByOther) 13 = .ok (.iload_n 2, 1) := by decide +kernel
theorem dX3_isTakenByOther_14 : decode (am_b mX3_isTakenByOther) 14 = .ok (.if_icmp .eq 7, 3) := by decide +kernel
theorem dX3_isTakenByOther_17 : decode (am_b mX3_isTakenByOther) 17 = .ok (.iconst 1, 1) := by decide +kernel
theorem dX3_isTakenByOther_18 : decode (am_b mX3_isTakenByOther) 18 = .ok (.goto 4, 3) := by decide +kernel
theorem dX3_isTakenByOther_21 : decode (am_b mX3_isTakenByOther) 21 = .ok (.iconst 0, 1) := by decide +kernel
theorem dX3_isTakenByOther_22 : decode (am_b mX3_isTakenByOther) 22 = .ok (.ireturn, 1) := by decide +kernel
theorem dX5_crowdAt_0 : decode (am_b mX5_crowdAt) 0 = .ok (.aload_n 0, 1) := by decide +kernel
theorem dX5_crowdAt_1 : decode (am_b mX5_crowdAt) 1 = .ok (.getfield 20, 3) := by decide +kernel
theorem dX5_crowdAt_4 : decode (am_b mX5_crowdAt) 4 = .ok (.iload_n 1, 1) := by decide +kernel
theorem dX5_crowdAt_5 : decode (am_b mX5_crowdAt) 5 = .ok (.iload_n 2, 1) := by decide +kernel
theorem dX5_crowdAt_6 : decode (am_b mX5_crowdAt) 6 = .ok (.invokevirtual 61, 3) := by decide +kernel
theorem dX5_crowdAt_9 : decode (am_b mX5_crowdAt) 9 = .ok (.aload_n 0, 1) := by decide +kernel
theorem dX5_crowdAt_10 : decode (am_b mX5_crowdAt) 10 = .ok (.getfield 24, 3) := by decide +kernel
theorem dX5_crowdAt_13 : decode (am_b mX5_crowdAt) 13 = .ok (.iload_n 1, 1) := by decide +kernel
theorem dX5_crowdAt_14 : decode (am_b mX5_crowdAt) 14 = .ok (.iload_n 2, 1) := by decide +kernel
theorem dX5_crowdAt_15 : decode (am_b mX5_crowdAt) 15 = .ok (.invokevirtual 61, 3) := by decide +kernel
theorem dX5_crowdAt_18 : decode (am_b mX5_crowdAt) 18 = .ok (.iadd, 1) := by decide +kernel
theorem dX5_crowdAt_19 : decode (am_b mX5_crowdAt) 19 = .ok (.ireturn, 1) := by decide +kernel
theorem dX0_passHats_0 : decode (am_b mX0_passHats) 0 = .ok (.iconst 0, 1) := by decide +kernel
theorem dX0_passHats_1 : decode (am_b mX0_passHats) 1 = .ok (.istore_n 3, 1) := by decide +kernel
theorem dX0_passHats_2 : decode (am_b mX0_passHats) 2 = .ok (.iconst 0, 1) := by decide +kernel
theorem dX0_passHats_3 : decode (am_b mX0_passHats) 3 = .ok (.istore 4, 2) := by decide +kernel
theorem dX0_passHats_5 : decode (am_b mX0_passHats) 5 = .ok (.iload 4, 2) := by decide +kernel
theorem dX0_passHats_7 : decode (am_b mX0_passHats) 7 = .ok (.bipush 8, 2) := by decide +kernel
theorem dX0_passHats_9 : decode (am_b mX0_passHats) 9 = .ok (.if_icmp .ge 124, 3) := by decide +kernel
theorem dX0_passHats_12 : decode (am_b mX0_passHats) 12 = .ok (.aload_n 0, 1) := by decide +kernel
theorem dX0_passHats_13 : decode (am_b mX0_passHats) 13 = .ok (.iload 4, 2) := by decide +kernel
theorem dX0_passHats_15 : decode (am_b mX0_passHats) 15 = .ok (.invokevirtual 80, 3) := by decide +kernel
theorem dX0_passHats_18 : decode (am_b mX0_passHats) 18 = .ok (.ifCond .eq 89, 3) := by decide +kernel
theorem dX0_passHats_21 : decode (am_b mX0_passHats) 21 = .ok (.aload_n 0, 1) := by decide +kernel
theorem dX0_passHats_22 : decode (am_b mX0_passHats) 22 = .ok (.getfield 73, 3) := by decide +kernel
theorem dX0_passHats_25 : decode (am_b mX0_passHats) 25 = .ok (.iload 4, 2) := by decide +kernel
theorem dX0_passHats_27 : decode (am_b mX0_passHats) 27 = .ok (.iaload, 1) := by decide +kernel
theorem dX0_passHats_28 : decode (am_b mX0_passHats) 28 = .ok (.istore 5, 2) := by decide +kernel
theorem dX0_passHats_30 : decode (am_b mX0_passHats) 30 = .ok (.iload_n 2, 1) := by decide +kernel
theorem dX0_passHats_31 : decode (am_b mX0_passHats) 31 = .ok (.ifCond .eq 16, 3) := by decide +kernel
theorem dX0_passHats_34 : decode (am_b mX0_passHats) 34 = .ok (.aload_n 0, 1) := by decide +kernel
theorem dX0_passHats_35 : decode (am_b mX0_passHats) 35 = .ok (.iload 5, 2) := by decide +kernel
theorem dX0_passHats_37 : decode (am_b mX0_passHats) 37 = .ok (.invokevirtual 83, 3) := by decide +kernel
theorem dX0_passHats_40 : decode (am_b mX0_passHats) 40 = .ok (.ifCond .ne 7, 3) := by decide +kernel
theorem dX0_passHats_43 : decode (am_b mX0_passHats) 43 = .ok (.iconst 1, 1) := by decide +kernel
theorem dX0_passHats_44 : decode (am_b mX0_passHats) 44 = .ok (.goto 4, 3) := by decide +kernel
theorem dX0_passHats_47 : decode (am_b mX0_passHats) 47 = .ok (.iconst 0, 1) := by decide +kernel
theorem dX0_passHats_48 : decode (am_b mX0_passHats) 48 = .ok (.istore 6, 2) := by decide +kernel
theorem dX0_passHats_50 : decode (am_b mX0_passHats) 50 = .ok (.iload 6, 2) := by decide +kernel
theorem dX0_passHats_52 : decode (am_b mX0_passHats) 52 = .ok (.ifCond .eq 7, 3) := by decide +kernel
theorem dX0_passHats_55 : decode (am_b mX0_passHats) 55 = .ok (.iconst 0, 1) := by decide +kernel
theorem dX0_passHats_56 : decode (am_b mX0_passHats) 56 = .ok (.goto 16, 3) := by decide +kernel
theorem dX0_passHats_59 : decode (am_b mX0_passHats) 59 = .ok (.aload_n 1, 1) := by decide +kernel
theorem dX0_passHats_60 : decode (am_b mX0_passHats) 60 = .ok (.iload 5, 2) := by decide +kernel
theorem dX0_passHats_62 : decode (am_b mX0_passHats) 62 = .ok (.aload_n 0, 1) := by decide +kernel
theorem dX0_passHats_63 : decode (am_b mX0_passHats) 63 = .ok (.getfield 67, 3) := by decide +kernel
theorem dX0_passHats_66 : decode (am_b mX0_passHats) 66 = .ok (.iload 4, 2) := by decide +kernel
theorem dX0_passHats_68 : decode (am_b mX0_passHats) 68 = .ok (.iaload, 1) := by decide +kernel
theorem dX0_passHats_69 : decode (am_b mX0_passHats) 69 = .ok (.invokevirtual 86, 3) := by decide +kernel
theorem dX0_passHats_72 : decode (am_b mX0_passHats) 72 = .ok (.istore 7, 2) := by decide +kernel
theorem dX0_passHats_74 : decode (am_b mX0_passHats) 74 = .ok (.iload 7, 2) := by decide +kernel
theorem dX0_passHats_76 : decode (am_b mX0_passHats) 76 = .ok (.aload_n 0, 1) := by decide +kernel
theorem dX0_passHats_77 : decode (am_b mX0_passHats) 77 = .ok (.iconst 3, 1) := by decide +kernel
theorem dX0_passHats_78 : decode (am_b mX0_passHats) 78 = .ok (.invokevirtual 25, 3) := by decide +kernel
theorem dX0_passHats_81 : decode (am_b mX0_passHats) 81 = .ok (.imul, 1) := by decide +kernel
theorem dX0_passHats_82 : decode (am_b mX0_passHats) 82 = .ok (.bipush 100, 2) := by decide +kernel
theorem dX0_passHats_84 : decode (am_b mX0_passHats) 84 = .ok (.idiv, 1) := by decide +kernel
theorem dX0_passHats_85 : decode (am_b mX0_passHats) 85 = .ok (.istore 8, 2) := by decide +kernel
theorem dX0_passHats_87 : decode (am_b mX0_passHats) 87 = .ok (.aload_n 0, 1) := by decide +kernel
theorem dX0_passHats_88 : decode (am_b mX0_passHats) 88 = .ok (.getfield 89, 3) := by decide +kernel
theorem dX0_passHats_91 : decode (am_b mX0_passHats) 91 = .ok (.iload 4, 2) := by decide +kernel
theorem dX0_passHats_93 : decode (am_b mX0_passHats) 93 = .ok (.dup2, 1) := by decide +kernel
theorem dX0_passHats_94 : decode (am_b mX0_passHats) 94 = .ok (.iaload, 1) := by decide +kernel
theorem dX0_passHats_95 : decode (am_b mX0_passHats) 95 = .ok (.iload 8, 2) := by decide +kernel
theorem dX0_passHats_97 : decode (am_b mX0_passHats) 97 = .ok (.iadd, 1) := by decide +kernel
theorem dX0_passHats_98 : decode (am_b mX0_passHats) 98 = .ok (.iastore, 1) := by decide +kernel
theorem dX0_passHats_99 : decode (am_b mX0_passHats) 99 = .ok (.iload_n 3, 1) := by decide +kernel
theorem dX0_passHats_100 : decode (am_b mX0_passHats) 100 = .ok (.iload 8, 2) := by decide +kernel
theorem dX0_passHats_102 : decode (am_b mX0_passHats) 102 = .ok (.iadd, 1) := by decide +kernel
theorem dX0_passHats_103 : decode (am_b mX0_passHats) 103 = .ok (.istore_n 3, 1) := by decide +kernel
theorem dX0_passHats_104 : decode (am_b mX0_passHats) 104 = .ok (.goto 23, 3) := by decide +kernel
theorem dX0_passHats_107 : decode (am_b mX0_passHats) 107 = .ok (.aload_n 0, 1) := by decide +kernel
theorem dX0_passHats_108 : decode (am_b mX0_passHats) 108 = .ok (.iload 4, 2) := by decide +kernel
theorem dX0_passHats_110 : decode (am_b mX0_passHats) 110 = .ok (.invokevirtual 43, 3) := by decide +kernel
theorem dX0_passHats_113 : decode (am_b mX0_passHats) 113 = .ok (.ifCond .eq 14, 3) := by decide +kernel
theorem dX0_passHats_116 : decode (am_b mX0_passHats) 116 = .ok (.aload_n 0, 1) := by decide +kernel
theorem dX0_passHats_117 : decode (am_b mX0_passHats) 117 = .ok (.getfield 92, 3) := by decide +kernel
theorem dX0_passHats_120 : decode (am_b mX0_passHats) 120 = .ok (.iload 4, 2) := by decide +kernel
theorem dX0_passHats_122 : decode (am_b mX0_passHats) 122 = .ok (.dup2, 1) := by decide +kernel
theorem dX0_passHats_123 : decode (am_b mX0_passHats) 123 = .ok (.iaload, 1) := by decide +kernel
theorem dX0_passHats_124 : decode (am_b mX0_passHats) 124 = .ok (.iconst 1, 1) := by decide +kernel
theorem dX0_passHats_125 : decode (am_b mX0_passHats) 125 = .ok (.iadd, 1) := by decide +kernel
theorem dX0_passHats_126 : decode (am_b mX0_passHats) 126 = .ok (.iastore, 1) := by decide +kernel
theorem dX0_passHats_127 : decode (am_b mX0_passHats) 127 = .ok (.iinc 4 1, 3) := by decide +kernel
theorem dX0_passHats_130 : decode (am_b mX0_passHats) 130 = .ok (.goto (-125), 3) := by decide +kernel
theorem dX0_passHats_133 : decode (am_b mX0_passHats) 133 = .ok (.aload_n 0, 1) := by decide +kernel
theorem dX0_passHats_134 : decode (am_b mX0_passHats) 134 = .ok (.dup, 1) := by decide +kernel
theorem dX0_passHats_135 : decode (am_b mX0_passHats) 135 = .ok (.getfield 95, 3) := by decide +kernel
theorem dX0_passHats_138 : decode (am_b mX0_passHats) 138 = .ok (.iload_n 3, 1) := by decide +kernel
theorem dX0_passHats_139 : decode (am_b mX0_passHats) 139 = .ok (.iadd, 1) := by decide +kernel
theorem dX0_passHats_140 : decode (am_b mX0_passHats) 140 = .ok (.putfield 95, 3) := by decide +kernel
theorem dX0_passHats_143 : decode (am_b mX0_passHats) 143 = .ok (.iload_n 3, 1) := by decide +kernel
theorem dX0_passHats_144 : decode (am_b mX0_passHats) 144 = .ok (.ireturn, 1) := by decide +kernel
theorem dX5_bestOpenPitch_0 : decode (am_b mX5_bestOpenPitch) 0 = .ok (.bipush (-6), 2) := by decide +kernel
theorem dX5_bestOpenPitch_2 : decode (am_b mX5_bestOpenPitch) 2 = .ok (.istore_n 3, 1) := by decide +kernel
theorem dX5_bestOpenPitch_3 : decode (am_b mX5_bestOpenPitch) 3 = .ok (.iconst (-1), 1) := by decide +kernel
theorem dX5_bestOpenPitch_4 : decode (am_b mX5_bestOpenPitch) 4 = .ok (.istore 4, 2) := by decide +kernel
theorem dX5_bestOpenPitch_6 : decode (am_b mX5_bestOpenPitch) 6 = .ok (.iconst 0, 1) := by decide +kernel
theorem dX5_bestOpenPitch_7 : decode (am_b mX5_bestOpenPitch) 7 = .ok (.istore 5, 2) := by decide +kernel
theorem dX5_bestOpenPitch_9 : decode (am_b mX5_bestOpenPitch) 9 = .ok (.iload 5, 2) := by decide +kernel
theorem dX5_bestOpenPitch_11 : decode (am_b mX5_bestOpenPitch) 11 = .ok (.bipush 12, 2) := by decide +kernel
theorem dX5_bestOpenPitch_13 : decode (am_b mX5_bestOpenPitch) 13 = .ok (.if_icmp .ge 42, 3) := by decide +kernel
theorem dX5_bestOpenPitch_16 : decode (am_b mX5_bestOpenPitch) 16 = .ok (.aload_n 0, 1) := by decide +kernel
theorem dX5_bestOpenPitch_17 : decode (am_b mX5_bestOpenPitch) 17 = .ok (.iload 5, 2) := by decide +kernel
theorem dX5_bestOpenPitch_19 : decode (am_b mX5_bestOpenPitch) 19 = .ok (.iload_n 1, 1) := by decide +kernel
theorem dX5_bestOpenPitch_20 : decode (am_b mX5_bestOpenPitch) 20 = .ok (.invokevirtual 70, 3) := by decide +kernel
theorem dX5_bestOpenPitch_23 : decode (am_b mX5_bestOpenPitch) 23 = .ok (.istore 6, 2) := by decide +kernel
theorem dX5_bestOpenPitch_25 : decode (am_b mX5_bestOpenPitch) 25 = .ok (.iload 6, 2) := by decide +kernel
theorem dX5_bestOpenPitch_27 : decode (am_b mX5_bestOpenPitch) 27 = .ok (.iload 4, 2) := by decide +kernel
theorem dX5_bestOpenPitch_29 : decode (am_b mX5_bestOpenPitch) 29 = .ok (.if_icmp .le 20, 3) := by decide +kernel
theorem dX5_bestOpenPitch_32 : decode (am_b mX5_bestOpenPitch) 32 = .ok (.aload_n 0, 1) := by decide +kernel
theorem dX5_bestOpenPitch_33 : decode (am_b mX5_bestOpenPitch) 33 = .ok (.iload 5, 2) := by decide +kernel
theorem dX5_bestOpenPitch_35 : decode (am_b mX5_bestOpenPitch) 35 = .ok (.iload_n 2, 1) := by decide +kernel
theorem dX5_bestOpenPitch_36 : decode (am_b mX5_bestOpenPitch) 36 = .ok (.invokevirtual 73, 3) := by decide +kernel
theorem dX5_bestOpenPitch_39 : decode (am_b mX5_bestOpenPitch) 39 = .ok (.ifCond .eq 10, 3) := by decide +kernel
theorem dX5_bestOpenPitch_42 : decode (am_b mX5_bestOpenPitch) 42 = .ok (.iload 5, 2) := by decide +kernel
theorem dX5_bestOpenPitch_44 : decode (am_b mX5_bestOpenPitch) 44 = .ok (.istore_n 3, 1) := by decide +kernel
theorem dX5_bestOpenPitch_45 : decode (am_b mX5_bestOpenPitch) 45 = .ok (.iload 6, 2) := by decide +kernel
theorem dX5_bestOpenPitch_47 : decode (am_b mX5_bestOpenPitch) 47 = .ok (.istore 4, 2) := by decide +kernel
theorem dX5_bestOpenPitch_49 : decode (am_b mX5_bestOpenPitch) 49 = .ok (.iinc 5 1, 3) := by decide +kernel
theorem dX5_bestOpenPitch_52 : decode (am_b mX5_bestOpenPitch) 52 = .ok (.goto (-43), 3) := by decide +kernel
theorem dX5_bestOpenPitch_55 : decode (am_b mX5_bestOpenPitch) 55 = .ok (.iload_n 3, 1) := by decide +kernel
theorem dX5_bestOpenPitch_56 : decode (am_b mX5_bestOpenPitch) 56 = .ok (.ireturn, 1) := by decide +kernel
theorem dX0_choosePitches_0 : decode (am_b mX0_choosePitches) 0 = .ok (.aload_n 1, 1) := by decide +kernel
theorem dX0_choosePitches_1 : decode (am_b mX0_choosePitches) 1 = .ok (.invokevirtual 59, 3) := by decide +kernel
theorem dX0_choosePitches_4 : decode (am_b mX0_choosePitches) 4 = .ok (.aload_n 1, 1) := by decide +kernel
theorem dX0_choosePitches_5 : decode (am_b mX0_choosePitches) 5 = .ok (.aload_n 0, 1) := by decide +kernel
theorem dX0_choosePitches_6 : decode (am_b mX0_choosePitches) 6 = .ok (.invokevirtual 64, 3) := by decide +kernel
theorem dX0_choosePitches_9 : decode (am_b mX0_choosePitches) 9 = .ok (.iconst 0, 1) := by decide +kernel
theorem dX0_choosePitches_10 : decode (am_b mX0_choosePitches) 10 = .ok (.istore_n 2, 1) := by decide +kernel
theorem dX0_choosePitches_11 : decode (am_b mX0_choosePitches) 11 = .ok (.iload_n 2, 1) := by decide +kernel
theorem dX0_choosePitches_12 : decode (am_b mX0_choosePitches) 12 = .ok (.aload_n 0, 1) := by decide +kernel
theorem dX0_choosePitches_13 : decode (am_b mX0_choosePitches) 13 = .ok (.getfield 39, 3) := by decide +kernel
theorem dX0_choosePitches_16 : decode (am_b mX0_choosePitches) 16 = .ok (.arraylength, 1) := by decide +kernel
theorem dX0_choosePitches_17 : decode (am_b mX0_choosePitches) 17 = .ok (.if_icmp .ge 66, 3) := by decide +kernel
theorem dX0_choosePitches_20 : decode (am_b mX0_choosePitches) 20 = .ok (.aload_n 0, 1) := by decide +kernel
theorem dX0_choosePitches_21 : decode (am_b mX0_choosePitches) 21 = .ok (.getfield 39, 3) := by decide +kernel
theorem dX0_choosePitches_24 : decode (am_b mX0_choosePitches) 24 = .ok (.iload_n 2, 1) := by decide +kernel
theorem dX0_choosePitches_25 : decode (am_b mX0_choosePitches) 25 = .ok (.iaload, 1) := by decide +kernel
theorem dX0_choosePitches_26 : decode (am_b mX0_choosePitches) 26 = .ok (.istore_n 3, 1) := by decide +kernel
theorem dX0_choosePitches_27 : decode (am_b mX0_choosePitches) 27 = .ok (.aload_n 0, 1) := by decide +kernel
theorem dX0_choosePitches_28 : decode (am_b mX0_choosePitches) 28 = .ok (.iload_n 3, 1) := by decide +kernel
theorem dX0_choosePitches_29 : decode (am_b mX0_choosePitches) 29 = .ok (.invokevirtual 43, 3) := by decide +kernel
theorem dX0_choosePitches_32 : decode (am_b mX0_choosePitches) 32 = .ok (.ifCond .eq 45, 3) := by decide +kernel
theorem dX0_choosePitches_35 : decode (am_b mX0_choosePitches) 35 = .ok (.aload_n 1, 1) := by decide +kernel
theorem dX0_choosePitches_36 : decode (am_b mX0_choosePitches) 36 = .ok (.aload_n 0, 1) := by decide +kernel
theorem dX0_choosePitches_37 : decode (am_b mX0_choosePitches) 37 = .ok (.getfield 67, 3) := by decide +kernel
theorem dX0_choosePitches_40 : decode (am_b mX0_choosePitches) 40 = .ok (.iload_n 3, 1) := by decide +kernel
theorem dX0_choosePitches_41 : decode (am_b mX0_choosePitches) 41 = .ok (.iaload, 1) := by decide +kernel
theorem dX0_choosePitches_42 : decode (am_b mX0_choosePitches) 42 = .ok (.aload_n 0, 1) := by decide +kernel
theorem dX0_choosePitches_43 : decode (am_b mX0_choosePitches) 43 = .ok (.iconst 4, 1) := by decide +kernel
theorem dX0_choosePitches_44 : decode (am_b mX0_choosePitches) 44 = .ok (.invokevirtual 25, 3) := by decide +kernel
theorem dX0_choosePitches_47 : decode (am_b mX0_choosePitches) 47 = .ok (.invokevirtual 70, 3) := by decide +kernel
theorem dX0_choosePitches_50 : decode (am_b mX0_choosePitches) 50 = .ok (.istore 4, 2) := by decide +kernel
theorem dX0_choosePitches_52 : decode (am_b mX0_choosePitches) 52 = .ok (.aload_n 0, 1) := by decide +kernel
theorem dX0_choosePitches_53 : decode (am_b mX0_choosePitches) 53 = .ok (.getfield 73, 3) := by decide +kernel
theorem dX0_choosePitches_56 : decode (am_b mX0_choosePitches) 56 = .ok (.iload_n 3, 1) := by decide +kernel
theorem dX0_choosePitches_57 : decode (am_b mX0_choosePitches) 57 = .ok (.iload 4, 2) := by decide +kernel
theorem dX0_choosePitches_59 : decode (am_b mX0_choosePitches) 59 = .ok (.iastore, 1) := by decide +kernel
theorem dX0_choosePitches_60 : decode (am_b mX0_choosePitches) 60 = .ok (.aload_n 1, 1) := by decide +kernel
theorem dX0_choosePitches_61 : decode (am_b mX0_choosePitches) 61 = .ok (.iload 4, 2) := by decide +kernel
theorem dX0_choosePitches_63 : decode (am_b mX0_choosePitches) 63 = .ok (.aload_n 0, 1) := by decide +kernel
theorem dX0_choosePitches_64 : decode (am_b mX0_choosePitches) 64 = .ok (.getfield 67, 3) := by decide +kernel
theorem dX0_choosePitches_67 : decode (am_b mX0_choosePitches) 67 = .ok (.iload_n 3, 1) := by decide +kernel
theorem dX0_choosePitches_68 : decode (am_b mX0_choosePitches) 68 = .ok (.iaload, 1) := by decide +kernel
theorem dX0_choosePitches_69 : decode (am_b mX0_choosePitches) 69 = .ok (.invokevirtual 76, 3) := by decide +kernel
theorem dX0_choosePitches_72 : decode (am_b mX0_choosePitches) 72 = .ok (.aload_n 1, 1) := by decide +kernel
theorem dX0_choosePitches_73 : decode (am_b mX0_choosePitches) 73 = .ok (.aload_n 0, 1) := by decide +kernel
theorem dX0_choosePitches_74 : decode (am_b mX0_choosePitches) 74 = .ok (.invokevirtual 64, 3) := by decide +kernel
theorem dX0_choosePitches_77 : decode (am_b mX0_choosePitches) 77 = .ok (.iinc 2 1, 3) := by decide +kernel
theorem dX0_choosePitches_80 : decode (am_b mX0_choosePitches) 80 = .ok (.goto (-69), 3) := by decide +kernel
theorem dX0_choosePitches_83 : decode (am_b mX0_choosePitches) 83 = .ok (.return_, 1) := by decide +kernel
theorem dX0_pass_0 : decode (am_b mX0_pass) 0 = .ok (.aload_n 0, 1) := by decide +kernel
theorem dX0_pass_1 : decode (am_b mX0_pass) 1 = .ok (.invokestatic 9, 3) := by decide +kernel
theorem dX0_pass_4 : decode (am_b mX0_pass) 4 = .ok (.aload_n 0, 1) := by decide +kernel
theorem dX0_pass_5 : decode (am_b mX0_pass) 5 = .ok (.aload_n 1, 1) := by decide +kernel
theorem dX0_pass_6 : decode (am_b mX0_pass) 6 = .ok (.invokestatic 15, 3) := by decide +kernel
theorem dX0_pass_9 : decode (am_b mX0_pass) 9 = .ok (.aload_n 0, 1) := by decide +kernel
theorem dX0_pass_10 : decode (am_b mX0_pass) 10 = .ok (.bipush 100, 2) := by decide +kernel
theorem dX0_pass_12 : decode (am_b mX0_pass) 12 = .ok (.invokevirtual 19, 3) := by decide +kernel
theorem dX0_pass_15 : decode (am_b mX0_pass) 15 = .ok (.aload_n 0, 1) := by decide +kernel
theorem dX0_pass_16 : decode (am_b mX0_pass) 16 = .ok (.iconst 5, 1) := by decide +kernel
theorem dX0_pass_17 : decode (am_b mX0_pass) 17 = .ok (.invokevirtual 25, 3) := by decide +kernel
theorem dX0_pass_20 : decode (am_b mX0_pass) 20 = .ok (.if_icmp .ge 7, 3) := by decide +kernel
theorem dX0_pass_23 : decode (am_b mX0_pass) 23 = .ok (.iconst 1, 1) := by decide +kernel
theorem dX0_pass_24 : decode (am_b mX0_pass) 24 = .ok (.goto 4, 3) := by decide +kernel
theorem dX0_pass_27 : decode (am_b mX0_pass) 27 = .ok (.iconst 0, 1) := by decide +kernel
theorem dX0_pass_28 : decode (am_b mX0_pass) 28 = .ok (.istore_n 2, 1) := by decide +kernel
theorem dX0_pass_29 : decode (am_b mX0_pass) 29 = .ok (.aload_n 0, 1) := by decide +kernel
theorem dX0_pass_30 : decode (am_b mX0_pass) 30 = .ok (.dup, 1) := by decide +kernel
theorem dX0_pass_31 : decode (am_b mX0_pass) 31 = .ok (.getfield 28, 3) := by decide +kernel
theorem dX0_pass_34 : decode (am_b mX0_pass) 34 = .ok (.iconst 1, 1) := by decide +kernel
theorem dX0_pass_35 : decode (am_b mX0_pass) 35 = .ok (.iadd, 1) := by decide +kernel
theorem dX0_pass_36 : decode (am_b mX0_pass) 36 = .ok (.putfield 28, 3) := by decide +kernel
theorem dX0_pass_39 : decode (am_b mX0_pass) 39 = .ok (.iload_n 2, 1) := by decide +kernel
theorem dX0_pass_40 : decode (am_b mX0_pass) 40 = .ok (.ifCond .eq 13, 3) := by decide +kernel
theorem dX0_pass_43 : decode (am_b mX0_pass) 43 = .ok (.aload_n 0, 1) := by decide +kernel
theorem dX0_pass_44 : decode (am_b mX0_pass) 44 = .ok (.dup, 1) := by decide +kernel
theorem dX0_pass_45 : decode (am_b mX0_pass) 45 = .ok (.getfield 32, 3) := by decide +kernel
theorem dX0_pass_48 : decode (am_b mX0_pass) 48 = .ok (.iconst 1, 1) := by decide +kernel
theorem dX0_pass_49 : decode (am_b mX0_pass) 49 = .ok (.iadd, 1) := by decide +kernel
theorem dX0_pass_50 : decode (am_b mX0_pass) 50 = .ok (.putfield 32, 3) := by decide +kernel
theorem dX0_pass_53 : decode (am_b mX0_pass) 53 = .ok (.aload_n 0, 1) := by decide +kernel
theorem dX0_pass_54 : decode (am_b mX0_pass) 54 = .ok (.aload_n 1, 1) := by decide +kernel
theorem dX0_pass_55 : decode (am_b mX0_pass) 55 = .ok (.iload_n 2, 1) := by decide +kernel
theorem dX0_pass_56 : decode (am_b mX0_pass) 56 = .ok (.invokestatic 35, 3) := by decide +kernel
theorem dX0_pass_59 : decode (am_b mX0_pass) 59 = .ok (.ireturn, 1) := by decide +kernel
