/-! printed: decode rows -/
theorem dX7_at_0 : decode (am_b mX7_at) 0 = .ok (.iload_n 0, 1) := by decide +kernel
theorem dX7_at_1 : decode (am_b mX7_at) 1 = .ok (.bipush 20, 2) := by decide +kernel
theorem dX7_at_3 : decode (am_b mX7_at) 3 = .ok (.iadd, 1) := by decide +kernel
theorem dX7_at_4 : decode (am_b mX7_at) 4 = .ok (.iconst 5, 1) := by decide +kernel
theorem dX7_at_5 : decode (am_b mX7_at) 5 = .ok (.iload_n 1, 1) := by decide +kernel
theorem dX7_at_6 : decode (am_b mX7_at) 6 = .ok (.imul, 1) := by decide +kernel
theorem dX7_at_7 : decode (am_b mX7_at) 7 = .ok (.iadd, 1) := by decide +kernel
theorem dX7_at_8 : decode (am_b mX7_at) 8 = .ok (.ireturn, 1) := by decide +kernel
theorem dX7_copies_0 : decode (am_b mX7_copies) 0 = .ok (.iconst 0, 1) := by decide +kernel
theorem dX7_copies_1 : decode (am_b mX7_copies) 1 = .ok (.istore_n 1, 1) := by decide +kernel
theorem dX7_copies_2 : decode (am_b mX7_copies) 2 = .ok (.iload_n 1, 1) := by decide +kernel
theorem dX7_copies_3 : decode (am_b mX7_copies) 3 = .ok (.bipush 60, 2) := by decide +kernel
theorem dX7_copies_5 : decode (am_b mX7_copies) 5 = .ok (.if_icmp .ge 24, 3) := by decide +kernel
theorem dX7_copies_8 : decode (am_b mX7_copies) 8 = .ok (.aload_n 0, 1) := by decide +kernel
theorem dX7_copies_9 : decode (am_b mX7_copies) 9 = .ok (.getfield 7, 3) := by decide +kernel
theorem dX7_copies_12 : decode (am_b mX7_copies) 12 = .ok (.bipush 60, 2) := by decide +kernel
theorem dX7_copies_14 : decode (am_b mX7_copies) 14 = .ok (.iload_n 1, 1) := by decide +kernel
theorem dX7_copies_15 : decode (am_b mX7_copies) 15 = .ok (.iadd, 1) := by decide +kernel
theorem dX7_copies_16 : decode (am_b mX7_copies) 16 = .ok (.aload_n 0, 1) := by decide +kernel
theorem dX7_copies_17 : decode (am_b mX7_copies) 17 = .ok (.getfield 7, 3) := by decide +kernel
theorem dX7_copies_20 : decode (am_b mX7_copies) 20 = .ok (.iload_n 1, 1) := by decide +kernel
theorem dX7_copies_21 : decode (am_b mX7_copies) 21 = .ok (.iaload, 1) := by decide +kernel
theorem dX7_copies_22 : decode (am_b mX7_copies) 22 = .ok (.iastore, 1) := by decide +kernel
theorem dX7_copies_23 : decode (am_b mX7_copies) 23 = .ok (.iinc 1 1, 3) := by decide +kernel
theorem dX7_copies_26 : decode (am_b mX7_copies) 26 = .ok (.goto (-24), 3) := by decide +kernel
theorem dX7_copies_29 : decode (am_b mX7_copies) 29 = .ok (.return_, 1) := by decide +kernel
theorem dX7_crowdOf_0 : decode (am_b mX7_crowdOf) 0 = .ok (.aload_n 0, 1) := by decide +kernel
theorem dX7_crowdOf_1 : decode (am_b mX7_crowdOf) 1 = .ok (.getfield 26, 3) := by decide +kernel
theorem dX7_crowdOf_4 : decode (am_b mX7_crowdOf) 4 = .ok (.iconst 2, 1) := by decide +kernel
theorem dX7_crowdOf_5 : decode (am_b mX7_crowdOf) 5 = .ok (.iload_n 1, 1) := by decide +kernel
theorem dX7_crowdOf_6 : decode (am_b mX7_crowdOf) 6 = .ok (.imul, 1) := by decide +kernel
theorem dX7_crowdOf_7 : decode (am_b mX7_crowdOf) 7 = .ok (.iaload, 1) := by decide +kernel
theorem dX7_crowdOf_8 : decode (am_b mX7_crowdOf) 8 = .ok (.aload_n 0, 1) := by decide +kernel
theorem dX7_crowdOf_9 : decode (am_b mX7_crowdOf) 9 = .ok (.getfield 26, 3) := by decide +kernel
theorem dX7_crowdOf_12 : decode (am_b mX7_crowdOf) 12 = .ok (.iconst 2, 1) := by decide +kernel
theorem dX7_crowdOf_13 : decode (am_b mX7_crowdOf) 13 = .ok (.iload_n 1, 1) := by decide +kernel
theorem dX7_crowdOf_14 : decode (am_b mX7_crowdOf) 14 = .ok (.imul, 1) := by decide +kernel
theorem dX7_crowdOf_15 : decode (am_b mX7_crowdOf) 15 = .ok (.iconst 1, 1) := by decide +kernel
theorem dX7_crowdOf_16 : decode (am_b mX7_crowdOf) 16 = .ok (.iadd, 1) := by decide +kernel
theorem dX7_crowdOf_17 : decode (am_b mX7_crowdOf) 17 = .ok (.iaload, 1) := by decide +kernel
theorem dX7_crowdOf_18 : decode (am_b mX7_crowdOf) 18 = .ok (.iadd, 1) := by decide +kernel
theorem dX7_crowdOf_19 : decode (am_b mX7_crowdOf) 19 = .ok (.ireturn, 1) := by decide +kernel
theorem dX7_draws_0 : decode (am_b mX7_draws) 0 = .ok (.aload_n 0, 1) := by decide +kernel
theorem dX7_draws_1 : decode (am_b mX7_draws) 1 = .ok (.getfield 7, 3) := by decide +kernel
theorem dX7_draws_4 : decode (am_b mX7_draws) 4 = .ok (.iload_n 1, 1) := by decide +kernel
theorem dX7_draws_5 : decode (am_b mX7_draws) 5 = .ok (.bipush 6, 2) := by decide +kernel
theorem dX7_draws_7 : decode (am_b mX7_draws) 7 = .ok (.iadd, 1) := by decide +kernel
theorem dX7_draws_8 : decode (am_b mX7_draws) 8 = .ok (.aload_n 0, 1) := by decide +kernel
theorem dX7_draws_9 : decode (am_b mX7_draws) 9 = .ok (.getfield 7, 3) := by decide +kernel
theorem dX7_draws_12 : decode (am_b mX7_draws) 12 = .ok (.iload_n 1, 1) := by decide +kernel
theorem dX7_draws_13 : decode (am_b mX7_draws) 13 = .ok (.bipush 6, 2) := by decide +kernel
theorem dX7_draws_15 : decode (am_b mX7_draws) 15 = .ok (.iadd, 1) := by decide +kernel
theorem dX7_draws_16 : decode (am_b mX7_draws) 16 = .ok (.iaload, 1) := by decide +kernel
theorem dX7_draws_17 : decode (am_b mX7_draws) 17 = .ok (.i2l, 1) := by decide +kernel
theorem dX7_draws_18 : decode (am_b mX7_draws) 18 = .ok (.ldc2_w 57, 3) := by decide +kernel
theorem dX7_draws_21 : decode (am_b mX7_draws) 21 = .ok (.lmul, 1) := by decide +kernel
theorem dX7_draws_22 : decode (am_b mX7_draws) 22 = .ok (.ldc2_w 59, 3) := by decide +kernel
theorem dX7_draws_25 : decode (am_b mX7_draws) 25 = .ok (.ladd, 1) := by decide +kernel
theorem dX7_draws_26 : decode (am_b mX7_draws) 26 = .ok (.ldc2_w 61, 3) := by decide +kernel
theorem dX7_draws_29 : decode (am_b mX7_draws) 29 = .ok (.lrem, 1) := by decide +kernel
theorem dX7_draws_30 : decode (am_b mX7_draws) 30 = .ok (.l2i, 1) := by decide +kernel
theorem dX7_draws_31 : decode (am_b mX7_draws) 31 = .ok (.iastore, 1) := by decide +kernel
theorem dX7_draws_32 : decode (am_b mX7_draws) 32 = .ok (.aload_n 0, 1) := by decide +kernel
theorem dX7_draws_33 : decode (am_b mX7_draws) 33 = .ok (.getfield 7, 3) := by decide +kernel
theorem dX7_draws_36 : decode (am_b mX7_draws) 36 = .ok (.iload_n 1, 1) := by decide +kernel
theorem dX7_draws_37 : decode (am_b mX7_draws) 37 = .ok (.bipush 6, 2) := by decide +kernel
theorem dX7_draws_39 : decode (am_b mX7_draws) 39 = .ok (.iadd, 1) := by decide +kernel
theorem dX7_draws_40 : decode (am_b mX7_draws) 40 = .ok (.iaload, 1) := by decide +kernel
theorem dX7_draws_41 : decode (am_b mX7_draws) 41 = .ok (.ldc 63, 2) := by decide +kernel
theorem dX7_draws_43 : decode (am_b mX7_draws) 43 = .ok (.idiv, 1) := by decide +kernel
theorem dX7_draws_44 : decode (am_b mX7_draws) 44 = .ok (.iload_n 2, 1) := by decide +kernel
theorem dX7_draws_45 : decode (am_b mX7_draws) 45 = .ok (.irem, 1) := by decide +kernel
theorem dX7_draws_46 : decode (am_b mX7_draws) 46 = .ok (.ireturn, 1) := by decide +kernel
theorem dX7_forgets_0 : decode (am_b mX7_forgets) 0 = .ok (.iconst 0, 1) := by decide +kernel
theorem dX7_forgets_1 : decode (am_b mX7_forgets) 1 = .ok (.istore_n 1, 1) := by decide +kernel
theorem dX7_forgets_2 : decode (am_b mX7_forgets) 2 = .ok (.iload_n 1, 1) := by decide +kernel
theorem dX7_forgets_3 : decode (am_b mX7_forgets) 3 = .ok (.bipush 8, 2) := by decide +kernel
theorem dX7_forgets_5 : decode (am_b mX7_forgets) 5 = .ok (.if_icmp .ge 19, 3) := by decide +kernel
theorem dX7_forgets_8 : decode (am_b mX7_forgets) 8 = .ok (.aload_n 0, 1) := by decide +kernel
theorem dX7_forgets_9 : decode (am_b mX7_forgets) 9 = .ok (.getfield 7, 3) := by decide +kernel
theorem dX7_forgets_12 : decode (am_b mX7_forgets) 12 = .ok (.bipush 12, 2) := by decide +kernel
theorem dX7_forgets_14 : decode (am_b mX7_forgets) 14 = .ok (.iload_n 1, 1) := by decide +kernel
theorem dX7_forgets_15 : decode (am_b mX7_forgets) 15 = .ok (.iadd, 1) := by decide +kernel
theorem dX7_forgets_16 : decode (am_b mX7_forgets) 16 = .ok (.iconst (-1), 1) := by decide +kernel
theorem dX7_forgets_17 : decode (am_b mX7_forgets) 17 = .ok (.iastore, 1) := by decide +kernel
theorem dX7_forgets_18 : decode (am_b mX7_forgets) 18 = .ok (.iinc 1 1, 3) := by decide +kernel
theorem dX7_forgets_21 : decode (am_b mX7_forgets) 21 = .ok (.goto (-19), 3) := by decide +kernel
theorem dX7_forgets_24 : decode (am_b mX7_forgets) 24 = .ok (.return_, 1) := by decide +kernel
theorem dX7_in_0 : decode (am_b mX7_in) 0 = .ok (.iload_n 0, 1) := by decide +kernel
theorem dX7_in_1 : decode (am_b mX7_in) 1 = .ok (.iload_n 1, 1) := by decide +kernel
theorem dX7_in_2 : decode (am_b mX7_in) 2 = .ok (.if_icmp .lt 12, 3) := by decide +kernel
theorem dX7_in_5 : decode (am_b mX7_in) 5 = .ok (.iload_n 0, 1) := by decide +kernel
theorem dX7_in_6 : decode (am_b mX7_in) 6 = .ok (.iload_n 2, 1) := by decide +kernel
theorem dX7_in_7 : decode (am_b mX7_in) 7 = .ok (.if_icmp .gt 7, 3) := by decide +kernel
theorem dX7_in_10 : decode (am_b mX7_in) 10 = .ok (.iconst 1, 1) := by decide +kernel
theorem dX7_in_11 : decode (am_b mX7_in) 11 = .ok (.goto 4, 3) := by decide +kernel
theorem dX7_in_14 : decode (am_b mX7_in) 14 = .ok (.iconst 0, 1) := by decide +kernel
theorem dX7_in_15 : decode (am_b mX7_in) 15 = .ok (.ireturn, 1) := by decide +kernel
theorem dX7_mostOf_0 : decode (am_b mX7_mostOf) 0 = .ok (.iload_n 0, 1) := by decide +kernel
theorem dX7_mostOf_1 : decode (am_b mX7_mostOf) 1 = .ok (.iconst 2, 1) := by decide +kernel
theorem dX7_mostOf_2 : decode (am_b mX7_mostOf) 2 = .ok (.if_icmp .ge 9, 3) := by decide +kernel
theorem dX7_mostOf_5 : decode (am_b mX7_mostOf) 5 = .ok (.sipush 999, 3) := by decide +kernel
theorem dX7_mostOf_8 : decode (am_b mX7_mostOf) 8 = .ok (.goto 14, 3) := by decide +kernel
theorem dX7_mostOf_11 : decode (am_b mX7_mostOf) 11 = .ok (.iload_n 0, 1) := by decide +kernel
theorem dX7_mostOf_12 : decode (am_b mX7_mostOf) 12 = .ok (.iconst 4, 1) := by decide +kernel
theorem dX7_mostOf_13 : decode (am_b mX7_mostOf) 13 = .ok (.if_icmp .ne 7, 3) := by decide +kernel
theorem dX7_mostOf_16 : decode (am_b mX7_mostOf) 16 = .ok (.iconst 5, 1) := by decide +kernel
theorem dX7_mostOf_17 : decode (am_b mX7_mostOf) 17 = .ok (.goto 5, 3) := by decide +kernel
theorem dX7_mostOf_20 : decode (am_b mX7_mostOf) 20 = .ok (.bipush 100, 2) := by decide +kernel
theorem dX7_mostOf_22 : decode (am_b mX7_mostOf) 22 = .ok (.ireturn, 1) := by decide +kernel
theorem dX7_remembers_0 : decode (am_b mX7_remembers) 0 = .ok (.aload_n 0, 1) := by decide +kernel
theorem dX7_remembers_1 : decode (am_b mX7_remembers) 1 = .ok (.getfield 40, 3) := by decide +kernel
theorem dX7_remembers_4 : decode (am_b mX7_remembers) 4 = .ok (.bipush 6, 2) := by decide +kernel
theorem dX7_remembers_6 : decode (am_b mX7_remembers) 6 = .ok (.if_icmp .ne 43, 3) := by decide +kernel
theorem dX7_remembers_9 : decode (am_b mX7_remembers) 9 = .ok (.iconst 0, 1) := by decide +kernel
theorem dX7_remembers_10 : decode (am_b mX7_remembers) 10 = .ok (.istore_n 1, 1) := by decide +kernel
theorem dX7_remembers_11 : decode (am_b mX7_remembers) 11 = .ok (.iload_n 1, 1) := by decide +kernel
theorem dX7_remembers_12 : decode (am_b mX7_remembers) 12 = .ok (.sipush 300, 3) := by decide +kernel
theorem dX7_remembers_15 : decode (am_b mX7_remembers) 15 = .ok (.if_icmp .ge 24, 3) := by decide +kernel
theorem dX7_remembers_18 : decode (am_b mX7_remembers) 18 = .ok (.aload_n 0, 1) := by decide +kernel
theorem dX7_remembers_19 : decode (am_b mX7_remembers) 19 = .ok (.getfield 13, 3) := by decide +kernel
theorem dX7_remembers_22 : decode (am_b mX7_remembers) 22 = .ok (.iload_n 1, 1) := by decide +kernel
theorem dX7_remembers_23 : decode (am_b mX7_remembers) 23 = .ok (.aload_n 0, 1) := by decide +kernel
theorem dX7_remembers_24 : decode (am_b mX7_remembers) 24 = .ok (.getfield 13, 3) := by decide +kernel
theorem dX7_remembers_27 : decode (am_b mX7_remembers) 27 = .ok (.bipush 60, 2) := by decide +kernel
theorem dX7_remembers_29 : decode (am_b mX7_remembers) 29 = .ok (.iload_n 1, 1) := by decide +kernel
theorem dX7_remembers_30 : decode (am_b mX7_remembers) 30 = .ok (.iadd, 1) := by decide +kernel
theorem dX7_remembers_31 : decode (am_b mX7_remembers) 31 = .ok (.iaload, 1) := by decide +kernel
theorem dX7_remembers_32 : decode (am_b mX7_remembers) 32 = .ok (.iastore, 1) := by decide +kernel
theorem dX7_remembers_33 : decode (am_b mX7_remembers) 33 = .ok (.iinc 1 1, 3) := by decide +kernel
theorem dX7_remembers_36 : decode (am_b mX7_remembers) 36 = .ok (.goto (-25), 3) := by decide +kernel
theorem dX7_remembers_39 : decode (am_b mX7_remembers) 39 = .ok (.aload_n 0, 1) := by decide +kernel
theorem dX7_remembers_40 : decode (am_b mX7_remembers) 40 = .ok (.dup, 1) := by decide +kernel
theorem dX7_remembers_41 : decode (am_b mX7_remembers) 41 = .ok (.getfield 40, 3) := by decide +kernel
theorem dX7_remembers_44 : decode (am_b mX7_remembers) 44 = .ok (.iconst 1, 1) := by decide +kernel
theorem dX7_remembers_45 : decode (am_b mX7_remembers) 45 = .ok (.isub, 1) := by decide +kernel
theorem dX7_remembers_46 : decode (am_b mX7_remembers) 46 = .ok (.putfield 40, 3) := by decide +kernel
theorem dX7_remembers_49 : decode (am_b mX7_remembers) 49 = .ok (.iconst 0, 1) := by decide +kernel
theorem dX7_remembers_50 : decode (am_b mX7_remembers) 50 = .ok (.istore_n 1, 1) := by decide +kernel
theorem dX7_remembers_51 : decode (am_b mX7_remembers) 51 = .ok (.iload_n 1, 1) := by decide +kernel
theorem dX7_remembers_52 : decode (am_b mX7_remembers) 52 = .ok (.bipush 60, 2) := by decide +kernel
theorem dX7_remembers_54 : decode (am_b mX7_remembers) 54 = .ok (.if_icmp .ge 29, 3) := by decide +kernel
theorem dX7_remembers_57 : decode (am_b mX7_remembers) 57 = .ok (.aload_n 0, 1) := by decide +kernel
theorem dX7_remembers_58 : decode (am_b mX7_remembers) 58 = .ok (.getfield 13, 3) := by decide +kernel
theorem dX7_remembers_61 : decode (am_b mX7_remembers) 61 = .ok (.bipush 60, 2) := by decide +kernel
theorem dX7_remembers_63 : decode (am_b mX7_remembers) 63 = .ok (.aload_n 0, 1) := by decide +kernel
theorem dX7_remembers_64 : decode (am_b mX7_remembers) 64 = .ok (.getfield 40, 3) := by decide +kernel
theorem dX7_remembers_67 : decode (am_b mX7_remembers) 67 = .ok (.imul, 1) := by decide +kernel
theorem dX7_remembers_68 : decode (am_b mX7_remembers) 68 = .ok (.iload_n 1, 1) := by decide +kernel
theorem dX7_remembers_69 : decode (am_b mX7_remembers) 69 = .ok (.iadd, 1) := by decide +kernel
theorem dX7_remembers_70 : decode (am_b mX7_remembers) 70 = .ok (.aload_n 0, 1) := by decide +kernel
theorem dX7_remembers_71 : decode (am_b mX7_remembers) 71 = .ok (.getfield 7, 3) := by decide +kernel
theorem dX7_remembers_74 : decode (am_b mX7_remembers) 74 = .ok (.iload_n 1, 1) := by decide +kernel
theorem dX7_remembers_75 : decode (am_b mX7_remembers) 75 = .ok (.iaload, 1) := by decide +kernel
theorem dX7_remembers_76 : decode (am_b mX7_remembers) 76 = .ok (.iastore, 1) := by decide +kernel
theorem dX7_remembers_77 : decode (am_b mX7_remembers) 77 = .ok (.iinc 1 1, 3) := by decide +kernel
theorem dX7_remembers_80 : decode (am_b mX7_remembers) 80 = .ok (.goto (-29), 3) := by decide +kernel
theorem dX7_remembers_83 : decode (am_b mX7_remembers) 83 = .ok (.aload_n 0, 1) := by decide +kernel
theorem dX7_remembers_84 : decode (am_b mX7_remembers) 84 = .ok (.dup, 1) := by decide +kernel
theorem dX7_remembers_85 : decode (am_b mX7_remembers) 85 = .ok (.getfield 40, 3) := by decide +kernel
theorem dX7_remembers_88 : decode (am_b mX7_remembers) 88 = .ok (.iconst 1, 1) := by decide +kernel
theorem dX7_remembers_89 : decode (am_b mX7_remembers) 89 = .ok (.iadd, 1) := by decide +kernel
theorem dX7_remembers_90 : decode (am_b mX7_remembers) 90 = .ok (.putfield 40, 3) := by decide +kernel
theorem dX7_remembers_93 : decode (am_b mX7_remembers) 93 = .ok (.return_, 1) := by decide +kernel
theorem dX7_roofs_0 : decode (am_b mX7_roofs) 0 = .ok (.iconst 0, 1) := by decide +kernel
theorem dX7_roofs_1 : decode (am_b mX7_roofs) 1 = .ok (.istore_n 1, 1) := by decide +kernel
theorem dX7_roofs_2 : decode (am_b mX7_roofs) 2 = .ok (.iconst 0, 1) := by decide +kernel
theorem dX7_roofs_3 : decode (am_b mX7_roofs) 3 = .ok (.istore_n 2, 1) := by decide +kernel
theorem dX7_roofs_4 : decode (am_b mX7_roofs) 4 = .ok (.iload_n 2, 1) := by decide +kernel
theorem dX7_roofs_5 : decode (am_b mX7_roofs) 5 = .ok (.bipush 12, 2) := by decide +kernel
theorem dX7_roofs_7 : decode (am_b mX7_roofs) 7 = .ok (.if_icmp .ge 23, 3) := by decide +kernel
theorem dX7_roofs_10 : decode (am_b mX7_roofs) 10 = .ok (.iload_n 1, 1) := by decide +kernel
theorem dX7_roofs_11 : decode (am_b mX7_roofs) 11 = .ok (.aload_n 0, 1) := by decide +kernel
theorem dX7_roofs_12 : decode (am_b mX7_roofs) 12 = .ok (.getfield 7, 3) := by decide +kernel
theorem dX7_roofs_15 : decode (am_b mX7_roofs) 15 = .ok (.bipush 8, 2) := by decide +kernel
theorem dX7_roofs_17 : decode (am_b mX7_roofs) 17 = .ok (.iaload, 1) := by decide +kernel
theorem dX7_roofs_18 : decode (am_b mX7_roofs) 18 = .ok (.iload_n 2, 1) := by decide +kernel
theorem dX7_roofs_19 : decode (am_b mX7_roofs) 19 = .ok (.ishr, 1) := by decide +kernel
theorem dX7_roofs_20 : decode (am_b mX7_roofs) 20 = .ok (.iconst 1, 1) := by decide +kernel
theorem dX7_roofs_21 : decode (am_b mX7_roofs) 21 = .ok (.iand, 1) := by decide +kernel
theorem dX7_roofs_22 : decode (am_b mX7_roofs) 22 = .ok (.iadd, 1) := by decide +kernel
theorem dX7_roofs_23 : decode (am_b mX7_roofs) 23 = .ok (.istore_n 1, 1) := by decide +kernel
theorem dX7_roofs_24 : decode (am_b mX7_roofs) 24 = .ok (.iinc 2 1, 3) := by decide +kernel
theorem dX7_roofs_27 : decode (am_b mX7_roofs) 27 = .ok (.goto (-23), 3) := by decide +kernel
theorem dX7_roofs_30 : decode (am_b mX7_roofs) 30 = .ok (.iload_n 1, 1) := by decide +kernel
theorem dX7_roofs_31 : decode (am_b mX7_roofs) 31 = .ok (.ireturn, 1) := by decide +kernel
theorem dX7_sign_0 : decode (am_b mX7_sign) 0 = .ok (.iload_n 1, 1) := by decide +kernel
theorem dX7_sign_1 : decode (am_b mX7_sign) 1 = .ok (.aload_n 0, 1) := by decide +kernel
theorem dX7_sign_2 : decode (am_b mX7_sign) 2 = .ok (.getfield 130, 3) := by decide +kernel
theorem dX7_sign_5 : decode (am_b mX7_sign) 5 = .ok (.if_icmp .ge 12, 3) := by decide +kernel
theorem dX7_sign_8 : decode (am_b mX7_sign) 8 = .ok (.aload_n 0, 1) := by decide +kernel
theorem dX7_sign_9 : decode (am_b mX7_sign) 9 = .ok (.getfield 23, 3) := by decide +kernel
theorem dX7_sign_12 : decode (am_b mX7_sign) 12 = .ok (.iload_n 1, 1) := by decide +kernel
theorem dX7_sign_13 : decode (am_b mX7_sign) 13 = .ok (.iaload, 1) := by decide +kernel
theorem dX7_sign_14 : decode (am_b mX7_sign) 14 = .ok (.goto 4, 3) := by decide +kernel
theorem dX7_sign_17 : decode (am_b mX7_sign) 17 = .ok (.iconst (-1), 1) := by decide +kernel
theorem dX7_sign_18 : decode (am_b mX7_sign) 18 = .ok (.ireturn, 1) := by decide +kernel
theorem dX7_undo_0 : decode (am_b mX7_undo) 0 = .ok (.aload_n 0, 1) := by decide +kernel
theorem dX7_undo_1 : decode (am_b mX7_undo) 1 = .ok (.getfield 40, 3) := by decide +kernel
theorem dX7_undo_4 : decode (am_b mX7_undo) 4 = .ok (.ifCond .ne 6, 3) := by decide +kernel
theorem dX7_undo_7 : decode (am_b mX7_undo) 7 = .ok (.bipush (-5), 2) := by decide +kernel
theorem dX7_undo_9 : decode (am_b mX7_undo) 9 = .ok (.ireturn, 1) := by decide +kernel
theorem dX7_undo_10 : decode (am_b mX7_undo) 10 = .ok (.aload_n 0, 1) := by decide +kernel
theorem dX7_undo_11 : decode (am_b mX7_undo) 11 = .ok (.dup, 1) := by decide +kernel
theorem dX7_undo_12 : decode (am_b mX7_undo) 12 = .ok (.getfield 40, 3) := by decide +kernel
theorem dX7_undo_15 : decode (am_b mX7_undo) 15 = .ok (.iconst 1, 1) := by decide +kernel
theorem dX7_undo_16 : decode (am_b mX7_undo) 16 = .ok (.isub, 1) := by decide +kernel
theorem dX7_undo_17 : decode (am_b mX7_undo) 17 = .ok (.putfield 40, 3) := by decide +kernel
theorem dX7_undo_20 : decode (am_b mX7_undo) 20 = .ok (.iconst 0, 1) := by decide +kernel
theorem dX7_undo_21 : decode (am_b mX7_undo) 21 = .ok (.istore_n 1, 1) := by decide +kernel
theorem dX7_undo_22 : decode (am_b mX7_undo) 22 = .ok (.iload_n 1, 1) := by decide +kernel
theorem dX7_undo_23 : decode (am_b mX7_undo) 23 = .ok (.bipush 60, 2) := by decide +kernel
theorem dX7_undo_25 : decode (am_b mX7_undo) 25 = .ok (.if_icmp .ge 29, 3) := by decide +kernel
theorem dX7_undo_28 : decode (am_b mX7_undo) 28 = .ok (.aload_n 0, 1) := by decide +kernel
theorem dX7_undo_29 : decode (am_b mX7_undo) 29 = .ok (.getfield 7, 3) := by decide +kernel
theorem dX7_undo_32 : decode (am_b mX7_undo) 32 = .ok (.iload_n 1, 1) := by decide +kernel
theorem dX7_undo_33 : decode (am_b mX7_undo) 33 = .ok (.aload_n 0, 1) := by decide +kernel
theorem dX7_undo_34 : decode (am_b mX7_undo) 34 = .ok (.getfield 13, 3) := by decide +kernel
theorem dX7_undo_37 : decode (am_b mX7_undo) 37 = .ok (.bipush 60, 2) := by decide +kernel
theorem dX7_undo_39 : decode (am_b mX7_undo) 39 = .ok (.aload_n 0, 1) := by decide +kernel
theorem dX7_undo_40 : decode (am_b mX7_undo) 40 = .ok (.getfield 40, 3) := by decide +kernel
theorem dX7_undo_43 : decode (am_b mX7_undo) 43 = .ok (.imul, 1) := by decide +kernel
theorem dX7_undo_44 : decode (am_b mX7_undo) 44 = .ok (.iload_n 1, 1) := by decide +kernel
theorem dX7_undo_45 : decode (am_b mX7_undo) 45 = .ok (.iadd, 1) := by decide +kernel
theorem dX7_undo_46 : decode (am_b mX7_undo) 46 = .ok (.iaload, 1) := by decide +kernel
theorem dX7_undo_47 : decode (am_b mX7_undo) 47 = .ok (.iastore, 1) := by decide +kernel
theorem dX7_undo_48 : decode (am_b mX7_undo) 48 = .ok (.iinc 1 1, 3) := by decide +kernel
theorem dX7_undo_51 : decode (am_b mX7_undo) 51 = .ok (.goto (-29), 3) := by decide +kernel
theorem dX7_undo_54 : decode (am_b mX7_undo) 54 = .ok (.aload_n 0, 1) := by decide +kernel
theorem dX7_undo_55 : decode (am_b mX7_undo) 55 = .ok (.getfield 40, 3) := by decide +kernel
theorem dX7_undo_58 : decode (am_b mX7_undo) 58 = .ok (.ireturn, 1) := by decide +kernel
theorem dX7_wipe_0 : decode (am_b mX7_wipe) 0 = .ok (.aload_n 0, 1) := by decide +kernel
theorem dX7_wipe_1 : decode (am_b mX7_wipe) 1 = .ok (.getfield 130, 3) := by decide +kernel
theorem dX7_wipe_4 : decode (am_b mX7_wipe) 4 = .ok (.istore_n 1, 1) := by decide +kernel
theorem dX7_wipe_5 : decode (am_b mX7_wipe) 5 = .ok (.aload_n 0, 1) := by decide +kernel
theorem dX7_wipe_6 : decode (am_b mX7_wipe) 6 = .ok (.iconst 0, 1) := by decide +kernel
theorem dX7_wipe_7 : decode (am_b mX7_wipe) 7 = .ok (.putfield 130, 3) := by decide +kernel
theorem dX7_wipe_10 : decode (am_b mX7_wipe) 10 = .ok (.iload_n 1, 1) := by decide +kernel
theorem dX7_wipe_11 : decode (am_b mX7_wipe) 11 = .ok (.ireturn, 1) := by decide +kernel
theorem dX7_boothAt_0 : decode (am_b mX7_boothAt) 0 = .ok (.iconst 0, 1) := by decide +kernel
theorem dX7_boothAt_1 : decode (am_b mX7_boothAt) 1 = .ok (.istore_n 3, 1) := by decide +kernel
theorem dX7_boothAt_2 : decode (am_b mX7_boothAt) 2 = .ok (.iload_n 3, 1) := by decide +kernel
theorem dX7_boothAt_3 : decode (am_b mX7_boothAt) 3 = .ok (.aload_n 0, 1) := by decide +kernel
theorem dX7_boothAt_4 : decode (am_b mX7_boothAt) 4 = .ok (.getfield 7, 3) := by decide +kernel
theorem dX7_boothAt_7 : decode (am_b mX7_boothAt) 7 = .ok (.iload_n 1, 1) := by decide +kernel
theorem dX7_boothAt_8 : decode (am_b mX7_boothAt) 8 = .ok (.bipush 7, 2) := by decide +kernel
theorem dX7_boothAt_10 : decode (am_b mX7_boothAt) 10 = .ok (.iadd, 1) := by decide +kernel
theorem dX7_boothAt_11 : decode (am_b mX7_boothAt) 11 = .ok (.iaload, 1) := by decide +kernel
theorem dX7_boothAt_12 : decode (am_b mX7_boothAt) 12 = .ok (.if_icmp .ge 27, 3) := by decide +kernel
theorem dX7_boothAt_15 : decode (am_b mX7_boothAt) 15 = .ok (.aload_n 0, 1) := by decide +kernel
theorem dX7_boothAt_16 : decode (am_b mX7_boothAt) 16 = .ok (.getfield 7, 3) := by decide +kernel
theorem dX7_boothAt_19 : decode (am_b mX7_boothAt) 19 = .ok (.iload_n 1, 1) := by decide +kernel
theorem dX7_boothAt_20 : decode (am_b mX7_boothAt) 20 = .ok (.iload_n 3, 1) := by decide +kernel
theorem dX7_boothAt_21 : decode (am_b mX7_boothAt) 21 = .ok (.invokestatic 36, 3) := by decide +kernel
theorem dX7_boothAt_24 : decode (am_b mX7_boothAt) 24 = .ok (.iconst 1, 1) := by decide +kernel
theorem dX7_boothAt_25 : decode (am_b mX7_boothAt) 25 = .ok (.iadd, 1) := by decide +kernel
theorem dX7_boothAt_26 : decode (am_b mX7_boothAt) 26 = .ok (.iaload, 1) := by decide +kernel
theorem dX7_boothAt_27 : decode (am_b mX7_boothAt) 27 = .ok (.iload_n 2, 1) := by decide +kernel
theorem dX7_boothAt_28 : decode (am_b mX7_boothAt) 28 = .ok (.if_icmp .ne 5, 3) := by decide +kernel
theorem dX7_boothAt_31 : decode (am_b mX7_boothAt) 31 = .ok (.iload_n 3, 1) := by decide +kernel
theorem dX7_boothAt_32 : decode (am_b mX7_boothAt) 32 = .ok (.ireturn, 1) := by decide +kernel
theorem dX7_boothAt_33 : decode (am_b mX7_boothAt) 33 = .ok (.iinc 3 1, 3) := by decide +kernel
theorem dX7_boothAt_36 : decode (am_b mX7_boothAt) 36 = .ok (.goto (-34), 3) := by decide +kernel
theorem dX7_boothAt_39 : decode (am_b mX7_boothAt) 39 = .ok (.bipush (-6), 2) := by decide +kernel
theorem dX7_boothAt_41 : decode (am_b mX7_boothAt) 41 = .ok (.ireturn, 1) := by decide +kernel
theorem dX7_comes_0 : decode (am_b mX7_comes) 0 = .ok (.iconst 0, 1) := by decide +kernel
theorem dX7_comes_1 : decode (am_b mX7_comes) 1 = .ok (.aload_n 0, 1) := by decide +kernel
theorem dX7_comes_2 : decode (am_b mX7_comes) 2 = .ok (.getfield 7, 3) := by decide +kernel
theorem dX7_comes_5 : decode (am_b mX7_comes) 5 = .ok (.bipush 7, 2) := by decide +kernel
theorem dX7_comes_7 : decode (am_b mX7_comes) 7 = .ok (.iaload, 1) := by decide +kernel
theorem dX7_comes_8 : decode (am_b mX7_comes) 8 = .ok (.invokestatic 36, 3) := by decide +kernel
theorem dX7_comes_11 : decode (am_b mX7_comes) 11 = .ok (.istore_n 3, 1) := by decide +kernel
theorem dX7_comes_12 : decode (am_b mX7_comes) 12 = .ok (.aload_n 0, 1) := by decide +kernel
theorem dX7_comes_13 : decode (am_b mX7_comes) 13 = .ok (.getfield 7, 3) := by decide +kernel
theorem dX7_comes_16 : decode (am_b mX7_comes) 16 = .ok (.iload_n 3, 1) := by decide +kernel
theorem dX7_comes_17 : decode (am_b mX7_comes) 17 = .ok (.iconst 0, 1) := by decide +kernel
theorem dX7_comes_18 : decode (am_b mX7_comes) 18 = .ok (.iadd, 1) := by decide +kernel
theorem dX7_comes_19 : decode (am_b mX7_comes) 19 = .ok (.iload_n 1, 1) := by decide +kernel
theorem dX7_comes_20 : decode (am_b mX7_comes) 20 = .ok (.iastore, 1) := by decide +kernel
theorem dX7_comes_21 : decode (am_b mX7_comes) 21 = .ok (.aload_n 0, 1) := by decide +kernel
theorem dX7_comes_22 : decode (am_b mX7_comes) 22 = .ok (.getfield 7, 3) := by decide +kernel
theorem dX7_comes_25 : decode (am_b mX7_comes) 25 = .ok (.iload_n 3, 1) := by decide +kernel
theorem dX7_comes_26 : decode (am_b mX7_comes) 26 = .ok (.iconst 1, 1) := by decide +kernel
theorem dX7_comes_27 : decode (am_b mX7_comes) 27 = .ok (.iadd, 1) := by decide +kernel
theorem dX7_comes_28 : decode (am_b mX7_comes) 28 = .ok (.iload_n 2, 1) := by decide +kernel
theorem dX7_comes_29 : decode (am_b mX7_comes) 29 = .ok (.iastore, 1) := by decide +kernel
theorem dX7_comes_30 : decode (am_b mX7_comes) 30 = .ok (.aload_n 0, 1) := by decide +kernel
theorem dX7_comes_31 : decode (am_b mX7_comes) 31 = .ok (.getfield 7, 3) := by decide +kernel
theorem dX7_comes_34 : decode (am_b mX7_comes) 34 = .ok (.iload_n 3, 1) := by decide +kernel
theorem dX7_comes_35 : decode (am_b mX7_comes) 35 = .ok (.iconst 2, 1) := by decide +kernel
theorem dX7_comes_36 : decode (am_b mX7_comes) 36 = .ok (.iadd, 1) := by decide +kernel
theorem dX7_comes_37 : decode (am_b mX7_comes) 37 = .ok (.iconst 0, 1) := by decide +kernel
theorem dX7_comes_38 : decode (am_b mX7_comes) 38 = .ok (.iastore, 1) := by decide +kernel
theorem dX7_comes_39 : decode (am_b mX7_comes) 39 = .ok (.aload_n 0, 1) := by decide +kernel
theorem dX7_comes_40 : decode (am_b mX7_comes) 40 = .ok (.getfield 7, 3) := by decide +kernel
theorem dX7_comes_43 : decode (am_b mX7_comes) 43 = .ok (.iload_n 3, 1) := by decide +kernel
theorem dX7_comes_44 : decode (am_b mX7_comes) 44 = .ok (.iconst 3, 1) := by decide +kernel
theorem dX7_comes_45 : decode (am_b mX7_comes) 45 = .ok (.iadd, 1) := by decide +kernel
theorem dX7_comes_46 : decode (am_b mX7_comes) 46 = .ok (.iconst 0, 1) := by decide +kernel
theorem dX7_comes_47 : decode (am_b mX7_comes) 47 = .ok (.iastore, 1) := by decide +kernel
theorem dX7_comes_48 : decode (am_b mX7_comes) 48 = .ok (.aload_n 0, 1) := by decide +kernel
theorem dX7_comes_49 : decode (am_b mX7_comes) 49 = .ok (.getfield 7, 3) := by decide +kernel
theorem dX7_comes_52 : decode (am_b mX7_comes) 52 = .ok (.iload_n 3, 1) := by decide +kernel
theorem dX7_comes_53 : decode (am_b mX7_comes) 53 = .ok (.iconst 4, 1) := by decide +kernel
theorem dX7_comes_54 : decode (am_b mX7_comes) 54 = .ok (.iadd, 1) := by decide +kernel
theorem dX7_comes_55 : decode (am_b mX7_comes) 55 = .ok (.iconst 0, 1) := by decide +kernel
theorem dX7_comes_56 : decode (am_b mX7_comes) 56 = .ok (.iastore, 1) := by decide +kernel
theorem dX7_comes_57 : decode (am_b mX7_comes) 57 = .ok (.aload_n 0, 1) := by decide +kernel
theorem dX7_comes_58 : decode (am_b mX7_comes) 58 = .ok (.getfield 7, 3) := by decide +kernel
theorem dX7_comes_61 : decode (am_b mX7_comes) 61 = .ok (.bipush 7, 2) := by decide +kernel
theorem dX7_comes_63 : decode (am_b mX7_comes) 63 = .ok (.dup2, 1) := by decide +kernel
theorem dX7_comes_64 : decode (am_b mX7_comes) 64 = .ok (.iaload, 1) := by decide +kernel
theorem dX7_comes_65 : decode (am_b mX7_comes) 65 = .ok (.iconst 1, 1) := by decide +kernel
theorem dX7_comes_66 : decode (am_b mX7_comes) 66 = .ok (.iadd, 1) := by decide +kernel
theorem dX7_comes_67 : decode (am_b mX7_comes) 67 = .ok (.iastore, 1) := by decide +kernel
theorem dX7_comes_68 : decode (am_b mX7_comes) 68 = .ok (.return_, 1) := by decide +kernel
theorem dX7_digit_0 : decode (am_b mX7_digit) 0 = .ok (.aload_n 0, 1) := by decide +kernel
theorem dX7_digit_1 : decode (am_b mX7_digit) 1 = .ok (.iload_n 1, 1) := by decide +kernel
theorem dX7_digit_2 : decode (am_b mX7_digit) 2 = .ok (.invokevirtual 138, 3) := by decide +kernel
theorem dX7_digit_5 : decode (am_b mX7_digit) 5 = .ok (.bipush 48, 2) := by decide +kernel
theorem dX7_digit_7 : decode (am_b mX7_digit) 7 = .ok (.bipush 57, 2) := by decide +kernel
theorem dX7_digit_9 : decode (am_b mX7_digit) 9 = .ok (.invokestatic 32, 3) := by decide +kernel
theorem dX7_digit_12 : decode (am_b mX7_digit) 12 = .ok (.ifCond .eq 14, 3) := by decide +kernel
theorem dX7_digit_15 : decode (am_b mX7_digit) 15 = .ok (.aload_n 0, 1) := by decide +kernel
theorem dX7_digit_16 : decode (am_b mX7_digit) 16 = .ok (.iload_n 1, 1) := by decide +kernel
theorem dX7_digit_17 : decode (am_b mX7_digit) 17 = .ok (.invokevirtual 138, 3) := by decide +kernel
theorem dX7_digit_20 : decode (am_b mX7_digit) 20 = .ok (.bipush 48, 2) := by decide +kernel
theorem dX7_digit_22 : decode (am_b mX7_digit) 22 = .ok (.isub, 1) := by decide +kernel
theorem dX7_digit_23 : decode (am_b mX7_digit) 23 = .ok (.goto 4, 3) := by decide +kernel
theorem dX7_digit_26 : decode (am_b mX7_digit) 26 = .ok (.iconst (-1), 1) := by decide +kernel
theorem dX7_digit_27 : decode (am_b mX7_digit) 27 = .ok (.ireturn, 1) := by decide +kernel
theorem dX7_init_0 : decode (am_b mX7_init) 0 = .ok (.aload_n 0, 1) := by decide +kernel
theorem dX7_init_1 : decode (am_b mX7_init) 1 = .ok (.invokespecial 1, 3) := by decide +kernel
theorem dX7_init_4 : decode (am_b mX7_init) 4 = .ok (.aload_n 0, 1) := by decide +kernel
theorem dX7_init_5 : decode (am_b mX7_init) 5 = .ok (.bipush 120, 2) := by decide +kernel
theorem dX7_init_7 : decode (am_b mX7_init) 7 = .ok (.newarray .int, 2) := by decide +kernel
theorem dX7_init_9 : decode (am_b mX7_init) 9 = .ok (.putfield 7, 3) := by decide +kernel
theorem dX7_init_12 : decode (am_b mX7_init) 12 = .ok (.aload_n 0, 1) := by decide +kernel
theorem dX7_init_13 : decode (am_b mX7_init) 13 = .ok (.sipush 360, 3) := by decide +kernel
theorem dX7_init_16 : decode (am_b mX7_init) 16 = .ok (.newarray .int, 2) := by decide +kernel
theorem dX7_init_18 : decode (am_b mX7_init) 18 = .ok (.putfield 13, 3) := by decide +kernel
theorem dX7_init_21 : decode (am_b mX7_init) 21 = .ok (.aload_n 0, 1) := by decide +kernel
theorem dX7_init_22 : decode (am_b mX7_init) 22 = .ok (.bipush 120, 2) := by decide +kernel
theorem dX7_init_24 : decode (am_b mX7_init) 24 = .ok (.newarray .int, 2) := by decide +kernel
theorem dX7_init_26 : decode (am_b mX7_init) 26 = .ok (.putfield 16, 3) := by decide +kernel
theorem dX7_init_29 : decode (am_b mX7_init) 29 = .ok (.aload_n 0, 1) := by decide +kernel
theorem dX7_init_30 : decode (am_b mX7_init) 30 = .ok (.iconst 2, 1) := by decide +kernel
theorem dX7_init_31 : decode (am_b mX7_init) 31 = .ok (.newarray .boolean, 2) := by decide +kernel
theorem dX7_init_33 : decode (am_b mX7_init) 33 = .ok (.putfield 19, 3) := by decide +kernel
theorem dX7_init_36 : decode (am_b mX7_init) 36 = .ok (.aload_n 0, 1) := by decide +kernel
theorem dX7_init_37 : decode (am_b mX7_init) 37 = .ok (.bipush 60, 2) := by decide +kernel
theorem dX7_init_39 : decode (am_b mX7_init) 39 = .ok (.newarray .int, 2) := by decide +kernel
theorem dX7_init_41 : decode (am_b mX7_init) 41 = .ok (.putfield 23, 3) := by decide +kernel
theorem dX7_init_44 : decode (am_b mX7_init) 44 = .ok (.aload_n 0, 1) := by decide +kernel
theorem dX7_init_45 : decode (am_b mX7_init) 45 = .ok (.bipush 16, 2) := by decide +kernel
theorem dX7_init_47 : decode (am_b mX7_init) 47 = .ok (.newarray .int, 2) := by decide +kernel
theorem dX7_init_49 : decode (am_b mX7_init) 49 = .ok (.putfield 26, 3) := by decide +kernel
theorem dX7_init_52 : decode (am_b mX7_init) 52 = .ok (.aload_n 0, 1) := by decide +kernel
theorem dX7_init_53 : decode (am_b mX7_init) 53 = .ok (.getfield 7, 3) := by decide +kernel
theorem dX7_init_56 : decode (am_b mX7_init) 56 = .ok (.iconst 0, 1) := by decide +kernel
theorem dX7_init_57 : decode (am_b mX7_init) 57 = .ok (.sipush 200, 3) := by decide +kernel
theorem dX7_init_60 : decode (am_b mX7_init) 60 = .ok (.iastore, 1) := by decide +kernel
theorem dX7_init_61 : decode (am_b mX7_init) 61 = .ok (.aload_n 0, 1) := by decide +kernel
theorem dX7_init_62 : decode (am_b mX7_init) 62 = .ok (.getfield 7, 3) := by decide +kernel
theorem dX7_init_65 : decode (am_b mX7_init) 65 = .ok (.iconst 1, 1) := by decide +kernel
theorem dX7_init_66 : decode (am_b mX7_init) 66 = .ok (.bipush 100, 2) := by decide +kernel
theorem dX7_init_68 : decode (am_b mX7_init) 68 = .ok (.iastore, 1) := by decide +kernel
theorem dX7_init_69 : decode (am_b mX7_init) 69 = .ok (.aload_n 0, 1) := by decide +kernel
theorem dX7_init_70 : decode (am_b mX7_init) 70 = .ok (.getfield 7, 3) := by decide +kernel
theorem dX7_init_73 : decode (am_b mX7_init) 73 = .ok (.iconst 2, 1) := by decide +kernel
theorem dX7_init_74 : decode (am_b mX7_init) 74 = .ok (.bipush 40, 2) := by decide +kernel
theorem dX7_init_76 : decode (am_b mX7_init) 76 = .ok (.iastore, 1) := by decide +kernel
theorem dX7_init_77 : decode (am_b mX7_init) 77 = .ok (.aload_n 0, 1) := by decide +kernel
theorem dX7_init_78 : decode (am_b mX7_init) 78 = .ok (.getfield 7, 3) := by decide +kernel
theorem dX7_init_81 : decode (am_b mX7_init) 81 = .ok (.iconst 3, 1) := by decide +kernel
theorem dX7_init_82 : decode (am_b mX7_init) 82 = .ok (.bipush 25, 2) := by decide +kernel
theorem dX7_init_84 : decode (am_b mX7_init) 84 = .ok (.iastore, 1) := by decide +kernel
theorem dX7_init_85 : decode (am_b mX7_init) 85 = .ok (.aload_n 0, 1) := by decide +kernel
theorem dX7_init_86 : decode (am_b mX7_init) 86 = .ok (.getfield 7, 3) := by decide +kernel
theorem dX7_init_89 : decode (am_b mX7_init) 89 = .ok (.iconst 4, 1) := by decide +kernel
theorem dX7_init_90 : decode (am_b mX7_init) 90 = .ok (.iconst 1, 1) := by decide +kernel
theorem dX7_init_91 : decode (am_b mX7_init) 91 = .ok (.iastore, 1) := by decide +kernel
theorem dX7_init_92 : decode (am_b mX7_init) 92 = .ok (.aload_n 0, 1) := by decide +kernel
theorem dX7_init_93 : decode (am_b mX7_init) 93 = .ok (.getfield 7, 3) := by decide +kernel
theorem dX7_init_96 : decode (am_b mX7_init) 96 = .ok (.iconst 5, 1) := by decide +kernel
theorem dX7_init_97 : decode (am_b mX7_init) 97 = .ok (.bipush 20, 2) := by decide +kernel
theorem dX7_init_99 : decode (am_b mX7_init) 99 = .ok (.iastore, 1) := by decide +kernel
theorem dX7_init_100 : decode (am_b mX7_init) 100 = .ok (.aload_n 0, 1) := by decide +kernel
theorem dX7_init_101 : decode (am_b mX7_init) 101 = .ok (.getfield 7, 3) := by decide +kernel
theorem dX7_init_104 : decode (am_b mX7_init) 104 = .ok (.bipush 6, 2) := by decide +kernel
theorem dX7_init_106 : decode (am_b mX7_init) 106 = .ok (.iconst 1, 1) := by decide +kernel
theorem dX7_init_107 : decode (am_b mX7_init) 107 = .ok (.iastore, 1) := by decide +kernel
theorem dX7_init_108 : decode (am_b mX7_init) 108 = .ok (.aload_n 0, 1) := by decide +kernel
theorem dX7_init_109 : decode (am_b mX7_init) 109 = .ok (.getfield 7, 3) := by decide +kernel
theorem dX7_init_112 : decode (am_b mX7_init) 112 = .ok (.bipush 8, 2) := by decide +kernel
theorem dX7_init_114 : decode (am_b mX7_init) 114 = .ok (.bipush 48, 2) := by decide +kernel
theorem dX7_init_116 : decode (am_b mX7_init) 116 = .ok (.iastore, 1) := by decide +kernel
theorem dX7_init_117 : decode (am_b mX7_init) 117 = .ok (.aload_n 0, 1) := by decide +kernel
theorem dX7_init_118 : decode (am_b mX7_init) 118 = .ok (.invokevirtual 29, 3) := by decide +kernel
theorem dX7_init_121 : decode (am_b mX7_init) 121 = .ok (.return_, 1) := by decide +kernel
theorem dX7_isBooth_0 : decode (am_b mX7_isBooth) 0 = .ok (.iload_n 1, 1) := by decide +kernel
theorem dX7_isBooth_1 : decode (am_b mX7_isBooth) 1 = .ok (.iconst 0, 1) := by decide +kernel
theorem dX7_isBooth_2 : decode (am_b mX7_isBooth) 2 = .ok (.aload_n 0, 1) := by decide +kernel
theorem dX7_isBooth_3 : decode (am_b mX7_isBooth) 3 = .ok (.getfield 7, 3) := by decide +kernel
theorem dX7_isBooth_6 : decode (am_b mX7_isBooth) 6 = .ok (.bipush 7, 2) := by decide +kernel
theorem dX7_isBooth_8 : decode (am_b mX7_isBooth) 8 = .ok (.iaload, 1) := by decide +kernel
theorem dX7_isBooth_9 : decode (am_b mX7_isBooth) 9 = .ok (.iconst 1, 1) := by decide +kernel
theorem dX7_isBooth_10 : decode (am_b mX7_isBooth) 10 = .ok (.isub, 1) := by decide +kernel
theorem dX7_isBooth_11 : decode (am_b mX7_isBooth) 11 = .ok (.invokestatic 32, 3) := by decide +kernel
theorem dX7_isBooth_14 : decode (am_b mX7_isBooth) 14 = .ok (.ireturn, 1) := by decide +kernel
theorem dX7_isFree_0 : decode (am_b mX7_isFree) 0 = .ok (.iconst 1, 1) := by decide +kernel
theorem dX7_isFree_1 : decode (am_b mX7_isFree) 1 = .ok (.istore_n 3, 1) := by decide +kernel
theorem dX7_isFree_2 : decode (am_b mX7_isFree) 2 = .ok (.iconst 0, 1) := by decide +kernel
theorem dX7_isFree_3 : decode (am_b mX7_isFree) 3 = .ok (.istore 4, 2) := by decide +kernel
theorem dX7_isFree_5 : decode (am_b mX7_isFree) 5 = .ok (.iload 4, 2) := by decide +kernel
theorem dX7_isFree_7 : decode (am_b mX7_isFree) 7 = .ok (.aload_n 0, 1) := by decide +kernel
theorem dX7_isFree_8 : decode (am_b mX7_isFree) 8 = .ok (.getfield 7, 3) := by decide +kernel
theorem dX7_isFree_11 : decode (am_b mX7_isFree) 11 = .ok (.iload_n 1, 1) := by decide +kernel
theorem dX7_isFree_12 : decode (am_b mX7_isFree) 12 = .ok (.bipush 7, 2) := by decide +kernel
theorem dX7_isFree_14 : decode (am_b mX7_isFree) 14 = .ok (.iadd, 1) := by decide +kernel
theorem dX7_isFree_15 : decode (am_b mX7_isFree) 15 = .ok (.iaload, 1) := by decide +kernel
theorem dX7_isFree_16 : decode (am_b mX7_isFree) 16 = .ok (.if_icmp .ge 76, 3) := by decide +kernel
theorem dX7_isFree_19 : decode (am_b mX7_isFree) 19 = .ok (.aload_n 0, 1) := by decide +kernel
theorem dX7_isFree_20 : decode (am_b mX7_isFree) 20 = .ok (.getfield 7, 3) := by decide +kernel
theorem dX7_isFree_23 : decode (am_b mX7_isFree) 23 = .ok (.iload_n 1, 1) := by decide +kernel
theorem dX7_isFree_24 : decode (am_b mX7_isFree) 24 = .ok (.iload 4, 2) := by decide +kernel
theorem dX7_isFree_26 : decode (am_b mX7_isFree) 26 = .ok (.invokestatic 36, 3) := by decide +kernel
theorem dX7_isFree_29 : decode (am_b mX7_isFree) 29 = .ok (.iconst 1, 1) := by decide +kernel
theorem dX7_isFree_30 : decode (am_b mX7_isFree) 30 = .ok (.iadd, 1) := by decide +kernel
theorem dX7_isFree_31 : decode (am_b mX7_isFree) 31 = .ok (.iaload, 1) := by decide +kernel
theorem dX7_isFree_32 : decode (am_b mX7_isFree) 32 = .ok (.istore 5, 2) := by decide +kernel
theorem dX7_isFree_34 : decode (am_b mX7_isFree) 34 = .ok (.iload 5, 2) := by decide +kernel
theorem dX7_isFree_36 : decode (am_b mX7_isFree) 36 = .ok (.iload_n 2, 1) := by decide +kernel
theorem dX7_isFree_37 : decode (am_b mX7_isFree) 37 = .ok (.if_icmp .ge 10, 3) := by decide +kernel
theorem dX7_isFree_40 : decode (am_b mX7_isFree) 40 = .ok (.iload_n 2, 1) := by decide +kernel
theorem dX7_isFree_41 : decode (am_b mX7_isFree) 41 = .ok (.iload 5, 2) := by decide +kernel
theorem dX7_isFree_43 : decode (am_b mX7_isFree) 43 = .ok (.isub, 1) := by decide +kernel
theorem dX7_isFree_44 : decode (am_b mX7_isFree) 44 = .ok (.goto 7, 3) := by decide +kernel
theorem dX7_isFree_47 : decode (am_b mX7_isFree) 47 = .ok (.iload 5, 2) := by decide +kernel
theorem dX7_isFree_49 : decode (am_b mX7_isFree) 49 = .ok (.iload_n 2, 1) := by decide +kernel
theorem dX7_isFree_50 : decode (am_b mX7_isFree) 50 = .ok (.isub, 1) := by decide +kernel
theorem dX7_isFree_51 : decode (am_b mX7_isFree) 51 = .ok (.istore 6, 2) := by decide +kernel
theorem dX7_isFree_53 : decode (am_b mX7_isFree) 53 = .ok (.iload_n 3, 1) := by decide +kernel
theorem dX7_isFree_54 : decode (am_b mX7_isFree) 54 = .ok (.ifCond .eq 30, 3) := by decide +kernel
theorem dX7_isFree_57 : decode (am_b mX7_isFree) 57 = .ok (.iload 5, 2) := by decide +kernel
theorem dX7_isFree_59 : decode (am_b mX7_isFree) 59 = .ok (.ifCond .lt 21, 3) := by decide +kernel
theorem dX7_isFree_62 : decode (am_b mX7_isFree) 62 = .ok (.iload 6, 2) := by decide +kernel
theorem dX7_isFree_64 : decode (am_b mX7_isFree) 64 = .ok (.aload_n 0, 1) := by decide +kernel
theorem dX7_isFree_65 : decode (am_b mX7_isFree) 65 = .ok (.getfield 7, 3) := by decide +kernel
theorem dX7_isFree_68 : decode (am_b mX7_isFree) 68 = .ok (.iload_n 1, 1) := by decide +kernel
theorem dX7_isFree_69 : decode (am_b mX7_isFree) 69 = .ok (.iconst 4, 1) := by decide +kernel
theorem dX7_isFree_70 : decode (am_b mX7_isFree) 70 = .ok (.iadd, 1) := by decide +kernel
theorem dX7_isFree_71 : decode (am_b mX7_isFree) 71 = .ok (.iaload, 1) := by decide +kernel
theorem dX7_isFree_72 : decode (am_b mX7_isFree) 72 = .ok (.if_icmp .le 12, 3) := by decide +kernel
theorem dX7_isFree_75 : decode (am_b mX7_isFree) 75 = .ok (.iload 6, 2) := by decide +kernel
theorem dX7_isFree_77 : decode (am_b mX7_isFree) 77 = .ok (.ifCond .le 7, 3) := by decide +kernel
theorem dX7_isFree_80 : decode (am_b mX7_isFree) 80 = .ok (.iconst 1, 1) := by decide +kernel
theorem dX7_isFree_81 : decode (am_b mX7_isFree) 81 = .ok (.goto 4, 3) := by decide +kernel
theorem dX7_isFree_84 : decode (am_b mX7_isFree) 84 = .ok (.iconst 0, 1) := by decide +kernel
theorem dX7_isFree_85 : decode (am_b mX7_isFree) 85 = .ok (.istore_n 3, 1) := by decide +kernel
theorem dX7_isFree_86 : decode (am_b mX7_isFree) 86 = .ok (.iinc 4 1, 3) := by decide +kernel
theorem dX7_isFree_89 : decode (am_b mX7_isFree) 89 = .ok (.goto (-84), 3) := by decide +kernel
theorem dX7_isFree_92 : decode (am_b mX7_isFree) 92 = .ok (.iload_n 3, 1) := by decide +kernel
theorem dX7_isFree_93 : decode (am_b mX7_isFree) 93 = .ok (.ireturn, 1) := by decide +kernel
theorem dX7_isPitch_0 : decode (am_b mX7_isPitch) 0 = .ok (.iload_n 0, 1) := by decide +kernel
theorem dX7_isPitch_1 : decode (am_b mX7_isPitch) 1 = .ok (.iconst 0, 1) := by decide +kernel
theorem dX7_isPitch_2 : decode (am_b mX7_isPitch) 2 = .ok (.bipush 11, 2) := by decide +kernel
theorem dX7_isPitch_4 : decode (am_b mX7_isPitch) 4 = .ok (.invokestatic 32, 3) := by decide +kernel
theorem dX7_isPitch_7 : decode (am_b mX7_isPitch) 7 = .ok (.ireturn, 1) := by decide +kernel
theorem dX7_its_0 : decode (am_b mX7_its) 0 = .ok (.aload_n 0, 1) := by decide +kernel
theorem dX7_its_1 : decode (am_b mX7_its) 1 = .ok (.getfield 7, 3) := by decide +kernel
theorem dX7_its_4 : decode (am_b mX7_its) 4 = .ok (.iconst 0, 1) := by decide +kernel
theorem dX7_its_5 : decode (am_b mX7_its) 5 = .ok (.iload_n 1, 1) := by decide +kernel
theorem dX7_its_6 : decode (am_b mX7_its) 6 = .ok (.invokestatic 36, 3) := by decide +kernel
theorem dX7_its_9 : decode (am_b mX7_its) 9 = .ok (.iload_n 2, 1) := by decide +kernel
theorem dX7_its_10 : decode (am_b mX7_its) 10 = .ok (.iadd, 1) := by decide +kernel
theorem dX7_its_11 : decode (am_b mX7_its) 11 = .ok (.iaload, 1) := by decide +kernel
theorem dX7_its_12 : decode (am_b mX7_its) 12 = .ok (.ireturn, 1) := by decide +kernel
theorem dX7_lot_0 : decode (am_b mX7_lot) 0 = .ok (.iload_n 1, 1) := by decide +kernel
theorem dX7_lot_1 : decode (am_b mX7_lot) 1 = .ok (.iconst 0, 1) := by decide +kernel
theorem dX7_lot_2 : decode (am_b mX7_lot) 2 = .ok (.bipush 7, 2) := by decide +kernel
theorem dX7_lot_4 : decode (am_b mX7_lot) 4 = .ok (.invokestatic 32, 3) := by decide +kernel
theorem dX7_lot_7 : decode (am_b mX7_lot) 7 = .ok (.ifCond .ne 5, 3) := by decide +kernel
theorem dX7_lot_10 : decode (am_b mX7_lot) 10 = .ok (.iconst (-1), 1) := by decide +kernel
theorem dX7_lot_11 : decode (am_b mX7_lot) 11 = .ok (.ireturn, 1) := by decide +kernel
theorem dX7_lot_12 : decode (am_b mX7_lot) 12 = .ok (.aload_n 0, 1) := by decide +kernel
theorem dX7_lot_13 : decode (am_b mX7_lot) 13 = .ok (.getfield 7, 3) := by decide +kernel
theorem dX7_lot_16 : decode (am_b mX7_lot) 16 = .ok (.bipush 12, 2) := by decide +kernel
theorem dX7_lot_18 : decode (am_b mX7_lot) 18 = .ok (.iload_n 1, 1) := by decide +kernel
theorem dX7_lot_19 : decode (am_b mX7_lot) 19 = .ok (.iadd, 1) := by decide +kernel
theorem dX7_lot_20 : decode (am_b mX7_lot) 20 = .ok (.iaload, 1) := by decide +kernel
theorem dX7_lot_21 : decode (am_b mX7_lot) 21 = .ok (.ifCond .ge 8, 3) := by decide +kernel
theorem dX7_lot_24 : decode (am_b mX7_lot) 24 = .ok (.bipush (-6), 2) := by decide +kernel
theorem dX7_lot_26 : decode (am_b mX7_lot) 26 = .ok (.goto 12, 3) := by decide +kernel
theorem dX7_lot_29 : decode (am_b mX7_lot) 29 = .ok (.aload_n 0, 1) := by decide +kernel
theorem dX7_lot_30 : decode (am_b mX7_lot) 30 = .ok (.getfield 7, 3) := by decide +kernel
theorem dX7_lot_33 : decode (am_b mX7_lot) 33 = .ok (.bipush 12, 2) := by decide +kernel
theorem dX7_lot_35 : decode (am_b mX7_lot) 35 = .ok (.iload_n 1, 1) := by decide +kernel
theorem dX7_lot_36 : decode (am_b mX7_lot) 36 = .ok (.iadd, 1) := by decide +kernel
theorem dX7_lot_37 : decode (am_b mX7_lot) 37 = .ok (.iaload, 1) := by decide +kernel
theorem dX7_lot_38 : decode (am_b mX7_lot) 38 = .ok (.ireturn, 1) := by decide +kernel
theorem dX7_lots_0 : decode (am_b mX7_lots) 0 = .ok (.aload_n 0, 1) := by decide +kernel
theorem dX7_lots_1 : decode (am_b mX7_lots) 1 = .ok (.getfield 7, 3) := by decide +kernel
theorem dX7_lots_4 : decode (am_b mX7_lots) 4 = .ok (.iload_n 1, 1) := by decide +kernel
theorem dX7_lots_5 : decode (am_b mX7_lots) 5 = .ok (.bipush 7, 2) := by decide +kernel
theorem dX7_lots_7 : decode (am_b mX7_lots) 7 = .ok (.iadd, 1) := by decide +kernel
theorem dX7_lots_8 : decode (am_b mX7_lots) 8 = .ok (.iaload, 1) := by decide +kernel
theorem dX7_lots_9 : decode (am_b mX7_lots) 9 = .ok (.istore_n 2, 1) := by decide +kernel
theorem dX7_lots_10 : decode (am_b mX7_lots) 10 = .ok (.iconst 0, 1) := by decide +kernel
theorem dX7_lots_11 : decode (am_b mX7_lots) 11 = .ok (.istore_n 3, 1) := by decide +kernel
theorem dX7_lots_12 : decode (am_b mX7_lots) 12 = .ok (.iload_n 3, 1) := by decide +kernel
theorem dX7_lots_13 : decode (am_b mX7_lots) 13 = .ok (.bipush 8, 2) := by decide +kernel
theorem dX7_lots_15 : decode (am_b mX7_lots) 15 = .ok (.if_icmp .ge 30, 3) := by decide +kernel
theorem dX7_lots_18 : decode (am_b mX7_lots) 18 = .ok (.aload_n 0, 1) := by decide +kernel
theorem dX7_lots_19 : decode (am_b mX7_lots) 19 = .ok (.getfield 7, 3) := by decide +kernel
theorem dX7_lots_22 : decode (am_b mX7_lots) 22 = .ok (.iload_n 1, 1) := by decide +kernel
theorem dX7_lots_23 : decode (am_b mX7_lots) 23 = .ok (.bipush 12, 2) := by decide +kernel
theorem dX7_lots_25 : decode (am_b mX7_lots) 25 = .ok (.iadd, 1) := by decide +kernel
theorem dX7_lots_26 : decode (am_b mX7_lots) 26 = .ok (.iload_n 3, 1) := by decide +kernel
theorem dX7_lots_27 : decode (am_b mX7_lots) 27 = .ok (.iadd, 1) := by decide +kernel
theorem dX7_lots_28 : decode (am_b mX7_lots) 28 = .ok (.iload_n 3, 1) := by decide +kernel
theorem dX7_lots_29 : decode (am_b mX7_lots) 29 = .ok (.iload_n 2, 1) := by decide +kernel
theorem dX7_lots_30 : decode (am_b mX7_lots) 30 = .ok (.if_icmp .ge 7, 3) := by decide +kernel
theorem dX7_lots_33 : decode (am_b mX7_lots) 33 = .ok (.iload_n 3, 1) := by decide +kernel
theorem dX7_lots_34 : decode (am_b mX7_lots) 34 = .ok (.goto 4, 3) := by decide +kernel
theorem dX7_lots_37 : decode (am_b mX7_lots) 37 = .ok (.iconst (-1), 1) := by decide +kernel
theorem dX7_lots_38 : decode (am_b mX7_lots) 38 = .ok (.iastore, 1) := by decide +kernel
theorem dX7_lots_39 : decode (am_b mX7_lots) 39 = .ok (.iinc 3 1, 3) := by decide +kernel
theorem dX7_lots_42 : decode (am_b mX7_lots) 42 = .ok (.goto (-30), 3) := by decide +kernel
theorem dX7_lots_45 : decode (am_b mX7_lots) 45 = .ok (.iload_n 2, 1) := by decide +kernel
theorem dX7_lots_46 : decode (am_b mX7_lots) 46 = .ok (.iconst 1, 1) := by decide +kernel
theorem dX7_lots_47 : decode (am_b mX7_lots) 47 = .ok (.isub, 1) := by decide +kernel
theorem dX7_lots_48 : decode (am_b mX7_lots) 48 = .ok (.istore_n 3, 1) := by decide +kernel
theorem dX7_lots_49 : decode (am_b mX7_lots) 49 = .ok (.iload_n 3, 1) := by decide +kernel
theorem dX7_lots_50 : decode (am_b mX7_lots) 50 = .ok (.ifCond .le 69, 3) := by decide +kernel
theorem dX7_lots_53 : decode (am_b mX7_lots) 53 = .ok (.aload_n 0, 1) := by decide +kernel
theorem dX7_lots_54 : decode (am_b mX7_lots) 54 = .ok (.iload_n 1, 1) := by decide +kernel
theorem dX7_lots_55 : decode (am_b mX7_lots) 55 = .ok (.iload_n 3, 1) := by decide +kernel
theorem dX7_lots_56 : decode (am_b mX7_lots) 56 = .ok (.iconst 1, 1) := by decide +kernel
theorem dX7_lots_57 : decode (am_b mX7_lots) 57 = .ok (.iadd, 1) := by decide +kernel
theorem dX7_lots_58 : decode (am_b mX7_lots) 58 = .ok (.invokevirtual 64, 3) := by decide +kernel
theorem dX7_lots_61 : decode (am_b mX7_lots) 61 = .ok (.istore 4, 2) := by decide +kernel
theorem dX7_lots_63 : decode (am_b mX7_lots) 63 = .ok (.aload_n 0, 1) := by decide +kernel
theorem dX7_lots_64 : decode (am_b mX7_lots) 64 = .ok (.getfield 7, 3) := by decide +kernel
theorem dX7_lots_67 : decode (am_b mX7_lots) 67 = .ok (.iload_n 1, 1) := by decide +kernel
theorem dX7_lots_68 : decode (am_b mX7_lots) 68 = .ok (.bipush 12, 2) := by decide +kernel
theorem dX7_lots_70 : decode (am_b mX7_lots) 70 = .ok (.iadd, 1) := by decide +kernel
theorem dX7_lots_71 : decode (am_b mX7_lots) 71 = .ok (.iload_n 3, 1) := by decide +kernel
theorem dX7_lots_72 : decode (am_b mX7_lots) 72 = .ok (.iadd, 1) := by decide +kernel
theorem dX7_lots_73 : decode (am_b mX7_lots) 73 = .ok (.iaload, 1) := by decide +kernel
theorem dX7_lots_74 : decode (am_b mX7_lots) 74 = .ok (.istore 5, 2) := by decide +kernel
theorem dX7_lots_76 : decode (am_b mX7_lots) 76 = .ok (.aload_n 0, 1) := by decide +kernel
theorem dX7_lots_77 : decode (am_b mX7_lots) 77 = .ok (.getfield 7, 3) := by decide +kernel
theorem dX7_lots_80 : decode (am_b mX7_lots) 80 = .ok (.iload_n 1, 1) := by decide +kernel
theorem dX7_lots_81 : decode (am_b mX7_lots) 81 = .ok (.bipush 12, 2) := by decide +kernel
theorem dX7_lots_83 : decode (am_b mX7_lots) 83 = .ok (.iadd, 1) := by decide +kernel
theorem dX7_lots_84 : decode (am_b mX7_lots) 84 = .ok (.iload_n 3, 1) := by decide +kernel
theorem dX7_lots_85 : decode (am_b mX7_lots) 85 = .ok (.iadd, 1) := by decide +kernel
theorem dX7_lots_86 : decode (am_b mX7_lots) 86 = .ok (.aload_n 0, 1) := by decide +kernel
theorem dX7_lots_87 : decode (am_b mX7_lots) 87 = .ok (.getfield 7, 3) := by decide +kernel
theorem dX7_lots_90 : decode (am_b mX7_lots) 90 = .ok (.iload_n 1, 1) := by decide +kernel
theorem dX7_lots_91 : decode (am_b mX7_lots) 91 = .ok (.bipush 12, 2) := by decide +kernel
theorem dX7_lots_93 : decode (am_b mX7_lots) 93 = .ok (.iadd, 1) := by decide +kernel
theorem dX7_lots_94 : decode (am_b mX7_lots) 94 = .ok (.iload 4, 2) := by decide +kernel
theorem dX7_lots_96 : decode (am_b mX7_lots) 96 = .ok (.iadd, 1) := by decide +kernel
theorem dX7_lots_97 : decode (am_b mX7_lots) 97 = .ok (.iaload, 1) := by decide +kernel
theorem dX7_lots_98 : decode (am_b mX7_lots) 98 = .ok (.iastore, 1) := by decide +kernel
theorem dX7_lots_99 : decode (am_b mX7_lots) 99 = .ok (.aload_n 0, 1) := by decide +kernel
theorem dX7_lots_100 : decode (am_b mX7_lots) 100 = .ok (.getfield 7, 3) := by decide +kernel
theorem dX7_lots_103 : decode (am_b mX7_lots) 103 = .ok (.iload_n 1, 1) := by decide +kernel
theorem dX7_lots_104 : decode (am_b mX7_lots) 104 = .ok (.bipush 12, 2) := by decide +kernel
theorem dX7_lots_106 : decode (am_b mX7_lots) 106 = .ok (.iadd, 1) := by decide +kernel
theorem dX7_lots_107 : decode (am_b mX7_lots) 107 = .ok (.iload 4, 2) := by decide +kernel
theorem dX7_lots_109 : decode (am_b mX7_lots) 109 = .ok (.iadd, 1) := by decide +kernel
theorem dX7_lots_110 : decode (am_b mX7_lots) 110 = .ok (.iload 5, 2) := by decide +kernel
theorem dX7_lots_112 : decode (am_b mX7_lots) 112 = .ok (.iastore, 1) := by decide +kernel
theorem dX7_lots_113 : decode (am_b mX7_lots) 113 = .ok (.iinc 3 (-1), 3) := by decide +kernel
theorem dX7_lots_116 : decode (am_b mX7_lots) 116 = .ok (.goto (-67), 3) := by decide +kernel
theorem dX7_lots_119 : decode (am_b mX7_lots) 119 = .ok (.return_, 1) := by decide +kernel
theorem dX7_put_0 : decode (am_b mX7_put) 0 = .ok (.iconst 0, 1) := by decide +kernel
theorem dX7_put_1 : decode (am_b mX7_put) 1 = .ok (.istore_n 3, 1) := by decide +kernel
theorem dX7_put_2 : decode (am_b mX7_put) 2 = .ok (.iconst 1, 1) := by decide +kernel
theorem dX7_put_3 : decode (am_b mX7_put) 3 = .ok (.istore 4, 2) := by decide +kernel
theorem dX7_put_5 : decode (am_b mX7_put) 5 = .ok (.iconst 0, 1) := by decide +kernel
theorem dX7_put_6 : decode (am_b mX7_put) 6 = .ok (.istore 5, 2) := by decide +kernel
theorem dX7_put_8 : decode (am_b mX7_put) 8 = .ok (.iconst 0, 1) := by decide +kernel
theorem dX7_put_9 : decode (am_b mX7_put) 9 = .ok (.istore 6, 2) := by decide +kernel
theorem dX7_put_11 : decode (am_b mX7_put) 11 = .ok (.iload 6, 2) := by decide +kernel
theorem dX7_put_13 : decode (am_b mX7_put) 13 = .ok (.bipush 8, 2) := by decide +kernel
theorem dX7_put_15 : decode (am_b mX7_put) 15 = .ok (.if_icmp .ge 90, 3) := by decide +kernel
theorem dX7_put_18 : decode (am_b mX7_put) 18 = .ok (.lload_n 1, 1) := by decide +kernel
theorem dX7_put_19 : decode (am_b mX7_put) 19 = .ok (.bipush 8, 2) := by decide +kernel
theorem dX7_put_21 : decode (am_b mX7_put) 21 = .ok (.iload 6, 2) := by decide +kernel
theorem dX7_put_23 : decode (am_b mX7_put) 23 = .ok (.imul, 1) := by decide +kernel
theorem dX7_put_24 : decode (am_b mX7_put) 24 = .ok (.lshr, 1) := by decide +kernel
theorem dX7_put_25 : decode (am_b mX7_put) 25 = .ok (.ldc2_w 136, 3) := by decide +kernel
theorem dX7_put_28 : decode (am_b mX7_put) 28 = .ok (.land, 1) := by decide +kernel
theorem dX7_put_29 : decode (am_b mX7_put) 29 = .ok (.l2i, 1) := by decide +kernel
theorem dX7_put_30 : decode (am_b mX7_put) 30 = .ok (.istore 7, 2) := by decide +kernel
theorem dX7_put_32 : decode (am_b mX7_put) 32 = .ok (.iload 5, 2) := by decide +kernel
theorem dX7_put_34 : decode (am_b mX7_put) 34 = .ok (.ifCond .ne 8, 3) := by decide +kernel
theorem dX7_put_37 : decode (am_b mX7_put) 37 = .ok (.iload 7, 2) := by decide +kernel
theorem dX7_put_39 : decode (am_b mX7_put) 39 = .ok (.ifCond .ne 7, 3) := by decide +kernel
theorem dX7_put_42 : decode (am_b mX7_put) 42 = .ok (.iconst 1, 1) := by decide +kernel
theorem dX7_put_43 : decode (am_b mX7_put) 43 = .ok (.goto 4, 3) := by decide +kernel
theorem dX7_put_46 : decode (am_b mX7_put) 46 = .ok (.iconst 0, 1) := by decide +kernel
theorem dX7_put_47 : decode (am_b mX7_put) 47 = .ok (.istore 5, 2) := by decide +kernel
theorem dX7_put_49 : decode (am_b mX7_put) 49 = .ok (.iload 4, 2) := by decide +kernel
theorem dX7_put_51 : decode (am_b mX7_put) 51 = .ok (.ifCond .eq 32, 3) := by decide +kernel
theorem dX7_put_54 : decode (am_b mX7_put) 54 = .ok (.iload 5, 2) := by decide +kernel
theorem dX7_put_56 : decode (am_b mX7_put) 56 = .ok (.ifCond .eq 11, 3) := by decide +kernel
theorem dX7_put_59 : decode (am_b mX7_put) 59 = .ok (.iload 7, 2) := by decide +kernel
theorem dX7_put_61 : decode (am_b mX7_put) 61 = .ok (.ifCond .ne 22, 3) := by decide +kernel
theorem dX7_put_64 : decode (am_b mX7_put) 64 = .ok (.goto 15, 3) := by decide +kernel
theorem dX7_put_67 : decode (am_b mX7_put) 67 = .ok (.iload 7, 2) := by decide +kernel
theorem dX7_put_69 : decode (am_b mX7_put) 69 = .ok (.bipush 33, 2) := by decide +kernel
theorem dX7_put_71 : decode (am_b mX7_put) 71 = .ok (.bipush 126, 2) := by decide +kernel
theorem dX7_put_73 : decode (am_b mX7_put) 73 = .ok (.invokestatic 32, 3) := by decide +kernel
theorem dX7_put_76 : decode (am_b mX7_put) 76 = .ok (.ifCond .eq 7, 3) := by decide +kernel
theorem dX7_put_79 : decode (am_b mX7_put) 79 = .ok (.iconst 1, 1) := by decide +kernel
theorem dX7_put_80 : decode (am_b mX7_put) 80 = .ok (.goto 4, 3) := by decide +kernel
theorem dX7_put_83 : decode (am_b mX7_put) 83 = .ok (.iconst 0, 1) := by decide +kernel
theorem dX7_put_84 : decode (am_b mX7_put) 84 = .ok (.istore 4, 2) := by decide +kernel
theorem dX7_put_86 : decode (am_b mX7_put) 86 = .ok (.iload_n 3, 1) := by decide +kernel
theorem dX7_put_87 : decode (am_b mX7_put) 87 = .ok (.iload 5, 2) := by decide +kernel
theorem dX7_put_89 : decode (am_b mX7_put) 89 = .ok (.ifCond .eq 7, 3) := by decide +kernel
theorem dX7_put_92 : decode (am_b mX7_put) 92 = .ok (.iconst 0, 1) := by decide +kernel
theorem dX7_put_93 : decode (am_b mX7_put) 93 = .ok (.goto 4, 3) := by decide +kernel
theorem dX7_put_96 : decode (am_b mX7_put) 96 = .ok (.iconst 1, 1) := by decide +kernel
theorem dX7_put_97 : decode (am_b mX7_put) 97 = .ok (.iadd, 1) := by decide +kernel
theorem dX7_put_98 : decode (am_b mX7_put) 98 = .ok (.istore_n 3, 1) := by decide +kernel
theorem dX7_put_99 : decode (am_b mX7_put) 99 = .ok (.iinc 6 1, 3) := by decide +kernel
theorem dX7_put_102 : decode (am_b mX7_put) 102 = .ok (.goto (-91), 3) := by decide +kernel
theorem dX7_put_105 : decode (am_b mX7_put) 105 = .ok (.iload 4, 2) := by decide +kernel
theorem dX7_put_107 : decode (am_b mX7_put) 107 = .ok (.ifCond .eq 7, 3) := by decide +kernel
theorem dX7_put_110 : decode (am_b mX7_put) 110 = .ok (.iload_n 3, 1) := by decide +kernel
theorem dX7_put_111 : decode (am_b mX7_put) 111 = .ok (.ifCond .ne 6, 3) := by decide +kernel
theorem dX7_put_114 : decode (am_b mX7_put) 114 = .ok (.bipush (-2), 2) := by decide +kernel
theorem dX7_put_116 : decode (am_b mX7_put) 116 = .ok (.ireturn, 1) := by decide +kernel
theorem dX7_put_117 : decode (am_b mX7_put) 117 = .ok (.aload_n 0, 1) := by decide +kernel
theorem dX7_put_118 : decode (am_b mX7_put) 118 = .ok (.getfield 130, 3) := by decide +kernel
theorem dX7_put_121 : decode (am_b mX7_put) 121 = .ok (.iload_n 3, 1) := by decide +kernel
theorem dX7_put_122 : decode (am_b mX7_put) 122 = .ok (.iadd, 1) := by decide +kernel
theorem dX7_put_123 : decode (am_b mX7_put) 123 = .ok (.bipush 60, 2) := by decide +kernel
theorem dX7_put_125 : decode (am_b mX7_put) 125 = .ok (.if_icmp .le 6, 3) := by decide +kernel
theorem dX7_put_128 : decode (am_b mX7_put) 128 = .ok (.bipush (-4), 2) := by decide +kernel
theorem dX7_put_130 : decode (am_b mX7_put) 130 = .ok (.ireturn, 1) := by decide +kernel
theorem dX7_put_131 : decode (am_b mX7_put) 131 = .ok (.iload_n 3, 1) := by decide +kernel
theorem dX7_put_132 : decode (am_b mX7_put) 132 = .ok (.iconst 1, 1) := by decide +kernel
theorem dX7_put_133 : decode (am_b mX7_put) 133 = .ok (.isub, 1) := by decide +kernel
theorem dX7_put_134 : decode (am_b mX7_put) 134 = .ok (.istore 6, 2) := by decide +kernel
theorem dX7_put_136 : decode (am_b mX7_put) 136 = .ok (.iload 6, 2) := by decide +kernel
theorem dX7_put_138 : decode (am_b mX7_put) 138 = .ok (.ifCond .lt 40, 3) := by decide +kernel
theorem dX7_put_141 : decode (am_b mX7_put) 141 = .ok (.aload_n 0, 1) := by decide +kernel
theorem dX7_put_142 : decode (am_b mX7_put) 142 = .ok (.getfield 23, 3) := by decide +kernel
theorem dX7_put_145 : decode (am_b mX7_put) 145 = .ok (.aload_n 0, 1) := by decide +kernel
theorem dX7_put_146 : decode (am_b mX7_put) 146 = .ok (.getfield 130, 3) := by decide +kernel
theorem dX7_put_149 : decode (am_b mX7_put) 149 = .ok (.lload_n 1, 1) := by decide +kernel
theorem dX7_put_150 : decode (am_b mX7_put) 150 = .ok (.bipush 8, 2) := by decide +kernel
theorem dX7_put_152 : decode (am_b mX7_put) 152 = .ok (.iload 6, 2) := by decide +kernel
theorem dX7_put_154 : decode (am_b mX7_put) 154 = .ok (.imul, 1) := by decide +kernel
theorem dX7_put_155 : decode (am_b mX7_put) 155 = .ok (.lshr, 1) := by decide +kernel
theorem dX7_put_156 : decode (am_b mX7_put) 156 = .ok (.ldc2_w 136, 3) := by decide +kernel
theorem dX7_put_159 : decode (am_b mX7_put) 159 = .ok (.land, 1) := by decide +kernel
theorem dX7_put_160 : decode (am_b mX7_put) 160 = .ok (.l2i, 1) := by decide +kernel
theorem dX7_put_161 : decode (am_b mX7_put) 161 = .ok (.iastore, 1) := by decide +kernel
theorem dX7_put_162 : decode (am_b mX7_put) 162 = .ok (.aload_n 0, 1) := by decide +kernel
theorem dX7_put_163 : decode (am_b mX7_put) 163 = .ok (.dup, 1) := by decide +kernel
theorem dX7_put_164 : decode (am_b mX7_put) 164 = .ok (.getfield 130, 3) := by decide +kernel
theorem dX7_put_167 : decode (am_b mX7_put) 167 = .ok (.iconst 1, 1) := by decide +kernel
theorem dX7_put_168 : decode (am_b mX7_put) 168 = .ok (.iadd, 1) := by decide +kernel
theorem dX7_put_169 : decode (am_b mX7_put) 169 = .ok (.putfield 130, 3) := by decide +kernel
theorem dX7_put_172 : decode (am_b mX7_put) 172 = .ok (.iinc 6 (-1), 3) := by decide +kernel
theorem dX7_put_175 : decode (am_b mX7_put) 175 = .ok (.goto (-39), 3) := by decide +kernel
theorem dX7_put_178 : decode (am_b mX7_put) 178 = .ok (.aload_n 0, 1) := by decide +kernel
theorem dX7_put_179 : decode (am_b mX7_put) 179 = .ok (.getfield 130, 3) := by decide +kernel
theorem dX7_put_182 : decode (am_b mX7_put) 182 = .ok (.ireturn, 1) := by decide +kernel
theorem dX7_restore_0 : decode (am_b mX7_restore) 0 = .ok (.iload_n 1, 1) := by decide +kernel
theorem dX7_restore_1 : decode (am_b mX7_restore) 1 = .ok (.iconst 0, 1) := by decide +kernel
theorem dX7_restore_2 : decode (am_b mX7_restore) 2 = .ok (.iconst 1, 1) := by decide +kernel
theorem dX7_restore_3 : decode (am_b mX7_restore) 3 = .ok (.invokestatic 32, 3) := by decide +kernel
theorem dX7_restore_6 : decode (am_b mX7_restore) 6 = .ok (.ifCond .ne 6, 3) := by decide +kernel
theorem dX7_restore_9 : decode (am_b mX7_restore) 9 = .ok (.bipush (-2), 2) := by decide +kernel
theorem dX7_restore_11 : decode (am_b mX7_restore) 11 = .ok (.ireturn, 1) := by decide +kernel
theorem dX7_restore_12 : decode (am_b mX7_restore) 12 = .ok (.aload_n 0, 1) := by decide +kernel
theorem dX7_restore_13 : decode (am_b mX7_restore) 13 = .ok (.getfield 19, 3) := by decide +kernel
theorem dX7_restore_16 : decode (am_b mX7_restore) 16 = .ok (.iload_n 1, 1) := by decide +kernel
theorem dX7_restore_17 : decode (am_b mX7_restore) 17 = .ok (.baload, 1) := by decide +kernel
theorem dX7_restore_18 : decode (am_b mX7_restore) 18 = .ok (.ifCond .ne 6, 3) := by decide +kernel
theorem dX7_restore_21 : decode (am_b mX7_restore) 21 = .ok (.bipush (-5), 2) := by decide +kernel
theorem dX7_restore_23 : decode (am_b mX7_restore) 23 = .ok (.ireturn, 1) := by decide +kernel
theorem dX7_restore_24 : decode (am_b mX7_restore) 24 = .ok (.aload_n 0, 1) := by decide +kernel
theorem dX7_restore_25 : decode (am_b mX7_restore) 25 = .ok (.invokevirtual 86, 3) := by decide +kernel
theorem dX7_restore_28 : decode (am_b mX7_restore) 28 = .ok (.iconst 0, 1) := by decide +kernel
theorem dX7_restore_29 : decode (am_b mX7_restore) 29 = .ok (.istore_n 2, 1) := by decide +kernel
theorem dX7_restore_30 : decode (am_b mX7_restore) 30 = .ok (.iload_n 2, 1) := by decide +kernel
theorem dX7_restore_31 : decode (am_b mX7_restore) 31 = .ok (.bipush 60, 2) := by decide +kernel
theorem dX7_restore_33 : decode (am_b mX7_restore) 33 = .ok (.if_icmp .ge 26, 3) := by decide +kernel
theorem dX7_restore_36 : decode (am_b mX7_restore) 36 = .ok (.aload_n 0, 1) := by decide +kernel
theorem dX7_restore_37 : decode (am_b mX7_restore) 37 = .ok (.getfield 7, 3) := by decide +kernel
theorem dX7_restore_40 : decode (am_b mX7_restore) 40 = .ok (.iload_n 2, 1) := by decide +kernel
theorem dX7_restore_41 : decode (am_b mX7_restore) 41 = .ok (.aload_n 0, 1) := by decide +kernel
theorem dX7_restore_42 : decode (am_b mX7_restore) 42 = .ok (.getfield 16, 3) := by decide +kernel
theorem dX7_restore_45 : decode (am_b mX7_restore) 45 = .ok (.bipush 60, 2) := by decide +kernel
theorem dX7_restore_47 : decode (am_b mX7_restore) 47 = .ok (.iload_n 1, 1) := by decide +kernel
theorem dX7_restore_48 : decode (am_b mX7_restore) 48 = .ok (.imul, 1) := by decide +kernel
theorem dX7_restore_49 : decode (am_b mX7_restore) 49 = .ok (.iload_n 2, 1) := by decide +kernel
theorem dX7_restore_50 : decode (am_b mX7_restore) 50 = .ok (.iadd, 1) := by decide +kernel
theorem dX7_restore_51 : decode (am_b mX7_restore) 51 = .ok (.iaload, 1) := by decide +kernel
theorem dX7_restore_52 : decode (am_b mX7_restore) 52 = .ok (.iastore, 1) := by decide +kernel
theorem dX7_restore_53 : decode (am_b mX7_restore) 53 = .ok (.iinc 2 1, 3) := by decide +kernel
theorem dX7_restore_56 : decode (am_b mX7_restore) 56 = .ok (.goto (-26), 3) := by decide +kernel
theorem dX7_restore_59 : decode (am_b mX7_restore) 59 = .ok (.aload_n 0, 1) := by decide +kernel
theorem dX7_restore_60 : decode (am_b mX7_restore) 60 = .ok (.getfield 7, 3) := by decide +kernel
theorem dX7_restore_63 : decode (am_b mX7_restore) 63 = .ok (.bipush 7, 2) := by decide +kernel
theorem dX7_restore_65 : decode (am_b mX7_restore) 65 = .ok (.iaload, 1) := by decide +kernel
theorem dX7_restore_66 : decode (am_b mX7_restore) 66 = .ok (.ireturn, 1) := by decide +kernel
theorem dX7_save_0 : decode (am_b mX7_save) 0 = .ok (.iload_n 1, 1) := by decide +kernel
theorem dX7_save_1 : decode (am_b mX7_save) 1 = .ok (.iconst 0, 1) := by decide +kernel
theorem dX7_save_2 : decode (am_b mX7_save) 2 = .ok (.iconst 1, 1) := by decide +kernel
theorem dX7_save_3 : decode (am_b mX7_save) 3 = .ok (.invokestatic 32, 3) := by decide +kernel
theorem dX7_save_6 : decode (am_b mX7_save) 6 = .ok (.ifCond .ne 6, 3) := by decide +kernel
theorem dX7_save_9 : decode (am_b mX7_save) 9 = .ok (.bipush (-2), 2) := by decide +kernel
theorem dX7_save_11 : decode (am_b mX7_save) 11 = .ok (.ireturn, 1) := by decide +kernel
theorem dX7_save_12 : decode (am_b mX7_save) 12 = .ok (.iconst 0, 1) := by decide +kernel
theorem dX7_save_13 : decode (am_b mX7_save) 13 = .ok (.istore_n 2, 1) := by decide +kernel
theorem dX7_save_14 : decode (am_b mX7_save) 14 = .ok (.iload_n 2, 1) := by decide +kernel
theorem dX7_save_15 : decode (am_b mX7_save) 15 = .ok (.bipush 60, 2) := by decide +kernel
theorem dX7_save_17 : decode (am_b mX7_save) 17 = .ok (.if_icmp .ge 26, 3) := by decide +kernel
theorem dX7_save_20 : decode (am_b mX7_save) 20 = .ok (.aload_n 0, 1) := by decide +kernel
theorem dX7_save_21 : decode (am_b mX7_save) 21 = .ok (.getfield 16, 3) := by decide +kernel
theorem dX7_save_24 : decode (am_b mX7_save) 24 = .ok (.bipush 60, 2) := by decide +kernel
theorem dX7_save_26 : decode (am_b mX7_save) 26 = .ok (.iload_n 1, 1) := by decide +kernel
theorem dX7_save_27 : decode (am_b mX7_save) 27 = .ok (.imul, 1) := by decide +kernel
theorem dX7_save_28 : decode (am_b mX7_save) 28 = .ok (.iload_n 2, 1) := by decide +kernel
theorem dX7_save_29 : decode (am_b mX7_save) 29 = .ok (.iadd, 1) := by decide +kernel
theorem dX7_save_30 : decode (am_b mX7_save) 30 = .ok (.aload_n 0, 1) := by decide +kernel
theorem dX7_save_31 : decode (am_b mX7_save) 31 = .ok (.getfield 7, 3) := by decide +kernel
theorem dX7_save_34 : decode (am_b mX7_save) 34 = .ok (.iload_n 2, 1) := by decide +kernel
theorem dX7_save_35 : decode (am_b mX7_save) 35 = .ok (.iaload, 1) := by decide +kernel
theorem dX7_save_36 : decode (am_b mX7_save) 36 = .ok (.iastore, 1) := by decide +kernel
theorem dX7_save_37 : decode (am_b mX7_save) 37 = .ok (.iinc 2 1, 3) := by decide +kernel
theorem dX7_save_40 : decode (am_b mX7_save) 40 = .ok (.goto (-26), 3) := by decide +kernel
theorem dX7_save_43 : decode (am_b mX7_save) 43 = .ok (.aload_n 0, 1) := by decide +kernel
theorem dX7_save_44 : decode (am_b mX7_save) 44 = .ok (.getfield 19, 3) := by decide +kernel
theorem dX7_save_47 : decode (am_b mX7_save) 47 = .ok (.iload_n 1, 1) := by decide +kernel
theorem dX7_save_48 : decode (am_b mX7_save) 48 = .ok (.iconst 1, 1) := by decide +kernel
theorem dX7_save_49 : decode (am_b mX7_save) 49 = .ok (.bastore, 1) := by decide +kernel
theorem dX7_save_50 : decode (am_b mX7_save) 50 = .ok (.aload_n 0, 1) := by decide +kernel
theorem dX7_save_51 : decode (am_b mX7_save) 51 = .ok (.getfield 7, 3) := by decide +kernel
theorem dX7_save_54 : decode (am_b mX7_save) 54 = .ok (.bipush 7, 2) := by decide +kernel
theorem dX7_save_56 : decode (am_b mX7_save) 56 = .ok (.iaload, 1) := by decide +kernel
theorem dX7_save_57 : decode (am_b mX7_save) 57 = .ok (.ireturn, 1) := by decide +kernel
theorem dX7_set_0 : decode (am_b mX7_set) 0 = .ok (.iload_n 1, 1) := by decide +kernel
theorem dX7_set_1 : decode (am_b mX7_set) 1 = .ok (.iconst 0, 1) := by decide +kernel
theorem dX7_set_2 : decode (am_b mX7_set) 2 = .ok (.iconst 5, 1) := by decide +kernel
theorem dX7_set_3 : decode (am_b mX7_set) 3 = .ok (.invokestatic 32, 3) := by decide +kernel
theorem dX7_set_6 : decode (am_b mX7_set) 6 = .ok (.ifCond .eq 15, 3) := by decide +kernel
theorem dX7_set_9 : decode (am_b mX7_set) 9 = .ok (.iload_n 2, 1) := by decide +kernel
theorem dX7_set_10 : decode (am_b mX7_set) 10 = .ok (.iconst 0, 1) := by decide +kernel
theorem dX7_set_11 : decode (am_b mX7_set) 11 = .ok (.iload_n 1, 1) := by decide +kernel
theorem dX7_set_12 : decode (am_b mX7_set) 12 = .ok (.invokestatic 83, 3) := by decide +kernel
theorem dX7_set_15 : decode (am_b mX7_set) 15 = .ok (.invokestatic 32, 3) := by decide +kernel
theorem dX7_set_18 : decode (am_b mX7_set) 18 = .ok (.ifCond .ne 6, 3) := by decide +kernel
theorem dX7_set_21 : decode (am_b mX7_set) 21 = .ok (.bipush (-2), 2) := by decide +kernel
theorem dX7_set_23 : decode (am_b mX7_set) 23 = .ok (.ireturn, 1) := by decide +kernel
theorem dX7_set_24 : decode (am_b mX7_set) 24 = .ok (.aload_n 0, 1) := by decide +kernel
theorem dX7_set_25 : decode (am_b mX7_set) 25 = .ok (.invokevirtual 86, 3) := by decide +kernel
theorem dX7_set_28 : decode (am_b mX7_set) 28 = .ok (.aload_n 0, 1) := by decide +kernel
theorem dX7_set_29 : decode (am_b mX7_set) 29 = .ok (.getfield 7, 3) := by decide +kernel
theorem dX7_set_32 : decode (am_b mX7_set) 32 = .ok (.iload_n 1, 1) := by decide +kernel
theorem dX7_set_33 : decode (am_b mX7_set) 33 = .ok (.iaload, 1) := by decide +kernel
theorem dX7_set_34 : decode (am_b mX7_set) 34 = .ok (.istore_n 3, 1) := by decide +kernel
theorem dX7_set_35 : decode (am_b mX7_set) 35 = .ok (.aload_n 0, 1) := by decide +kernel
theorem dX7_set_36 : decode (am_b mX7_set) 36 = .ok (.getfield 7, 3) := by decide +kernel
theorem dX7_set_39 : decode (am_b mX7_set) 39 = .ok (.iload_n 1, 1) := by decide +kernel
theorem dX7_set_40 : decode (am_b mX7_set) 40 = .ok (.iload_n 2, 1) := by decide +kernel
theorem dX7_set_41 : decode (am_b mX7_set) 41 = .ok (.iastore, 1) := by decide +kernel
theorem dX7_set_42 : decode (am_b mX7_set) 42 = .ok (.iload_n 3, 1) := by decide +kernel
theorem dX7_set_43 : decode (am_b mX7_set) 43 = .ok (.ireturn, 1) := by decide +kernel
theorem dX7_shuffle_0 : decode (am_b mX7_shuffle) 0 = .ok (.iload_n 1, 1) := by decide +kernel
theorem dX7_shuffle_1 : decode (am_b mX7_shuffle) 1 = .ok (.ifCond .ge 6, 3) := by decide +kernel
theorem dX7_shuffle_4 : decode (am_b mX7_shuffle) 4 = .ok (.bipush (-2), 2) := by decide +kernel
theorem dX7_shuffle_6 : decode (am_b mX7_shuffle) 6 = .ok (.ireturn, 1) := by decide +kernel
theorem dX7_shuffle_7 : decode (am_b mX7_shuffle) 7 = .ok (.aload_n 0, 1) := by decide +kernel
theorem dX7_shuffle_8 : decode (am_b mX7_shuffle) 8 = .ok (.invokevirtual 86, 3) := by decide +kernel
theorem dX7_shuffle_11 : decode (am_b mX7_shuffle) 11 = .ok (.aload_n 0, 1) := by decide +kernel
theorem dX7_shuffle_12 : decode (am_b mX7_shuffle) 12 = .ok (.getfield 7, 3) := by decide +kernel
theorem dX7_shuffle_15 : decode (am_b mX7_shuffle) 15 = .ok (.bipush 6, 2) := by decide +kernel
theorem dX7_shuffle_17 : decode (am_b mX7_shuffle) 17 = .ok (.iaload, 1) := by decide +kernel
theorem dX7_shuffle_18 : decode (am_b mX7_shuffle) 18 = .ok (.istore_n 2, 1) := by decide +kernel
theorem dX7_shuffle_19 : decode (am_b mX7_shuffle) 19 = .ok (.aload_n 0, 1) := by decide +kernel
theorem dX7_shuffle_20 : decode (am_b mX7_shuffle) 20 = .ok (.getfield 7, 3) := by decide +kernel
theorem dX7_shuffle_23 : decode (am_b mX7_shuffle) 23 = .ok (.bipush 6, 2) := by decide +kernel
theorem dX7_shuffle_25 : decode (am_b mX7_shuffle) 25 = .ok (.iload_n 1, 1) := by decide +kernel
theorem dX7_shuffle_26 : decode (am_b mX7_shuffle) 26 = .ok (.iastore, 1) := by decide +kernel
theorem dX7_shuffle_27 : decode (am_b mX7_shuffle) 27 = .ok (.iload_n 2, 1) := by decide +kernel
theorem dX7_shuffle_28 : decode (am_b mX7_shuffle) 28 = .ok (.ireturn, 1) := by decide +kernel
theorem dX7_come_0 : decode (am_b mX7_come) 0 = .ok (.iload_n 1, 1) := by decide +kernel
theorem dX7_come_1 : decode (am_b mX7_come) 1 = .ok (.iconst 1, 1) := by decide +kernel
theorem dX7_come_2 : decode (am_b mX7_come) 2 = .ok (.bipush 9, 2) := by decide +kernel
theorem dX7_come_4 : decode (am_b mX7_come) 4 = .ok (.invokestatic 32, 3) := by decide +kernel
theorem dX7_come_7 : decode (am_b mX7_come) 7 = .ok (.ifCond .ne 6, 3) := by decide +kernel
theorem dX7_come_10 : decode (am_b mX7_come) 10 = .ok (.bipush (-2), 2) := by decide +kernel
theorem dX7_come_12 : decode (am_b mX7_come) 12 = .ok (.ireturn, 1) := by decide +kernel
theorem dX7_come_13 : decode (am_b mX7_come) 13 = .ok (.aload_n 0, 1) := by decide +kernel
theorem dX7_come_14 : decode (am_b mX7_come) 14 = .ok (.getfield 7, 3) := by decide +kernel
theorem dX7_come_17 : decode (am_b mX7_come) 17 = .ok (.bipush 7, 2) := by decide +kernel
theorem dX7_come_19 : decode (am_b mX7_come) 19 = .ok (.iaload, 1) := by decide +kernel
theorem dX7_come_20 : decode (am_b mX7_come) 20 = .ok (.bipush 8, 2) := by decide +kernel
theorem dX7_come_22 : decode (am_b mX7_come) 22 = .ok (.if_icmp .ne 6, 3) := by decide +kernel
theorem dX7_come_25 : decode (am_b mX7_come) 25 = .ok (.bipush (-4), 2) := by decide +kernel
theorem dX7_come_27 : decode (am_b mX7_come) 27 = .ok (.ireturn, 1) := by decide +kernel
theorem dX7_come_28 : decode (am_b mX7_come) 28 = .ok (.aload_n 0, 1) := by decide +kernel
theorem dX7_come_29 : decode (am_b mX7_come) 29 = .ok (.invokevirtual 86, 3) := by decide +kernel
theorem dX7_come_32 : decode (am_b mX7_come) 32 = .ok (.aload_n 0, 1) := by decide +kernel
theorem dX7_come_33 : decode (am_b mX7_come) 33 = .ok (.iload_n 1, 1) := by decide +kernel
theorem dX7_come_34 : decode (am_b mX7_come) 34 = .ok (.iconst (-1), 1) := by decide +kernel
theorem dX7_come_35 : decode (am_b mX7_come) 35 = .ok (.invokevirtual 97, 3) := by decide +kernel
theorem dX7_come_38 : decode (am_b mX7_come) 38 = .ok (.aload_n 0, 1) := by decide +kernel
theorem dX7_come_39 : decode (am_b mX7_come) 39 = .ok (.getfield 7, 3) := by decide +kernel
theorem dX7_come_42 : decode (am_b mX7_come) 42 = .ok (.bipush 7, 2) := by decide +kernel
theorem dX7_come_44 : decode (am_b mX7_come) 44 = .ok (.iaload, 1) := by decide +kernel
theorem dX7_come_45 : decode (am_b mX7_come) 45 = .ok (.iconst 1, 1) := by decide +kernel
theorem dX7_come_46 : decode (am_b mX7_come) 46 = .ok (.isub, 1) := by decide +kernel
theorem dX7_come_47 : decode (am_b mX7_come) 47 = .ok (.ireturn, 1) := by decide +kernel
theorem dX7_go_0 : decode (am_b mX7_go) 0 = .ok (.aload_n 0, 1) := by decide +kernel
theorem dX7_go_1 : decode (am_b mX7_go) 1 = .ok (.iload_n 1, 1) := by decide +kernel
theorem dX7_go_2 : decode (am_b mX7_go) 2 = .ok (.invokevirtual 100, 3) := by decide +kernel
theorem dX7_go_5 : decode (am_b mX7_go) 5 = .ok (.ifCond .ne 5, 3) := by decide +kernel
theorem dX7_go_8 : decode (am_b mX7_go) 8 = .ok (.iconst (-1), 1) := by decide +kernel
theorem dX7_go_9 : decode (am_b mX7_go) 9 = .ok (.ireturn, 1) := by decide +kernel
theorem dX7_go_10 : decode (am_b mX7_go) 10 = .ok (.aload_n 0, 1) := by decide +kernel
theorem dX7_go_11 : decode (am_b mX7_go) 11 = .ok (.invokevirtual 86, 3) := by decide +kernel
theorem dX7_go_14 : decode (am_b mX7_go) 14 = .ok (.aload_n 0, 1) := by decide +kernel
theorem dX7_go_15 : decode (am_b mX7_go) 15 = .ok (.iload_n 1, 1) := by decide +kernel
theorem dX7_go_16 : decode (am_b mX7_go) 16 = .ok (.iconst 2, 1) := by decide +kernel
theorem dX7_go_17 : decode (am_b mX7_go) 17 = .ok (.invokevirtual 103, 3) := by decide +kernel
theorem dX7_go_20 : decode (am_b mX7_go) 20 = .ok (.istore_n 2, 1) := by decide +kernel
theorem dX7_go_21 : decode (am_b mX7_go) 21 = .ok (.aload_n 0, 1) := by decide +kernel
theorem dX7_go_22 : decode (am_b mX7_go) 22 = .ok (.getfield 7, 3) := by decide +kernel
theorem dX7_go_25 : decode (am_b mX7_go) 25 = .ok (.bipush 7, 2) := by decide +kernel
theorem dX7_go_27 : decode (am_b mX7_go) 27 = .ok (.dup2, 1) := by decide +kernel
theorem dX7_go_28 : decode (am_b mX7_go) 28 = .ok (.iaload, 1) := by decide +kernel
theorem dX7_go_29 : decode (am_b mX7_go) 29 = .ok (.iconst 1, 1) := by decide +kernel
theorem dX7_go_30 : decode (am_b mX7_go) 30 = .ok (.isub, 1) := by decide +kernel
theorem dX7_go_31 : decode (am_b mX7_go) 31 = .ok (.iastore, 1) := by decide +kernel
theorem dX7_go_32 : decode (am_b mX7_go) 32 = .ok (.iconst 0, 1) := by decide +kernel
theorem dX7_go_33 : decode (am_b mX7_go) 33 = .ok (.iload_n 1, 1) := by decide +kernel
theorem dX7_go_34 : decode (am_b mX7_go) 34 = .ok (.invokestatic 36, 3) := by decide +kernel
theorem dX7_go_37 : decode (am_b mX7_go) 37 = .ok (.istore_n 3, 1) := by decide +kernel
theorem dX7_go_38 : decode (am_b mX7_go) 38 = .ok (.iload_n 3, 1) := by decide +kernel
theorem dX7_go_39 : decode (am_b mX7_go) 39 = .ok (.iconst 0, 1) := by decide +kernel
theorem dX7_go_40 : decode (am_b mX7_go) 40 = .ok (.aload_n 0, 1) := by decide +kernel
theorem dX7_go_41 : decode (am_b mX7_go) 41 = .ok (.getfield 7, 3) := by decide +kernel
theorem dX7_go_44 : decode (am_b mX7_go) 44 = .ok (.bipush 7, 2) := by decide +kernel
theorem dX7_go_46 : decode (am_b mX7_go) 46 = .ok (.iaload, 1) := by decide +kernel
theorem dX7_go_47 : decode (am_b mX7_go) 47 = .ok (.invokestatic 36, 3) := by decide +kernel
theorem dX7_go_50 : decode (am_b mX7_go) 50 = .ok (.if_icmp .ge 23, 3) := by decide +kernel
theorem dX7_go_53 : decode (am_b mX7_go) 53 = .ok (.aload_n 0, 1) := by decide +kernel
theorem dX7_go_54 : decode (am_b mX7_go) 54 = .ok (.getfield 7, 3) := by decide +kernel
theorem dX7_go_57 : decode (am_b mX7_go) 57 = .ok (.iload_n 3, 1) := by decide +kernel
theorem dX7_go_58 : decode (am_b mX7_go) 58 = .ok (.aload_n 0, 1) := by decide +kernel
theorem dX7_go_59 : decode (am_b mX7_go) 59 = .ok (.getfield 7, 3) := by decide +kernel
theorem dX7_go_62 : decode (am_b mX7_go) 62 = .ok (.iload_n 3, 1) := by decide +kernel
theorem dX7_go_63 : decode (am_b mX7_go) 63 = .ok (.iconst 5, 1) := by decide +kernel
theorem dX7_go_64 : decode (am_b mX7_go) 64 = .ok (.iadd, 1) := by decide +kernel
theorem dX7_go_65 : decode (am_b mX7_go) 65 = .ok (.iaload, 1) := by decide +kernel
theorem dX7_go_66 : decode (am_b mX7_go) 66 = .ok (.iastore, 1) := by decide +kernel
theorem dX7_go_67 : decode (am_b mX7_go) 67 = .ok (.iinc 3 1, 3) := by decide +kernel
theorem dX7_go_70 : decode (am_b mX7_go) 70 = .ok (.goto (-32), 3) := by decide +kernel
theorem dX7_go_73 : decode (am_b mX7_go) 73 = .ok (.bipush 12, 2) := by decide +kernel
theorem dX7_go_75 : decode (am_b mX7_go) 75 = .ok (.istore_n 3, 1) := by decide +kernel
theorem dX7_go_76 : decode (am_b mX7_go) 76 = .ok (.iload_n 3, 1) := by decide +kernel
theorem dX7_go_77 : decode (am_b mX7_go) 77 = .ok (.bipush 20, 2) := by decide +kernel
theorem dX7_go_79 : decode (am_b mX7_go) 79 = .ok (.if_icmp .ge 56, 3) := by decide +kernel
theorem dX7_go_82 : decode (am_b mX7_go) 82 = .ok (.aload_n 0, 1) := by decide +kernel
theorem dX7_go_83 : decode (am_b mX7_go) 83 = .ok (.getfield 7, 3) := by decide +kernel
theorem dX7_go_86 : decode (am_b mX7_go) 86 = .ok (.iload_n 3, 1) := by decide +kernel
theorem dX7_go_87 : decode (am_b mX7_go) 87 = .ok (.aload_n 0, 1) := by decide +kernel
theorem dX7_go_88 : decode (am_b mX7_go) 88 = .ok (.getfield 7, 3) := by decide +kernel
theorem dX7_go_91 : decode (am_b mX7_go) 91 = .ok (.iload_n 3, 1) := by decide +kernel
theorem dX7_go_92 : decode (am_b mX7_go) 92 = .ok (.iaload, 1) := by decide +kernel
theorem dX7_go_93 : decode (am_b mX7_go) 93 = .ok (.iload_n 1, 1) := by decide +kernel
theorem dX7_go_94 : decode (am_b mX7_go) 94 = .ok (.if_icmp .ne 7, 3) := by decide +kernel
theorem dX7_go_97 : decode (am_b mX7_go) 97 = .ok (.iconst (-1), 1) := by decide +kernel
theorem dX7_go_98 : decode (am_b mX7_go) 98 = .ok (.goto 30, 3) := by decide +kernel
theorem dX7_go_101 : decode (am_b mX7_go) 101 = .ok (.aload_n 0, 1) := by decide +kernel
theorem dX7_go_102 : decode (am_b mX7_go) 102 = .ok (.getfield 7, 3) := by decide +kernel
theorem dX7_go_105 : decode (am_b mX7_go) 105 = .ok (.iload_n 3, 1) := by decide +kernel
theorem dX7_go_106 : decode (am_b mX7_go) 106 = .ok (.iaload, 1) := by decide +kernel
theorem dX7_go_107 : decode (am_b mX7_go) 107 = .ok (.iload_n 1, 1) := by decide +kernel
theorem dX7_go_108 : decode (am_b mX7_go) 108 = .ok (.if_icmp .le 14, 3) := by decide +kernel
theorem dX7_go_111 : decode (am_b mX7_go) 111 = .ok (.aload_n 0, 1) := by decide +kernel
theorem dX7_go_112 : decode (am_b mX7_go) 112 = .ok (.getfield 7, 3) := by decide +kernel
theorem dX7_go_115 : decode (am_b mX7_go) 115 = .ok (.iload_n 3, 1) := by decide +kernel
theorem dX7_go_116 : decode (am_b mX7_go) 116 = .ok (.iaload, 1) := by decide +kernel
theorem dX7_go_117 : decode (am_b mX7_go) 117 = .ok (.iconst 1, 1) := by decide +kernel
theorem dX7_go_118 : decode (am_b mX7_go) 118 = .ok (.isub, 1) := by decide +kernel
theorem dX7_go_119 : decode (am_b mX7_go) 119 = .ok (.goto 9, 3) := by decide +kernel
theorem dX7_go_122 : decode (am_b mX7_go) 122 = .ok (.aload_n 0, 1) := by decide +kernel
theorem dX7_go_123 : decode (am_b mX7_go) 123 = .ok (.getfield 7, 3) := by decide +kernel
theorem dX7_go_126 : decode (am_b mX7_go) 126 = .ok (.iload_n 3, 1) := by decide +kernel
theorem dX7_go_127 : decode (am_b mX7_go) 127 = .ok (.iaload, 1) := by decide +kernel
theorem dX7_go_128 : decode (am_b mX7_go) 128 = .ok (.iastore, 1) := by decide +kernel
theorem dX7_go_129 : decode (am_b mX7_go) 129 = .ok (.iinc 3 1, 3) := by decide +kernel
theorem dX7_go_132 : decode (am_b mX7_go) 132 = .ok (.goto (-56), 3) := by decide +kernel
theorem dX7_go_135 : decode (am_b mX7_go) 135 = .ok (.iload_n 2, 1) := by decide +kernel
theorem dX7_go_136 : decode (am_b mX7_go) 136 = .ok (.ireturn, 1) := by decide +kernel
theorem dX7_goes_0 : decode (am_b mX7_goes) 0 = .ok (.aload_n 0, 1) := by decide +kernel
theorem dX7_goes_1 : decode (am_b mX7_goes) 1 = .ok (.getfield 7, 3) := by decide +kernel
theorem dX7_goes_4 : decode (am_b mX7_goes) 4 = .ok (.iload_n 1, 1) := by decide +kernel
theorem dX7_goes_5 : decode (am_b mX7_goes) 5 = .ok (.iload_n 2, 1) := by decide +kernel
theorem dX7_goes_6 : decode (am_b mX7_goes) 6 = .ok (.ifCond .ne 7, 3) := by decide +kernel
theorem dX7_goes_9 : decode (am_b mX7_goes) 9 = .ok (.iconst 0, 1) := by decide +kernel
theorem dX7_goes_10 : decode (am_b mX7_goes) 10 = .ok (.goto 4, 3) := by decide +kernel
theorem dX7_goes_13 : decode (am_b mX7_goes) 13 = .ok (.iconst 1, 1) := by decide +kernel
theorem dX7_goes_14 : decode (am_b mX7_goes) 14 = .ok (.iadd, 1) := by decide +kernel
theorem dX7_goes_15 : decode (am_b mX7_goes) 15 = .ok (.iaload, 1) := by decide +kernel
theorem dX7_goes_16 : decode (am_b mX7_goes) 16 = .ok (.istore_n 3, 1) := by decide +kernel
theorem dX7_goes_17 : decode (am_b mX7_goes) 17 = .ok (.iconst 0, 1) := by decide +kernel
theorem dX7_goes_18 : decode (am_b mX7_goes) 18 = .ok (.istore 4, 2) := by decide +kernel
theorem dX7_goes_20 : decode (am_b mX7_goes) 20 = .ok (.iconst 0, 1) := by decide +kernel
theorem dX7_goes_21 : decode (am_b mX7_goes) 21 = .ok (.istore 5, 2) := by decide +kernel
theorem dX7_goes_23 : decode (am_b mX7_goes) 23 = .ok (.iload 5, 2) := by decide +kernel
theorem dX7_goes_25 : decode (am_b mX7_goes) 25 = .ok (.bipush 12, 2) := by decide +kernel
theorem dX7_goes_27 : decode (am_b mX7_goes) 27 = .ok (.if_icmp .ge 105, 3) := by decide +kernel
theorem dX7_goes_30 : decode (am_b mX7_goes) 30 = .ok (.aload_n 0, 1) := by decide +kernel
theorem dX7_goes_31 : decode (am_b mX7_goes) 31 = .ok (.iload_n 1, 1) := by decide +kernel
theorem dX7_goes_32 : decode (am_b mX7_goes) 32 = .ok (.iload_n 2, 1) := by decide +kernel
theorem dX7_goes_33 : decode (am_b mX7_goes) 33 = .ok (.ifCond .ne 8, 3) := by decide +kernel
theorem dX7_goes_36 : decode (am_b mX7_goes) 36 = .ok (.iload 5, 2) := by decide +kernel
theorem dX7_goes_38 : decode (am_b mX7_goes) 38 = .ok (.goto 8, 3) := by decide +kernel
theorem dX7_goes_41 : decode (am_b mX7_goes) 41 = .ok (.bipush 11, 2) := by decide +kernel
theorem dX7_goes_43 : decode (am_b mX7_goes) 43 = .ok (.iload 5, 2) := by decide +kernel
theorem dX7_goes_45 : decode (am_b mX7_goes) 45 = .ok (.isub, 1) := by decide +kernel
theorem dX7_goes_46 : decode (am_b mX7_goes) 46 = .ok (.invokevirtual 44, 3) := by decide +kernel
theorem dX7_goes_49 : decode (am_b mX7_goes) 49 = .ok (.istore 6, 2) := by decide +kernel
theorem dX7_goes_51 : decode (am_b mX7_goes) 51 = .ok (.iload 6, 2) := by decide +kernel
theorem dX7_goes_53 : decode (am_b mX7_goes) 53 = .ok (.bipush (-6), 2) := by decide +kernel
theorem dX7_goes_55 : decode (am_b mX7_goes) 55 = .ok (.if_icmp .ne 7, 3) := by decide +kernel
theorem dX7_goes_58 : decode (am_b mX7_goes) 58 = .ok (.iconst 0, 1) := by decide +kernel
theorem dX7_goes_59 : decode (am_b mX7_goes) 59 = .ok (.goto 16, 3) := by decide +kernel
theorem dX7_goes_62 : decode (am_b mX7_goes) 62 = .ok (.aload_n 0, 1) := by decide +kernel
theorem dX7_goes_63 : decode (am_b mX7_goes) 63 = .ok (.getfield 7, 3) := by decide +kernel
theorem dX7_goes_66 : decode (am_b mX7_goes) 66 = .ok (.iload_n 1, 1) := by decide +kernel
theorem dX7_goes_67 : decode (am_b mX7_goes) 67 = .ok (.iload 6, 2) := by decide +kernel
theorem dX7_goes_69 : decode (am_b mX7_goes) 69 = .ok (.invokestatic 36, 3) := by decide +kernel
theorem dX7_goes_72 : decode (am_b mX7_goes) 72 = .ok (.iconst 0, 1) := by decide +kernel
theorem dX7_goes_73 : decode (am_b mX7_goes) 73 = .ok (.iadd, 1) := by decide +kernel
theorem dX7_goes_74 : decode (am_b mX7_goes) 74 = .ok (.iaload, 1) := by decide +kernel
theorem dX7_goes_75 : decode (am_b mX7_goes) 75 = .ok (.istore 7, 2) := by decide +kernel
theorem dX7_goes_77 : decode (am_b mX7_goes) 77 = .ok (.iload 7, 2) := by decide +kernel
theorem dX7_goes_79 : decode (am_b mX7_goes) 79 = .ok (.iload 4, 2) := by decide +kernel
theorem dX7_goes_81 : decode (am_b mX7_goes) 81 = .ok (.if_icmp .le 45, 3) := by decide +kernel
theorem dX7_goes_84 : decode (am_b mX7_goes) 84 = .ok (.iload 7, 2) := by decide +kernel
theorem dX7_goes_86 : decode (am_b mX7_goes) 86 = .ok (.istore 4, 2) := by decide +kernel
theorem dX7_goes_88 : decode (am_b mX7_goes) 88 = .ok (.aload_n 0, 1) := by decide +kernel
theorem dX7_goes_89 : decode (am_b mX7_goes) 89 = .ok (.getfield 26, 3) := by decide +kernel
theorem dX7_goes_92 : decode (am_b mX7_goes) 92 = .ok (.iconst 2, 1) := by decide +kernel
theorem dX7_goes_93 : decode (am_b mX7_goes) 93 = .ok (.iload 6, 2) := by decide +kernel
theorem dX7_goes_95 : decode (am_b mX7_goes) 95 = .ok (.imul, 1) := by decide +kernel
theorem dX7_goes_96 : decode (am_b mX7_goes) 96 = .ok (.iload_n 2, 1) := by decide +kernel
theorem dX7_goes_97 : decode (am_b mX7_goes) 97 = .ok (.iadd, 1) := by decide +kernel
theorem dX7_goes_98 : decode (am_b mX7_goes) 98 = .ok (.iload_n 3, 1) := by decide +kernel
theorem dX7_goes_99 : decode (am_b mX7_goes) 99 = .ok (.aload_n 0, 1) := by decide +kernel
theorem dX7_goes_100 : decode (am_b mX7_goes) 100 = .ok (.getfield 7, 3) := by decide +kernel
theorem dX7_goes_103 : decode (am_b mX7_goes) 103 = .ok (.iload_n 1, 1) := by decide +kernel
theorem dX7_goes_104 : decode (am_b mX7_goes) 104 = .ok (.iconst 2, 1) := by decide +kernel
theorem dX7_goes_105 : decode (am_b mX7_goes) 105 = .ok (.iadd, 1) := by decide +kernel
theorem dX7_goes_106 : decode (am_b mX7_goes) 106 = .ok (.iaload, 1) := by decide +kernel
theorem dX7_goes_107 : decode (am_b mX7_goes) 107 = .ok (.imul, 1) := by decide +kernel
theorem dX7_goes_108 : decode (am_b mX7_goes) 108 = .ok (.bipush 100, 2) := by decide +kernel
theorem dX7_goes_110 : decode (am_b mX7_goes) 110 = .ok (.idiv, 1) := by decide +kernel
theorem dX7_goes_111 : decode (am_b mX7_goes) 111 = .ok (.iastore, 1) := by decide +kernel
theorem dX7_goes_112 : decode (am_b mX7_goes) 112 = .ok (.iload_n 3, 1) := by decide +kernel
theorem dX7_goes_113 : decode (am_b mX7_goes) 113 = .ok (.aload_n 0, 1) := by decide +kernel
theorem dX7_goes_114 : decode (am_b mX7_goes) 114 = .ok (.getfield 26, 3) := by decide +kernel
theorem dX7_goes_117 : decode (am_b mX7_goes) 117 = .ok (.iconst 2, 1) := by decide +kernel
theorem dX7_goes_118 : decode (am_b mX7_goes) 118 = .ok (.iload 6, 2) := by decide +kernel
theorem dX7_goes_120 : decode (am_b mX7_goes) 120 = .ok (.imul, 1) := by decide +kernel
theorem dX7_goes_121 : decode (am_b mX7_goes) 121 = .ok (.iload_n 2, 1) := by decide +kernel
theorem dX7_goes_122 : decode (am_b mX7_goes) 122 = .ok (.iadd, 1) := by decide +kernel
theorem dX7_goes_123 : decode (am_b mX7_goes) 123 = .ok (.iaload, 1) := by decide +kernel
theorem dX7_goes_124 : decode (am_b mX7_goes) 124 = .ok (.isub, 1) := by decide +kernel
theorem dX7_goes_125 : decode (am_b mX7_goes) 125 = .ok (.istore_n 3, 1) := by decide +kernel
theorem dX7_goes_126 : decode (am_b mX7_goes) 126 = .ok (.iinc 5 1, 3) := by decide +kernel
theorem dX7_goes_129 : decode (am_b mX7_goes) 129 = .ok (.goto (-106), 3) := by decide +kernel
theorem dX7_goes_132 : decode (am_b mX7_goes) 132 = .ok (.iload_n 3, 1) := by decide +kernel
theorem dX7_goes_133 : decode (am_b mX7_goes) 133 = .ok (.ireturn, 1) := by decide +kernel
theorem dX7_height_0 : decode (am_b mX7_height) 0 = .ok (.aload_n 0, 1) := by decide +kernel
theorem dX7_height_1 : decode (am_b mX7_height) 1 = .ok (.iload_n 1, 1) := by decide +kernel
theorem dX7_height_2 : decode (am_b mX7_height) 2 = .ok (.invokevirtual 100, 3) := by decide +kernel
theorem dX7_height_5 : decode (am_b mX7_height) 5 = .ok (.ifCond .ne 5, 3) := by decide +kernel
theorem dX7_height_8 : decode (am_b mX7_height) 8 = .ok (.iconst (-1), 1) := by decide +kernel
theorem dX7_height_9 : decode (am_b mX7_height) 9 = .ok (.ireturn, 1) := by decide +kernel
theorem dX7_height_10 : decode (am_b mX7_height) 10 = .ok (.iload_n 2, 1) := by decide +kernel
theorem dX7_height_11 : decode (am_b mX7_height) 11 = .ok (.iconst 1, 1) := by decide +kernel
theorem dX7_height_12 : decode (am_b mX7_height) 12 = .ok (.bipush 9, 2) := by decide +kernel
theorem dX7_height_14 : decode (am_b mX7_height) 14 = .ok (.invokestatic 32, 3) := by decide +kernel
theorem dX7_height_17 : decode (am_b mX7_height) 17 = .ok (.ifCond .ne 6, 3) := by decide +kernel
theorem dX7_height_20 : decode (am_b mX7_height) 20 = .ok (.bipush (-2), 2) := by decide +kernel
theorem dX7_height_22 : decode (am_b mX7_height) 22 = .ok (.ireturn, 1) := by decide +kernel
theorem dX7_height_23 : decode (am_b mX7_height) 23 = .ok (.aload_n 0, 1) := by decide +kernel
theorem dX7_height_24 : decode (am_b mX7_height) 24 = .ok (.invokevirtual 86, 3) := by decide +kernel
theorem dX7_height_27 : decode (am_b mX7_height) 27 = .ok (.aload_n 0, 1) := by decide +kernel
theorem dX7_height_28 : decode (am_b mX7_height) 28 = .ok (.iload_n 1, 1) := by decide +kernel
theorem dX7_height_29 : decode (am_b mX7_height) 29 = .ok (.iconst 0, 1) := by decide +kernel
theorem dX7_height_30 : decode (am_b mX7_height) 30 = .ok (.invokevirtual 103, 3) := by decide +kernel
theorem dX7_height_33 : decode (am_b mX7_height) 33 = .ok (.istore_n 3, 1) := by decide +kernel
theorem dX7_height_34 : decode (am_b mX7_height) 34 = .ok (.aload_n 0, 1) := by decide +kernel
theorem dX7_height_35 : decode (am_b mX7_height) 35 = .ok (.getfield 7, 3) := by decide +kernel
theorem dX7_height_38 : decode (am_b mX7_height) 38 = .ok (.iconst 0, 1) := by decide +kernel
theorem dX7_height_39 : decode (am_b mX7_height) 39 = .ok (.iload_n 1, 1) := by decide +kernel
theorem dX7_height_40 : decode (am_b mX7_height) 40 = .ok (.invokestatic 36, 3) := by decide +kernel
theorem dX7_height_43 : decode (am_b mX7_height) 43 = .ok (.iconst 0, 1) := by decide +kernel
theorem dX7_height_44 : decode (am_b mX7_height) 44 = .ok (.iadd, 1) := by decide +kernel
theorem dX7_height_45 : decode (am_b mX7_height) 45 = .ok (.iload_n 2, 1) := by decide +kernel
theorem dX7_height_46 : decode (am_b mX7_height) 46 = .ok (.iastore, 1) := by decide +kernel
theorem dX7_height_47 : decode (am_b mX7_height) 47 = .ok (.iload_n 3, 1) := by decide +kernel
theorem dX7_height_48 : decode (am_b mX7_height) 48 = .ok (.ireturn, 1) := by decide +kernel
theorem dX7_hides_0 : decode (am_b mX7_hides) 0 = .ok (.aload_n 0, 1) := by decide +kernel
theorem dX7_hides_1 : decode (am_b mX7_hides) 1 = .ok (.iload_n 1, 1) := by decide +kernel
theorem dX7_hides_2 : decode (am_b mX7_hides) 2 = .ok (.iconst 1, 1) := by decide +kernel
theorem dX7_hides_3 : decode (am_b mX7_hides) 3 = .ok (.invokevirtual 103, 3) := by decide +kernel
theorem dX7_hides_6 : decode (am_b mX7_hides) 6 = .ok (.istore 4, 2) := by decide +kernel
theorem dX7_hides_8 : decode (am_b mX7_hides) 8 = .ok (.iload_n 3, 1) := by decide +kernel
theorem dX7_hides_9 : decode (am_b mX7_hides) 9 = .ok (.ifCond .ne 22, 3) := by decide +kernel
theorem dX7_hides_12 : decode (am_b mX7_hides) 12 = .ok (.iload 4, 2) := by decide +kernel
theorem dX7_hides_14 : decode (am_b mX7_hides) 14 = .ok (.aload_n 0, 1) := by decide +kernel
theorem dX7_hides_15 : decode (am_b mX7_hides) 15 = .ok (.iload_n 2, 1) := by decide +kernel
theorem dX7_hides_16 : decode (am_b mX7_hides) 16 = .ok (.iconst 1, 1) := by decide +kernel
theorem dX7_hides_17 : decode (am_b mX7_hides) 17 = .ok (.invokevirtual 103, 3) := by decide +kernel
theorem dX7_hides_20 : decode (am_b mX7_hides) 20 = .ok (.if_icmp .ge 7, 3) := by decide +kernel
theorem dX7_hides_23 : decode (am_b mX7_hides) 23 = .ok (.iconst 1, 1) := by decide +kernel
theorem dX7_hides_24 : decode (am_b mX7_hides) 24 = .ok (.goto 23, 3) := by decide +kernel
theorem dX7_hides_27 : decode (am_b mX7_hides) 27 = .ok (.iconst 0, 1) := by decide +kernel
theorem dX7_hides_28 : decode (am_b mX7_hides) 28 = .ok (.goto 19, 3) := by decide +kernel
theorem dX7_hides_31 : decode (am_b mX7_hides) 31 = .ok (.iload 4, 2) := by decide +kernel
theorem dX7_hides_33 : decode (am_b mX7_hides) 33 = .ok (.aload_n 0, 1) := by decide +kernel
theorem dX7_hides_34 : decode (am_b mX7_hides) 34 = .ok (.iload_n 2, 1) := by decide +kernel
theorem dX7_hides_35 : decode (am_b mX7_hides) 35 = .ok (.iconst 1, 1) := by decide +kernel
theorem dX7_hides_36 : decode (am_b mX7_hides) 36 = .ok (.invokevirtual 103, 3) := by decide +kernel
theorem dX7_hides_39 : decode (am_b mX7_hides) 39 = .ok (.if_icmp .le 7, 3) := by decide +kernel
theorem dX7_hides_42 : decode (am_b mX7_hides) 42 = .ok (.iconst 1, 1) := by decide +kernel
theorem dX7_hides_43 : decode (am_b mX7_hides) 43 = .ok (.goto 4, 3) := by decide +kernel
theorem dX7_hides_46 : decode (am_b mX7_hides) 46 = .ok (.iconst 0, 1) := by decide +kernel
theorem dX7_hides_47 : decode (am_b mX7_hides) 47 = .ok (.istore 5, 2) := by decide +kernel
theorem dX7_hides_49 : decode (am_b mX7_hides) 49 = .ok (.iload 4, 2) := by decide +kernel
theorem dX7_hides_51 : decode (am_b mX7_hides) 51 = .ok (.ifCond .lt 27, 3) := by decide +kernel
theorem dX7_hides_54 : decode (am_b mX7_hides) 54 = .ok (.iload 5, 2) := by decide +kernel
theorem dX7_hides_56 : decode (am_b mX7_hides) 56 = .ok (.ifCond .eq 22, 3) := by decide +kernel
theorem dX7_hides_59 : decode (am_b mX7_hides) 59 = .ok (.aload_n 0, 1) := by decide +kernel
theorem dX7_hides_60 : decode (am_b mX7_hides) 60 = .ok (.iload_n 1, 1) := by decide +kernel
theorem dX7_hides_61 : decode (am_b mX7_hides) 61 = .ok (.iconst 0, 1) := by decide +kernel
theorem dX7_hides_62 : decode (am_b mX7_hides) 62 = .ok (.invokevirtual 103, 3) := by decide +kernel
theorem dX7_hides_65 : decode (am_b mX7_hides) 65 = .ok (.aload_n 0, 1) := by decide +kernel
theorem dX7_hides_66 : decode (am_b mX7_hides) 66 = .ok (.iload_n 2, 1) := by decide +kernel
theorem dX7_hides_67 : decode (am_b mX7_hides) 67 = .ok (.iconst 0, 1) := by decide +kernel
theorem dX7_hides_68 : decode (am_b mX7_hides) 68 = .ok (.invokevirtual 103, 3) := by decide +kernel
theorem dX7_hides_71 : decode (am_b mX7_hides) 71 = .ok (.if_icmp .lt 7, 3) := by decide +kernel
theorem dX7_hides_74 : decode (am_b mX7_hides) 74 = .ok (.iconst 1, 1) := by decide +kernel
theorem dX7_hides_75 : decode (am_b mX7_hides) 75 = .ok (.goto 4, 3) := by decide +kernel
theorem dX7_hides_78 : decode (am_b mX7_hides) 78 = .ok (.iconst 0, 1) := by decide +kernel
theorem dX7_hides_79 : decode (am_b mX7_hides) 79 = .ok (.ireturn, 1) := by decide +kernel
theorem dX7_highest_0 : decode (am_b mX7_highest) 0 = .ok (.iconst 0, 1) := by decide +kernel
theorem dX7_highest_1 : decode (am_b mX7_highest) 1 = .ok (.istore_n 3, 1) := by decide +kernel
theorem dX7_highest_2 : decode (am_b mX7_highest) 2 = .ok (.iload_n 2, 1) := by decide +kernel
theorem dX7_highest_3 : decode (am_b mX7_highest) 3 = .ok (.ifCond .ne 7, 3) := by decide +kernel
theorem dX7_highest_6 : decode (am_b mX7_highest) 6 = .ok (.iconst 0, 1) := by decide +kernel
theorem dX7_highest_7 : decode (am_b mX7_highest) 7 = .ok (.goto 5, 3) := by decide +kernel
theorem dX7_highest_10 : decode (am_b mX7_highest) 10 = .ok (.bipush 11, 2) := by decide +kernel
theorem dX7_highest_12 : decode (am_b mX7_highest) 12 = .ok (.istore 4, 2) := by decide +kernel
theorem dX7_highest_14 : decode (am_b mX7_highest) 14 = .ok (.iload 4, 2) := by decide +kernel
theorem dX7_highest_16 : decode (am_b mX7_highest) 16 = .ok (.aload_n 0, 1) := by decide +kernel
theorem dX7_highest_17 : decode (am_b mX7_highest) 17 = .ok (.iload_n 1, 1) := by decide +kernel
theorem dX7_highest_18 : decode (am_b mX7_highest) 18 = .ok (.iconst 1, 1) := by decide +kernel
theorem dX7_highest_19 : decode (am_b mX7_highest) 19 = .ok (.invokevirtual 103, 3) := by decide +kernel
theorem dX7_highest_22 : decode (am_b mX7_highest) 22 = .ok (.if_icmp .eq 62, 3) := by decide +kernel
theorem dX7_highest_25 : decode (am_b mX7_highest) 25 = .ok (.aload_n 0, 1) := by decide +kernel
theorem dX7_highest_26 : decode (am_b mX7_highest) 26 = .ok (.iconst 0, 1) := by decide +kernel
theorem dX7_highest_27 : decode (am_b mX7_highest) 27 = .ok (.iload 4, 2) := by decide +kernel
theorem dX7_highest_29 : decode (am_b mX7_highest) 29 = .ok (.invokevirtual 44, 3) := by decide +kernel
theorem dX7_highest_32 : decode (am_b mX7_highest) 32 = .ok (.istore 5, 2) := by decide +kernel
theorem dX7_highest_34 : decode (am_b mX7_highest) 34 = .ok (.iload 5, 2) := by decide +kernel
theorem dX7_highest_36 : decode (am_b mX7_highest) 36 = .ok (.bipush (-6), 2) := by decide +kernel
theorem dX7_highest_38 : decode (am_b mX7_highest) 38 = .ok (.if_icmp .ne 7, 3) := by decide +kernel
theorem dX7_highest_41 : decode (am_b mX7_highest) 41 = .ok (.iconst 0, 1) := by decide +kernel
theorem dX7_highest_42 : decode (am_b mX7_highest) 42 = .ok (.goto 10, 3) := by decide +kernel
theorem dX7_highest_45 : decode (am_b mX7_highest) 45 = .ok (.aload_n 0, 1) := by decide +kernel
theorem dX7_highest_46 : decode (am_b mX7_highest) 46 = .ok (.iload 5, 2) := by decide +kernel
theorem dX7_highest_48 : decode (am_b mX7_highest) 48 = .ok (.iconst 0, 1) := by decide +kernel
theorem dX7_highest_49 : decode (am_b mX7_highest) 49 = .ok (.invokevirtual 103, 3) := by decide +kernel
theorem dX7_highest_52 : decode (am_b mX7_highest) 52 = .ok (.istore 6, 2) := by decide +kernel
theorem dX7_highest_54 : decode (am_b mX7_highest) 54 = .ok (.iload 6, 2) := by decide +kernel
theorem dX7_highest_56 : decode (am_b mX7_highest) 56 = .ok (.iload_n 3, 1) := by decide +kernel
theorem dX7_highest_57 : decode (am_b mX7_highest) 57 = .ok (.if_icmp .le 8, 3) := by decide +kernel
theorem dX7_highest_60 : decode (am_b mX7_highest) 60 = .ok (.iload 6, 2) := by decide +kernel
theorem dX7_highest_62 : decode (am_b mX7_highest) 62 = .ok (.goto 4, 3) := by decide +kernel
theorem dX7_highest_65 : decode (am_b mX7_highest) 65 = .ok (.iload_n 3, 1) := by decide +kernel
theorem dX7_highest_66 : decode (am_b mX7_highest) 66 = .ok (.istore_n 3, 1) := by decide +kernel
theorem dX7_highest_67 : decode (am_b mX7_highest) 67 = .ok (.iload 4, 2) := by decide +kernel
theorem dX7_highest_69 : decode (am_b mX7_highest) 69 = .ok (.iload_n 2, 1) := by decide +kernel
theorem dX7_highest_70 : decode (am_b mX7_highest) 70 = .ok (.ifCond .ne 7, 3) := by decide +kernel
theorem dX7_highest_73 : decode (am_b mX7_highest) 73 = .ok (.iconst 1, 1) := by decide +kernel
theorem dX7_highest_74 : decode (am_b mX7_highest) 74 = .ok (.goto 4, 3) := by decide +kernel
theorem dX7_highest_77 : decode (am_b mX7_highest) 77 = .ok (.iconst (-1), 1) := by decide +kernel
theorem dX7_highest_78 : decode (am_b mX7_highest) 78 = .ok (.iadd, 1) := by decide +kernel
theorem dX7_highest_79 : decode (am_b mX7_highest) 79 = .ok (.istore 4, 2) := by decide +kernel
theorem dX7_highest_81 : decode (am_b mX7_highest) 81 = .ok (.goto (-67), 3) := by decide +kernel
theorem dX7_highest_84 : decode (am_b mX7_highest) 84 = .ok (.iload_n 3, 1) := by decide +kernel
theorem dX7_highest_85 : decode (am_b mX7_highest) 85 = .ok (.ireturn, 1) := by decide +kernel
theorem dX7_isOthers_0 : decode (am_b mX7_isOthers) 0 = .ok (.aload_n 0, 1) := by decide +kernel
theorem dX7_isOthers_1 : decode (am_b mX7_isOthers) 1 = .ok (.iconst 0, 1) := by decide +kernel
theorem dX7_isOthers_2 : decode (am_b mX7_isOthers) 2 = .ok (.iload_n 2, 1) := by decide +kernel
theorem dX7_isOthers_3 : decode (am_b mX7_isOthers) 3 = .ok (.invokevirtual 44, 3) := by decide +kernel
theorem dX7_isOthers_6 : decode (am_b mX7_isOthers) 6 = .ok (.istore_n 3, 1) := by decide +kernel
theorem dX7_isOthers_7 : decode (am_b mX7_isOthers) 7 = .ok (.iload_n 3, 1) := by decide +kernel
theorem dX7_isOthers_8 : decode (am_b mX7_isOthers) 8 = .ok (.bipush (-6), 2) := by decide +kernel
theorem dX7_isOthers_10 : decode (am_b mX7_isOthers) 10 = .ok (.if_icmp .eq 12, 3) := by decide +kernel
theorem dX7_isOthers_13 : decode (am_b mX7_isOthers) 13 = .ok (.iload_n 3, 1) := by decide +kernel
theorem dX7_isOthers_14 : decode (am_b mX7_isOthers) 14 = .ok (.iload_n 1, 1) := by decide +kernel
theorem dX7_isOthers_15 : decode (am_b mX7_isOthers) 15 = .ok (.if_icmp .eq 7, 3) := by decide +kernel
theorem dX7_isOthers_18 : decode (am_b mX7_isOthers) 18 = .ok (.iconst 1, 1) := by decide +kernel
theorem dX7_isOthers_19 : decode (am_b mX7_isOthers) 19 = .ok (.goto 4, 3) := by decide +kernel
theorem dX7_isOthers_22 : decode (am_b mX7_isOthers) 22 = .ok (.iconst 0, 1) := by decide +kernel
theorem dX7_isOthers_23 : decode (am_b mX7_isOthers) 23 = .ok (.ireturn, 1) := by decide +kernel
theorem dX7_partEnd_0 : decode (am_b mX7_partEnd) 0 = .ok (.aload_n 0, 1) := by decide +kernel
theorem dX7_partEnd_1 : decode (am_b mX7_partEnd) 1 = .ok (.iload_n 1, 1) := by decide +kernel
theorem dX7_partEnd_2 : decode (am_b mX7_partEnd) 2 = .ok (.invokevirtual 141, 3) := by decide +kernel
theorem dX7_partEnd_5 : decode (am_b mX7_partEnd) 5 = .ok (.iconst 1, 1) := by decide +kernel
theorem dX7_partEnd_6 : decode (am_b mX7_partEnd) 6 = .ok (.if_icmp .ge 7, 3) := by decide +kernel
theorem dX7_partEnd_9 : decode (am_b mX7_partEnd) 9 = .ok (.iconst (-1), 1) := by decide +kernel
theorem dX7_partEnd_10 : decode (am_b mX7_partEnd) 10 = .ok (.iload_n 1, 1) := by decide +kernel
theorem dX7_partEnd_11 : decode (am_b mX7_partEnd) 11 = .ok (.isub, 1) := by decide +kernel
theorem dX7_partEnd_12 : decode (am_b mX7_partEnd) 12 = .ok (.ireturn, 1) := by decide +kernel
theorem dX7_partEnd_13 : decode (am_b mX7_partEnd) 13 = .ok (.aload_n 0, 1) := by decide +kernel
theorem dX7_partEnd_14 : decode (am_b mX7_partEnd) 14 = .ok (.iload_n 1, 1) := by decide +kernel
theorem dX7_partEnd_15 : decode (am_b mX7_partEnd) 15 = .ok (.iconst 1, 1) := by decide +kernel
theorem dX7_partEnd_16 : decode (am_b mX7_partEnd) 16 = .ok (.iadd, 1) := by decide +kernel
theorem dX7_partEnd_17 : decode (am_b mX7_partEnd) 17 = .ok (.invokevirtual 138, 3) := by decide +kernel
theorem dX7_partEnd_20 : decode (am_b mX7_partEnd) 20 = .ok (.bipush 64, 2) := by decide +kernel
theorem dX7_partEnd_22 : decode (am_b mX7_partEnd) 22 = .ok (.if_icmp .eq 7, 3) := by decide +kernel
theorem dX7_partEnd_25 : decode (am_b mX7_partEnd) 25 = .ok (.iload_n 1, 1) := by decide +kernel
theorem dX7_partEnd_26 : decode (am_b mX7_partEnd) 26 = .ok (.iconst 1, 1) := by decide +kernel
theorem dX7_partEnd_27 : decode (am_b mX7_partEnd) 27 = .ok (.iadd, 1) := by decide +kernel
theorem dX7_partEnd_28 : decode (am_b mX7_partEnd) 28 = .ok (.ireturn, 1) := by decide +kernel
theorem dX7_partEnd_29 : decode (am_b mX7_partEnd) 29 = .ok (.aload_n 0, 1) := by decide +kernel
theorem dX7_partEnd_30 : decode (am_b mX7_partEnd) 30 = .ok (.iload_n 1, 1) := by decide +kernel
theorem dX7_partEnd_31 : decode (am_b mX7_partEnd) 31 = .ok (.iconst 2, 1) := by decide +kernel
theorem dX7_partEnd_32 : decode (am_b mX7_partEnd) 32 = .ok (.iadd, 1) := by decide +kernel
theorem dX7_partEnd_33 : decode (am_b mX7_partEnd) 33 = .ok (.invokevirtual 141, 3) := by decide +kernel
theorem dX7_partEnd_36 : decode (am_b mX7_partEnd) 36 = .ok (.ifCond .ge 8, 3) := by decide +kernel
theorem dX7_partEnd_39 : decode (am_b mX7_partEnd) 39 = .ok (.bipush (-3), 2) := by decide +kernel
theorem dX7_partEnd_41 : decode (am_b mX7_partEnd) 41 = .ok (.iload_n 1, 1) := by decide +kernel
theorem dX7_partEnd_42 : decode (am_b mX7_partEnd) 42 = .ok (.isub, 1) := by decide +kernel
theorem dX7_partEnd_43 : decode (am_b mX7_partEnd) 43 = .ok (.ireturn, 1) := by decide +kernel
theorem dX7_partEnd_44 : decode (am_b mX7_partEnd) 44 = .ok (.aload_n 0, 1) := by decide +kernel
theorem dX7_partEnd_45 : decode (am_b mX7_partEnd) 45 = .ok (.iload_n 1, 1) := by decide +kernel
theorem dX7_partEnd_46 : decode (am_b mX7_partEnd) 46 = .ok (.iconst 2, 1) := by decide +kernel
theorem dX7_partEnd_47 : decode (am_b mX7_partEnd) 47 = .ok (.iadd, 1) := by decide +kernel
theorem dX7_partEnd_48 : decode (am_b mX7_partEnd) 48 = .ok (.invokevirtual 141, 3) := by decide +kernel
theorem dX7_partEnd_51 : decode (am_b mX7_partEnd) 51 = .ok (.iconst 1, 1) := by decide +kernel
theorem dX7_partEnd_52 : decode (am_b mX7_partEnd) 52 = .ok (.if_icmp .ne 24, 3) := by decide +kernel
theorem dX7_partEnd_55 : decode (am_b mX7_partEnd) 55 = .ok (.aload_n 0, 1) := by decide +kernel
theorem dX7_partEnd_56 : decode (am_b mX7_partEnd) 56 = .ok (.iload_n 1, 1) := by decide +kernel
theorem dX7_partEnd_57 : decode (am_b mX7_partEnd) 57 = .ok (.iconst 3, 1) := by decide +kernel
theorem dX7_partEnd_58 : decode (am_b mX7_partEnd) 58 = .ok (.iadd, 1) := by decide +kernel
theorem dX7_partEnd_59 : decode (am_b mX7_partEnd) 59 = .ok (.invokevirtual 141, 3) := by decide +kernel
theorem dX7_partEnd_62 : decode (am_b mX7_partEnd) 62 = .ok (.iconst 0, 1) := by decide +kernel
theorem dX7_partEnd_63 : decode (am_b mX7_partEnd) 63 = .ok (.iconst 1, 1) := by decide +kernel
theorem dX7_partEnd_64 : decode (am_b mX7_partEnd) 64 = .ok (.invokestatic 32, 3) := by decide +kernel
theorem dX7_partEnd_67 : decode (am_b mX7_partEnd) 67 = .ok (.ifCond .eq 9, 3) := by decide +kernel
theorem dX7_partEnd_70 : decode (am_b mX7_partEnd) 70 = .ok (.iload_n 1, 1) := by decide +kernel
theorem dX7_partEnd_71 : decode (am_b mX7_partEnd) 71 = .ok (.iconst 4, 1) := by decide +kernel
theorem dX7_partEnd_72 : decode (am_b mX7_partEnd) 72 = .ok (.iadd, 1) := by decide +kernel
theorem dX7_partEnd_73 : decode (am_b mX7_partEnd) 73 = .ok (.goto 6, 3) := by decide +kernel
theorem dX7_partEnd_76 : decode (am_b mX7_partEnd) 76 = .ok (.iload_n 1, 1) := by decide +kernel
theorem dX7_partEnd_77 : decode (am_b mX7_partEnd) 77 = .ok (.iconst 3, 1) := by decide +kernel
theorem dX7_partEnd_78 : decode (am_b mX7_partEnd) 78 = .ok (.iadd, 1) := by decide +kernel
theorem dX7_partEnd_79 : decode (am_b mX7_partEnd) 79 = .ok (.ireturn, 1) := by decide +kernel
theorem dX7_pitch_0 : decode (am_b mX7_pitch) 0 = .ok (.iload_n 1, 1) := by decide +kernel
theorem dX7_pitch_1 : decode (am_b mX7_pitch) 1 = .ok (.invokestatic 89, 3) := by decide +kernel
theorem dX7_pitch_4 : decode (am_b mX7_pitch) 4 = .ok (.ifCond .ne 5, 3) := by decide +kernel
theorem dX7_pitch_7 : decode (am_b mX7_pitch) 7 = .ok (.iconst (-1), 1) := by decide +kernel
theorem dX7_pitch_8 : decode (am_b mX7_pitch) 8 = .ok (.ireturn, 1) := by decide +kernel
theorem dX7_pitch_9 : decode (am_b mX7_pitch) 9 = .ok (.iload_n 2, 1) := by decide +kernel
theorem dX7_pitch_10 : decode (am_b mX7_pitch) 10 = .ok (.ifCond .ne 17, 3) := by decide +kernel
theorem dX7_pitch_13 : decode (am_b mX7_pitch) 13 = .ok (.aload_n 0, 1) := by decide +kernel
theorem dX7_pitch_14 : decode (am_b mX7_pitch) 14 = .ok (.getfield 7, 3) := by decide +kernel
theorem dX7_pitch_17 : decode (am_b mX7_pitch) 17 = .ok (.bipush 8, 2) := by decide +kernel
theorem dX7_pitch_19 : decode (am_b mX7_pitch) 19 = .ok (.iaload, 1) := by decide +kernel
theorem dX7_pitch_20 : decode (am_b mX7_pitch) 20 = .ok (.iload_n 1, 1) := by decide +kernel
theorem dX7_pitch_21 : decode (am_b mX7_pitch) 21 = .ok (.ishr, 1) := by decide +kernel
theorem dX7_pitch_22 : decode (am_b mX7_pitch) 22 = .ok (.iconst 1, 1) := by decide +kernel
theorem dX7_pitch_23 : decode (am_b mX7_pitch) 23 = .ok (.iand, 1) := by decide +kernel
theorem dX7_pitch_24 : decode (am_b mX7_pitch) 24 = .ok (.goto 41, 3) := by decide +kernel
theorem dX7_pitch_27 : decode (am_b mX7_pitch) 27 = .ok (.iload_n 2, 1) := by decide +kernel
theorem dX7_pitch_28 : decode (am_b mX7_pitch) 28 = .ok (.iconst 1, 1) := by decide +kernel
theorem dX7_pitch_29 : decode (am_b mX7_pitch) 29 = .ok (.if_icmp .ne 12, 3) := by decide +kernel
theorem dX7_pitch_32 : decode (am_b mX7_pitch) 32 = .ok (.aload_n 0, 1) := by decide +kernel
theorem dX7_pitch_33 : decode (am_b mX7_pitch) 33 = .ok (.iconst 0, 1) := by decide +kernel
theorem dX7_pitch_34 : decode (am_b mX7_pitch) 34 = .ok (.iload_n 1, 1) := by decide +kernel
theorem dX7_pitch_35 : decode (am_b mX7_pitch) 35 = .ok (.invokevirtual 44, 3) := by decide +kernel
theorem dX7_pitch_38 : decode (am_b mX7_pitch) 38 = .ok (.goto 27, 3) := by decide +kernel
theorem dX7_pitch_41 : decode (am_b mX7_pitch) 41 = .ok (.iload_n 2, 1) := by decide +kernel
theorem dX7_pitch_42 : decode (am_b mX7_pitch) 42 = .ok (.iconst 2, 1) := by decide +kernel
theorem dX7_pitch_43 : decode (am_b mX7_pitch) 43 = .ok (.if_icmp .ne 20, 3) := by decide +kernel
theorem dX7_pitch_46 : decode (am_b mX7_pitch) 46 = .ok (.aload_n 0, 1) := by decide +kernel
theorem dX7_pitch_47 : decode (am_b mX7_pitch) 47 = .ok (.iconst 0, 1) := by decide +kernel
theorem dX7_pitch_48 : decode (am_b mX7_pitch) 48 = .ok (.iload_n 1, 1) := by decide +kernel
theorem dX7_pitch_49 : decode (am_b mX7_pitch) 49 = .ok (.invokevirtual 67, 3) := by decide +kernel
theorem dX7_pitch_52 : decode (am_b mX7_pitch) 52 = .ok (.ifCond .eq 7, 3) := by decide +kernel
theorem dX7_pitch_55 : decode (am_b mX7_pitch) 55 = .ok (.iconst 1, 1) := by decide +kernel
theorem dX7_pitch_56 : decode (am_b mX7_pitch) 56 = .ok (.goto 9, 3) := by decide +kernel
theorem dX7_pitch_59 : decode (am_b mX7_pitch) 59 = .ok (.iconst 0, 1) := by decide +kernel
theorem dX7_pitch_60 : decode (am_b mX7_pitch) 60 = .ok (.goto 5, 3) := by decide +kernel
theorem dX7_pitch_63 : decode (am_b mX7_pitch) 63 = .ok (.bipush (-2), 2) := by decide +kernel
theorem dX7_pitch_65 : decode (am_b mX7_pitch) 65 = .ok (.ireturn, 1) := by decide +kernel
theorem dX7_roof_0 : decode (am_b mX7_roof) 0 = .ok (.iload_n 1, 1) := by decide +kernel
theorem dX7_roof_1 : decode (am_b mX7_roof) 1 = .ok (.invokestatic 89, 3) := by decide +kernel
theorem dX7_roof_4 : decode (am_b mX7_roof) 4 = .ok (.ifCond .ne 5, 3) := by decide +kernel
theorem dX7_roof_7 : decode (am_b mX7_roof) 7 = .ok (.iconst (-1), 1) := by decide +kernel
theorem dX7_roof_8 : decode (am_b mX7_roof) 8 = .ok (.ireturn, 1) := by decide +kernel
theorem dX7_roof_9 : decode (am_b mX7_roof) 9 = .ok (.aload_n 0, 1) := by decide +kernel
theorem dX7_roof_10 : decode (am_b mX7_roof) 10 = .ok (.getfield 7, 3) := by decide +kernel
theorem dX7_roof_13 : decode (am_b mX7_roof) 13 = .ok (.bipush 8, 2) := by decide +kernel
theorem dX7_roof_15 : decode (am_b mX7_roof) 15 = .ok (.iaload, 1) := by decide +kernel
theorem dX7_roof_16 : decode (am_b mX7_roof) 16 = .ok (.iload_n 1, 1) := by decide +kernel
theorem dX7_roof_17 : decode (am_b mX7_roof) 17 = .ok (.ishr, 1) := by decide +kernel
theorem dX7_roof_18 : decode (am_b mX7_roof) 18 = .ok (.iconst 1, 1) := by decide +kernel
theorem dX7_roof_19 : decode (am_b mX7_roof) 19 = .ok (.iand, 1) := by decide +kernel
theorem dX7_roof_20 : decode (am_b mX7_roof) 20 = .ok (.iload_n 2, 1) := by decide +kernel
theorem dX7_roof_21 : decode (am_b mX7_roof) 21 = .ok (.ifCond .eq 7, 3) := by decide +kernel
theorem dX7_roof_24 : decode (am_b mX7_roof) 24 = .ok (.iconst 1, 1) := by decide +kernel
theorem dX7_roof_25 : decode (am_b mX7_roof) 25 = .ok (.goto 4, 3) := by decide +kernel
theorem dX7_roof_28 : decode (am_b mX7_roof) 28 = .ok (.iconst 0, 1) := by decide +kernel
theorem dX7_roof_29 : decode (am_b mX7_roof) 29 = .ok (.if_icmp .ne 6, 3) := by decide +kernel
theorem dX7_roof_32 : decode (am_b mX7_roof) 32 = .ok (.bipush (-5), 2) := by decide +kernel
theorem dX7_roof_34 : decode (am_b mX7_roof) 34 = .ok (.ireturn, 1) := by decide +kernel
theorem dX7_roof_35 : decode (am_b mX7_roof) 35 = .ok (.aload_n 0, 1) := by decide +kernel
theorem dX7_roof_36 : decode (am_b mX7_roof) 36 = .ok (.invokevirtual 86, 3) := by decide +kernel
theorem dX7_roof_39 : decode (am_b mX7_roof) 39 = .ok (.aload_n 0, 1) := by decide +kernel
theorem dX7_roof_40 : decode (am_b mX7_roof) 40 = .ok (.getfield 7, 3) := by decide +kernel
theorem dX7_roof_43 : decode (am_b mX7_roof) 43 = .ok (.bipush 8, 2) := by decide +kernel
theorem dX7_roof_45 : decode (am_b mX7_roof) 45 = .ok (.dup2, 1) := by decide +kernel
theorem dX7_roof_46 : decode (am_b mX7_roof) 46 = .ok (.iaload, 1) := by decide +kernel
theorem dX7_roof_47 : decode (am_b mX7_roof) 47 = .ok (.iconst 1, 1) := by decide +kernel
theorem dX7_roof_48 : decode (am_b mX7_roof) 48 = .ok (.iload_n 1, 1) := by decide +kernel
theorem dX7_roof_49 : decode (am_b mX7_roof) 49 = .ok (.ishl, 1) := by decide +kernel
theorem dX7_roof_50 : decode (am_b mX7_roof) 50 = .ok (.ixor, 1) := by decide +kernel
theorem dX7_roof_51 : decode (am_b mX7_roof) 51 = .ok (.iastore, 1) := by decide +kernel
theorem dX7_roof_52 : decode (am_b mX7_roof) 52 = .ok (.aload_n 0, 1) := by decide +kernel
theorem dX7_roof_53 : decode (am_b mX7_roof) 53 = .ok (.invokevirtual 93, 3) := by decide +kernel
theorem dX7_roof_56 : decode (am_b mX7_roof) 56 = .ok (.ireturn, 1) := by decide +kernel
theorem dX7_standing_0 : decode (am_b mX7_standing) 0 = .ok (.iconst 0, 1) := by decide +kernel
theorem dX7_standing_1 : decode (am_b mX7_standing) 1 = .ok (.istore_n 1, 1) := by decide +kernel
theorem dX7_standing_2 : decode (am_b mX7_standing) 2 = .ok (.iconst 0, 1) := by decide +kernel
theorem dX7_standing_3 : decode (am_b mX7_standing) 3 = .ok (.istore_n 2, 1) := by decide +kernel
theorem dX7_standing_4 : decode (am_b mX7_standing) 4 = .ok (.iload_n 2, 1) := by decide +kernel
theorem dX7_standing_5 : decode (am_b mX7_standing) 5 = .ok (.aload_n 0, 1) := by decide +kernel
theorem dX7_standing_6 : decode (am_b mX7_standing) 6 = .ok (.getfield 7, 3) := by decide +kernel
theorem dX7_standing_9 : decode (am_b mX7_standing) 9 = .ok (.bipush 7, 2) := by decide +kernel
theorem dX7_standing_11 : decode (am_b mX7_standing) 11 = .ok (.iaload, 1) := by decide +kernel
theorem dX7_standing_12 : decode (am_b mX7_standing) 12 = .ok (.if_icmp .ge 26, 3) := by decide +kernel
theorem dX7_standing_15 : decode (am_b mX7_standing) 15 = .ok (.iload_n 1, 1) := by decide +kernel
theorem dX7_standing_16 : decode (am_b mX7_standing) 16 = .ok (.aload_n 0, 1) := by decide +kernel
theorem dX7_standing_17 : decode (am_b mX7_standing) 17 = .ok (.iload_n 2, 1) := by decide +kernel
theorem dX7_standing_18 : decode (am_b mX7_standing) 18 = .ok (.iconst 1, 1) := by decide +kernel
theorem dX7_standing_19 : decode (am_b mX7_standing) 19 = .ok (.invokevirtual 103, 3) := by decide +kernel
theorem dX7_standing_22 : decode (am_b mX7_standing) 22 = .ok (.ifCond .lt 7, 3) := by decide +kernel
theorem dX7_standing_25 : decode (am_b mX7_standing) 25 = .ok (.iconst 1, 1) := by decide +kernel
theorem dX7_standing_26 : decode (am_b mX7_standing) 26 = .ok (.goto 4, 3) := by decide +kernel
theorem dX7_standing_29 : decode (am_b mX7_standing) 29 = .ok (.iconst 0, 1) := by decide +kernel
theorem dX7_standing_30 : decode (am_b mX7_standing) 30 = .ok (.iadd, 1) := by decide +kernel
theorem dX7_standing_31 : decode (am_b mX7_standing) 31 = .ok (.istore_n 1, 1) := by decide +kernel
theorem dX7_standing_32 : decode (am_b mX7_standing) 32 = .ok (.iinc 2 1, 3) := by decide +kernel
theorem dX7_standing_35 : decode (am_b mX7_standing) 35 = .ok (.goto (-31), 3) := by decide +kernel
theorem dX7_standing_38 : decode (am_b mX7_standing) 38 = .ok (.iload_n 1, 1) := by decide +kernel
theorem dX7_standing_39 : decode (am_b mX7_standing) 39 = .ok (.ireturn, 1) := by decide +kernel
theorem dX7_crowds_0 : decode (am_b mX7_crowds) 0 = .ok (.iconst 0, 1) := by decide +kernel
theorem dX7_crowds_1 : decode (am_b mX7_crowds) 1 = .ok (.istore_n 2, 1) := by decide +kernel
theorem dX7_crowds_2 : decode (am_b mX7_crowds) 2 = .ok (.iload_n 2, 1) := by decide +kernel
theorem dX7_crowds_3 : decode (am_b mX7_crowds) 3 = .ok (.bipush 16, 2) := by decide +kernel
theorem dX7_crowds_5 : decode (am_b mX7_crowds) 5 = .ok (.if_icmp .ge 16, 3) := by decide +kernel
theorem dX7_crowds_8 : decode (am_b mX7_crowds) 8 = .ok (.aload_n 0, 1) := by decide +kernel
theorem dX7_crowds_9 : decode (am_b mX7_crowds) 9 = .ok (.getfield 26, 3) := by decide +kernel
theorem dX7_crowds_12 : decode (am_b mX7_crowds) 12 = .ok (.iload_n 2, 1) := by decide +kernel
theorem dX7_crowds_13 : decode (am_b mX7_crowds) 13 = .ok (.iconst 0, 1) := by decide +kernel
theorem dX7_crowds_14 : decode (am_b mX7_crowds) 14 = .ok (.iastore, 1) := by decide +kernel
theorem dX7_crowds_15 : decode (am_b mX7_crowds) 15 = .ok (.iinc 2 1, 3) := by decide +kernel
theorem dX7_crowds_18 : decode (am_b mX7_crowds) 18 = .ok (.goto (-16), 3) := by decide +kernel
theorem dX7_crowds_21 : decode (am_b mX7_crowds) 21 = .ok (.aload_n 0, 1) := by decide +kernel
theorem dX7_crowds_22 : decode (am_b mX7_crowds) 22 = .ok (.iload_n 1, 1) := by decide +kernel
theorem dX7_crowds_23 : decode (am_b mX7_crowds) 23 = .ok (.iconst 0, 1) := by decide +kernel
theorem dX7_crowds_24 : decode (am_b mX7_crowds) 24 = .ok (.invokevirtual 47, 3) := by decide +kernel
theorem dX7_crowds_27 : decode (am_b mX7_crowds) 27 = .ok (.istore_n 2, 1) := by decide +kernel
theorem dX7_crowds_28 : decode (am_b mX7_crowds) 28 = .ok (.iload_n 2, 1) := by decide +kernel
theorem dX7_crowds_29 : decode (am_b mX7_crowds) 29 = .ok (.aload_n 0, 1) := by decide +kernel
theorem dX7_crowds_30 : decode (am_b mX7_crowds) 30 = .ok (.iload_n 1, 1) := by decide +kernel
theorem dX7_crowds_31 : decode (am_b mX7_crowds) 31 = .ok (.iconst 1, 1) := by decide +kernel
theorem dX7_crowds_32 : decode (am_b mX7_crowds) 32 = .ok (.invokevirtual 47, 3) := by decide +kernel
theorem dX7_crowds_35 : decode (am_b mX7_crowds) 35 = .ok (.iadd, 1) := by decide +kernel
theorem dX7_crowds_36 : decode (am_b mX7_crowds) 36 = .ok (.ireturn, 1) := by decide +kernel
theorem dX7_fault_0 : decode (am_b mX7_fault) 0 = .ok (.iconst 0, 1) := by decide +kernel
theorem dX7_fault_1 : decode (am_b mX7_fault) 1 = .ok (.istore_n 1, 1) := by decide +kernel
theorem dX7_fault_2 : decode (am_b mX7_fault) 2 = .ok (.iconst 1, 1) := by decide +kernel
theorem dX7_fault_3 : decode (am_b mX7_fault) 3 = .ok (.istore_n 2, 1) := by decide +kernel
theorem dX7_fault_4 : decode (am_b mX7_fault) 4 = .ok (.iload_n 2, 1) := by decide +kernel
theorem dX7_fault_5 : decode (am_b mX7_fault) 5 = .ok (.bipush 8, 2) := by decide +kernel
theorem dX7_fault_7 : decode (am_b mX7_fault) 7 = .ok (.if_icmp .gt 56, 3) := by decide +kernel
theorem dX7_fault_10 : decode (am_b mX7_fault) 10 = .ok (.aload_n 0, 1) := by decide +kernel
theorem dX7_fault_11 : decode (am_b mX7_fault) 11 = .ok (.iload_n 1, 1) := by decide +kernel
theorem dX7_fault_12 : decode (am_b mX7_fault) 12 = .ok (.invokevirtual 144, 3) := by decide +kernel
theorem dX7_fault_15 : decode (am_b mX7_fault) 15 = .ok (.istore_n 3, 1) := by decide +kernel
theorem dX7_fault_16 : decode (am_b mX7_fault) 16 = .ok (.iload_n 3, 1) := by decide +kernel
theorem dX7_fault_17 : decode (am_b mX7_fault) 17 = .ok (.ifCond .ge 7, 3) := by decide +kernel
theorem dX7_fault_20 : decode (am_b mX7_fault) 20 = .ok (.iconst (-1), 1) := by decide +kernel
theorem dX7_fault_21 : decode (am_b mX7_fault) 21 = .ok (.iload_n 3, 1) := by decide +kernel
theorem dX7_fault_22 : decode (am_b mX7_fault) 22 = .ok (.isub, 1) := by decide +kernel
theorem dX7_fault_23 : decode (am_b mX7_fault) 23 = .ok (.ireturn, 1) := by decide +kernel
theorem dX7_fault_24 : decode (am_b mX7_fault) 24 = .ok (.iload_n 3, 1) := by decide +kernel
theorem dX7_fault_25 : decode (am_b mX7_fault) 25 = .ok (.aload_n 0, 1) := by decide +kernel
theorem dX7_fault_26 : decode (am_b mX7_fault) 26 = .ok (.getfield 130, 3) := by decide +kernel
theorem dX7_fault_29 : decode (am_b mX7_fault) 29 = .ok (.if_icmp .ne 6, 3) := by decide +kernel
theorem dX7_fault_32 : decode (am_b mX7_fault) 32 = .ok (.bipush (-6), 2) := by decide +kernel
theorem dX7_fault_34 : decode (am_b mX7_fault) 34 = .ok (.ireturn, 1) := by decide +kernel
theorem dX7_fault_35 : decode (am_b mX7_fault) 35 = .ok (.aload_n 0, 1) := by decide +kernel
theorem dX7_fault_36 : decode (am_b mX7_fault) 36 = .ok (.iload_n 3, 1) := by decide +kernel
theorem dX7_fault_37 : decode (am_b mX7_fault) 37 = .ok (.invokevirtual 138, 3) := by decide +kernel
theorem dX7_fault_40 : decode (am_b mX7_fault) 40 = .ok (.bipush 44, 2) := by decide +kernel
theorem dX7_fault_42 : decode (am_b mX7_fault) 42 = .ok (.if_icmp .ne 9, 3) := by decide +kernel
theorem dX7_fault_45 : decode (am_b mX7_fault) 45 = .ok (.iload_n 2, 1) := by decide +kernel
theorem dX7_fault_46 : decode (am_b mX7_fault) 46 = .ok (.bipush 8, 2) := by decide +kernel
theorem dX7_fault_48 : decode (am_b mX7_fault) 48 = .ok (.if_icmp .ne 5, 3) := by decide +kernel
theorem dX7_fault_51 : decode (am_b mX7_fault) 51 = .ok (.iload_n 3, 1) := by decide +kernel
theorem dX7_fault_52 : decode (am_b mX7_fault) 52 = .ok (.ireturn, 1) := by decide +kernel
theorem dX7_fault_53 : decode (am_b mX7_fault) 53 = .ok (.iload_n 3, 1) := by decide +kernel
theorem dX7_fault_54 : decode (am_b mX7_fault) 54 = .ok (.iconst 1, 1) := by decide +kernel
theorem dX7_fault_55 : decode (am_b mX7_fault) 55 = .ok (.iadd, 1) := by decide +kernel
theorem dX7_fault_56 : decode (am_b mX7_fault) 56 = .ok (.istore_n 1, 1) := by decide +kernel
theorem dX7_fault_57 : decode (am_b mX7_fault) 57 = .ok (.iinc 2 1, 3) := by decide +kernel
theorem dX7_fault_60 : decode (am_b mX7_fault) 60 = .ok (.goto (-56), 3) := by decide +kernel
theorem dX7_fault_63 : decode (am_b mX7_fault) 63 = .ok (.bipush (-6), 2) := by decide +kernel
theorem dX7_fault_65 : decode (am_b mX7_fault) 65 = .ok (.ireturn, 1) := by decide +kernel
theorem dX7_isHidden_0 : decode (am_b mX7_isHidden) 0 = .ok (.iconst 0, 1) := by decide +kernel
theorem dX7_isHidden_1 : decode (am_b mX7_isHidden) 1 = .ok (.istore_n 3, 1) := by decide +kernel
theorem dX7_isHidden_2 : decode (am_b mX7_isHidden) 2 = .ok (.iconst 0, 1) := by decide +kernel
theorem dX7_isHidden_3 : decode (am_b mX7_isHidden) 3 = .ok (.istore 4, 2) := by decide +kernel
theorem dX7_isHidden_5 : decode (am_b mX7_isHidden) 5 = .ok (.iload 4, 2) := by decide +kernel
theorem dX7_isHidden_7 : decode (am_b mX7_isHidden) 7 = .ok (.aload_n 0, 1) := by decide +kernel
theorem dX7_isHidden_8 : decode (am_b mX7_isHidden) 8 = .ok (.getfield 7, 3) := by decide +kernel
theorem dX7_isHidden_11 : decode (am_b mX7_isHidden) 11 = .ok (.bipush 7, 2) := by decide +kernel
theorem dX7_isHidden_13 : decode (am_b mX7_isHidden) 13 = .ok (.iaload, 1) := by decide +kernel
theorem dX7_isHidden_14 : decode (am_b mX7_isHidden) 14 = .ok (.if_icmp .ge 30, 3) := by decide +kernel
theorem dX7_isHidden_17 : decode (am_b mX7_isHidden) 17 = .ok (.iload_n 3, 1) := by decide +kernel
theorem dX7_isHidden_18 : decode (am_b mX7_isHidden) 18 = .ok (.ifCond .ne 14, 3) := by decide +kernel
theorem dX7_isHidden_21 : decode (am_b mX7_isHidden) 21 = .ok (.aload_n 0, 1) := by decide +kernel
theorem dX7_isHidden_22 : decode (am_b mX7_isHidden) 22 = .ok (.iload 4, 2) := by decide +kernel
theorem dX7_isHidden_24 : decode (am_b mX7_isHidden) 24 = .ok (.iload_n 1, 1) := by decide +kernel
theorem dX7_isHidden_25 : decode (am_b mX7_isHidden) 25 = .ok (.iload_n 2, 1) := by decide +kernel
theorem dX7_isHidden_26 : decode (am_b mX7_isHidden) 26 = .ok (.invokevirtual 115, 3) := by decide +kernel
theorem dX7_isHidden_29 : decode (am_b mX7_isHidden) 29 = .ok (.ifCond .eq 7, 3) := by decide +kernel
theorem dX7_isHidden_32 : decode (am_b mX7_isHidden) 32 = .ok (.iconst 1, 1) := by decide +kernel
theorem dX7_isHidden_33 : decode (am_b mX7_isHidden) 33 = .ok (.goto 4, 3) := by decide +kernel
theorem dX7_isHidden_36 : decode (am_b mX7_isHidden) 36 = .ok (.iconst 0, 1) := by decide +kernel
theorem dX7_isHidden_37 : decode (am_b mX7_isHidden) 37 = .ok (.istore_n 3, 1) := by decide +kernel
theorem dX7_isHidden_38 : decode (am_b mX7_isHidden) 38 = .ok (.iinc 4 1, 3) := by decide +kernel
theorem dX7_isHidden_41 : decode (am_b mX7_isHidden) 41 = .ok (.goto (-36), 3) := by decide +kernel
theorem dX7_isHidden_44 : decode (am_b mX7_isHidden) 44 = .ok (.iload_n 3, 1) := by decide +kernel
theorem dX7_isHidden_45 : decode (am_b mX7_isHidden) 45 = .ok (.ireturn, 1) := by decide +kernel
theorem dX7_pitchOf_0 : decode (am_b mX7_pitchOf) 0 = .ok (.aload_n 0, 1) := by decide +kernel
theorem dX7_pitchOf_1 : decode (am_b mX7_pitchOf) 1 = .ok (.iload_n 1, 1) := by decide +kernel
theorem dX7_pitchOf_2 : decode (am_b mX7_pitchOf) 2 = .ok (.invokevirtual 144, 3) := by decide +kernel
theorem dX7_pitchOf_5 : decode (am_b mX7_pitchOf) 5 = .ok (.istore_n 2, 1) := by decide +kernel
theorem dX7_pitchOf_6 : decode (am_b mX7_pitchOf) 6 = .ok (.iload_n 2, 1) := by decide +kernel
theorem dX7_pitchOf_7 : decode (am_b mX7_pitchOf) 7 = .ok (.iload_n 1, 1) := by decide +kernel
theorem dX7_pitchOf_8 : decode (am_b mX7_pitchOf) 8 = .ok (.iconst 1, 1) := by decide +kernel
theorem dX7_pitchOf_9 : decode (am_b mX7_pitchOf) 9 = .ok (.iadd, 1) := by decide +kernel
theorem dX7_pitchOf_10 : decode (am_b mX7_pitchOf) 10 = .ok (.if_icmp .ne 7, 3) := by decide +kernel
theorem dX7_pitchOf_13 : decode (am_b mX7_pitchOf) 13 = .ok (.iconst (-1), 1) := by decide +kernel
theorem dX7_pitchOf_14 : decode (am_b mX7_pitchOf) 14 = .ok (.goto 30, 3) := by decide +kernel
theorem dX7_pitchOf_17 : decode (am_b mX7_pitchOf) 17 = .ok (.iload_n 2, 1) := by decide +kernel
theorem dX7_pitchOf_18 : decode (am_b mX7_pitchOf) 18 = .ok (.iload_n 1, 1) := by decide +kernel
theorem dX7_pitchOf_19 : decode (am_b mX7_pitchOf) 19 = .ok (.iconst 3, 1) := by decide +kernel
theorem dX7_pitchOf_20 : decode (am_b mX7_pitchOf) 20 = .ok (.iadd, 1) := by decide +kernel
theorem dX7_pitchOf_21 : decode (am_b mX7_pitchOf) 21 = .ok (.if_icmp .ne 13, 3) := by decide +kernel
theorem dX7_pitchOf_24 : decode (am_b mX7_pitchOf) 24 = .ok (.aload_n 0, 1) := by decide +kernel
theorem dX7_pitchOf_25 : decode (am_b mX7_pitchOf) 25 = .ok (.iload_n 1, 1) := by decide +kernel
theorem dX7_pitchOf_26 : decode (am_b mX7_pitchOf) 26 = .ok (.iconst 2, 1) := by decide +kernel
theorem dX7_pitchOf_27 : decode (am_b mX7_pitchOf) 27 = .ok (.iadd, 1) := by decide +kernel
theorem dX7_pitchOf_28 : decode (am_b mX7_pitchOf) 28 = .ok (.invokevirtual 141, 3) := by decide +kernel
theorem dX7_pitchOf_31 : decode (am_b mX7_pitchOf) 31 = .ok (.goto 13, 3) := by decide +kernel
theorem dX7_pitchOf_34 : decode (am_b mX7_pitchOf) 34 = .ok (.bipush 10, 2) := by decide +kernel
theorem dX7_pitchOf_36 : decode (am_b mX7_pitchOf) 36 = .ok (.aload_n 0, 1) := by decide +kernel
theorem dX7_pitchOf_37 : decode (am_b mX7_pitchOf) 37 = .ok (.iload_n 1, 1) := by decide +kernel
theorem dX7_pitchOf_38 : decode (am_b mX7_pitchOf) 38 = .ok (.iconst 3, 1) := by decide +kernel
theorem dX7_pitchOf_39 : decode (am_b mX7_pitchOf) 39 = .ok (.iadd, 1) := by decide +kernel
theorem dX7_pitchOf_40 : decode (am_b mX7_pitchOf) 40 = .ok (.invokevirtual 141, 3) := by decide +kernel
theorem dX7_pitchOf_43 : decode (am_b mX7_pitchOf) 43 = .ok (.iadd, 1) := by decide +kernel
theorem dX7_pitchOf_44 : decode (am_b mX7_pitchOf) 44 = .ok (.ireturn, 1) := by decide +kernel
theorem dX7_stand_0 : decode (am_b mX7_stand) 0 = .ok (.aload_n 0, 1) := by decide +kernel
theorem dX7_stand_1 : decode (am_b mX7_stand) 1 = .ok (.iload_n 1, 1) := by decide +kernel
theorem dX7_stand_2 : decode (am_b mX7_stand) 2 = .ok (.invokevirtual 100, 3) := by decide +kernel
theorem dX7_stand_5 : decode (am_b mX7_stand) 5 = .ok (.ifCond .eq 16, 3) := by decide +kernel
theorem dX7_stand_8 : decode (am_b mX7_stand) 8 = .ok (.iload_n 2, 1) := by decide +kernel
theorem dX7_stand_9 : decode (am_b mX7_stand) 9 = .ok (.bipush (-6), 2) := by decide +kernel
theorem dX7_stand_11 : decode (am_b mX7_stand) 11 = .ok (.if_icmp .eq 12, 3) := by decide +kernel
theorem dX7_stand_14 : decode (am_b mX7_stand) 14 = .ok (.iload_n 2, 1) := by decide +kernel
theorem dX7_stand_15 : decode (am_b mX7_stand) 15 = .ok (.invokestatic 89, 3) := by decide +kernel
theorem dX7_stand_18 : decode (am_b mX7_stand) 18 = .ok (.ifCond .ne 5, 3) := by decide +kernel
theorem dX7_stand_21 : decode (am_b mX7_stand) 21 = .ok (.iconst (-1), 1) := by decide +kernel
theorem dX7_stand_22 : decode (am_b mX7_stand) 22 = .ok (.ireturn, 1) := by decide +kernel
theorem dX7_stand_23 : decode (am_b mX7_stand) 23 = .ok (.iload_n 2, 1) := by decide +kernel
theorem dX7_stand_24 : decode (am_b mX7_stand) 24 = .ok (.bipush (-6), 2) := by decide +kernel
theorem dX7_stand_26 : decode (am_b mX7_stand) 26 = .ok (.if_icmp .eq 15, 3) := by decide +kernel
theorem dX7_stand_29 : decode (am_b mX7_stand) 29 = .ok (.aload_n 0, 1) := by decide +kernel
theorem dX7_stand_30 : decode (am_b mX7_stand) 30 = .ok (.iload_n 1, 1) := by decide +kernel
theorem dX7_stand_31 : decode (am_b mX7_stand) 31 = .ok (.iload_n 2, 1) := by decide +kernel
theorem dX7_stand_32 : decode (am_b mX7_stand) 32 = .ok (.invokevirtual 106, 3) := by decide +kernel
theorem dX7_stand_35 : decode (am_b mX7_stand) 35 = .ok (.ifCond .eq 6, 3) := by decide +kernel
theorem dX7_stand_38 : decode (am_b mX7_stand) 38 = .ok (.bipush (-5), 2) := by decide +kernel
theorem dX7_stand_40 : decode (am_b mX7_stand) 40 = .ok (.ireturn, 1) := by decide +kernel
theorem dX7_stand_41 : decode (am_b mX7_stand) 41 = .ok (.aload_n 0, 1) := by decide +kernel
theorem dX7_stand_42 : decode (am_b mX7_stand) 42 = .ok (.invokevirtual 86, 3) := by decide +kernel
theorem dX7_stand_45 : decode (am_b mX7_stand) 45 = .ok (.aload_n 0, 1) := by decide +kernel
theorem dX7_stand_46 : decode (am_b mX7_stand) 46 = .ok (.iload_n 1, 1) := by decide +kernel
theorem dX7_stand_47 : decode (am_b mX7_stand) 47 = .ok (.iconst 1, 1) := by decide +kernel
theorem dX7_stand_48 : decode (am_b mX7_stand) 48 = .ok (.invokevirtual 103, 3) := by decide +kernel
theorem dX7_stand_51 : decode (am_b mX7_stand) 51 = .ok (.istore_n 3, 1) := by decide +kernel
theorem dX7_stand_52 : decode (am_b mX7_stand) 52 = .ok (.aload_n 0, 1) := by decide +kernel
theorem dX7_stand_53 : decode (am_b mX7_stand) 53 = .ok (.getfield 7, 3) := by decide +kernel
theorem dX7_stand_56 : decode (am_b mX7_stand) 56 = .ok (.iconst 0, 1) := by decide +kernel
theorem dX7_stand_57 : decode (am_b mX7_stand) 57 = .ok (.iload_n 1, 1) := by decide +kernel
theorem dX7_stand_58 : decode (am_b mX7_stand) 58 = .ok (.invokestatic 36, 3) := by decide +kernel
theorem dX7_stand_61 : decode (am_b mX7_stand) 61 = .ok (.iconst 1, 1) := by decide +kernel
theorem dX7_stand_62 : decode (am_b mX7_stand) 62 = .ok (.iadd, 1) := by decide +kernel
theorem dX7_stand_63 : decode (am_b mX7_stand) 63 = .ok (.iload_n 2, 1) := by decide +kernel
theorem dX7_stand_64 : decode (am_b mX7_stand) 64 = .ok (.bipush (-6), 2) := by decide +kernel
theorem dX7_stand_66 : decode (am_b mX7_stand) 66 = .ok (.if_icmp .ne 7, 3) := by decide +kernel
theorem dX7_stand_69 : decode (am_b mX7_stand) 69 = .ok (.iconst (-1), 1) := by decide +kernel
theorem dX7_stand_70 : decode (am_b mX7_stand) 70 = .ok (.goto 4, 3) := by decide +kernel
theorem dX7_stand_73 : decode (am_b mX7_stand) 73 = .ok (.iload_n 2, 1) := by decide +kernel
theorem dX7_stand_74 : decode (am_b mX7_stand) 74 = .ok (.iastore, 1) := by decide +kernel
theorem dX7_stand_75 : decode (am_b mX7_stand) 75 = .ok (.iload_n 3, 1) := by decide +kernel
theorem dX7_stand_76 : decode (am_b mX7_stand) 76 = .ok (.ifCond .ge 8, 3) := by decide +kernel
theorem dX7_stand_79 : decode (am_b mX7_stand) 79 = .ok (.bipush (-6), 2) := by decide +kernel
theorem dX7_stand_81 : decode (am_b mX7_stand) 81 = .ok (.goto 4, 3) := by decide +kernel
theorem dX7_stand_84 : decode (am_b mX7_stand) 84 = .ok (.iload_n 3, 1) := by decide +kernel
theorem dX7_stand_85 : decode (am_b mX7_stand) 85 = .ok (.ireturn, 1) := by decide +kernel
theorem dX7_crowd_0 : decode (am_b mX7_crowd) 0 = .ok (.aload_n 0, 1) := by decide +kernel
theorem dX7_crowd_1 : decode (am_b mX7_crowd) 1 = .ok (.iconst 0, 1) := by decide +kernel
theorem dX7_crowd_2 : decode (am_b mX7_crowd) 2 = .ok (.invokevirtual 50, 3) := by decide +kernel
theorem dX7_crowd_5 : decode (am_b mX7_crowd) 5 = .ok (.istore_n 3, 1) := by decide +kernel
theorem dX7_crowd_6 : decode (am_b mX7_crowd) 6 = .ok (.iload_n 2, 1) := by decide +kernel
theorem dX7_crowd_7 : decode (am_b mX7_crowd) 7 = .ok (.iconst 2, 1) := by decide +kernel
theorem dX7_crowd_8 : decode (am_b mX7_crowd) 8 = .ok (.if_icmp .ne 11, 3) := by decide +kernel
theorem dX7_crowd_11 : decode (am_b mX7_crowd) 11 = .ok (.aload_n 0, 1) := by decide +kernel
theorem dX7_crowd_12 : decode (am_b mX7_crowd) 12 = .ok (.iload_n 1, 1) := by decide +kernel
theorem dX7_crowd_13 : decode (am_b mX7_crowd) 13 = .ok (.invokevirtual 54, 3) := by decide +kernel
theorem dX7_crowd_16 : decode (am_b mX7_crowd) 16 = .ok (.goto 15, 3) := by decide +kernel
theorem dX7_crowd_19 : decode (am_b mX7_crowd) 19 = .ok (.aload_n 0, 1) := by decide +kernel
theorem dX7_crowd_20 : decode (am_b mX7_crowd) 20 = .ok (.getfield 26, 3) := by decide +kernel
theorem dX7_crowd_23 : decode (am_b mX7_crowd) 23 = .ok (.iconst 2, 1) := by decide +kernel
theorem dX7_crowd_24 : decode (am_b mX7_crowd) 24 = .ok (.iload_n 1, 1) := by decide +kernel
theorem dX7_crowd_25 : decode (am_b mX7_crowd) 25 = .ok (.imul, 1) := by decide +kernel
theorem dX7_crowd_26 : decode (am_b mX7_crowd) 26 = .ok (.iload_n 2, 1) := by decide +kernel
theorem dX7_crowd_27 : decode (am_b mX7_crowd) 27 = .ok (.iadd, 1) := by decide +kernel
theorem dX7_crowd_28 : decode (am_b mX7_crowd) 28 = .ok (.iconst 3, 1) := by decide +kernel
theorem dX7_crowd_29 : decode (am_b mX7_crowd) 29 = .ok (.isub, 1) := by decide +kernel
theorem dX7_crowd_30 : decode (am_b mX7_crowd) 30 = .ok (.iaload, 1) := by decide +kernel
theorem dX7_crowd_31 : decode (am_b mX7_crowd) 31 = .ok (.ireturn, 1) := by decide +kernel
theorem dX7_crowdAt_0 : decode (am_b mX7_crowdAt) 0 = .ok (.aload_n 0, 1) := by decide +kernel
theorem dX7_crowdAt_1 : decode (am_b mX7_crowdAt) 1 = .ok (.getfield 7, 3) := by decide +kernel
theorem dX7_crowdAt_4 : decode (am_b mX7_crowdAt) 4 = .ok (.iload_n 1, 1) := by decide +kernel
theorem dX7_crowdAt_5 : decode (am_b mX7_crowdAt) 5 = .ok (.iload_n 2, 1) := by decide +kernel
theorem dX7_crowdAt_6 : decode (am_b mX7_crowdAt) 6 = .ok (.invokestatic 36, 3) := by decide +kernel
theorem dX7_crowdAt_9 : decode (am_b mX7_crowdAt) 9 = .ok (.iconst 1, 1) := by decide +kernel
theorem dX7_crowdAt_10 : decode (am_b mX7_crowdAt) 10 = .ok (.iadd, 1) := by decide +kernel
theorem dX7_crowdAt_11 : decode (am_b mX7_crowdAt) 11 = .ok (.iaload, 1) := by decide +kernel
theorem dX7_crowdAt_12 : decode (am_b mX7_crowdAt) 12 = .ok (.istore 4, 2) := by decide +kernel
theorem dX7_crowdAt_14 : decode (am_b mX7_crowdAt) 14 = .ok (.aload_n 0, 1) := by decide +kernel
theorem dX7_crowdAt_15 : decode (am_b mX7_crowdAt) 15 = .ok (.getfield 7, 3) := by decide +kernel
theorem dX7_crowdAt_18 : decode (am_b mX7_crowdAt) 18 = .ok (.iload_n 1, 1) := by decide +kernel
theorem dX7_crowdAt_19 : decode (am_b mX7_crowdAt) 19 = .ok (.iload_n 2, 1) := by decide +kernel
theorem dX7_crowdAt_20 : decode (am_b mX7_crowdAt) 20 = .ok (.invokestatic 36, 3) := by decide +kernel
theorem dX7_crowdAt_23 : decode (am_b mX7_crowdAt) 23 = .ok (.iconst 1, 1) := by decide +kernel
theorem dX7_crowdAt_24 : decode (am_b mX7_crowdAt) 24 = .ok (.iadd, 1) := by decide +kernel
theorem dX7_crowdAt_25 : decode (am_b mX7_crowdAt) 25 = .ok (.iload_n 3, 1) := by decide +kernel
theorem dX7_crowdAt_26 : decode (am_b mX7_crowdAt) 26 = .ok (.iastore, 1) := by decide +kernel
theorem dX7_crowdAt_27 : decode (am_b mX7_crowdAt) 27 = .ok (.aload_n 0, 1) := by decide +kernel
theorem dX7_crowdAt_28 : decode (am_b mX7_crowdAt) 28 = .ok (.iload_n 1, 1) := by decide +kernel
theorem dX7_crowdAt_29 : decode (am_b mX7_crowdAt) 29 = .ok (.invokevirtual 50, 3) := by decide +kernel
theorem dX7_crowdAt_32 : decode (am_b mX7_crowdAt) 32 = .ok (.istore 5, 2) := by decide +kernel
theorem dX7_crowdAt_34 : decode (am_b mX7_crowdAt) 34 = .ok (.aload_n 0, 1) := by decide +kernel
theorem dX7_crowdAt_35 : decode (am_b mX7_crowdAt) 35 = .ok (.getfield 7, 3) := by decide +kernel
theorem dX7_crowdAt_38 : decode (am_b mX7_crowdAt) 38 = .ok (.iload_n 1, 1) := by decide +kernel
theorem dX7_crowdAt_39 : decode (am_b mX7_crowdAt) 39 = .ok (.iload_n 2, 1) := by decide +kernel
theorem dX7_crowdAt_40 : decode (am_b mX7_crowdAt) 40 = .ok (.invokestatic 36, 3) := by decide +kernel
theorem dX7_crowdAt_43 : decode (am_b mX7_crowdAt) 43 = .ok (.iconst 1, 1) := by decide +kernel
theorem dX7_crowdAt_44 : decode (am_b mX7_crowdAt) 44 = .ok (.iadd, 1) := by decide +kernel
theorem dX7_crowdAt_45 : decode (am_b mX7_crowdAt) 45 = .ok (.iload 4, 2) := by decide +kernel
theorem dX7_crowdAt_47 : decode (am_b mX7_crowdAt) 47 = .ok (.iastore, 1) := by decide +kernel
theorem dX7_crowdAt_48 : decode (am_b mX7_crowdAt) 48 = .ok (.aload_n 0, 1) := by decide +kernel
theorem dX7_crowdAt_49 : decode (am_b mX7_crowdAt) 49 = .ok (.iload_n 2, 1) := by decide +kernel
theorem dX7_crowdAt_50 : decode (am_b mX7_crowdAt) 50 = .ok (.invokevirtual 54, 3) := by decide +kernel
theorem dX7_crowdAt_53 : decode (am_b mX7_crowdAt) 53 = .ok (.ireturn, 1) := by decide +kernel
theorem dX7_crowdsNow_0 : decode (am_b mX7_crowdsNow) 0 = .ok (.aload_n 0, 1) := by decide +kernel
theorem dX7_crowdsNow_1 : decode (am_b mX7_crowdsNow) 1 = .ok (.iconst 0, 1) := by decide +kernel
theorem dX7_crowdsNow_2 : decode (am_b mX7_crowdsNow) 2 = .ok (.invokevirtual 50, 3) := by decide +kernel
theorem dX7_crowdsNow_5 : decode (am_b mX7_crowdsNow) 5 = .ok (.istore_n 1, 1) := by decide +kernel
theorem dX7_crowdsNow_6 : decode (am_b mX7_crowdsNow) 6 = .ok (.aload_n 0, 1) := by decide +kernel
theorem dX7_crowdsNow_7 : decode (am_b mX7_crowdsNow) 7 = .ok (.getfield 7, 3) := by decide +kernel
theorem dX7_crowdsNow_10 : decode (am_b mX7_crowdsNow) 10 = .ok (.iconst 0, 1) := by decide +kernel
theorem dX7_crowdsNow_11 : decode (am_b mX7_crowdsNow) 11 = .ok (.iaload, 1) := by decide +kernel
theorem dX7_crowdsNow_12 : decode (am_b mX7_crowdsNow) 12 = .ok (.aload_n 0, 1) := by decide +kernel
theorem dX7_crowdsNow_13 : decode (am_b mX7_crowdsNow) 13 = .ok (.getfield 7, 3) := by decide +kernel
theorem dX7_crowdsNow_16 : decode (am_b mX7_crowdsNow) 16 = .ok (.iconst 1, 1) := by decide +kernel
theorem dX7_crowdsNow_17 : decode (am_b mX7_crowdsNow) 17 = .ok (.iaload, 1) := by decide +kernel
theorem dX7_crowdsNow_18 : decode (am_b mX7_crowdsNow) 18 = .ok (.iadd, 1) := by decide +kernel
theorem dX7_crowdsNow_19 : decode (am_b mX7_crowdsNow) 19 = .ok (.iload_n 1, 1) := by decide +kernel
theorem dX7_crowdsNow_20 : decode (am_b mX7_crowdsNow) 20 = .ok (.isub, 1) := by decide +kernel
theorem dX7_crowdsNow_21 : decode (am_b mX7_crowdsNow) 21 = .ok (.ireturn, 1) := by decide +kernel
theorem dX7_isTwice_0 : decode (am_b mX7_isTwice) 0 = .ok (.iconst 0, 1) := by decide +kernel
theorem dX7_isTwice_1 : decode (am_b mX7_isTwice) 1 = .ok (.istore_n 1, 1) := by decide +kernel
theorem dX7_isTwice_2 : decode (am_b mX7_isTwice) 2 = .ok (.iconst 0, 1) := by decide +kernel
theorem dX7_isTwice_3 : decode (am_b mX7_isTwice) 3 = .ok (.istore_n 2, 1) := by decide +kernel
theorem dX7_isTwice_4 : decode (am_b mX7_isTwice) 4 = .ok (.iconst 0, 1) := by decide +kernel
theorem dX7_isTwice_5 : decode (am_b mX7_isTwice) 5 = .ok (.istore_n 3, 1) := by decide +kernel
theorem dX7_isTwice_6 : decode (am_b mX7_isTwice) 6 = .ok (.iload_n 3, 1) := by decide +kernel
theorem dX7_isTwice_7 : decode (am_b mX7_isTwice) 7 = .ok (.aload_n 0, 1) := by decide +kernel
theorem dX7_isTwice_8 : decode (am_b mX7_isTwice) 8 = .ok (.getfield 130, 3) := by decide +kernel
theorem dX7_isTwice_11 : decode (am_b mX7_isTwice) 11 = .ok (.if_icmp .ge 62, 3) := by decide +kernel
theorem dX7_isTwice_14 : decode (am_b mX7_isTwice) 14 = .ok (.aload_n 0, 1) := by decide +kernel
theorem dX7_isTwice_15 : decode (am_b mX7_isTwice) 15 = .ok (.iload_n 3, 1) := by decide +kernel
theorem dX7_isTwice_16 : decode (am_b mX7_isTwice) 16 = .ok (.invokevirtual 147, 3) := by decide +kernel
theorem dX7_isTwice_19 : decode (am_b mX7_isTwice) 19 = .ok (.istore 4, 2) := by decide +kernel
theorem dX7_isTwice_21 : decode (am_b mX7_isTwice) 21 = .ok (.iload_n 2, 1) := by decide +kernel
theorem dX7_isTwice_22 : decode (am_b mX7_isTwice) 22 = .ok (.ifCond .ne 18, 3) := by decide +kernel
theorem dX7_isTwice_25 : decode (am_b mX7_isTwice) 25 = .ok (.iload 4, 2) := by decide +kernel
theorem dX7_isTwice_27 : decode (am_b mX7_isTwice) 27 = .ok (.ifCond .lt 17, 3) := by decide +kernel
theorem dX7_isTwice_30 : decode (am_b mX7_isTwice) 30 = .ok (.iload_n 1, 1) := by decide +kernel
theorem dX7_isTwice_31 : decode (am_b mX7_isTwice) 31 = .ok (.iload 4, 2) := by decide +kernel
theorem dX7_isTwice_33 : decode (am_b mX7_isTwice) 33 = .ok (.ishr, 1) := by decide +kernel
theorem dX7_isTwice_34 : decode (am_b mX7_isTwice) 34 = .ok (.iconst 1, 1) := by decide +kernel
theorem dX7_isTwice_35 : decode (am_b mX7_isTwice) 35 = .ok (.iand, 1) := by decide +kernel
theorem dX7_isTwice_36 : decode (am_b mX7_isTwice) 36 = .ok (.iconst 1, 1) := by decide +kernel
theorem dX7_isTwice_37 : decode (am_b mX7_isTwice) 37 = .ok (.if_icmp .ne 7, 3) := by decide +kernel
theorem dX7_isTwice_40 : decode (am_b mX7_isTwice) 40 = .ok (.iconst 1, 1) := by decide +kernel
theorem dX7_isTwice_41 : decode (am_b mX7_isTwice) 41 = .ok (.goto 4, 3) := by decide +kernel
theorem dX7_isTwice_44 : decode (am_b mX7_isTwice) 44 = .ok (.iconst 0, 1) := by decide +kernel
theorem dX7_isTwice_45 : decode (am_b mX7_isTwice) 45 = .ok (.istore_n 2, 1) := by decide +kernel
theorem dX7_isTwice_46 : decode (am_b mX7_isTwice) 46 = .ok (.iload_n 1, 1) := by decide +kernel
theorem dX7_isTwice_47 : decode (am_b mX7_isTwice) 47 = .ok (.iload 4, 2) := by decide +kernel
theorem dX7_isTwice_49 : decode (am_b mX7_isTwice) 49 = .ok (.ifCond .lt 10, 3) := by decide +kernel
theorem dX7_isTwice_52 : decode (am_b mX7_isTwice) 52 = .ok (.iconst 1, 1) := by decide +kernel
theorem dX7_isTwice_53 : decode (am_b mX7_isTwice) 53 = .ok (.iload 4, 2) := by decide +kernel
theorem dX7_isTwice_55 : decode (am_b mX7_isTwice) 55 = .ok (.ishl, 1) := by decide +kernel
theorem dX7_isTwice_56 : decode (am_b mX7_isTwice) 56 = .ok (.goto 4, 3) := by decide +kernel
theorem dX7_isTwice_59 : decode (am_b mX7_isTwice) 59 = .ok (.iconst 0, 1) := by decide +kernel
theorem dX7_isTwice_60 : decode (am_b mX7_isTwice) 60 = .ok (.ior, 1) := by decide +kernel
theorem dX7_isTwice_61 : decode (am_b mX7_isTwice) 61 = .ok (.istore_n 1, 1) := by decide +kernel
theorem dX7_isTwice_62 : decode (am_b mX7_isTwice) 62 = .ok (.aload_n 0, 1) := by decide +kernel
theorem dX7_isTwice_63 : decode (am_b mX7_isTwice) 63 = .ok (.iload_n 3, 1) := by decide +kernel
theorem dX7_isTwice_64 : decode (am_b mX7_isTwice) 64 = .ok (.invokevirtual 144, 3) := by decide +kernel
theorem dX7_isTwice_67 : decode (am_b mX7_isTwice) 67 = .ok (.iconst 1, 1) := by decide +kernel
theorem dX7_isTwice_68 : decode (am_b mX7_isTwice) 68 = .ok (.iadd, 1) := by decide +kernel
theorem dX7_isTwice_69 : decode (am_b mX7_isTwice) 69 = .ok (.istore_n 3, 1) := by decide +kernel
theorem dX7_isTwice_70 : decode (am_b mX7_isTwice) 70 = .ok (.goto (-64), 3) := by decide +kernel
theorem dX7_isTwice_73 : decode (am_b mX7_isTwice) 73 = .ok (.iload_n 2, 1) := by decide +kernel
theorem dX7_isTwice_74 : decode (am_b mX7_isTwice) 74 = .ok (.ireturn, 1) := by decide +kernel
theorem dX7_seen_0 : decode (am_b mX7_seen) 0 = .ok (.aload_n 0, 1) := by decide +kernel
theorem dX7_seen_1 : decode (am_b mX7_seen) 1 = .ok (.iload_n 1, 1) := by decide +kernel
theorem dX7_seen_2 : decode (am_b mX7_seen) 2 = .ok (.invokevirtual 100, 3) := by decide +kernel
theorem dX7_seen_5 : decode (am_b mX7_seen) 5 = .ok (.ifCond .ne 5, 3) := by decide +kernel
theorem dX7_seen_8 : decode (am_b mX7_seen) 8 = .ok (.iconst (-1), 1) := by decide +kernel
theorem dX7_seen_9 : decode (am_b mX7_seen) 9 = .ok (.ireturn, 1) := by decide +kernel
theorem dX7_seen_10 : decode (am_b mX7_seen) 10 = .ok (.iload_n 2, 1) := by decide +kernel
theorem dX7_seen_11 : decode (am_b mX7_seen) 11 = .ok (.iconst 0, 1) := by decide +kernel
theorem dX7_seen_12 : decode (am_b mX7_seen) 12 = .ok (.iconst 1, 1) := by decide +kernel
theorem dX7_seen_13 : decode (am_b mX7_seen) 13 = .ok (.invokestatic 32, 3) := by decide +kernel
theorem dX7_seen_16 : decode (am_b mX7_seen) 16 = .ok (.ifCond .eq 12, 3) := by decide +kernel
theorem dX7_seen_19 : decode (am_b mX7_seen) 19 = .ok (.iload_n 3, 1) := by decide +kernel
theorem dX7_seen_20 : decode (am_b mX7_seen) 20 = .ok (.iconst 0, 1) := by decide +kernel
theorem dX7_seen_21 : decode (am_b mX7_seen) 21 = .ok (.iconst 1, 1) := by decide +kernel
theorem dX7_seen_22 : decode (am_b mX7_seen) 22 = .ok (.invokestatic 32, 3) := by decide +kernel
theorem dX7_seen_25 : decode (am_b mX7_seen) 25 = .ok (.ifCond .ne 6, 3) := by decide +kernel
theorem dX7_seen_28 : decode (am_b mX7_seen) 28 = .ok (.bipush (-2), 2) := by decide +kernel
theorem dX7_seen_30 : decode (am_b mX7_seen) 30 = .ok (.ireturn, 1) := by decide +kernel
theorem dX7_seen_31 : decode (am_b mX7_seen) 31 = .ok (.aload_n 0, 1) := by decide +kernel
theorem dX7_seen_32 : decode (am_b mX7_seen) 32 = .ok (.iload_n 1, 1) := by decide +kernel
theorem dX7_seen_33 : decode (am_b mX7_seen) 33 = .ok (.iconst 1, 1) := by decide +kernel
theorem dX7_seen_34 : decode (am_b mX7_seen) 34 = .ok (.invokevirtual 103, 3) := by decide +kernel
theorem dX7_seen_37 : decode (am_b mX7_seen) 37 = .ok (.ifCond .ge 5, 3) := by decide +kernel
theorem dX7_seen_40 : decode (am_b mX7_seen) 40 = .ok (.iconst 0, 1) := by decide +kernel
theorem dX7_seen_41 : decode (am_b mX7_seen) 41 = .ok (.ireturn, 1) := by decide +kernel
theorem dX7_seen_42 : decode (am_b mX7_seen) 42 = .ok (.iload_n 3, 1) := by decide +kernel
theorem dX7_seen_43 : decode (am_b mX7_seen) 43 = .ok (.ifCond .ne 26, 3) := by decide +kernel
theorem dX7_seen_46 : decode (am_b mX7_seen) 46 = .ok (.aload_n 0, 1) := by decide +kernel
theorem dX7_seen_47 : decode (am_b mX7_seen) 47 = .ok (.iload_n 1, 1) := by decide +kernel
theorem dX7_seen_48 : decode (am_b mX7_seen) 48 = .ok (.iload_n 2, 1) := by decide +kernel
theorem dX7_seen_49 : decode (am_b mX7_seen) 49 = .ok (.invokevirtual 118, 3) := by decide +kernel
theorem dX7_seen_52 : decode (am_b mX7_seen) 52 = .ok (.aload_n 0, 1) := by decide +kernel
theorem dX7_seen_53 : decode (am_b mX7_seen) 53 = .ok (.iload_n 1, 1) := by decide +kernel
theorem dX7_seen_54 : decode (am_b mX7_seen) 54 = .ok (.iconst 0, 1) := by decide +kernel
theorem dX7_seen_55 : decode (am_b mX7_seen) 55 = .ok (.invokevirtual 103, 3) := by decide +kernel
theorem dX7_seen_58 : decode (am_b mX7_seen) 58 = .ok (.if_icmp .ge 7, 3) := by decide +kernel
theorem dX7_seen_61 : decode (am_b mX7_seen) 61 = .ok (.iconst 1, 1) := by decide +kernel
theorem dX7_seen_62 : decode (am_b mX7_seen) 62 = .ok (.goto 21, 3) := by decide +kernel
theorem dX7_seen_65 : decode (am_b mX7_seen) 65 = .ok (.iconst 0, 1) := by decide +kernel
theorem dX7_seen_66 : decode (am_b mX7_seen) 66 = .ok (.goto 17, 3) := by decide +kernel
theorem dX7_seen_69 : decode (am_b mX7_seen) 69 = .ok (.aload_n 0, 1) := by decide +kernel
theorem dX7_seen_70 : decode (am_b mX7_seen) 70 = .ok (.iload_n 1, 1) := by decide +kernel
theorem dX7_seen_71 : decode (am_b mX7_seen) 71 = .ok (.iload_n 2, 1) := by decide +kernel
theorem dX7_seen_72 : decode (am_b mX7_seen) 72 = .ok (.invokevirtual 121, 3) := by decide +kernel
theorem dX7_seen_75 : decode (am_b mX7_seen) 75 = .ok (.ifCond .ne 7, 3) := by decide +kernel
theorem dX7_seen_78 : decode (am_b mX7_seen) 78 = .ok (.iconst 1, 1) := by decide +kernel
theorem dX7_seen_79 : decode (am_b mX7_seen) 79 = .ok (.goto 4, 3) := by decide +kernel
theorem dX7_seen_82 : decode (am_b mX7_seen) 82 = .ok (.iconst 0, 1) := by decide +kernel
theorem dX7_seen_83 : decode (am_b mX7_seen) 83 = .ok (.istore 4, 2) := by decide +kernel
theorem dX7_seen_85 : decode (am_b mX7_seen) 85 = .ok (.iload 4, 2) := by decide +kernel
theorem dX7_seen_87 : decode (am_b mX7_seen) 87 = .ok (.ifCond .eq 7, 3) := by decide +kernel
theorem dX7_seen_90 : decode (am_b mX7_seen) 90 = .ok (.iconst 1, 1) := by decide +kernel
theorem dX7_seen_91 : decode (am_b mX7_seen) 91 = .ok (.goto 4, 3) := by decide +kernel
theorem dX7_seen_94 : decode (am_b mX7_seen) 94 = .ok (.iconst 0, 1) := by decide +kernel
theorem dX7_seen_95 : decode (am_b mX7_seen) 95 = .ok (.ireturn, 1) := by decide +kernel
theorem dX7_bestHeight_0 : decode (am_b mX7_bestHeight) 0 = .ok (.aload_n 0, 1) := by decide +kernel
theorem dX7_bestHeight_1 : decode (am_b mX7_bestHeight) 1 = .ok (.iload_n 1, 1) := by decide +kernel
theorem dX7_bestHeight_2 : decode (am_b mX7_bestHeight) 2 = .ok (.invokevirtual 100, 3) := by decide +kernel
theorem dX7_bestHeight_5 : decode (am_b mX7_bestHeight) 5 = .ok (.ifCond .ne 5, 3) := by decide +kernel
theorem dX7_bestHeight_8 : decode (am_b mX7_bestHeight) 8 = .ok (.iconst (-1), 1) := by decide +kernel
theorem dX7_bestHeight_9 : decode (am_b mX7_bestHeight) 9 = .ok (.ireturn, 1) := by decide +kernel
theorem dX7_bestHeight_10 : decode (am_b mX7_bestHeight) 10 = .ok (.aload_n 0, 1) := by decide +kernel
theorem dX7_bestHeight_11 : decode (am_b mX7_bestHeight) 11 = .ok (.iload_n 1, 1) := by decide +kernel
theorem dX7_bestHeight_12 : decode (am_b mX7_bestHeight) 12 = .ok (.iconst 1, 1) := by decide +kernel
theorem dX7_bestHeight_13 : decode (am_b mX7_bestHeight) 13 = .ok (.invokevirtual 103, 3) := by decide +kernel
theorem dX7_bestHeight_16 : decode (am_b mX7_bestHeight) 16 = .ok (.ifCond .ge 6, 3) := by decide +kernel
theorem dX7_bestHeight_19 : decode (am_b mX7_bestHeight) 19 = .ok (.bipush (-5), 2) := by decide +kernel
theorem dX7_bestHeight_21 : decode (am_b mX7_bestHeight) 21 = .ok (.ireturn, 1) := by decide +kernel
theorem dX7_bestHeight_22 : decode (am_b mX7_bestHeight) 22 = .ok (.aload_n 0, 1) := by decide +kernel
theorem dX7_bestHeight_23 : decode (am_b mX7_bestHeight) 23 = .ok (.iload_n 1, 1) := by decide +kernel
theorem dX7_bestHeight_24 : decode (am_b mX7_bestHeight) 24 = .ok (.iconst 0, 1) := by decide +kernel
theorem dX7_bestHeight_25 : decode (am_b mX7_bestHeight) 25 = .ok (.invokevirtual 103, 3) := by decide +kernel
theorem dX7_bestHeight_28 : decode (am_b mX7_bestHeight) 28 = .ok (.istore_n 2, 1) := by decide +kernel
theorem dX7_bestHeight_29 : decode (am_b mX7_bestHeight) 29 = .ok (.iconst 1, 1) := by decide +kernel
theorem dX7_bestHeight_30 : decode (am_b mX7_bestHeight) 30 = .ok (.istore_n 3, 1) := by decide +kernel
theorem dX7_bestHeight_31 : decode (am_b mX7_bestHeight) 31 = .ok (.iconst (-1), 1) := by decide +kernel
theorem dX7_bestHeight_32 : decode (am_b mX7_bestHeight) 32 = .ok (.istore 4, 2) := by decide +kernel
theorem dX7_bestHeight_34 : decode (am_b mX7_bestHeight) 34 = .ok (.iconst 1, 1) := by decide +kernel
theorem dX7_bestHeight_35 : decode (am_b mX7_bestHeight) 35 = .ok (.istore 5, 2) := by decide +kernel
theorem dX7_bestHeight_37 : decode (am_b mX7_bestHeight) 37 = .ok (.iload 5, 2) := by decide +kernel
theorem dX7_bestHeight_39 : decode (am_b mX7_bestHeight) 39 = .ok (.bipush 10, 2) := by decide +kernel
theorem dX7_bestHeight_41 : decode (am_b mX7_bestHeight) 41 = .ok (.if_icmp .ge 61, 3) := by decide +kernel
theorem dX7_bestHeight_44 : decode (am_b mX7_bestHeight) 44 = .ok (.aload_n 0, 1) := by decide +kernel
theorem dX7_bestHeight_45 : decode (am_b mX7_bestHeight) 45 = .ok (.getfield 7, 3) := by decide +kernel
theorem dX7_bestHeight_48 : decode (am_b mX7_bestHeight) 48 = .ok (.iconst 0, 1) := by decide +kernel
theorem dX7_bestHeight_49 : decode (am_b mX7_bestHeight) 49 = .ok (.iload_n 1, 1) := by decide +kernel
theorem dX7_bestHeight_50 : decode (am_b mX7_bestHeight) 50 = .ok (.invokestatic 36, 3) := by decide +kernel
theorem dX7_bestHeight_53 : decode (am_b mX7_bestHeight) 53 = .ok (.iconst 0, 1) := by decide +kernel
theorem dX7_bestHeight_54 : decode (am_b mX7_bestHeight) 54 = .ok (.iadd, 1) := by decide +kernel
theorem dX7_bestHeight_55 : decode (am_b mX7_bestHeight) 55 = .ok (.iload 5, 2) := by decide +kernel
theorem dX7_bestHeight_57 : decode (am_b mX7_bestHeight) 57 = .ok (.iastore, 1) := by decide +kernel
theorem dX7_bestHeight_58 : decode (am_b mX7_bestHeight) 58 = .ok (.aload_n 0, 1) := by decide +kernel
theorem dX7_bestHeight_59 : decode (am_b mX7_bestHeight) 59 = .ok (.iload_n 1, 1) := by decide +kernel
theorem dX7_bestHeight_60 : decode (am_b mX7_bestHeight) 60 = .ok (.iconst 2, 1) := by decide +kernel
theorem dX7_bestHeight_61 : decode (am_b mX7_bestHeight) 61 = .ok (.invokevirtual 112, 3) := by decide +kernel
theorem dX7_bestHeight_64 : decode (am_b mX7_bestHeight) 64 = .ok (.istore 6, 2) := by decide +kernel
theorem dX7_bestHeight_66 : decode (am_b mX7_bestHeight) 66 = .ok (.iload 6, 2) := by decide +kernel
theorem dX7_bestHeight_68 : decode (am_b mX7_bestHeight) 68 = .ok (.iload 4, 2) := by decide +kernel
theorem dX7_bestHeight_70 : decode (am_b mX7_bestHeight) 70 = .ok (.if_icmp .le 8, 3) := by decide +kernel
theorem dX7_bestHeight_73 : decode (am_b mX7_bestHeight) 73 = .ok (.iload 5, 2) := by decide +kernel
theorem dX7_bestHeight_75 : decode (am_b mX7_bestHeight) 75 = .ok (.goto 4, 3) := by decide +kernel
theorem dX7_bestHeight_78 : decode (am_b mX7_bestHeight) 78 = .ok (.iload_n 3, 1) := by decide +kernel
theorem dX7_bestHeight_79 : decode (am_b mX7_bestHeight) 79 = .ok (.istore_n 3, 1) := by decide +kernel
theorem dX7_bestHeight_80 : decode (am_b mX7_bestHeight) 80 = .ok (.iload 6, 2) := by decide +kernel
theorem dX7_bestHeight_82 : decode (am_b mX7_bestHeight) 82 = .ok (.iload 4, 2) := by decide +kernel
theorem dX7_bestHeight_84 : decode (am_b mX7_bestHeight) 84 = .ok (.if_icmp .le 8, 3) := by decide +kernel
theorem dX7_bestHeight_87 : decode (am_b mX7_bestHeight) 87 = .ok (.iload 6, 2) := by decide +kernel
theorem dX7_bestHeight_89 : decode (am_b mX7_bestHeight) 89 = .ok (.goto 5, 3) := by decide +kernel
theorem dX7_bestHeight_92 : decode (am_b mX7_bestHeight) 92 = .ok (.iload 4, 2) := by decide +kernel
theorem dX7_bestHeight_94 : decode (am_b mX7_bestHeight) 94 = .ok (.istore 4, 2) := by decide +kernel
theorem dX7_bestHeight_96 : decode (am_b mX7_bestHeight) 96 = .ok (.iinc 5 1, 3) := by decide +kernel
theorem dX7_bestHeight_99 : decode (am_b mX7_bestHeight) 99 = .ok (.goto (-62), 3) := by decide +kernel
theorem dX7_bestHeight_102 : decode (am_b mX7_bestHeight) 102 = .ok (.aload_n 0, 1) := by decide +kernel
theorem dX7_bestHeight_103 : decode (am_b mX7_bestHeight) 103 = .ok (.getfield 7, 3) := by decide +kernel
theorem dX7_bestHeight_106 : decode (am_b mX7_bestHeight) 106 = .ok (.iconst 0, 1) := by decide +kernel
theorem dX7_bestHeight_107 : decode (am_b mX7_bestHeight) 107 = .ok (.iload_n 1, 1) := by decide +kernel
theorem dX7_bestHeight_108 : decode (am_b mX7_bestHeight) 108 = .ok (.invokestatic 36, 3) := by decide +kernel
theorem dX7_bestHeight_111 : decode (am_b mX7_bestHeight) 111 = .ok (.iconst 0, 1) := by decide +kernel
theorem dX7_bestHeight_112 : decode (am_b mX7_bestHeight) 112 = .ok (.iadd, 1) := by decide +kernel
theorem dX7_bestHeight_113 : decode (am_b mX7_bestHeight) 113 = .ok (.iload_n 2, 1) := by decide +kernel
theorem dX7_bestHeight_114 : decode (am_b mX7_bestHeight) 114 = .ok (.iastore, 1) := by decide +kernel
theorem dX7_bestHeight_115 : decode (am_b mX7_bestHeight) 115 = .ok (.iload_n 3, 1) := by decide +kernel
theorem dX7_bestHeight_116 : decode (am_b mX7_bestHeight) 116 = .ok (.ireturn, 1) := by decide +kernel
theorem dX7_bestPitch_0 : decode (am_b mX7_bestPitch) 0 = .ok (.aload_n 0, 1) := by decide +kernel
theorem dX7_bestPitch_1 : decode (am_b mX7_bestPitch) 1 = .ok (.iload_n 1, 1) := by decide +kernel
theorem dX7_bestPitch_2 : decode (am_b mX7_bestPitch) 2 = .ok (.invokevirtual 100, 3) := by decide +kernel
theorem dX7_bestPitch_5 : decode (am_b mX7_bestPitch) 5 = .ok (.ifCond .ne 5, 3) := by decide +kernel
theorem dX7_bestPitch_8 : decode (am_b mX7_bestPitch) 8 = .ok (.iconst (-1), 1) := by decide +kernel
theorem dX7_bestPitch_9 : decode (am_b mX7_bestPitch) 9 = .ok (.ireturn, 1) := by decide +kernel
theorem dX7_bestPitch_10 : decode (am_b mX7_bestPitch) 10 = .ok (.bipush (-6), 2) := by decide +kernel
theorem dX7_bestPitch_12 : decode (am_b mX7_bestPitch) 12 = .ok (.istore_n 2, 1) := by decide +kernel
theorem dX7_bestPitch_13 : decode (am_b mX7_bestPitch) 13 = .ok (.iconst (-1), 1) := by decide +kernel
theorem dX7_bestPitch_14 : decode (am_b mX7_bestPitch) 14 = .ok (.istore_n 3, 1) := by decide +kernel
theorem dX7_bestPitch_15 : decode (am_b mX7_bestPitch) 15 = .ok (.iconst 0, 1) := by decide +kernel
theorem dX7_bestPitch_16 : decode (am_b mX7_bestPitch) 16 = .ok (.istore 4, 2) := by decide +kernel
theorem dX7_bestPitch_18 : decode (am_b mX7_bestPitch) 18 = .ok (.iload 4, 2) := by decide +kernel
theorem dX7_bestPitch_20 : decode (am_b mX7_bestPitch) 20 = .ok (.bipush 12, 2) := by decide +kernel
theorem dX7_bestPitch_22 : decode (am_b mX7_bestPitch) 22 = .ok (.if_icmp .ge 59, 3) := by decide +kernel
theorem dX7_bestPitch_25 : decode (am_b mX7_bestPitch) 25 = .ok (.aload_n 0, 1) := by decide +kernel
theorem dX7_bestPitch_26 : decode (am_b mX7_bestPitch) 26 = .ok (.iload_n 1, 1) := by decide +kernel
theorem dX7_bestPitch_27 : decode (am_b mX7_bestPitch) 27 = .ok (.iload 4, 2) := by decide +kernel
theorem dX7_bestPitch_29 : decode (am_b mX7_bestPitch) 29 = .ok (.invokevirtual 106, 3) := by decide +kernel
theorem dX7_bestPitch_32 : decode (am_b mX7_bestPitch) 32 = .ok (.ifCond .eq 7, 3) := by decide +kernel
theorem dX7_bestPitch_35 : decode (am_b mX7_bestPitch) 35 = .ok (.iconst (-1), 1) := by decide +kernel
theorem dX7_bestPitch_36 : decode (am_b mX7_bestPitch) 36 = .ok (.goto 11, 3) := by decide +kernel
theorem dX7_bestPitch_39 : decode (am_b mX7_bestPitch) 39 = .ok (.aload_n 0, 1) := by decide +kernel
theorem dX7_bestPitch_40 : decode (am_b mX7_bestPitch) 40 = .ok (.iconst 0, 1) := by decide +kernel
theorem dX7_bestPitch_41 : decode (am_b mX7_bestPitch) 41 = .ok (.iload_n 1, 1) := by decide +kernel
theorem dX7_bestPitch_42 : decode (am_b mX7_bestPitch) 42 = .ok (.iload 4, 2) := by decide +kernel
theorem dX7_bestPitch_44 : decode (am_b mX7_bestPitch) 44 = .ok (.invokevirtual 71, 3) := by decide +kernel
theorem dX7_bestPitch_47 : decode (am_b mX7_bestPitch) 47 = .ok (.istore 5, 2) := by decide +kernel
theorem dX7_bestPitch_49 : decode (am_b mX7_bestPitch) 49 = .ok (.iload 5, 2) := by decide +kernel
theorem dX7_bestPitch_51 : decode (am_b mX7_bestPitch) 51 = .ok (.iload_n 3, 1) := by decide +kernel
theorem dX7_bestPitch_52 : decode (am_b mX7_bestPitch) 52 = .ok (.if_icmp .le 8, 3) := by decide +kernel
theorem dX7_bestPitch_55 : decode (am_b mX7_bestPitch) 55 = .ok (.iload 4, 2) := by decide +kernel
theorem dX7_bestPitch_57 : decode (am_b mX7_bestPitch) 57 = .ok (.goto 4, 3) := by decide +kernel
theorem dX7_bestPitch_60 : decode (am_b mX7_bestPitch) 60 = .ok (.iload_n 2, 1) := by decide +kernel
theorem dX7_bestPitch_61 : decode (am_b mX7_bestPitch) 61 = .ok (.istore_n 2, 1) := by decide +kernel
theorem dX7_bestPitch_62 : decode (am_b mX7_bestPitch) 62 = .ok (.iload 5, 2) := by decide +kernel
theorem dX7_bestPitch_64 : decode (am_b mX7_bestPitch) 64 = .ok (.iload_n 3, 1) := by decide +kernel
theorem dX7_bestPitch_65 : decode (am_b mX7_bestPitch) 65 = .ok (.if_icmp .le 8, 3) := by decide +kernel
theorem dX7_bestPitch_68 : decode (am_b mX7_bestPitch) 68 = .ok (.iload 5, 2) := by decide +kernel
theorem dX7_bestPitch_70 : decode (am_b mX7_bestPitch) 70 = .ok (.goto 4, 3) := by decide +kernel
theorem dX7_bestPitch_73 : decode (am_b mX7_bestPitch) 73 = .ok (.iload_n 3, 1) := by decide +kernel
theorem dX7_bestPitch_74 : decode (am_b mX7_bestPitch) 74 = .ok (.istore_n 3, 1) := by decide +kernel
theorem dX7_bestPitch_75 : decode (am_b mX7_bestPitch) 75 = .ok (.iinc 4 1, 3) := by decide +kernel
theorem dX7_bestPitch_78 : decode (am_b mX7_bestPitch) 78 = .ok (.goto (-60), 3) := by decide +kernel
theorem dX7_bestPitch_81 : decode (am_b mX7_bestPitch) 81 = .ok (.iload_n 2, 1) := by decide +kernel
theorem dX7_bestPitch_82 : decode (am_b mX7_bestPitch) 82 = .ok (.ireturn, 1) := by decide +kernel
theorem dX7_booth_0 : decode (am_b mX7_booth) 0 = .ok (.aload_n 0, 1) := by decide +kernel
theorem dX7_booth_1 : decode (am_b mX7_booth) 1 = .ok (.iload_n 1, 1) := by decide +kernel
theorem dX7_booth_2 : decode (am_b mX7_booth) 2 = .ok (.invokevirtual 100, 3) := by decide +kernel
theorem dX7_booth_5 : decode (am_b mX7_booth) 5 = .ok (.ifCond .ne 5, 3) := by decide +kernel
theorem dX7_booth_8 : decode (am_b mX7_booth) 8 = .ok (.iconst (-1), 1) := by decide +kernel
theorem dX7_booth_9 : decode (am_b mX7_booth) 9 = .ok (.ireturn, 1) := by decide +kernel
theorem dX7_booth_10 : decode (am_b mX7_booth) 10 = .ok (.iload_n 2, 1) := by decide +kernel
theorem dX7_booth_11 : decode (am_b mX7_booth) 11 = .ok (.tableswitch 89 0 7 #[45, 52, 73, 73, 73, 80, 80, 80], 45) := by decide +kernel
theorem dX7_booth_56 : decode (am_b mX7_booth) 56 = .ok (.aload_n 0, 1) := by decide +kernel
theorem dX7_booth_57 : decode (am_b mX7_booth) 57 = .ok (.iload_n 1, 1) := by decide +kernel
theorem dX7_booth_58 : decode (am_b mX7_booth) 58 = .ok (.iconst 0, 1) := by decide +kernel
theorem dX7_booth_59 : decode (am_b mX7_booth) 59 = .ok (.invokevirtual 103, 3) := by decide +kernel
theorem dX7_booth_62 : decode (am_b mX7_booth) 62 = .ok (.ireturn, 1) := by decide +kernel
theorem dX7_booth_63 : decode (am_b mX7_booth) 63 = .ok (.aload_n 0, 1) := by decide +kernel
theorem dX7_booth_64 : decode (am_b mX7_booth) 64 = .ok (.iload_n 1, 1) := by decide +kernel
theorem dX7_booth_65 : decode (am_b mX7_booth) 65 = .ok (.iconst 1, 1) := by decide +kernel
theorem dX7_booth_66 : decode (am_b mX7_booth) 66 = .ok (.invokevirtual 103, 3) := by decide +kernel
theorem dX7_booth_69 : decode (am_b mX7_booth) 69 = .ok (.ifCond .ge 8, 3) := by decide +kernel
theorem dX7_booth_72 : decode (am_b mX7_booth) 72 = .ok (.bipush (-6), 2) := by decide +kernel
theorem dX7_booth_74 : decode (am_b mX7_booth) 74 = .ok (.goto 9, 3) := by decide +kernel
theorem dX7_booth_77 : decode (am_b mX7_booth) 77 = .ok (.aload_n 0, 1) := by decide +kernel
theorem dX7_booth_78 : decode (am_b mX7_booth) 78 = .ok (.iload_n 1, 1) := by decide +kernel
theorem dX7_booth_79 : decode (am_b mX7_booth) 79 = .ok (.iconst 1, 1) := by decide +kernel
theorem dX7_booth_80 : decode (am_b mX7_booth) 80 = .ok (.invokevirtual 103, 3) := by decide +kernel
theorem dX7_booth_83 : decode (am_b mX7_booth) 83 = .ok (.ireturn, 1) := by decide +kernel
theorem dX7_booth_84 : decode (am_b mX7_booth) 84 = .ok (.aload_n 0, 1) := by decide +kernel
theorem dX7_booth_85 : decode (am_b mX7_booth) 85 = .ok (.iload_n 1, 1) := by decide +kernel
theorem dX7_booth_86 : decode (am_b mX7_booth) 86 = .ok (.iload_n 2, 1) := by decide +kernel
theorem dX7_booth_87 : decode (am_b mX7_booth) 87 = .ok (.invokevirtual 112, 3) := by decide +kernel
theorem dX7_booth_90 : decode (am_b mX7_booth) 90 = .ok (.ireturn, 1) := by decide +kernel
theorem dX7_booth_91 : decode (am_b mX7_booth) 91 = .ok (.aload_n 0, 1) := by decide +kernel
theorem dX7_booth_92 : decode (am_b mX7_booth) 92 = .ok (.iload_n 1, 1) := by decide +kernel
theorem dX7_booth_93 : decode (am_b mX7_booth) 93 = .ok (.iload_n 2, 1) := by decide +kernel
theorem dX7_booth_94 : decode (am_b mX7_booth) 94 = .ok (.iconst 3, 1) := by decide +kernel
theorem dX7_booth_95 : decode (am_b mX7_booth) 95 = .ok (.isub, 1) := by decide +kernel
theorem dX7_booth_96 : decode (am_b mX7_booth) 96 = .ok (.invokevirtual 103, 3) := by decide +kernel
theorem dX7_booth_99 : decode (am_b mX7_booth) 99 = .ok (.ireturn, 1) := by decide +kernel
theorem dX7_booth_100 : decode (am_b mX7_booth) 100 = .ok (.bipush (-2), 2) := by decide +kernel
theorem dX7_booth_102 : decode (am_b mX7_booth) 102 = .ok (.ireturn, 1) := by decide +kernel
theorem dX7_chooses_0 : decode (am_b mX7_chooses) 0 = .ok (.bipush (-6), 2) := by decide +kernel
theorem dX7_chooses_2 : decode (am_b mX7_chooses) 2 = .ok (.istore_n 3, 1) := by decide +kernel
theorem dX7_chooses_3 : decode (am_b mX7_chooses) 3 = .ok (.iconst (-1), 1) := by decide +kernel
theorem dX7_chooses_4 : decode (am_b mX7_chooses) 4 = .ok (.istore 4, 2) := by decide +kernel
theorem dX7_chooses_6 : decode (am_b mX7_chooses) 6 = .ok (.iconst 0, 1) := by decide +kernel
theorem dX7_chooses_7 : decode (am_b mX7_chooses) 7 = .ok (.istore 5, 2) := by decide +kernel
theorem dX7_chooses_9 : decode (am_b mX7_chooses) 9 = .ok (.iload 5, 2) := by decide +kernel
theorem dX7_chooses_11 : decode (am_b mX7_chooses) 11 = .ok (.bipush 12, 2) := by decide +kernel
theorem dX7_chooses_13 : decode (am_b mX7_chooses) 13 = .ok (.if_icmp .ge 63, 3) := by decide +kernel
theorem dX7_chooses_16 : decode (am_b mX7_chooses) 16 = .ok (.aload_n 0, 1) := by decide +kernel
theorem dX7_chooses_17 : decode (am_b mX7_chooses) 17 = .ok (.iload_n 1, 1) := by decide +kernel
theorem dX7_chooses_18 : decode (am_b mX7_chooses) 18 = .ok (.iload 5, 2) := by decide +kernel
theorem dX7_chooses_20 : decode (am_b mX7_chooses) 20 = .ok (.invokevirtual 67, 3) := by decide +kernel
theorem dX7_chooses_23 : decode (am_b mX7_chooses) 23 = .ok (.ifCond .eq 14, 3) := by decide +kernel
theorem dX7_chooses_26 : decode (am_b mX7_chooses) 26 = .ok (.aload_n 0, 1) := by decide +kernel
theorem dX7_chooses_27 : decode (am_b mX7_chooses) 27 = .ok (.iload_n 1, 1) := by decide +kernel
theorem dX7_chooses_28 : decode (am_b mX7_chooses) 28 = .ok (.iload_n 2, 1) := by decide +kernel
theorem dX7_chooses_29 : decode (am_b mX7_chooses) 29 = .ok (.iload 5, 2) := by decide +kernel
theorem dX7_chooses_31 : decode (am_b mX7_chooses) 31 = .ok (.invokevirtual 71, 3) := by decide +kernel
theorem dX7_chooses_34 : decode (am_b mX7_chooses) 34 = .ok (.goto 4, 3) := by decide +kernel
theorem dX7_chooses_37 : decode (am_b mX7_chooses) 37 = .ok (.iconst (-1), 1) := by decide +kernel
theorem dX7_chooses_38 : decode (am_b mX7_chooses) 38 = .ok (.istore 6, 2) := by decide +kernel
theorem dX7_chooses_40 : decode (am_b mX7_chooses) 40 = .ok (.iload 6, 2) := by decide +kernel
theorem dX7_chooses_42 : decode (am_b mX7_chooses) 42 = .ok (.iload 4, 2) := by decide +kernel
theorem dX7_chooses_44 : decode (am_b mX7_chooses) 44 = .ok (.if_icmp .le 8, 3) := by decide +kernel
theorem dX7_chooses_47 : decode (am_b mX7_chooses) 47 = .ok (.iload 5, 2) := by decide +kernel
theorem dX7_chooses_49 : decode (am_b mX7_chooses) 49 = .ok (.goto 4, 3) := by decide +kernel
theorem dX7_chooses_52 : decode (am_b mX7_chooses) 52 = .ok (.iload_n 3, 1) := by decide +kernel
theorem dX7_chooses_53 : decode (am_b mX7_chooses) 53 = .ok (.istore_n 3, 1) := by decide +kernel
theorem dX7_chooses_54 : decode (am_b mX7_chooses) 54 = .ok (.iload 6, 2) := by decide +kernel
theorem dX7_chooses_56 : decode (am_b mX7_chooses) 56 = .ok (.iload 4, 2) := by decide +kernel
theorem dX7_chooses_58 : decode (am_b mX7_chooses) 58 = .ok (.if_icmp .le 8, 3) := by decide +kernel
theorem dX7_chooses_61 : decode (am_b mX7_chooses) 61 = .ok (.iload 6, 2) := by decide +kernel
theorem dX7_chooses_63 : decode (am_b mX7_chooses) 63 = .ok (.goto 5, 3) := by decide +kernel
theorem dX7_chooses_66 : decode (am_b mX7_chooses) 66 = .ok (.iload 4, 2) := by decide +kernel
theorem dX7_chooses_68 : decode (am_b mX7_chooses) 68 = .ok (.istore 4, 2) := by decide +kernel
theorem dX7_chooses_70 : decode (am_b mX7_chooses) 70 = .ok (.iinc 5 1, 3) := by decide +kernel
theorem dX7_chooses_73 : decode (am_b mX7_chooses) 73 = .ok (.goto (-64), 3) := by decide +kernel
theorem dX7_chooses_76 : decode (am_b mX7_chooses) 76 = .ok (.aload_n 0, 1) := by decide +kernel
theorem dX7_chooses_77 : decode (am_b mX7_chooses) 77 = .ok (.getfield 7, 3) := by decide +kernel
theorem dX7_chooses_80 : decode (am_b mX7_chooses) 80 = .ok (.iload_n 1, 1) := by decide +kernel
theorem dX7_chooses_81 : decode (am_b mX7_chooses) 81 = .ok (.iload_n 2, 1) := by decide +kernel
theorem dX7_chooses_82 : decode (am_b mX7_chooses) 82 = .ok (.invokestatic 36, 3) := by decide +kernel
theorem dX7_chooses_85 : decode (am_b mX7_chooses) 85 = .ok (.iconst 1, 1) := by decide +kernel
theorem dX7_chooses_86 : decode (am_b mX7_chooses) 86 = .ok (.iadd, 1) := by decide +kernel
theorem dX7_chooses_87 : decode (am_b mX7_chooses) 87 = .ok (.iload_n 3, 1) := by decide +kernel
theorem dX7_chooses_88 : decode (am_b mX7_chooses) 88 = .ok (.bipush (-6), 2) := by decide +kernel
theorem dX7_chooses_90 : decode (am_b mX7_chooses) 90 = .ok (.if_icmp .ne 7, 3) := by decide +kernel
theorem dX7_chooses_93 : decode (am_b mX7_chooses) 93 = .ok (.iconst (-1), 1) := by decide +kernel
theorem dX7_chooses_94 : decode (am_b mX7_chooses) 94 = .ok (.goto 4, 3) := by decide +kernel
theorem dX7_chooses_97 : decode (am_b mX7_chooses) 97 = .ok (.iload_n 3, 1) := by decide +kernel
theorem dX7_chooses_98 : decode (am_b mX7_chooses) 98 = .ok (.iastore, 1) := by decide +kernel
theorem dX7_chooses_99 : decode (am_b mX7_chooses) 99 = .ok (.aload_n 0, 1) := by decide +kernel
theorem dX7_chooses_100 : decode (am_b mX7_chooses) 100 = .ok (.getfield 7, 3) := by decide +kernel
theorem dX7_chooses_103 : decode (am_b mX7_chooses) 103 = .ok (.iload_n 1, 1) := by decide +kernel
theorem dX7_chooses_104 : decode (am_b mX7_chooses) 104 = .ok (.iload_n 2, 1) := by decide +kernel
theorem dX7_chooses_105 : decode (am_b mX7_chooses) 105 = .ok (.invokestatic 36, 3) := by decide +kernel
theorem dX7_chooses_108 : decode (am_b mX7_chooses) 108 = .ok (.iconst 4, 1) := by decide +kernel
theorem dX7_chooses_109 : decode (am_b mX7_chooses) 109 = .ok (.iadd, 1) := by decide +kernel
theorem dX7_chooses_110 : decode (am_b mX7_chooses) 110 = .ok (.dup2, 1) := by decide +kernel
theorem dX7_chooses_111 : decode (am_b mX7_chooses) 111 = .ok (.iaload, 1) := by decide +kernel
theorem dX7_chooses_112 : decode (am_b mX7_chooses) 112 = .ok (.iload_n 3, 1) := by decide +kernel
theorem dX7_chooses_113 : decode (am_b mX7_chooses) 113 = .ok (.bipush (-6), 2) := by decide +kernel
theorem dX7_chooses_115 : decode (am_b mX7_chooses) 115 = .ok (.if_icmp .ne 7, 3) := by decide +kernel
theorem dX7_chooses_118 : decode (am_b mX7_chooses) 118 = .ok (.iconst 1, 1) := by decide +kernel
theorem dX7_chooses_119 : decode (am_b mX7_chooses) 119 = .ok (.goto 4, 3) := by decide +kernel
theorem dX7_chooses_122 : decode (am_b mX7_chooses) 122 = .ok (.iconst 0, 1) := by decide +kernel
theorem dX7_chooses_123 : decode (am_b mX7_chooses) 123 = .ok (.iadd, 1) := by decide +kernel
theorem dX7_chooses_124 : decode (am_b mX7_chooses) 124 = .ok (.iastore, 1) := by decide +kernel
theorem dX7_chooses_125 : decode (am_b mX7_chooses) 125 = .ok (.return_, 1) := by decide +kernel
theorem dX7_count_0 : decode (am_b mX7_count) 0 = .ok (.iload_n 1, 1) := by decide +kernel
theorem dX7_count_1 : decode (am_b mX7_count) 1 = .ok (.tableswitch 122 6 16 #[59, 67, 75, 80, 88, 93, 99, 99, 99, 112, 117], 59) := by decide +kernel
theorem dX7_count_60 : decode (am_b mX7_count) 60 = .ok (.aload_n 0, 1) := by decide +kernel
theorem dX7_count_61 : decode (am_b mX7_count) 61 = .ok (.getfield 7, 3) := by decide +kernel
theorem dX7_count_64 : decode (am_b mX7_count) 64 = .ok (.bipush 6, 2) := by decide +kernel
theorem dX7_count_66 : decode (am_b mX7_count) 66 = .ok (.iaload, 1) := by decide +kernel
theorem dX7_count_67 : decode (am_b mX7_count) 67 = .ok (.ireturn, 1) := by decide +kernel
theorem dX7_count_68 : decode (am_b mX7_count) 68 = .ok (.aload_n 0, 1) := by decide +kernel
theorem dX7_count_69 : decode (am_b mX7_count) 69 = .ok (.getfield 7, 3) := by decide +kernel
theorem dX7_count_72 : decode (am_b mX7_count) 72 = .ok (.bipush 7, 2) := by decide +kernel
theorem dX7_count_74 : decode (am_b mX7_count) 74 = .ok (.iaload, 1) := by decide +kernel
theorem dX7_count_75 : decode (am_b mX7_count) 75 = .ok (.ireturn, 1) := by decide +kernel
theorem dX7_count_76 : decode (am_b mX7_count) 76 = .ok (.aload_n 0, 1) := by decide +kernel
theorem dX7_count_77 : decode (am_b mX7_count) 77 = .ok (.invokevirtual 124, 3) := by decide +kernel
theorem dX7_count_80 : decode (am_b mX7_count) 80 = .ok (.ireturn, 1) := by decide +kernel
theorem dX7_count_81 : decode (am_b mX7_count) 81 = .ok (.aload_n 0, 1) := by decide +kernel
theorem dX7_count_82 : decode (am_b mX7_count) 82 = .ok (.getfield 7, 3) := by decide +kernel
theorem dX7_count_85 : decode (am_b mX7_count) 85 = .ok (.bipush 8, 2) := by decide +kernel
theorem dX7_count_87 : decode (am_b mX7_count) 87 = .ok (.iaload, 1) := by decide +kernel
theorem dX7_count_88 : decode (am_b mX7_count) 88 = .ok (.ireturn, 1) := by decide +kernel
theorem dX7_count_89 : decode (am_b mX7_count) 89 = .ok (.aload_n 0, 1) := by decide +kernel
theorem dX7_count_90 : decode (am_b mX7_count) 90 = .ok (.invokevirtual 127, 3) := by decide +kernel
theorem dX7_count_93 : decode (am_b mX7_count) 93 = .ok (.ireturn, 1) := by decide +kernel
theorem dX7_count_94 : decode (am_b mX7_count) 94 = .ok (.aload_n 0, 1) := by decide +kernel
theorem dX7_count_95 : decode (am_b mX7_count) 95 = .ok (.iconst 0, 1) := by decide +kernel
theorem dX7_count_96 : decode (am_b mX7_count) 96 = .ok (.invokevirtual 50, 3) := by decide +kernel
theorem dX7_count_99 : decode (am_b mX7_count) 99 = .ok (.ireturn, 1) := by decide +kernel
theorem dX7_count_100 : decode (am_b mX7_count) 100 = .ok (.aload_n 0, 1) := by decide +kernel
theorem dX7_count_101 : decode (am_b mX7_count) 101 = .ok (.getfield 7, 3) := by decide +kernel
theorem dX7_count_104 : decode (am_b mX7_count) 104 = .ok (.bipush 9, 2) := by decide +kernel
theorem dX7_count_106 : decode (am_b mX7_count) 106 = .ok (.iload_n 1, 1) := by decide +kernel
theorem dX7_count_107 : decode (am_b mX7_count) 107 = .ok (.iadd, 1) := by decide +kernel
theorem dX7_count_108 : decode (am_b mX7_count) 108 = .ok (.bipush 12, 2) := by decide +kernel
theorem dX7_count_110 : decode (am_b mX7_count) 110 = .ok (.isub, 1) := by decide +kernel
theorem dX7_count_111 : decode (am_b mX7_count) 111 = .ok (.iaload, 1) := by decide +kernel
theorem dX7_count_112 : decode (am_b mX7_count) 112 = .ok (.ireturn, 1) := by decide +kernel
theorem dX7_count_113 : decode (am_b mX7_count) 113 = .ok (.aload_n 0, 1) := by decide +kernel
theorem dX7_count_114 : decode (am_b mX7_count) 114 = .ok (.getfield 130, 3) := by decide +kernel
theorem dX7_count_117 : decode (am_b mX7_count) 117 = .ok (.ireturn, 1) := by decide +kernel
theorem dX7_count_118 : decode (am_b mX7_count) 118 = .ok (.aload_n 0, 1) := by decide +kernel
theorem dX7_count_119 : decode (am_b mX7_count) 119 = .ok (.getfield 40, 3) := by decide +kernel
theorem dX7_count_122 : decode (am_b mX7_count) 122 = .ok (.ireturn, 1) := by decide +kernel
theorem dX7_count_123 : decode (am_b mX7_count) 123 = .ok (.iload_n 1, 1) := by decide +kernel
theorem dX7_count_124 : decode (am_b mX7_count) 124 = .ok (.iconst 0, 1) := by decide +kernel
theorem dX7_count_125 : decode (am_b mX7_count) 125 = .ok (.iconst 5, 1) := by decide +kernel
theorem dX7_count_126 : decode (am_b mX7_count) 126 = .ok (.invokestatic 32, 3) := by decide +kernel
theorem dX7_count_129 : decode (am_b mX7_count) 129 = .ok (.ifCond .eq 12, 3) := by decide +kernel
theorem dX7_count_132 : decode (am_b mX7_count) 132 = .ok (.aload_n 0, 1) := by decide +kernel
theorem dX7_count_133 : decode (am_b mX7_count) 133 = .ok (.getfield 7, 3) := by decide +kernel
theorem dX7_count_136 : decode (am_b mX7_count) 136 = .ok (.iload_n 1, 1) := by decide +kernel
theorem dX7_count_137 : decode (am_b mX7_count) 137 = .ok (.iaload, 1) := by decide +kernel
theorem dX7_count_138 : decode (am_b mX7_count) 138 = .ok (.goto 5, 3) := by decide +kernel
theorem dX7_count_141 : decode (am_b mX7_count) 141 = .ok (.bipush (-2), 2) := by decide +kernel
theorem dX7_count_143 : decode (am_b mX7_count) 143 = .ok (.ireturn, 1) := by decide +kernel
theorem dX7_ifStood_0 : decode (am_b mX7_ifStood) 0 = .ok (.aload_n 0, 1) := by decide +kernel
theorem dX7_ifStood_1 : decode (am_b mX7_ifStood) 1 = .ok (.iload_n 1, 1) := by decide +kernel
theorem dX7_ifStood_2 : decode (am_b mX7_ifStood) 2 = .ok (.invokevirtual 100, 3) := by decide +kernel
theorem dX7_ifStood_5 : decode (am_b mX7_ifStood) 5 = .ok (.ifCond .eq 10, 3) := by decide +kernel
theorem dX7_ifStood_8 : decode (am_b mX7_ifStood) 8 = .ok (.iload_n 2, 1) := by decide +kernel
theorem dX7_ifStood_9 : decode (am_b mX7_ifStood) 9 = .ok (.invokestatic 89, 3) := by decide +kernel
theorem dX7_ifStood_12 : decode (am_b mX7_ifStood) 12 = .ok (.ifCond .ne 5, 3) := by decide +kernel
theorem dX7_ifStood_15 : decode (am_b mX7_ifStood) 15 = .ok (.iconst (-1), 1) := by decide +kernel
theorem dX7_ifStood_16 : decode (am_b mX7_ifStood) 16 = .ok (.ireturn, 1) := by decide +kernel
theorem dX7_ifStood_17 : decode (am_b mX7_ifStood) 17 = .ok (.aload_n 0, 1) := by decide +kernel
theorem dX7_ifStood_18 : decode (am_b mX7_ifStood) 18 = .ok (.iload_n 1, 1) := by decide +kernel
theorem dX7_ifStood_19 : decode (am_b mX7_ifStood) 19 = .ok (.iload_n 2, 1) := by decide +kernel
theorem dX7_ifStood_20 : decode (am_b mX7_ifStood) 20 = .ok (.invokevirtual 106, 3) := by decide +kernel
theorem dX7_ifStood_23 : decode (am_b mX7_ifStood) 23 = .ok (.ifCond .eq 8, 3) := by decide +kernel
theorem dX7_ifStood_26 : decode (am_b mX7_ifStood) 26 = .ok (.bipush (-5), 2) := by decide +kernel
theorem dX7_ifStood_28 : decode (am_b mX7_ifStood) 28 = .ok (.goto 10, 3) := by decide +kernel
theorem dX7_ifStood_31 : decode (am_b mX7_ifStood) 31 = .ok (.aload_n 0, 1) := by decide +kernel
theorem dX7_ifStood_32 : decode (am_b mX7_ifStood) 32 = .ok (.iconst 0, 1) := by decide +kernel
theorem dX7_ifStood_33 : decode (am_b mX7_ifStood) 33 = .ok (.iload_n 1, 1) := by decide +kernel
theorem dX7_ifStood_34 : decode (am_b mX7_ifStood) 34 = .ok (.iload_n 2, 1) := by decide +kernel
theorem dX7_ifStood_35 : decode (am_b mX7_ifStood) 35 = .ok (.invokevirtual 71, 3) := by decide +kernel
theorem dX7_ifStood_38 : decode (am_b mX7_ifStood) 38 = .ok (.ireturn, 1) := by decide +kernel
theorem dX7_read_0 : decode (am_b mX7_read) 0 = .ok (.aload_n 0, 1) := by decide +kernel
theorem dX7_read_1 : decode (am_b mX7_read) 1 = .ok (.invokevirtual 150, 3) := by decide +kernel
theorem dX7_read_4 : decode (am_b mX7_read) 4 = .ok (.bipush (-6), 2) := by decide +kernel
theorem dX7_read_6 : decode (am_b mX7_read) 6 = .ok (.if_icmp .eq 6, 3) := by decide +kernel
theorem dX7_read_9 : decode (am_b mX7_read) 9 = .ok (.bipush (-3), 2) := by decide +kernel
theorem dX7_read_11 : decode (am_b mX7_read) 11 = .ok (.ireturn, 1) := by decide +kernel
theorem dX7_read_12 : decode (am_b mX7_read) 12 = .ok (.aload_n 0, 1) := by decide +kernel
theorem dX7_read_13 : decode (am_b mX7_read) 13 = .ok (.invokevirtual 153, 3) := by decide +kernel
theorem dX7_read_16 : decode (am_b mX7_read) 16 = .ok (.ifCond .eq 6, 3) := by decide +kernel
theorem dX7_read_19 : decode (am_b mX7_read) 19 = .ok (.bipush (-5), 2) := by decide +kernel
theorem dX7_read_21 : decode (am_b mX7_read) 21 = .ok (.ireturn, 1) := by decide +kernel
theorem dX7_read_22 : decode (am_b mX7_read) 22 = .ok (.aload_n 0, 1) := by decide +kernel
theorem dX7_read_23 : decode (am_b mX7_read) 23 = .ok (.invokevirtual 86, 3) := by decide +kernel
theorem dX7_read_26 : decode (am_b mX7_read) 26 = .ok (.aload_n 0, 1) := by decide +kernel
theorem dX7_read_27 : decode (am_b mX7_read) 27 = .ok (.getfield 7, 3) := by decide +kernel
theorem dX7_read_30 : decode (am_b mX7_read) 30 = .ok (.bipush 7, 2) := by decide +kernel
theorem dX7_read_32 : decode (am_b mX7_read) 32 = .ok (.iconst 0, 1) := by decide +kernel
theorem dX7_read_33 : decode (am_b mX7_read) 33 = .ok (.iastore, 1) := by decide +kernel
theorem dX7_read_34 : decode (am_b mX7_read) 34 = .ok (.aload_n 0, 1) := by decide +kernel
theorem dX7_read_35 : decode (am_b mX7_read) 35 = .ok (.invokevirtual 29, 3) := by decide +kernel
theorem dX7_read_38 : decode (am_b mX7_read) 38 = .ok (.iconst 0, 1) := by decide +kernel
theorem dX7_read_39 : decode (am_b mX7_read) 39 = .ok (.istore_n 1, 1) := by decide +kernel
theorem dX7_read_40 : decode (am_b mX7_read) 40 = .ok (.iload_n 1, 1) := by decide +kernel
theorem dX7_read_41 : decode (am_b mX7_read) 41 = .ok (.aload_n 0, 1) := by decide +kernel
theorem dX7_read_42 : decode (am_b mX7_read) 42 = .ok (.getfield 130, 3) := by decide +kernel
theorem dX7_read_45 : decode (am_b mX7_read) 45 = .ok (.if_icmp .ge 28, 3) := by decide +kernel
theorem dX7_read_48 : decode (am_b mX7_read) 48 = .ok (.aload_n 0, 1) := by decide +kernel
theorem dX7_read_49 : decode (am_b mX7_read) 49 = .ok (.aload_n 0, 1) := by decide +kernel
theorem dX7_read_50 : decode (am_b mX7_read) 50 = .ok (.iload_n 1, 1) := by decide +kernel
theorem dX7_read_51 : decode (am_b mX7_read) 51 = .ok (.invokevirtual 141, 3) := by decide +kernel
theorem dX7_read_54 : decode (am_b mX7_read) 54 = .ok (.aload_n 0, 1) := by decide +kernel
theorem dX7_read_55 : decode (am_b mX7_read) 55 = .ok (.iload_n 1, 1) := by decide +kernel
theorem dX7_read_56 : decode (am_b mX7_read) 56 = .ok (.invokevirtual 147, 3) := by decide +kernel
theorem dX7_read_59 : decode (am_b mX7_read) 59 = .ok (.invokevirtual 97, 3) := by decide +kernel
theorem dX7_read_62 : decode (am_b mX7_read) 62 = .ok (.aload_n 0, 1) := by decide +kernel
theorem dX7_read_63 : decode (am_b mX7_read) 63 = .ok (.iload_n 1, 1) := by decide +kernel
theorem dX7_read_64 : decode (am_b mX7_read) 64 = .ok (.invokevirtual 144, 3) := by decide +kernel
theorem dX7_read_67 : decode (am_b mX7_read) 67 = .ok (.iconst 1, 1) := by decide +kernel
theorem dX7_read_68 : decode (am_b mX7_read) 68 = .ok (.iadd, 1) := by decide +kernel
theorem dX7_read_69 : decode (am_b mX7_read) 69 = .ok (.istore_n 1, 1) := by decide +kernel
theorem dX7_read_70 : decode (am_b mX7_read) 70 = .ok (.goto (-30), 3) := by decide +kernel
theorem dX7_read_73 : decode (am_b mX7_read) 73 = .ok (.aload_n 0, 1) := by decide +kernel
theorem dX7_read_74 : decode (am_b mX7_read) 74 = .ok (.iconst 0, 1) := by decide +kernel
theorem dX7_read_75 : decode (am_b mX7_read) 75 = .ok (.putfield 130, 3) := by decide +kernel
theorem dX7_read_78 : decode (am_b mX7_read) 78 = .ok (.aload_n 0, 1) := by decide +kernel
theorem dX7_read_79 : decode (am_b mX7_read) 79 = .ok (.getfield 7, 3) := by decide +kernel
theorem dX7_read_82 : decode (am_b mX7_read) 82 = .ok (.bipush 7, 2) := by decide +kernel
theorem dX7_read_84 : decode (am_b mX7_read) 84 = .ok (.iaload, 1) := by decide +kernel
theorem dX7_read_85 : decode (am_b mX7_read) 85 = .ok (.ireturn, 1) := by decide +kernel
theorem dX7_plays_0 : decode (am_b mX7_plays) 0 = .ok (.iconst 0, 1) := by decide +kernel
theorem dX7_plays_1 : decode (am_b mX7_plays) 1 = .ok (.istore_n 2, 1) := by decide +kernel
theorem dX7_plays_2 : decode (am_b mX7_plays) 2 = .ok (.iload_n 2, 1) := by decide +kernel
theorem dX7_plays_3 : decode (am_b mX7_plays) 3 = .ok (.aload_n 0, 1) := by decide +kernel
theorem dX7_plays_4 : decode (am_b mX7_plays) 4 = .ok (.getfield 7, 3) := by decide +kernel
theorem dX7_plays_7 : decode (am_b mX7_plays) 7 = .ok (.iload_n 1, 1) := by decide +kernel
theorem dX7_plays_8 : decode (am_b mX7_plays) 8 = .ok (.bipush 7, 2) := by decide +kernel
theorem dX7_plays_10 : decode (am_b mX7_plays) 10 = .ok (.iadd, 1) := by decide +kernel
theorem dX7_plays_11 : decode (am_b mX7_plays) 11 = .ok (.iaload, 1) := by decide +kernel
theorem dX7_plays_12 : decode (am_b mX7_plays) 12 = .ok (.if_icmp .ge 22, 3) := by decide +kernel
theorem dX7_plays_15 : decode (am_b mX7_plays) 15 = .ok (.aload_n 0, 1) := by decide +kernel
theorem dX7_plays_16 : decode (am_b mX7_plays) 16 = .ok (.getfield 7, 3) := by decide +kernel
theorem dX7_plays_19 : decode (am_b mX7_plays) 19 = .ok (.iload_n 1, 1) := by decide +kernel
theorem dX7_plays_20 : decode (am_b mX7_plays) 20 = .ok (.iload_n 2, 1) := by decide +kernel
theorem dX7_plays_21 : decode (am_b mX7_plays) 21 = .ok (.invokestatic 36, 3) := by decide +kernel
theorem dX7_plays_24 : decode (am_b mX7_plays) 24 = .ok (.iconst 1, 1) := by decide +kernel
theorem dX7_plays_25 : decode (am_b mX7_plays) 25 = .ok (.iadd, 1) := by decide +kernel
theorem dX7_plays_26 : decode (am_b mX7_plays) 26 = .ok (.iconst (-1), 1) := by decide +kernel
theorem dX7_plays_27 : decode (am_b mX7_plays) 27 = .ok (.iastore, 1) := by decide +kernel
theorem dX7_plays_28 : decode (am_b mX7_plays) 28 = .ok (.iinc 2 1, 3) := by decide +kernel
theorem dX7_plays_31 : decode (am_b mX7_plays) 31 = .ok (.goto (-29), 3) := by decide +kernel
theorem dX7_plays_34 : decode (am_b mX7_plays) 34 = .ok (.aload_n 0, 1) := by decide +kernel
theorem dX7_plays_35 : decode (am_b mX7_plays) 35 = .ok (.iload_n 1, 1) := by decide +kernel
theorem dX7_plays_36 : decode (am_b mX7_plays) 36 = .ok (.invokevirtual 75, 3) := by decide +kernel
theorem dX7_plays_39 : decode (am_b mX7_plays) 39 = .ok (.iconst 0, 1) := by decide +kernel
theorem dX7_plays_40 : decode (am_b mX7_plays) 40 = .ok (.istore_n 2, 1) := by decide +kernel
theorem dX7_plays_41 : decode (am_b mX7_plays) 41 = .ok (.iload_n 2, 1) := by decide +kernel
theorem dX7_plays_42 : decode (am_b mX7_plays) 42 = .ok (.aload_n 0, 1) := by decide +kernel
theorem dX7_plays_43 : decode (am_b mX7_plays) 43 = .ok (.getfield 7, 3) := by decide +kernel
theorem dX7_plays_46 : decode (am_b mX7_plays) 46 = .ok (.iload_n 1, 1) := by decide +kernel
theorem dX7_plays_47 : decode (am_b mX7_plays) 47 = .ok (.bipush 7, 2) := by decide +kernel
theorem dX7_plays_49 : decode (am_b mX7_plays) 49 = .ok (.iadd, 1) := by decide +kernel
theorem dX7_plays_50 : decode (am_b mX7_plays) 50 = .ok (.iaload, 1) := by decide +kernel
theorem dX7_plays_51 : decode (am_b mX7_plays) 51 = .ok (.if_icmp .ge 51, 3) := by decide +kernel
theorem dX7_plays_54 : decode (am_b mX7_plays) 54 = .ok (.aload_n 0, 1) := by decide +kernel
theorem dX7_plays_55 : decode (am_b mX7_plays) 55 = .ok (.getfield 7, 3) := by decide +kernel
theorem dX7_plays_58 : decode (am_b mX7_plays) 58 = .ok (.iload_n 1, 1) := by decide +kernel
theorem dX7_plays_59 : decode (am_b mX7_plays) 59 = .ok (.bipush 12, 2) := by decide +kernel
theorem dX7_plays_61 : decode (am_b mX7_plays) 61 = .ok (.iadd, 1) := by decide +kernel
theorem dX7_plays_62 : decode (am_b mX7_plays) 62 = .ok (.iload_n 2, 1) := by decide +kernel
theorem dX7_plays_63 : decode (am_b mX7_plays) 63 = .ok (.iadd, 1) := by decide +kernel
theorem dX7_plays_64 : decode (am_b mX7_plays) 64 = .ok (.iaload, 1) := by decide +kernel
theorem dX7_plays_65 : decode (am_b mX7_plays) 65 = .ok (.istore_n 3, 1) := by decide +kernel
theorem dX7_plays_66 : decode (am_b mX7_plays) 66 = .ok (.aload_n 0, 1) := by decide +kernel
theorem dX7_plays_67 : decode (am_b mX7_plays) 67 = .ok (.getfield 7, 3) := by decide +kernel
theorem dX7_plays_70 : decode (am_b mX7_plays) 70 = .ok (.iload_n 1, 1) := by decide +kernel
theorem dX7_plays_71 : decode (am_b mX7_plays) 71 = .ok (.iload_n 3, 1) := by decide +kernel
theorem dX7_plays_72 : decode (am_b mX7_plays) 72 = .ok (.invokestatic 36, 3) := by decide +kernel
theorem dX7_plays_75 : decode (am_b mX7_plays) 75 = .ok (.iconst 3, 1) := by decide +kernel
theorem dX7_plays_76 : decode (am_b mX7_plays) 76 = .ok (.iadd, 1) := by decide +kernel
theorem dX7_plays_77 : decode (am_b mX7_plays) 77 = .ok (.dup2, 1) := by decide +kernel
theorem dX7_plays_78 : decode (am_b mX7_plays) 78 = .ok (.iaload, 1) := by decide +kernel
theorem dX7_plays_79 : decode (am_b mX7_plays) 79 = .ok (.iload_n 2, 1) := by decide +kernel
theorem dX7_plays_80 : decode (am_b mX7_plays) 80 = .ok (.ifCond .ne 7, 3) := by decide +kernel
theorem dX7_plays_83 : decode (am_b mX7_plays) 83 = .ok (.iconst 1, 1) := by decide +kernel
theorem dX7_plays_84 : decode (am_b mX7_plays) 84 = .ok (.goto 4, 3) := by decide +kernel
theorem dX7_plays_87 : decode (am_b mX7_plays) 87 = .ok (.iconst 0, 1) := by decide +kernel
theorem dX7_plays_88 : decode (am_b mX7_plays) 88 = .ok (.iadd, 1) := by decide +kernel
theorem dX7_plays_89 : decode (am_b mX7_plays) 89 = .ok (.iastore, 1) := by decide +kernel
theorem dX7_plays_90 : decode (am_b mX7_plays) 90 = .ok (.aload_n 0, 1) := by decide +kernel
theorem dX7_plays_91 : decode (am_b mX7_plays) 91 = .ok (.iload_n 1, 1) := by decide +kernel
theorem dX7_plays_92 : decode (am_b mX7_plays) 92 = .ok (.iload_n 3, 1) := by decide +kernel
theorem dX7_plays_93 : decode (am_b mX7_plays) 93 = .ok (.invokevirtual 79, 3) := by decide +kernel
theorem dX7_plays_96 : decode (am_b mX7_plays) 96 = .ok (.iinc 2 1, 3) := by decide +kernel
theorem dX7_plays_99 : decode (am_b mX7_plays) 99 = .ok (.goto (-58), 3) := by decide +kernel
theorem dX7_plays_102 : decode (am_b mX7_plays) 102 = .ok (.aload_n 0, 1) := by decide +kernel
theorem dX7_plays_103 : decode (am_b mX7_plays) 103 = .ok (.iload_n 1, 1) := by decide +kernel
theorem dX7_plays_104 : decode (am_b mX7_plays) 104 = .ok (.bipush 100, 2) := by decide +kernel
theorem dX7_plays_106 : decode (am_b mX7_plays) 106 = .ok (.invokevirtual 64, 3) := by decide +kernel
theorem dX7_plays_109 : decode (am_b mX7_plays) 109 = .ok (.aload_n 0, 1) := by decide +kernel
theorem dX7_plays_110 : decode (am_b mX7_plays) 110 = .ok (.getfield 7, 3) := by decide +kernel
theorem dX7_plays_113 : decode (am_b mX7_plays) 113 = .ok (.iload_n 1, 1) := by decide +kernel
theorem dX7_plays_114 : decode (am_b mX7_plays) 114 = .ok (.iconst 5, 1) := by decide +kernel
theorem dX7_plays_115 : decode (am_b mX7_plays) 115 = .ok (.iadd, 1) := by decide +kernel
theorem dX7_plays_116 : decode (am_b mX7_plays) 116 = .ok (.iaload, 1) := by decide +kernel
theorem dX7_plays_117 : decode (am_b mX7_plays) 117 = .ok (.if_icmp .ge 7, 3) := by decide +kernel
theorem dX7_plays_120 : decode (am_b mX7_plays) 120 = .ok (.iconst 1, 1) := by decide +kernel
theorem dX7_plays_121 : decode (am_b mX7_plays) 121 = .ok (.goto 4, 3) := by decide +kernel
theorem dX7_plays_124 : decode (am_b mX7_plays) 124 = .ok (.iconst 0, 1) := by decide +kernel
theorem dX7_plays_125 : decode (am_b mX7_plays) 125 = .ok (.istore_n 2, 1) := by decide +kernel
theorem dX7_plays_126 : decode (am_b mX7_plays) 126 = .ok (.aload_n 0, 1) := by decide +kernel
theorem dX7_plays_127 : decode (am_b mX7_plays) 127 = .ok (.iload_n 1, 1) := by decide +kernel
theorem dX7_plays_128 : decode (am_b mX7_plays) 128 = .ok (.invokevirtual 50, 3) := by decide +kernel
theorem dX7_plays_131 : decode (am_b mX7_plays) 131 = .ok (.istore_n 3, 1) := by decide +kernel
theorem dX7_plays_132 : decode (am_b mX7_plays) 132 = .ok (.iconst 0, 1) := by decide +kernel
theorem dX7_plays_133 : decode (am_b mX7_plays) 133 = .ok (.istore 4, 2) := by decide +kernel
theorem dX7_plays_135 : decode (am_b mX7_plays) 135 = .ok (.iconst 0, 1) := by decide +kernel
theorem dX7_plays_136 : decode (am_b mX7_plays) 136 = .ok (.istore 5, 2) := by decide +kernel
theorem dX7_plays_138 : decode (am_b mX7_plays) 138 = .ok (.iload 5, 2) := by decide +kernel
theorem dX7_plays_140 : decode (am_b mX7_plays) 140 = .ok (.aload_n 0, 1) := by decide +kernel
theorem dX7_plays_141 : decode (am_b mX7_plays) 141 = .ok (.getfield 7, 3) := by decide +kernel
theorem dX7_plays_144 : decode (am_b mX7_plays) 144 = .ok (.iload_n 1, 1) := by decide +kernel
theorem dX7_plays_145 : decode (am_b mX7_plays) 145 = .ok (.bipush 7, 2) := by decide +kernel
theorem dX7_plays_147 : decode (am_b mX7_plays) 147 = .ok (.iadd, 1) := by decide +kernel
theorem dX7_plays_148 : decode (am_b mX7_plays) 148 = .ok (.iaload, 1) := by decide +kernel
theorem dX7_plays_149 : decode (am_b mX7_plays) 149 = .ok (.if_icmp .ge 112, 3) := by decide +kernel
theorem dX7_plays_152 : decode (am_b mX7_plays) 152 = .ok (.aload_n 0, 1) := by decide +kernel
theorem dX7_plays_153 : decode (am_b mX7_plays) 153 = .ok (.getfield 7, 3) := by decide +kernel
theorem dX7_plays_156 : decode (am_b mX7_plays) 156 = .ok (.iload_n 1, 1) := by decide +kernel
theorem dX7_plays_157 : decode (am_b mX7_plays) 157 = .ok (.iload 5, 2) := by decide +kernel
theorem dX7_plays_159 : decode (am_b mX7_plays) 159 = .ok (.invokestatic 36, 3) := by decide +kernel
theorem dX7_plays_162 : decode (am_b mX7_plays) 162 = .ok (.iconst 1, 1) := by decide +kernel
theorem dX7_plays_163 : decode (am_b mX7_plays) 163 = .ok (.iadd, 1) := by decide +kernel
theorem dX7_plays_164 : decode (am_b mX7_plays) 164 = .ok (.iaload, 1) := by decide +kernel
theorem dX7_plays_165 : decode (am_b mX7_plays) 165 = .ok (.istore 6, 2) := by decide +kernel
theorem dX7_plays_167 : decode (am_b mX7_plays) 167 = .ok (.iload_n 2, 1) := by decide +kernel
theorem dX7_plays_168 : decode (am_b mX7_plays) 168 = .ok (.ifCond .eq 26, 3) := by decide +kernel
theorem dX7_plays_171 : decode (am_b mX7_plays) 171 = .ok (.iload 6, 2) := by decide +kernel
theorem dX7_plays_173 : decode (am_b mX7_plays) 173 = .ok (.ifCond .lt 25, 3) := by decide +kernel
theorem dX7_plays_176 : decode (am_b mX7_plays) 176 = .ok (.aload_n 0, 1) := by decide +kernel
theorem dX7_plays_177 : decode (am_b mX7_plays) 177 = .ok (.getfield 7, 3) := by decide +kernel
theorem dX7_plays_180 : decode (am_b mX7_plays) 180 = .ok (.iload_n 1, 1) := by decide +kernel
theorem dX7_plays_181 : decode (am_b mX7_plays) 181 = .ok (.bipush 8, 2) := by decide +kernel
theorem dX7_plays_183 : decode (am_b mX7_plays) 183 = .ok (.iadd, 1) := by decide +kernel
theorem dX7_plays_184 : decode (am_b mX7_plays) 184 = .ok (.iaload, 1) := by decide +kernel
theorem dX7_plays_185 : decode (am_b mX7_plays) 185 = .ok (.iload 6, 2) := by decide +kernel
theorem dX7_plays_187 : decode (am_b mX7_plays) 187 = .ok (.ishr, 1) := by decide +kernel
theorem dX7_plays_188 : decode (am_b mX7_plays) 188 = .ok (.iconst 1, 1) := by decide +kernel
theorem dX7_plays_189 : decode (am_b mX7_plays) 189 = .ok (.iand, 1) := by decide +kernel
theorem dX7_plays_190 : decode (am_b mX7_plays) 190 = .ok (.iconst 1, 1) := by decide +kernel
theorem dX7_plays_191 : decode (am_b mX7_plays) 191 = .ok (.if_icmp .ne 7, 3) := by decide +kernel
theorem dX7_plays_194 : decode (am_b mX7_plays) 194 = .ok (.iconst 1, 1) := by decide +kernel
theorem dX7_plays_195 : decode (am_b mX7_plays) 195 = .ok (.goto 4, 3) := by decide +kernel
theorem dX7_plays_198 : decode (am_b mX7_plays) 198 = .ok (.iconst 0, 1) := by decide +kernel
theorem dX7_plays_199 : decode (am_b mX7_plays) 199 = .ok (.istore 7, 2) := by decide +kernel
theorem dX7_plays_201 : decode (am_b mX7_plays) 201 = .ok (.iload 7, 2) := by decide +kernel
theorem dX7_plays_203 : decode (am_b mX7_plays) 203 = .ok (.ifCond .eq 24, 3) := by decide +kernel
theorem dX7_plays_206 : decode (am_b mX7_plays) 206 = .ok (.aload_n 0, 1) := by decide +kernel
theorem dX7_plays_207 : decode (am_b mX7_plays) 207 = .ok (.iload 5, 2) := by decide +kernel
theorem dX7_plays_209 : decode (am_b mX7_plays) 209 = .ok (.invokevirtual 54, 3) := by decide +kernel
theorem dX7_plays_212 : decode (am_b mX7_plays) 212 = .ok (.aload_n 0, 1) := by decide +kernel
theorem dX7_plays_213 : decode (am_b mX7_plays) 213 = .ok (.getfield 7, 3) := by decide +kernel
theorem dX7_plays_216 : decode (am_b mX7_plays) 216 = .ok (.iload_n 1, 1) := by decide +kernel
theorem dX7_plays_217 : decode (am_b mX7_plays) 217 = .ok (.iconst 3, 1) := by decide +kernel
theorem dX7_plays_218 : decode (am_b mX7_plays) 218 = .ok (.iadd, 1) := by decide +kernel
theorem dX7_plays_219 : decode (am_b mX7_plays) 219 = .ok (.iaload, 1) := by decide +kernel
theorem dX7_plays_220 : decode (am_b mX7_plays) 220 = .ok (.imul, 1) := by decide +kernel
theorem dX7_plays_221 : decode (am_b mX7_plays) 221 = .ok (.bipush 100, 2) := by decide +kernel
theorem dX7_plays_223 : decode (am_b mX7_plays) 223 = .ok (.idiv, 1) := by decide +kernel
theorem dX7_plays_224 : decode (am_b mX7_plays) 224 = .ok (.goto 4, 3) := by decide +kernel
theorem dX7_plays_227 : decode (am_b mX7_plays) 227 = .ok (.iconst 0, 1) := by decide +kernel
theorem dX7_plays_228 : decode (am_b mX7_plays) 228 = .ok (.istore 8, 2) := by decide +kernel
theorem dX7_plays_230 : decode (am_b mX7_plays) 230 = .ok (.aload_n 0, 1) := by decide +kernel
theorem dX7_plays_231 : decode (am_b mX7_plays) 231 = .ok (.getfield 7, 3) := by decide +kernel
theorem dX7_plays_234 : decode (am_b mX7_plays) 234 = .ok (.iload_n 1, 1) := by decide +kernel
theorem dX7_plays_235 : decode (am_b mX7_plays) 235 = .ok (.iload 5, 2) := by decide +kernel
theorem dX7_plays_237 : decode (am_b mX7_plays) 237 = .ok (.invokestatic 36, 3) := by decide +kernel
theorem dX7_plays_240 : decode (am_b mX7_plays) 240 = .ok (.iconst 2, 1) := by decide +kernel
theorem dX7_plays_241 : decode (am_b mX7_plays) 241 = .ok (.iadd, 1) := by decide +kernel
theorem dX7_plays_242 : decode (am_b mX7_plays) 242 = .ok (.dup2, 1) := by decide +kernel
theorem dX7_plays_243 : decode (am_b mX7_plays) 243 = .ok (.iaload, 1) := by decide +kernel
theorem dX7_plays_244 : decode (am_b mX7_plays) 244 = .ok (.iload 8, 2) := by decide +kernel
theorem dX7_plays_246 : decode (am_b mX7_plays) 246 = .ok (.iadd, 1) := by decide +kernel
theorem dX7_plays_247 : decode (am_b mX7_plays) 247 = .ok (.iastore, 1) := by decide +kernel
theorem dX7_plays_248 : decode (am_b mX7_plays) 248 = .ok (.iload 4, 2) := by decide +kernel
theorem dX7_plays_250 : decode (am_b mX7_plays) 250 = .ok (.iload 8, 2) := by decide +kernel
theorem dX7_plays_252 : decode (am_b mX7_plays) 252 = .ok (.iadd, 1) := by decide +kernel
theorem dX7_plays_253 : decode (am_b mX7_plays) 253 = .ok (.istore 4, 2) := by decide +kernel
theorem dX7_plays_255 : decode (am_b mX7_plays) 255 = .ok (.iinc 5 1, 3) := by decide +kernel
theorem dX7_plays_258 : decode (am_b mX7_plays) 258 = .ok (.goto (-120), 3) := by decide +kernel
theorem dX7_plays_261 : decode (am_b mX7_plays) 261 = .ok (.aload_n 0, 1) := by decide +kernel
theorem dX7_plays_262 : decode (am_b mX7_plays) 262 = .ok (.getfield 7, 3) := by decide +kernel
theorem dX7_plays_265 : decode (am_b mX7_plays) 265 = .ok (.iload_n 1, 1) := by decide +kernel
theorem dX7_plays_266 : decode (am_b mX7_plays) 266 = .ok (.bipush 11, 2) := by decide +kernel
theorem dX7_plays_268 : decode (am_b mX7_plays) 268 = .ok (.iadd, 1) := by decide +kernel
theorem dX7_plays_269 : decode (am_b mX7_plays) 269 = .ok (.dup2, 1) := by decide +kernel
theorem dX7_plays_270 : decode (am_b mX7_plays) 270 = .ok (.iaload, 1) := by decide +kernel
theorem dX7_plays_271 : decode (am_b mX7_plays) 271 = .ok (.iload 4, 2) := by decide +kernel
theorem dX7_plays_273 : decode (am_b mX7_plays) 273 = .ok (.iadd, 1) := by decide +kernel
theorem dX7_plays_274 : decode (am_b mX7_plays) 274 = .ok (.iastore, 1) := by decide +kernel
theorem dX7_plays_275 : decode (am_b mX7_plays) 275 = .ok (.aload_n 0, 1) := by decide +kernel
theorem dX7_plays_276 : decode (am_b mX7_plays) 276 = .ok (.getfield 7, 3) := by decide +kernel
theorem dX7_plays_279 : decode (am_b mX7_plays) 279 = .ok (.iload_n 1, 1) := by decide +kernel
theorem dX7_plays_280 : decode (am_b mX7_plays) 280 = .ok (.bipush 10, 2) := by decide +kernel
theorem dX7_plays_282 : decode (am_b mX7_plays) 282 = .ok (.iadd, 1) := by decide +kernel
theorem dX7_plays_283 : decode (am_b mX7_plays) 283 = .ok (.dup2, 1) := by decide +kernel
theorem dX7_plays_284 : decode (am_b mX7_plays) 284 = .ok (.iaload, 1) := by decide +kernel
theorem dX7_plays_285 : decode (am_b mX7_plays) 285 = .ok (.iload_n 2, 1) := by decide +kernel
theorem dX7_plays_286 : decode (am_b mX7_plays) 286 = .ok (.ifCond .eq 7, 3) := by decide +kernel
theorem dX7_plays_289 : decode (am_b mX7_plays) 289 = .ok (.iconst 1, 1) := by decide +kernel
theorem dX7_plays_290 : decode (am_b mX7_plays) 290 = .ok (.goto 4, 3) := by decide +kernel
theorem dX7_plays_293 : decode (am_b mX7_plays) 293 = .ok (.iconst 0, 1) := by decide +kernel
theorem dX7_plays_294 : decode (am_b mX7_plays) 294 = .ok (.iadd, 1) := by decide +kernel
theorem dX7_plays_295 : decode (am_b mX7_plays) 295 = .ok (.iastore, 1) := by decide +kernel
theorem dX7_plays_296 : decode (am_b mX7_plays) 296 = .ok (.aload_n 0, 1) := by decide +kernel
theorem dX7_plays_297 : decode (am_b mX7_plays) 297 = .ok (.getfield 7, 3) := by decide +kernel
theorem dX7_plays_300 : decode (am_b mX7_plays) 300 = .ok (.iload_n 1, 1) := by decide +kernel
theorem dX7_plays_301 : decode (am_b mX7_plays) 301 = .ok (.bipush 9, 2) := by decide +kernel
theorem dX7_plays_303 : decode (am_b mX7_plays) 303 = .ok (.iadd, 1) := by decide +kernel
theorem dX7_plays_304 : decode (am_b mX7_plays) 304 = .ok (.dup2, 1) := by decide +kernel
theorem dX7_plays_305 : decode (am_b mX7_plays) 305 = .ok (.iaload, 1) := by decide +kernel
theorem dX7_plays_306 : decode (am_b mX7_plays) 306 = .ok (.iconst 1, 1) := by decide +kernel
theorem dX7_plays_307 : decode (am_b mX7_plays) 307 = .ok (.iadd, 1) := by decide +kernel
theorem dX7_plays_308 : decode (am_b mX7_plays) 308 = .ok (.iastore, 1) := by decide +kernel
theorem dX7_plays_309 : decode (am_b mX7_plays) 309 = .ok (.iload 4, 2) := by decide +kernel
theorem dX7_plays_311 : decode (am_b mX7_plays) 311 = .ok (.ireturn, 1) := by decide +kernel
theorem dX7_ifPlayed_0 : decode (am_b mX7_ifPlayed) 0 = .ok (.iload_n 1, 1) := by decide +kernel
theorem dX7_ifPlayed_1 : decode (am_b mX7_ifPlayed) 1 = .ok (.iconst 1, 1) := by decide +kernel
theorem dX7_ifPlayed_2 : decode (am_b mX7_ifPlayed) 2 = .ok (.bipush 100, 2) := by decide +kernel
theorem dX7_ifPlayed_4 : decode (am_b mX7_ifPlayed) 4 = .ok (.invokestatic 32, 3) := by decide +kernel
theorem dX7_ifPlayed_7 : decode (am_b mX7_ifPlayed) 7 = .ok (.ifCond .eq 12, 3) := by decide +kernel
theorem dX7_ifPlayed_10 : decode (am_b mX7_ifPlayed) 10 = .ok (.iload_n 2, 1) := by decide +kernel
theorem dX7_ifPlayed_11 : decode (am_b mX7_ifPlayed) 11 = .ok (.iconst 0, 1) := by decide +kernel
theorem dX7_ifPlayed_12 : decode (am_b mX7_ifPlayed) 12 = .ok (.iconst 1, 1) := by decide +kernel
theorem dX7_ifPlayed_13 : decode (am_b mX7_ifPlayed) 13 = .ok (.invokestatic 32, 3) := by decide +kernel
theorem dX7_ifPlayed_16 : decode (am_b mX7_ifPlayed) 16 = .ok (.ifCond .ne 6, 3) := by decide +kernel
theorem dX7_ifPlayed_19 : decode (am_b mX7_ifPlayed) 19 = .ok (.bipush (-2), 2) := by decide +kernel
theorem dX7_ifPlayed_21 : decode (am_b mX7_ifPlayed) 21 = .ok (.ireturn, 1) := by decide +kernel
theorem dX7_ifPlayed_22 : decode (am_b mX7_ifPlayed) 22 = .ok (.aload_n 0, 1) := by decide +kernel
theorem dX7_ifPlayed_23 : decode (am_b mX7_ifPlayed) 23 = .ok (.invokevirtual 133, 3) := by decide +kernel
theorem dX7_ifPlayed_26 : decode (am_b mX7_ifPlayed) 26 = .ok (.iconst 0, 1) := by decide +kernel
theorem dX7_ifPlayed_27 : decode (am_b mX7_ifPlayed) 27 = .ok (.istore_n 3, 1) := by decide +kernel
theorem dX7_ifPlayed_28 : decode (am_b mX7_ifPlayed) 28 = .ok (.iconst 0, 1) := by decide +kernel
theorem dX7_ifPlayed_29 : decode (am_b mX7_ifPlayed) 29 = .ok (.istore 4, 2) := by decide +kernel
theorem dX7_ifPlayed_31 : decode (am_b mX7_ifPlayed) 31 = .ok (.iload 4, 2) := by decide +kernel
theorem dX7_ifPlayed_33 : decode (am_b mX7_ifPlayed) 33 = .ok (.iload_n 1, 1) := by decide +kernel
theorem dX7_ifPlayed_34 : decode (am_b mX7_ifPlayed) 34 = .ok (.if_icmp .ge 18, 3) := by decide +kernel
theorem dX7_ifPlayed_37 : decode (am_b mX7_ifPlayed) 37 = .ok (.iload_n 3, 1) := by decide +kernel
theorem dX7_ifPlayed_38 : decode (am_b mX7_ifPlayed) 38 = .ok (.aload_n 0, 1) := by decide +kernel
theorem dX7_ifPlayed_39 : decode (am_b mX7_ifPlayed) 39 = .ok (.bipush 60, 2) := by decide +kernel
theorem dX7_ifPlayed_41 : decode (am_b mX7_ifPlayed) 41 = .ok (.invokevirtual 109, 3) := by decide +kernel
theorem dX7_ifPlayed_44 : decode (am_b mX7_ifPlayed) 44 = .ok (.iadd, 1) := by decide +kernel
theorem dX7_ifPlayed_45 : decode (am_b mX7_ifPlayed) 45 = .ok (.istore_n 3, 1) := by decide +kernel
theorem dX7_ifPlayed_46 : decode (am_b mX7_ifPlayed) 46 = .ok (.iinc 4 1, 3) := by decide +kernel
theorem dX7_ifPlayed_49 : decode (am_b mX7_ifPlayed) 49 = .ok (.goto (-18), 3) := by decide +kernel
theorem dX7_ifPlayed_52 : decode (am_b mX7_ifPlayed) 52 = .ok (.iload_n 2, 1) := by decide +kernel
theorem dX7_ifPlayed_53 : decode (am_b mX7_ifPlayed) 53 = .ok (.ifCond .ne 7, 3) := by decide +kernel
theorem dX7_ifPlayed_56 : decode (am_b mX7_ifPlayed) 56 = .ok (.iload_n 3, 1) := by decide +kernel
theorem dX7_ifPlayed_57 : decode (am_b mX7_ifPlayed) 57 = .ok (.goto 18, 3) := by decide +kernel
theorem dX7_ifPlayed_60 : decode (am_b mX7_ifPlayed) 60 = .ok (.aload_n 0, 1) := by decide +kernel
theorem dX7_ifPlayed_61 : decode (am_b mX7_ifPlayed) 61 = .ok (.getfield 7, 3) := by decide +kernel
theorem dX7_ifPlayed_64 : decode (am_b mX7_ifPlayed) 64 = .ok (.bipush 70, 2) := by decide +kernel
theorem dX7_ifPlayed_66 : decode (am_b mX7_ifPlayed) 66 = .ok (.iaload, 1) := by decide +kernel
theorem dX7_ifPlayed_67 : decode (am_b mX7_ifPlayed) 67 = .ok (.aload_n 0, 1) := by decide +kernel
theorem dX7_ifPlayed_68 : decode (am_b mX7_ifPlayed) 68 = .ok (.getfield 7, 3) := by decide +kernel
theorem dX7_ifPlayed_71 : decode (am_b mX7_ifPlayed) 71 = .ok (.bipush 10, 2) := by decide +kernel
theorem dX7_ifPlayed_73 : decode (am_b mX7_ifPlayed) 73 = .ok (.iaload, 1) := by decide +kernel
theorem dX7_ifPlayed_74 : decode (am_b mX7_ifPlayed) 74 = .ok (.isub, 1) := by decide +kernel
theorem dX7_ifPlayed_75 : decode (am_b mX7_ifPlayed) 75 = .ok (.ireturn, 1) := by decide +kernel
theorem dX7_play_0 : decode (am_b mX7_play) 0 = .ok (.aload_n 0, 1) := by decide +kernel
theorem dX7_play_1 : decode (am_b mX7_play) 1 = .ok (.getfield 7, 3) := by decide +kernel
theorem dX7_play_4 : decode (am_b mX7_play) 4 = .ok (.bipush 9, 2) := by decide +kernel
theorem dX7_play_6 : decode (am_b mX7_play) 6 = .ok (.iaload, 1) := by decide +kernel
theorem dX7_play_7 : decode (am_b mX7_play) 7 = .ok (.sipush 9999, 3) := by decide +kernel
theorem dX7_play_10 : decode (am_b mX7_play) 10 = .ok (.if_icmp .ne 6, 3) := by decide +kernel
theorem dX7_play_13 : decode (am_b mX7_play) 13 = .ok (.bipush (-4), 2) := by decide +kernel
theorem dX7_play_15 : decode (am_b mX7_play) 15 = .ok (.ireturn, 1) := by decide +kernel
theorem dX7_play_16 : decode (am_b mX7_play) 16 = .ok (.aload_n 0, 1) := by decide +kernel
theorem dX7_play_17 : decode (am_b mX7_play) 17 = .ok (.invokevirtual 86, 3) := by decide +kernel
theorem dX7_play_20 : decode (am_b mX7_play) 20 = .ok (.aload_n 0, 1) := by decide +kernel
theorem dX7_play_21 : decode (am_b mX7_play) 21 = .ok (.iconst 0, 1) := by decide +kernel
theorem dX7_play_22 : decode (am_b mX7_play) 22 = .ok (.invokevirtual 109, 3) := by decide +kernel
theorem dX7_play_25 : decode (am_b mX7_play) 25 = .ok (.ireturn, 1) := by decide +kernel
