theorem dX5_oneMinute_121 : decode cX5_oneMinute 121 = .ok (.invokevirtual 53, 3) := by decide +kernel
theorem dX5_oneMinute_124 : decode cX5_oneMinute 124 = .ok (.aload_n 0, 1) := by decide +kernel
theorem dX5_oneMinute_125 : decode cX5_oneMinute 125 = .ok (.iload_n 2, 1) := by decide +kernel
theorem dX5_oneMinute_126 : decode cX5_oneMinute 126 = .ok (.invokevirtual 120, 3) := by decide +kernel
theorem dX5_oneMinute_129 : decode cX5_oneMinute 129 = .ok (.isub, 1) := by decide +kernel
theorem dX5_oneMinute_130 : decode cX5_oneMinute 130 = .ok (.iconst 0, 1) := by decide +kernel
theorem dX5_oneMinute_131 : decode cX5_oneMinute 131 = .ok (.bipush 99, 2) := by decide +kernel
theorem dX5_oneMinute_133 : decode cX5_oneMinute 133 = .ok (.invokestatic 56, 3) := by decide +kernel
theorem dX5_oneMinute_136 : decode cX5_oneMinute 136 = .ok (.invokevirtual 99, 3) := by decide +kernel
theorem dX5_oneMinute_139 : decode cX5_oneMinute 139 = .ok (.iinc 2 1, 3) := by decide +kernel
theorem dX5_oneMinute_142 : decode cX5_oneMinute 142 = .ok (.goto (-37), 3) := by decide +kernel
theorem dX5_oneMinute_145 : decode cX5_oneMinute 145 = .ok (.aload_n 0, 1) := by decide +kernel
theorem dX5_oneMinute_146 : decode cX5_oneMinute 146 = .ok (.getfield 7, 3) := by decide +kernel
theorem dX5_oneMinute_149 : decode cX5_oneMinute 149 = .ok (.iconst 0, 1) := by decide +kernel
theorem dX5_oneMinute_150 : decode cX5_oneMinute 150 = .ok (.dup2, 1) := by decide +kernel
theorem dX5_oneMinute_151 : decode cX5_oneMinute 151 = .ok (.iaload, 1) := by decide +kernel
theorem dX5_oneMinute_152 : decode cX5_oneMinute 152 = .ok (.iconst 1, 1) := by decide +kernel
theorem dX5_oneMinute_153 : decode cX5_oneMinute 153 = .ok (.iadd, 1) := by decide +kernel
theorem dX5_oneMinute_154 : decode cX5_oneMinute 154 = .ok (.iastore, 1) := by decide +kernel
theorem dX5_oneMinute_155 : decode cX5_oneMinute 155 = .ok (.return_, 1) := by decide +kernel
theorem dX5_passes_0 : decode cX5_passes 0 = .ok (.iconst 0, 1) := by decide +kernel
theorem dX5_passes_1 : decode cX5_passes 1 = .ok (.istore_n 2, 1) := by decide +kernel
theorem dX5_passes_2 : decode cX5_passes 2 = .ok (.iload_n 2, 1) := by decide +kernel
theorem dX5_passes_3 : decode cX5_passes 3 = .ok (.iload_n 1, 1) := by decide +kernel
theorem dX5_passes_4 : decode cX5_passes 4 = .ok (.if_icmp .ge 13, 3) := by decide +kernel
theorem dX5_passes_7 : decode cX5_passes 7 = .ok (.aload_n 0, 1) := by decide +kernel
theorem dX5_passes_8 : decode cX5_passes 8 = .ok (.invokevirtual 148, 3) := by decide +kernel
theorem dX5_passes_11 : decode cX5_passes 11 = .ok (.iinc 2 1, 3) := by decide +kernel
theorem dX5_passes_14 : decode cX5_passes 14 = .ok (.goto (-12), 3) := by decide +kernel
theorem dX5_passes_17 : decode cX5_passes 17 = .ok (.return_, 1) := by decide +kernel
theorem dX5_minutes_0 : decode cX5_minutes 0 = .ok (.iload_n 1, 1) := by decide +kernel
theorem dX5_minutes_1 : decode cX5_minutes 1 = .ok (.iconst 1, 1) := by decide +kernel
theorem dX5_minutes_2 : decode cX5_minutes 2 = .ok (.bipush 100, 2) := by decide +kernel
theorem dX5_minutes_4 : decode cX5_minutes 4 = .ok (.invokestatic 45, 3) := by decide +kernel
theorem dX5_minutes_7 : decode cX5_minutes 7 = .ok (.ifCond .ne 10, 3) := by decide +kernel
theorem dX5_minutes_10 : decode cX5_minutes 10 = .ok (.aload_n 0, 1) := by decide +kernel
theorem dX5_minutes_11 : decode cX5_minutes 11 = .ok (.ldc 44, 2) := by decide +kernel
theorem dX5_minutes_13 : decode cX5_minutes 13 = .ok (.invokevirtual 81, 3) := by decide +kernel
theorem dX5_minutes_16 : decode cX5_minutes 16 = .ok (.ireturn, 1) := by decide +kernel
theorem dX5_minutes_17 : decode cX5_minutes 17 = .ok (.aload_n 0, 1) := by decide +kernel
theorem dX5_minutes_18 : decode cX5_minutes 18 = .ok (.getfield 7, 3) := by decide +kernel
theorem dX5_minutes_21 : decode cX5_minutes 21 = .ok (.iconst 0, 1) := by decide +kernel
theorem dX5_minutes_22 : decode cX5_minutes 22 = .ok (.iaload, 1) := by decide +kernel
theorem dX5_minutes_23 : decode cX5_minutes 23 = .ok (.iload_n 1, 1) := by decide +kernel
theorem dX5_minutes_24 : decode cX5_minutes 24 = .ok (.iadd, 1) := by decide +kernel
theorem dX5_minutes_25 : decode cX5_minutes 25 = .ok (.ldc 151, 2) := by decide +kernel
theorem dX5_minutes_27 : decode cX5_minutes 27 = .ok (.if_icmp .le 10, 3) := by decide +kernel
theorem dX5_minutes_30 : decode cX5_minutes 30 = .ok (.aload_n 0, 1) := by decide +kernel
theorem dX5_minutes_31 : decode cX5_minutes 31 = .ok (.ldc 152, 2) := by decide +kernel
theorem dX5_minutes_33 : decode cX5_minutes 33 = .ok (.invokevirtual 81, 3) := by decide +kernel
theorem dX5_minutes_36 : decode cX5_minutes 36 = .ok (.ireturn, 1) := by decide +kernel
theorem dX5_minutes_37 : decode cX5_minutes 37 = .ok (.aload_n 0, 1) := by decide +kernel
theorem dX5_minutes_38 : decode cX5_minutes 38 = .ok (.iload_n 1, 1) := by decide +kernel
theorem dX5_minutes_39 : decode cX5_minutes 39 = .ok (.invokevirtual 153, 3) := by decide +kernel
theorem dX5_minutes_42 : decode cX5_minutes 42 = .ok (.aload_n 0, 1) := by decide +kernel
theorem dX5_minutes_43 : decode cX5_minutes 43 = .ok (.iconst 0, 1) := by decide +kernel
theorem dX5_minutes_44 : decode cX5_minutes 44 = .ok (.invokevirtual 87, 3) := by decide +kernel
theorem dX5_minutes_47 : decode cX5_minutes 47 = .ok (.ireturn, 1) := by decide +kernel
theorem dX5_behind_0 : decode cX5_behind 0 = .ok (.aload_n 0, 1) := by decide +kernel
theorem dX5_behind_1 : decode cX5_behind 1 = .ok (.iload_n 1, 1) := by decide +kernel
theorem dX5_behind_2 : decode cX5_behind 2 = .ok (.invokevirtual 153, 3) := by decide +kernel
theorem dX5_behind_5 : decode cX5_behind 5 = .ok (.aload_n 0, 1) := by decide +kernel
theorem dX5_behind_6 : decode cX5_behind 6 = .ok (.getfield 7, 3) := by decide +kernel
theorem dX5_behind_9 : decode cX5_behind 9 = .ok (.iload_n 2, 1) := by decide +kernel
theorem dX5_behind_10 : decode cX5_behind 10 = .ok (.iaload, 1) := by decide +kernel
theorem dX5_behind_11 : decode cX5_behind 11 = .ok (.istore_n 3, 1) := by decide +kernel
theorem dX5_behind_12 : decode cX5_behind 12 = .ok (.aload_n 0, 1) := by decide +kernel
theorem dX5_behind_13 : decode cX5_behind 13 = .ok (.iconst 0, 1) := by decide +kernel
theorem dX5_behind_14 : decode cX5_behind 14 = .ok (.aload_n 0, 1) := by decide +kernel
theorem dX5_behind_15 : decode cX5_behind 15 = .ok (.getfield 16, 3) := by decide +kernel
theorem dX5_behind_18 : decode cX5_behind 18 = .ok (.invokevirtual 156, 3) := by decide +kernel
theorem dX5_behind_21 : decode cX5_behind 21 = .ok (.iload_n 3, 1) := by decide +kernel
theorem dX5_behind_22 : decode cX5_behind 22 = .ok (.ireturn, 1) := by decide +kernel
theorem dX5_on_0 : decode cX5_on 0 = .ok (.aload_n 0, 1) := by decide +kernel
theorem dX5_on_1 : decode cX5_on 1 = .ok (.iload_n 1, 1) := by decide +kernel
theorem dX5_on_2 : decode cX5_on 2 = .ok (.invokevirtual 111, 3) := by decide +kernel
theorem dX5_on_5 : decode cX5_on 5 = .ok (.ifCond .eq 23, 3) := by decide +kernel
theorem dX5_on_8 : decode cX5_on 8 = .ok (.iload_n 2, 1) := by decide +kernel
theorem dX5_on_9 : decode cX5_on 9 = .ok (.iconst 0, 1) := by decide +kernel
theorem dX5_on_10 : decode cX5_on 10 = .ok (.sipush 200, 3) := by decide +kernel
theorem dX5_on_13 : decode cX5_on 13 = .ok (.invokestatic 45, 3) := by decide +kernel
theorem dX5_on_16 : decode cX5_on 16 = .ok (.ifCond .eq 12, 3) := by decide +kernel
theorem dX5_on_19 : decode cX5_on 19 = .ok (.iload_n 3, 1) := by decide +kernel
theorem dX5_on_20 : decode cX5_on 20 = .ok (.iconst 0, 1) := by decide +kernel
theorem dX5_on_21 : decode cX5_on 21 = .ok (.iconst 2, 1) := by decide +kernel
theorem dX5_on_22 : decode cX5_on 22 = .ok (.invokestatic 45, 3) := by decide +kernel
theorem dX5_on_25 : decode cX5_on 25 = .ok (.ifCond .ne 10, 3) := by decide +kernel
theorem dX5_on_28 : decode cX5_on 28 = .ok (.aload_n 0, 1) := by decide +kernel
theorem dX5_on_29 : decode cX5_on 29 = .ok (.ldc 44, 2) := by decide +kernel
theorem dX5_on_31 : decode cX5_on 31 = .ok (.invokevirtual 81, 3) := by decide +kernel
theorem dX5_on_34 : decode cX5_on 34 = .ok (.ireturn, 1) := by decide +kernel
theorem dX5_on_35 : decode cX5_on 35 = .ok (.aload_n 0, 1) := by decide +kernel
theorem dX5_on_36 : decode cX5_on 36 = .ok (.iconst 1, 1) := by decide +kernel
theorem dX5_on_37 : decode cX5_on 37 = .ok (.aload_n 0, 1) := by decide +kernel
theorem dX5_on_38 : decode cX5_on 38 = .ok (.getfield 16, 3) := by decide +kernel
theorem dX5_on_41 : decode cX5_on 41 = .ok (.invokevirtual 156, 3) := by decide +kernel
theorem dX5_on_44 : decode cX5_on 44 = .ok (.aload_n 0, 1) := by decide +kernel
theorem dX5_on_45 : decode cX5_on 45 = .ok (.iload_n 2, 1) := by decide +kernel
theorem dX5_on_46 : decode cX5_on 46 = .ok (.bipush 39, 2) := by decide +kernel
theorem dX5_on_48 : decode cX5_on 48 = .ok (.bipush 6, 2) := by decide +kernel
theorem dX5_on_50 : decode cX5_on 50 = .ok (.iload_n 1, 1) := by decide +kernel
theorem dX5_on_51 : decode cX5_on 51 = .ok (.imul, 1) := by decide +kernel
theorem dX5_on_52 : decode cX5_on 52 = .ok (.iadd, 1) := by decide +kernel
theorem dX5_on_53 : decode cX5_on 53 = .ok (.iconst 3, 1) := by decide +kernel
theorem dX5_on_54 : decode cX5_on 54 = .ok (.iadd, 1) := by decide +kernel
theorem dX5_on_55 : decode cX5_on 55 = .ok (.iload_n 3, 1) := by decide +kernel
theorem dX5_on_56 : decode cX5_on 56 = .ok (.iadd, 1) := by decide +kernel
theorem dX5_on_57 : decode cX5_on 57 = .ok (.invokevirtual 160, 3) := by decide +kernel
theorem dX5_on_60 : decode cX5_on 60 = .ok (.ireturn, 1) := by decide +kernel
theorem dX5_then_0 : decode cX5_then 0 = .ok (.iload_n 1, 1) := by decide +kernel
theorem dX5_then_1 : decode cX5_then 1 = .ok (.invokestatic 72, 3) := by decide +kernel
theorem dX5_then_4 : decode cX5_then 4 = .ok (.ifCond .eq 23, 3) := by decide +kernel
theorem dX5_then_7 : decode cX5_then 7 = .ok (.iload_n 2, 1) := by decide +kernel
theorem dX5_then_8 : decode cX5_then 8 = .ok (.iconst 0, 1) := by decide +kernel
theorem dX5_then_9 : decode cX5_then 9 = .ok (.sipush 200, 3) := by decide +kernel
theorem dX5_then_12 : decode cX5_then 12 = .ok (.invokestatic 45, 3) := by decide +kernel
theorem dX5_then_15 : decode cX5_then 15 = .ok (.ifCond .eq 12, 3) := by decide +kernel
theorem dX5_then_18 : decode cX5_then 18 = .ok (.iload_n 3, 1) := by decide +kernel
theorem dX5_then_19 : decode cX5_then 19 = .ok (.iconst 0, 1) := by decide +kernel
theorem dX5_then_20 : decode cX5_then 20 = .ok (.iconst 1, 1) := by decide +kernel
theorem dX5_then_21 : decode cX5_then 21 = .ok (.invokestatic 45, 3) := by decide +kernel
theorem dX5_then_24 : decode cX5_then 24 = .ok (.ifCond .ne 10, 3) := by decide +kernel
theorem dX5_then_27 : decode cX5_then 27 = .ok (.aload_n 0, 1) := by decide +kernel
theorem dX5_then_28 : decode cX5_then 28 = .ok (.ldc 44, 2) := by decide +kernel
theorem dX5_then_30 : decode cX5_then 30 = .ok (.invokevirtual 81, 3) := by decide +kernel
theorem dX5_then_33 : decode cX5_then 33 = .ok (.ireturn, 1) := by decide +kernel
theorem dX5_then_34 : decode cX5_then 34 = .ok (.aload_n 0, 1) := by decide +kernel
theorem dX5_then_35 : decode cX5_then 35 = .ok (.iconst 1, 1) := by decide +kernel
theorem dX5_then_36 : decode cX5_then 36 = .ok (.aload_n 0, 1) := by decide +kernel
theorem dX5_then_37 : decode cX5_then 37 = .ok (.getfield 16, 3) := by decide +kernel
theorem dX5_then_40 : decode cX5_then 40 = .ok (.invokevirtual 156, 3) := by decide +kernel
theorem dX5_then_43 : decode cX5_then 43 = .ok (.aload_n 0, 1) := by decide +kernel
theorem dX5_then_44 : decode cX5_then 44 = .ok (.iload_n 2, 1) := by decide +kernel
theorem dX5_then_45 : decode cX5_then 45 = .ok (.iconst 3, 1) := by decide +kernel
theorem dX5_then_46 : decode cX5_then 46 = .ok (.iconst 3, 1) := by decide +kernel
theorem dX5_then_47 : decode cX5_then 47 = .ok (.iload_n 1, 1) := by decide +kernel
theorem dX5_then_48 : decode cX5_then 48 = .ok (.imul, 1) := by decide +kernel
theorem dX5_then_49 : decode cX5_then 49 = .ok (.iadd, 1) := by decide +kernel
theorem dX5_then_50 : decode cX5_then 50 = .ok (.iload_n 3, 1) := by decide +kernel
theorem dX5_then_51 : decode cX5_then 51 = .ok (.ifCond .ne 7, 3) := by decide +kernel
theorem dX5_then_54 : decode cX5_then 54 = .ok (.iconst 0, 1) := by decide +kernel
theorem dX5_then_55 : decode cX5_then 55 = .ok (.goto 4, 3) := by decide +kernel
theorem dX5_then_58 : decode cX5_then 58 = .ok (.iconst 2, 1) := by decide +kernel
theorem dX5_then_59 : decode cX5_then 59 = .ok (.iadd, 1) := by decide +kernel
theorem dX5_then_60 : decode cX5_then 60 = .ok (.invokevirtual 160, 3) := by decide +kernel
theorem dX5_then_63 : decode cX5_then 63 = .ok (.ireturn, 1) := by decide +kernel
theorem dX5_isLit_0 : decode cX5_isLit 0 = .ok (.aload_n 0, 1) := by decide +kernel
theorem dX5_isLit_1 : decode cX5_isLit 1 = .ok (.iload_n 1, 1) := by decide +kernel
theorem dX5_isLit_2 : decode cX5_isLit 2 = .ok (.iconst 0, 1) := by decide +kernel
theorem dX5_isLit_3 : decode cX5_isLit 3 = .ok (.invokevirtual 49, 3) := by decide +kernel
theorem dX5_isLit_6 : decode cX5_isLit 6 = .ok (.ifCond .le 7, 3) := by decide +kernel
theorem dX5_isLit_9 : decode cX5_isLit 9 = .ok (.iconst 1, 1) := by decide +kernel
theorem dX5_isLit_10 : decode cX5_isLit 10 = .ok (.goto 4, 3) := by decide +kernel
theorem dX5_isLit_13 : decode cX5_isLit 13 = .ok (.iconst 0, 1) := by decide +kernel
theorem dX5_isLit_14 : decode cX5_isLit 14 = .ok (.ireturn, 1) := by decide +kernel
theorem dX5_lit_0 : decode cX5_lit 0 = .ok (.iload_n 1, 1) := by decide +kernel
theorem dX5_lit_1 : decode cX5_lit 1 = .ok (.invokestatic 72, 3) := by decide +kernel
theorem dX5_lit_4 : decode cX5_lit 4 = .ok (.ifCond .eq 12, 3) := by decide +kernel
theorem dX5_lit_7 : decode cX5_lit 7 = .ok (.iload_n 2, 1) := by decide +kernel
theorem dX5_lit_8 : decode cX5_lit 8 = .ok (.iconst 0, 1) := by decide +kernel
theorem dX5_lit_9 : decode cX5_lit 9 = .ok (.iconst 1, 1) := by decide +kernel
theorem dX5_lit_10 : decode cX5_lit 10 = .ok (.invokestatic 45, 3) := by decide +kernel
theorem dX5_lit_13 : decode cX5_lit 13 = .ok (.ifCond .ne 10, 3) := by decide +kernel
theorem dX5_lit_16 : decode cX5_lit 16 = .ok (.aload_n 0, 1) := by decide +kernel
theorem dX5_lit_17 : decode cX5_lit 17 = .ok (.ldc 44, 2) := by decide +kernel
theorem dX5_lit_19 : decode cX5_lit 19 = .ok (.invokevirtual 81, 3) := by decide +kernel
theorem dX5_lit_22 : decode cX5_lit 22 = .ok (.ireturn, 1) := by decide +kernel
theorem dX5_lit_23 : decode cX5_lit 23 = .ok (.aload_n 0, 1) := by decide +kernel
theorem dX5_lit_24 : decode cX5_lit 24 = .ok (.iconst 1, 1) := by decide +kernel
theorem dX5_lit_25 : decode cX5_lit 25 = .ok (.aload_n 0, 1) := by decide +kernel
theorem dX5_lit_26 : decode cX5_lit 26 = .ok (.getfield 16, 3) := by decide +kernel
theorem dX5_lit_29 : decode cX5_lit 29 = .ok (.invokevirtual 156, 3) := by decide +kernel
theorem dX5_lit_32 : decode cX5_lit 32 = .ok (.iconst 0, 1) := by decide +kernel
theorem dX5_lit_33 : decode cX5_lit 33 = .ok (.istore_n 3, 1) := by decide +kernel
theorem dX5_lit_34 : decode cX5_lit 34 = .ok (.iload_n 3, 1) := by decide +kernel
theorem dX5_lit_35 : decode cX5_lit 35 = .ok (.sipush 200, 3) := by decide +kernel
theorem dX5_lit_38 : decode cX5_lit 38 = .ok (.if_icmp .gt 31, 3) := by decide +kernel
theorem dX5_lit_41 : decode cX5_lit 41 = .ok (.aload_n 0, 1) := by decide +kernel
theorem dX5_lit_42 : decode cX5_lit 42 = .ok (.iload_n 1, 1) := by decide +kernel
theorem dX5_lit_43 : decode cX5_lit 43 = .ok (.invokevirtual 163, 3) := by decide +kernel
theorem dX5_lit_46 : decode cX5_lit 46 = .ok (.iload_n 2, 1) := by decide +kernel
theorem dX5_lit_47 : decode cX5_lit 47 = .ok (.iconst 1, 1) := by decide +kernel
theorem dX5_lit_48 : decode cX5_lit 48 = .ok (.if_icmp .ne 7, 3) := by decide +kernel
theorem dX5_lit_51 : decode cX5_lit 51 = .ok (.iconst 1, 1) := by decide +kernel
theorem dX5_lit_52 : decode cX5_lit 52 = .ok (.goto 4, 3) := by decide +kernel
theorem dX5_lit_55 : decode cX5_lit 55 = .ok (.iconst 0, 1) := by decide +kernel
theorem dX5_lit_56 : decode cX5_lit 56 = .ok (.if_icmp .eq 13, 3) := by decide +kernel
theorem dX5_lit_59 : decode cX5_lit 59 = .ok (.aload_n 0, 1) := by decide +kernel
theorem dX5_lit_60 : decode cX5_lit 60 = .ok (.invokevirtual 148, 3) := by decide +kernel
theorem dX5_lit_63 : decode cX5_lit 63 = .ok (.iinc 3 1, 3) := by decide +kernel
theorem dX5_lit_66 : decode cX5_lit 66 = .ok (.goto (-32), 3) := by decide +kernel
theorem dX5_lit_69 : decode cX5_lit 69 = .ok (.aload_n 0, 1) := by decide +kernel
theorem dX5_lit_70 : decode cX5_lit 70 = .ok (.iconst 0, 1) := by decide +kernel
theorem dX5_lit_71 : decode cX5_lit 71 = .ok (.aload_n 0, 1) := by decide +kernel
theorem dX5_lit_72 : decode cX5_lit 72 = .ok (.getfield 16, 3) := by decide +kernel
theorem dX5_lit_75 : decode cX5_lit 75 = .ok (.invokevirtual 156, 3) := by decide +kernel
theorem dX5_lit_78 : decode cX5_lit 78 = .ok (.iload_n 3, 1) := by decide +kernel
theorem dX5_lit_79 : decode cX5_lit 79 = .ok (.sipush 200, 3) := by decide +kernel
theorem dX5_lit_82 : decode cX5_lit 82 = .ok (.if_icmp .le 12, 3) := by decide +kernel
theorem dX5_lit_85 : decode cX5_lit 85 = .ok (.aload_n 0, 1) := by decide +kernel
theorem dX5_lit_86 : decode cX5_lit 86 = .ok (.ldc 166, 2) := by decide +kernel
theorem dX5_lit_88 : decode cX5_lit 88 = .ok (.invokevirtual 81, 3) := by decide +kernel
theorem dX5_lit_91 : decode cX5_lit 91 = .ok (.goto 4, 3) := by decide +kernel
theorem dX5_lit_94 : decode cX5_lit 94 = .ok (.iload_n 3, 1) := by decide +kernel
theorem dX5_lit_95 : decode cX5_lit 95 = .ok (.ireturn, 1) := by decide +kernel
theorem dX5_goes_0 : decode cX5_goes 0 = .ok (.aload_n 0, 1) := by decide +kernel
theorem dX5_goes_1 : decode cX5_goes 1 = .ok (.iload_n 1, 1) := by decide +kernel
theorem dX5_goes_2 : decode cX5_goes 2 = .ok (.invokevirtual 111, 3) := by decide +kernel
theorem dX5_goes_5 : decode cX5_goes 5 = .ok (.ifCond .ne 10, 3) := by decide +kernel
theorem dX5_goes_8 : decode cX5_goes 8 = .ok (.aload_n 0, 1) := by decide +kernel
theorem dX5_goes_9 : decode cX5_goes 9 = .ok (.ldc 44, 2) := by decide +kernel
theorem dX5_goes_11 : decode cX5_goes 11 = .ok (.invokevirtual 81, 3) := by decide +kernel
theorem dX5_goes_14 : decode cX5_goes 14 = .ok (.ireturn, 1) := by decide +kernel
theorem dX5_goes_15 : decode cX5_goes 15 = .ok (.aload_n 0, 1) := by decide +kernel
theorem dX5_goes_16 : decode cX5_goes 16 = .ok (.iconst 1, 1) := by decide +kernel
theorem dX5_goes_17 : decode cX5_goes 17 = .ok (.aload_n 0, 1) := by decide +kernel
theorem dX5_goes_18 : decode cX5_goes 18 = .ok (.getfield 16, 3) := by decide +kernel
theorem dX5_goes_21 : decode cX5_goes 21 = .ok (.invokevirtual 156, 3) := by decide +kernel
theorem dX5_goes_24 : decode cX5_goes 24 = .ok (.iconst 0, 1) := by decide +kernel
theorem dX5_goes_25 : decode cX5_goes 25 = .ok (.istore_n 2, 1) := by decide +kernel
theorem dX5_goes_26 : decode cX5_goes 26 = .ok (.iconst 0, 1) := by decide +kernel
theorem dX5_goes_27 : decode cX5_goes 27 = .ok (.istore_n 3, 1) := by decide +kernel
theorem dX5_goes_28 : decode cX5_goes 28 = .ok (.iload_n 3, 1) := by decide +kernel
theorem dX5_goes_29 : decode cX5_goes 29 = .ok (.sipush 200, 3) := by decide +kernel
theorem dX5_goes_32 : decode cX5_goes 32 = .ok (.if_icmp .ge 35, 3) := by decide +kernel
theorem dX5_goes_35 : decode cX5_goes 35 = .ok (.iload_n 2, 1) := by decide +kernel
theorem dX5_goes_36 : decode cX5_goes 36 = .ok (.ifCond .ne 31, 3) := by decide +kernel
theorem dX5_goes_39 : decode cX5_goes 39 = .ok (.aload_n 0, 1) := by decide +kernel
theorem dX5_goes_40 : decode cX5_goes 40 = .ok (.invokevirtual 148, 3) := by decide +kernel
theorem dX5_goes_43 : decode cX5_goes 43 = .ok (.iinc 3 1, 3) := by decide +kernel
theorem dX5_goes_46 : decode cX5_goes 46 = .ok (.aload_n 0, 1) := by decide +kernel
theorem dX5_goes_47 : decode cX5_goes 47 = .ok (.getfield 141, 3) := by decide +kernel
theorem dX5_goes_50 : decode cX5_goes 50 = .ok (.iload_n 1, 1) := by decide +kernel
theorem dX5_goes_51 : decode cX5_goes 51 = .ok (.ishr, 1) := by decide +kernel
theorem dX5_goes_52 : decode cX5_goes 52 = .ok (.iconst 1, 1) := by decide +kernel
theorem dX5_goes_53 : decode cX5_goes 53 = .ok (.iand, 1) := by decide +kernel
theorem dX5_goes_54 : decode cX5_goes 54 = .ok (.iconst 1, 1) := by decide +kernel
theorem dX5_goes_55 : decode cX5_goes 55 = .ok (.if_icmp .ne 7, 3) := by decide +kernel
theorem dX5_goes_58 : decode cX5_goes 58 = .ok (.iconst 1, 1) := by decide +kernel
theorem dX5_goes_59 : decode cX5_goes 59 = .ok (.goto 4, 3) := by decide +kernel
theorem dX5_goes_62 : decode cX5_goes 62 = .ok (.iconst 0, 1) := by decide +kernel
theorem dX5_goes_63 : decode cX5_goes 63 = .ok (.istore_n 2, 1) := by decide +kernel
theorem dX5_goes_64 : decode cX5_goes 64 = .ok (.goto (-36), 3) := by decide +kernel
theorem dX5_goes_67 : decode cX5_goes 67 = .ok (.aload_n 0, 1) := by decide +kernel
theorem dX5_goes_68 : decode cX5_goes 68 = .ok (.iconst 0, 1) := by decide +kernel
theorem dX5_goes_69 : decode cX5_goes 69 = .ok (.aload_n 0, 1) := by decide +kernel
theorem dX5_goes_70 : decode cX5_goes 70 = .ok (.getfield 16, 3) := by decide +kernel
theorem dX5_goes_73 : decode cX5_goes 73 = .ok (.invokevirtual 156, 3) := by decide +kernel
theorem dX5_goes_76 : decode cX5_goes 76 = .ok (.iload_n 2, 1) := by decide +kernel
theorem dX5_goes_77 : decode cX5_goes 77 = .ok (.ifCond .eq 7, 3) := by decide +kernel
theorem dX5_goes_80 : decode cX5_goes 80 = .ok (.iload_n 3, 1) := by decide +kernel
theorem dX5_goes_81 : decode cX5_goes 81 = .ok (.goto 9, 3) := by decide +kernel
theorem dX5_goes_84 : decode cX5_goes 84 = .ok (.aload_n 0, 1) := by decide +kernel
theorem dX5_goes_85 : decode cX5_goes 85 = .ok (.ldc 166, 2) := by decide +kernel
theorem dX5_goes_87 : decode cX5_goes 87 = .ok (.invokevirtual 81, 3) := by decide +kernel
theorem dX5_goes_90 : decode cX5_goes 90 = .ok (.ireturn, 1) := by decide +kernel
theorem dX5_well_0 : decode cX5_well 0 = .ok (.aload_n 0, 1) := by decide +kernel
theorem dX5_well_1 : decode cX5_well 1 = .ok (.iconst 1, 1) := by decide +kernel
theorem dX5_well_2 : decode cX5_well 2 = .ok (.aload_n 0, 1) := by decide +kernel
theorem dX5_well_3 : decode cX5_well 3 = .ok (.getfield 16, 3) := by decide +kernel
theorem dX5_well_6 : decode cX5_well 6 = .ok (.invokevirtual 156, 3) := by decide +kernel
theorem dX5_well_9 : decode cX5_well 9 = .ok (.iconst 0, 1) := by decide +kernel
theorem dX5_well_10 : decode cX5_well 10 = .ok (.istore_n 1, 1) := by decide +kernel
theorem dX5_well_11 : decode cX5_well 11 = .ok (.iload_n 1, 1) := by decide +kernel
theorem dX5_well_12 : decode cX5_well 12 = .ok (.sipush 200, 3) := by decide +kernel
theorem dX5_well_15 : decode cX5_well 15 = .ok (.if_icmp .gt 21, 3) := by decide +kernel
theorem dX5_well_18 : decode cX5_well 18 = .ok (.aload_n 0, 1) := by decide +kernel
theorem dX5_well_19 : decode cX5_well 19 = .ok (.iconst 3, 1) := by decide +kernel
theorem dX5_well_20 : decode cX5_well 20 = .ok (.invokevirtual 93, 3) := by decide +kernel
theorem dX5_well_23 : decode cX5_well 23 = .ok (.ifCond .le 13, 3) := by decide +kernel
theorem dX5_well_26 : decode cX5_well 26 = .ok (.aload_n 0, 1) := by decide +kernel
theorem dX5_well_27 : decode cX5_well 27 = .ok (.invokevirtual 148, 3) := by decide +kernel
theorem dX5_well_30 : decode cX5_well 30 = .ok (.iinc 1 1, 3) := by decide +kernel
theorem dX5_well_33 : decode cX5_well 33 = .ok (.goto (-22), 3) := by decide +kernel
theorem dX5_well_36 : decode cX5_well 36 = .ok (.aload_n 0, 1) := by decide +kernel
theorem dX5_well_37 : decode cX5_well 37 = .ok (.iconst 0, 1) := by decide +kernel
theorem dX5_well_38 : decode cX5_well 38 = .ok (.aload_n 0, 1) := by decide +kernel
theorem dX5_well_39 : decode cX5_well 39 = .ok (.getfield 16, 3) := by decide +kernel
theorem dX5_well_42 : decode cX5_well 42 = .ok (.invokevirtual 156, 3) := by decide +kernel
theorem dX5_well_45 : decode cX5_well 45 = .ok (.iload_n 1, 1) := by decide +kernel
theorem dX5_well_46 : decode cX5_well 46 = .ok (.sipush 200, 3) := by decide +kernel
theorem dX5_well_49 : decode cX5_well 49 = .ok (.if_icmp .le 12, 3) := by decide +kernel
theorem dX5_well_52 : decode cX5_well 52 = .ok (.aload_n 0, 1) := by decide +kernel
theorem dX5_well_53 : decode cX5_well 53 = .ok (.ldc 166, 2) := by decide +kernel
theorem dX5_well_55 : decode cX5_well 55 = .ok (.invokevirtual 81, 3) := by decide +kernel
theorem dX5_well_58 : decode cX5_well 58 = .ok (.goto 4, 3) := by decide +kernel
theorem dX5_well_61 : decode cX5_well 61 = .ok (.iload_n 1, 1) := by decide +kernel
theorem dX5_well_62 : decode cX5_well 62 = .ok (.ireturn, 1) := by decide +kernel
theorem dX5_readBehind_0 : decode cX5_readBehind 0 = .ok (.aload_n 0, 1) := by decide +kernel
theorem dX5_readBehind_1 : decode cX5_readBehind 1 = .ok (.iload_n 1, 1) := by decide +kernel
theorem dX5_readBehind_2 : decode cX5_readBehind 2 = .ok (.invokevirtual 153, 3) := by decide +kernel
theorem dX5_readBehind_5 : decode cX5_readBehind 5 = .ok (.aload_n 0, 1) := by decide +kernel
theorem dX5_readBehind_6 : decode cX5_readBehind 6 = .ok (.invokevirtual 96, 3) := by decide +kernel
theorem dX5_readBehind_9 : decode cX5_readBehind 9 = .ok (.istore_n 2, 1) := by decide +kernel
theorem dX5_readBehind_10 : decode cX5_readBehind 10 = .ok (.aload_n 0, 1) := by decide +kernel
theorem dX5_readBehind_11 : decode cX5_readBehind 11 = .ok (.iconst 0, 1) := by decide +kernel
theorem dX5_readBehind_12 : decode cX5_readBehind 12 = .ok (.aload_n 0, 1) := by decide +kernel
theorem dX5_readBehind_13 : decode cX5_readBehind 13 = .ok (.getfield 16, 3) := by decide +kernel
theorem dX5_readBehind_16 : decode cX5_readBehind 16 = .ok (.invokevirtual 156, 3) := by decide +kernel
theorem dX5_readBehind_19 : decode cX5_readBehind 19 = .ok (.iload_n 2, 1) := by decide +kernel
theorem dX5_readBehind_20 : decode cX5_readBehind 20 = .ok (.ireturn, 1) := by decide +kernel
theorem dX5_feather_0 : decode cX5_feather 0 = .ok (.iload_n 1, 1) := by decide +kernel
theorem dX5_feather_1 : decode cX5_feather 1 = .ok (.iconst 1, 1) := by decide +kernel
theorem dX5_feather_2 : decode cX5_feather 2 = .ok (.bipush 60, 2) := by decide +kernel
theorem dX5_feather_4 : decode cX5_feather 4 = .ok (.invokestatic 45, 3) := by decide +kernel
theorem dX5_feather_7 : decode cX5_feather 7 = .ok (.ifCond .ne 10, 3) := by decide +kernel
theorem dX5_feather_10 : decode cX5_feather 10 = .ok (.aload_n 0, 1) := by decide +kernel
theorem dX5_feather_11 : decode cX5_feather 11 = .ok (.ldc 44, 2) := by decide +kernel
theorem dX5_feather_13 : decode cX5_feather 13 = .ok (.invokevirtual 81, 3) := by decide +kernel
theorem dX5_feather_16 : decode cX5_feather 16 = .ok (.ireturn, 1) := by decide +kernel
theorem dX5_feather_17 : decode cX5_feather 17 = .ok (.aload_n 0, 1) := by decide +kernel
theorem dX5_feather_18 : decode cX5_feather 18 = .ok (.iconst 1, 1) := by decide +kernel
theorem dX5_feather_19 : decode cX5_feather 19 = .ok (.aload_n 0, 1) := by decide +kernel
theorem dX5_feather_20 : decode cX5_feather 20 = .ok (.getfield 16, 3) := by decide +kernel
theorem dX5_feather_23 : decode cX5_feather 23 = .ok (.invokevirtual 156, 3) := by decide +kernel
theorem dX5_feather_26 : decode cX5_feather 26 = .ok (.iconst (-1), 1) := by decide +kernel
theorem dX5_feather_27 : decode cX5_feather 27 = .ok (.istore_n 2, 1) := by decide +kernel
theorem dX5_feather_28 : decode cX5_feather 28 = .ok (.iconst (-1), 1) := by decide +kernel
theorem dX5_feather_29 : decode cX5_feather 29 = .ok (.istore_n 3, 1) := by decide +kernel
theorem dX5_feather_30 : decode cX5_feather 30 = .ok (.iconst 0, 1) := by decide +kernel
theorem dX5_feather_31 : decode cX5_feather 31 = .ok (.istore 4, 2) := by decide +kernel
theorem dX5_feather_33 : decode cX5_feather 33 = .ok (.iload 4, 2) := by decide +kernel
theorem dX5_feather_35 : decode cX5_feather 35 = .ok (.aload_n 0, 1) := by decide +kernel
theorem dX5_feather_36 : decode cX5_feather 36 = .ok (.getfield 7, 3) := by decide +kernel
theorem dX5_feather_39 : decode cX5_feather 39 = .ok (.iconst 2, 1) := by decide +kernel
theorem dX5_feather_40 : decode cX5_feather 40 = .ok (.iaload, 1) := by decide +kernel
theorem dX5_feather_41 : decode cX5_feather 41 = .ok (.if_icmp .ge 51, 3) := by decide +kernel
theorem dX5_feather_44 : decode cX5_feather 44 = .ok (.aload_n 0, 1) := by decide +kernel
theorem dX5_feather_45 : decode cX5_feather 45 = .ok (.iload 4, 2) := by decide +kernel
theorem dX5_feather_47 : decode cX5_feather 47 = .ok (.iconst 4, 1) := by decide +kernel
theorem dX5_feather_48 : decode cX5_feather 48 = .ok (.bipush 99, 2) := by decide +kernel
theorem dX5_feather_50 : decode cX5_feather 50 = .ok (.invokevirtual 99, 3) := by decide +kernel
theorem dX5_feather_53 : decode cX5_feather 53 = .ok (.aload_n 0, 1) := by decide +kernel
theorem dX5_feather_54 : decode cX5_feather 54 = .ok (.iload_n 1, 1) := by decide +kernel
theorem dX5_feather_55 : decode cX5_feather 55 = .ok (.invokevirtual 167, 3) := by decide +kernel
theorem dX5_feather_58 : decode cX5_feather 58 = .ok (.istore 5, 2) := by decide +kernel
theorem dX5_feather_60 : decode cX5_feather 60 = .ok (.iload 5, 2) := by decide +kernel
theorem dX5_feather_62 : decode cX5_feather 62 = .ok (.iload_n 3, 1) := by decide +kernel
theorem dX5_feather_63 : decode cX5_feather 63 = .ok (.if_icmp .le 8, 3) := by decide +kernel
theorem dX5_feather_66 : decode cX5_feather 66 = .ok (.iload 4, 2) := by decide +kernel
theorem dX5_feather_68 : decode cX5_feather 68 = .ok (.goto 4, 3) := by decide +kernel
theorem dX5_feather_71 : decode cX5_feather 71 = .ok (.iload_n 2, 1) := by decide +kernel
theorem dX5_feather_72 : decode cX5_feather 72 = .ok (.istore_n 2, 1) := by decide +kernel
theorem dX5_feather_73 : decode cX5_feather 73 = .ok (.iload 5, 2) := by decide +kernel
theorem dX5_feather_75 : decode cX5_feather 75 = .ok (.iload_n 3, 1) := by decide +kernel
theorem dX5_feather_76 : decode cX5_feather 76 = .ok (.if_icmp .le 8, 3) := by decide +kernel
theorem dX5_feather_79 : decode cX5_feather 79 = .ok (.iload 5, 2) := by decide +kernel
theorem dX5_feather_81 : decode cX5_feather 81 = .ok (.goto 4, 3) := by decide +kernel
theorem dX5_feather_84 : decode cX5_feather 84 = .ok (.iload_n 3, 1) := by decide +kernel
theorem dX5_feather_85 : decode cX5_feather 85 = .ok (.istore_n 3, 1) := by decide +kernel
theorem dX5_feather_86 : decode cX5_feather 86 = .ok (.iinc 4 1, 3) := by decide +kernel
theorem dX5_feather_89 : decode cX5_feather 89 = .ok (.goto (-56), 3) := by decide +kernel
theorem dX5_feather_92 : decode cX5_feather 92 = .ok (.iload_n 2, 1) := by decide +kernel
theorem dX5_feather_93 : decode cX5_feather 93 = .ok (.ifCond .ge 12, 3) := by decide +kernel
theorem dX5_feather_96 : decode cX5_feather 96 = .ok (.aload_n 0, 1) := by decide +kernel
theorem dX5_feather_97 : decode cX5_feather 97 = .ok (.ldc 166, 2) := by decide +kernel
theorem dX5_feather_99 : decode cX5_feather 99 = .ok (.invokevirtual 81, 3) := by decide +kernel
theorem dX5_feather_102 : decode cX5_feather 102 = .ok (.goto 4, 3) := by decide +kernel
theorem dX5_feather_105 : decode cX5_feather 105 = .ok (.iload_n 2, 1) := by decide +kernel
theorem dX5_feather_106 : decode cX5_feather 106 = .ok (.ireturn, 1) := by decide +kernel
theorem dX5_seat_0 : decode cX5_seat 0 = .ok (.aload_n 0, 1) := by decide +kernel
theorem dX5_seat_1 : decode cX5_seat 1 = .ok (.iload_n 1, 1) := by decide +kernel
theorem dX5_seat_2 : decode cX5_seat 2 = .ok (.invokevirtual 111, 3) := by decide +kernel
theorem dX5_seat_5 : decode cX5_seat 5 = .ok (.ifCond .eq 13, 3) := by decide +kernel
theorem dX5_seat_8 : decode cX5_seat 8 = .ok (.iload_n 2, 1) := by decide +kernel
theorem dX5_seat_9 : decode cX5_seat 9 = .ok (.iconst 1, 1) := by decide +kernel
theorem dX5_seat_10 : decode cX5_seat 10 = .ok (.bipush 60, 2) := by decide +kernel
theorem dX5_seat_12 : decode cX5_seat 12 = .ok (.invokestatic 45, 3) := by decide +kernel
theorem dX5_seat_15 : decode cX5_seat 15 = .ok (.ifCond .ne 10, 3) := by decide +kernel
theorem dX5_seat_18 : decode cX5_seat 18 = .ok (.aload_n 0, 1) := by decide +kernel
theorem dX5_seat_19 : decode cX5_seat 19 = .ok (.ldc 44, 2) := by decide +kernel
theorem dX5_seat_21 : decode cX5_seat 21 = .ok (.invokevirtual 81, 3) := by decide +kernel
theorem dX5_seat_24 : decode cX5_seat 24 = .ok (.ireturn, 1) := by decide +kernel
theorem dX5_seat_25 : decode cX5_seat 25 = .ok (.aload_n 0, 1) := by decide +kernel
theorem dX5_seat_26 : decode cX5_seat 26 = .ok (.iconst 1, 1) := by decide +kernel
theorem dX5_seat_27 : decode cX5_seat 27 = .ok (.aload_n 0, 1) := by decide +kernel
theorem dX5_seat_28 : decode cX5_seat 28 = .ok (.getfield 16, 3) := by decide +kernel
theorem dX5_seat_31 : decode cX5_seat 31 = .ok (.invokevirtual 156, 3) := by decide +kernel
theorem dX5_seat_34 : decode cX5_seat 34 = .ok (.iconst 0, 1) := by decide +kernel
theorem dX5_seat_35 : decode cX5_seat 35 = .ok (.istore_n 3, 1) := by decide +kernel
theorem dX5_seat_36 : decode cX5_seat 36 = .ok (.iconst (-1), 1) := by decide +kernel
theorem dX5_seat_37 : decode cX5_seat 37 = .ok (.istore 4, 2) := by decide +kernel
theorem dX5_seat_39 : decode cX5_seat 39 = .ok (.iconst 0, 1) := by decide +kernel
theorem dX5_seat_40 : decode cX5_seat 40 = .ok (.istore 5, 2) := by decide +kernel
theorem dX5_seat_42 : decode cX5_seat 42 = .ok (.iload 5, 2) := by decide +kernel
theorem dX5_seat_44 : decode cX5_seat 44 = .ok (.bipush 24, 2) := by decide +kernel
theorem dX5_seat_46 : decode cX5_seat 46 = .ok (.if_icmp .ge 66, 3) := by decide +kernel
theorem dX5_seat_49 : decode cX5_seat 49 = .ok (.aload_n 0, 1) := by decide +kernel
theorem dX5_seat_50 : decode cX5_seat 50 = .ok (.iload_n 1, 1) := by decide +kernel
theorem dX5_seat_51 : decode cX5_seat 51 = .ok (.iconst 1, 1) := by decide +kernel
theorem dX5_seat_52 : decode cX5_seat 52 = .ok (.iload 5, 2) := by decide +kernel
theorem dX5_seat_54 : decode cX5_seat 54 = .ok (.iconst 2, 1) := by decide +kernel
theorem dX5_seat_55 : decode cX5_seat 55 = .ok (.idiv, 1) := by decide +kernel
theorem dX5_seat_56 : decode cX5_seat 56 = .ok (.invokevirtual 99, 3) := by decide +kernel
theorem dX5_seat_59 : decode cX5_seat 59 = .ok (.aload_n 0, 1) := by decide +kernel
theorem dX5_seat_60 : decode cX5_seat 60 = .ok (.iload_n 1, 1) := by decide +kernel
theorem dX5_seat_61 : decode cX5_seat 61 = .ok (.iconst 2, 1) := by decide +kernel
theorem dX5_seat_62 : decode cX5_seat 62 = .ok (.iload 5, 2) := by decide +kernel
theorem dX5_seat_64 : decode cX5_seat 64 = .ok (.iconst 2, 1) := by decide +kernel
theorem dX5_seat_65 : decode cX5_seat 65 = .ok (.irem, 1) := by decide +kernel
theorem dX5_seat_66 : decode cX5_seat 66 = .ok (.invokevirtual 99, 3) := by decide +kernel
theorem dX5_seat_69 : decode cX5_seat 69 = .ok (.aload_n 0, 1) := by decide +kernel
theorem dX5_seat_70 : decode cX5_seat 70 = .ok (.iload_n 2, 1) := by decide +kernel
theorem dX5_seat_71 : decode cX5_seat 71 = .ok (.invokevirtual 167, 3) := by decide +kernel
theorem dX5_seat_74 : decode cX5_seat 74 = .ok (.istore 6, 2) := by decide +kernel
theorem dX5_seat_76 : decode cX5_seat 76 = .ok (.iload 6, 2) := by decide +kernel
theorem dX5_seat_78 : decode cX5_seat 78 = .ok (.iload 4, 2) := by decide +kernel
theorem dX5_seat_80 : decode cX5_seat 80 = .ok (.if_icmp .le 8, 3) := by decide +kernel
theorem dX5_seat_83 : decode cX5_seat 83 = .ok (.iload 5, 2) := by decide +kernel
theorem dX5_seat_85 : decode cX5_seat 85 = .ok (.goto 4, 3) := by decide +kernel
theorem dX5_seat_88 : decode cX5_seat 88 = .ok (.iload_n 3, 1) := by decide +kernel
theorem dX5_seat_89 : decode cX5_seat 89 = .ok (.istore_n 3, 1) := by decide +kernel
theorem dX5_seat_90 : decode cX5_seat 90 = .ok (.iload 6, 2) := by decide +kernel
theorem dX5_seat_92 : decode cX5_seat 92 = .ok (.iload 4, 2) := by decide +kernel
theorem dX5_seat_94 : decode cX5_seat 94 = .ok (.if_icmp .le 8, 3) := by decide +kernel
theorem dX5_seat_97 : decode cX5_seat 97 = .ok (.iload 6, 2) := by decide +kernel
theorem dX5_seat_99 : decode cX5_seat 99 = .ok (.goto 5, 3) := by decide +kernel
theorem dX5_seat_102 : decode cX5_seat 102 = .ok (.iload 4, 2) := by decide +kernel
theorem dX5_seat_104 : decode cX5_seat 104 = .ok (.istore 4, 2) := by decide +kernel
theorem dX5_seat_106 : decode cX5_seat 106 = .ok (.iinc 5 1, 3) := by decide +kernel
theorem dX5_seat_109 : decode cX5_seat 109 = .ok (.goto (-67), 3) := by decide +kernel
theorem dX5_seat_112 : decode cX5_seat 112 = .ok (.iload_n 3, 1) := by decide +kernel
theorem dX5_seat_113 : decode cX5_seat 113 = .ok (.ireturn, 1) := by decide +kernel
theorem dX5_kind_0 : decode cX5_kind 0 = .ok (.aload_n 0, 1) := by decide +kernel
theorem dX5_kind_1 : decode cX5_kind 1 = .ok (.iload_n 1, 1) := by decide +kernel
theorem dX5_kind_2 : decode cX5_kind 2 = .ok (.invokevirtual 111, 3) := by decide +kernel
theorem dX5_kind_5 : decode cX5_kind 5 = .ok (.ifCond .eq 13, 3) := by decide +kernel
theorem dX5_kind_8 : decode cX5_kind 8 = .ok (.iload_n 2, 1) := by decide +kernel
theorem dX5_kind_9 : decode cX5_kind 9 = .ok (.iconst 1, 1) := by decide +kernel
theorem dX5_kind_10 : decode cX5_kind 10 = .ok (.bipush 60, 2) := by decide +kernel
theorem dX5_kind_12 : decode cX5_kind 12 = .ok (.invokestatic 45, 3) := by decide +kernel
theorem dX5_kind_15 : decode cX5_kind 15 = .ok (.ifCond .ne 10, 3) := by decide +kernel
theorem dX5_kind_18 : decode cX5_kind 18 = .ok (.aload_n 0, 1) := by decide +kernel
theorem dX5_kind_19 : decode cX5_kind 19 = .ok (.ldc 44, 2) := by decide +kernel
theorem dX5_kind_21 : decode cX5_kind 21 = .ok (.invokevirtual 81, 3) := by decide +kernel
theorem dX5_kind_24 : decode cX5_kind 24 = .ok (.ireturn, 1) := by decide +kernel
theorem dX5_kind_25 : decode cX5_kind 25 = .ok (.aload_n 0, 1) := by decide +kernel
theorem dX5_kind_26 : decode cX5_kind 26 = .ok (.iconst 1, 1) := by decide +kernel
theorem dX5_kind_27 : decode cX5_kind 27 = .ok (.aload_n 0, 1) := by decide +kernel
theorem dX5_kind_28 : decode cX5_kind 28 = .ok (.getfield 16, 3) := by decide +kernel
theorem dX5_kind_31 : decode cX5_kind 31 = .ok (.invokevirtual 156, 3) := by decide +kernel
theorem dX5_kind_34 : decode cX5_kind 34 = .ok (.iconst 0, 1) := by decide +kernel
theorem dX5_kind_35 : decode cX5_kind 35 = .ok (.istore_n 3, 1) := by decide +kernel
theorem dX5_kind_36 : decode cX5_kind 36 = .ok (.iconst (-1), 1) := by decide +kernel
theorem dX5_kind_37 : decode cX5_kind 37 = .ok (.istore 4, 2) := by decide +kernel
theorem dX5_kind_39 : decode cX5_kind 39 = .ok (.iconst 0, 1) := by decide +kernel
theorem dX5_kind_40 : decode cX5_kind 40 = .ok (.istore 5, 2) := by decide +kernel
theorem dX5_kind_42 : decode cX5_kind 42 = .ok (.iload 5, 2) := by decide +kernel
theorem dX5_kind_44 : decode cX5_kind 44 = .ok (.bipush 6, 2) := by decide +kernel
theorem dX5_kind_46 : decode cX5_kind 46 = .ok (.if_icmp .ge 54, 3) := by decide +kernel
theorem dX5_kind_49 : decode cX5_kind 49 = .ok (.aload_n 0, 1) := by decide +kernel
theorem dX5_kind_50 : decode cX5_kind 50 = .ok (.iload_n 1, 1) := by decide +kernel
theorem dX5_kind_51 : decode cX5_kind 51 = .ok (.iconst 0, 1) := by decide +kernel
theorem dX5_kind_52 : decode cX5_kind 52 = .ok (.iload 5, 2) := by decide +kernel
theorem dX5_kind_54 : decode cX5_kind 54 = .ok (.invokevirtual 99, 3) := by decide +kernel
theorem dX5_kind_57 : decode cX5_kind 57 = .ok (.aload_n 0, 1) := by decide +kernel
theorem dX5_kind_58 : decode cX5_kind 58 = .ok (.iload_n 2, 1) := by decide +kernel
theorem dX5_kind_59 : decode cX5_kind 59 = .ok (.invokevirtual 167, 3) := by decide +kernel
theorem dX5_kind_62 : decode cX5_kind 62 = .ok (.istore 6, 2) := by decide +kernel
theorem dX5_kind_64 : decode cX5_kind 64 = .ok (.iload 6, 2) := by decide +kernel
theorem dX5_kind_66 : decode cX5_kind 66 = .ok (.iload 4, 2) := by decide +kernel
theorem dX5_kind_68 : decode cX5_kind 68 = .ok (.if_icmp .le 8, 3) := by decide +kernel
theorem dX5_kind_71 : decode cX5_kind 71 = .ok (.iload 5, 2) := by decide +kernel
theorem dX5_kind_73 : decode cX5_kind 73 = .ok (.goto 4, 3) := by decide +kernel
theorem dX5_kind_76 : decode cX5_kind 76 = .ok (.iload_n 3, 1) := by decide +kernel
theorem dX5_kind_77 : decode cX5_kind 77 = .ok (.istore_n 3, 1) := by decide +kernel
theorem dX5_kind_78 : decode cX5_kind 78 = .ok (.iload 6, 2) := by decide +kernel
theorem dX5_kind_80 : decode cX5_kind 80 = .ok (.iload 4, 2) := by decide +kernel
theorem dX5_kind_82 : decode cX5_kind 82 = .ok (.if_icmp .le 8, 3) := by decide +kernel
theorem dX5_kind_85 : decode cX5_kind 85 = .ok (.iload 6, 2) := by decide +kernel
theorem dX5_kind_87 : decode cX5_kind 87 = .ok (.goto 5, 3) := by decide +kernel
theorem dX5_kind_90 : decode cX5_kind 90 = .ok (.iload 4, 2) := by decide +kernel
theorem dX5_kind_92 : decode cX5_kind 92 = .ok (.istore 4, 2) := by decide +kernel
theorem dX5_kind_94 : decode cX5_kind 94 = .ok (.iinc 5 1, 3) := by decide +kernel
theorem dX5_kind_97 : decode cX5_kind 97 = .ok (.goto (-55), 3) := by decide +kernel
theorem dX5_kind_100 : decode cX5_kind 100 = .ok (.iload_n 3, 1) := by decide +kernel
theorem dX5_kind_101 : decode cX5_kind 101 = .ok (.ireturn, 1) := by decide +kernel
theorem dX5_driest_0 : decode cX5_driest 0 = .ok (.iload_n 1, 1) := by decide +kernel
theorem dX5_driest_1 : decode cX5_driest 1 = .ok (.iconst 1, 1) := by decide +kernel
theorem dX5_driest_2 : decode cX5_driest 2 = .ok (.bipush 60, 2) := by decide +kernel
theorem dX5_driest_4 : decode cX5_driest 4 = .ok (.invokestatic 45, 3) := by decide +kernel
theorem dX5_driest_7 : decode cX5_driest 7 = .ok (.ifCond .eq 13, 3) := by decide +kernel
theorem dX5_driest_10 : decode cX5_driest 10 = .ok (.iload_n 2, 1) := by decide +kernel
theorem dX5_driest_11 : decode cX5_driest 11 = .ok (.iconst 0, 1) := by decide +kernel
theorem dX5_driest_12 : decode cX5_driest 12 = .ok (.ldc 151, 2) := by decide +kernel
theorem dX5_driest_14 : decode cX5_driest 14 = .ok (.invokestatic 45, 3) := by decide +kernel
theorem dX5_driest_17 : decode cX5_driest 17 = .ok (.ifCond .ne 10, 3) := by decide +kernel
theorem dX5_driest_20 : decode cX5_driest 20 = .ok (.aload_n 0, 1) := by decide +kernel
theorem dX5_driest_21 : decode cX5_driest 21 = .ok (.ldc 44, 2) := by decide +kernel
theorem dX5_driest_23 : decode cX5_driest 23 = .ok (.invokevirtual 81, 3) := by decide +kernel
theorem dX5_driest_26 : decode cX5_driest 26 = .ok (.ireturn, 1) := by decide +kernel
theorem dX5_driest_27 : decode cX5_driest 27 = .ok (.aload_n 0, 1) := by decide +kernel
theorem dX5_driest_28 : decode cX5_driest 28 = .ok (.iconst 1, 1) := by decide +kernel
theorem dX5_driest_29 : decode cX5_driest 29 = .ok (.aload_n 0, 1) := by decide +kernel
theorem dX5_driest_30 : decode cX5_driest 30 = .ok (.getfield 16, 3) := by decide +kernel
theorem dX5_driest_33 : decode cX5_driest 33 = .ok (.invokevirtual 156, 3) := by decide +kernel
theorem dX5_driest_36 : decode cX5_driest 36 = .ok (.bipush 10, 2) := by decide +kernel
theorem dX5_driest_38 : decode cX5_driest 38 = .ok (.istore_n 3, 1) := by decide +kernel
theorem dX5_driest_39 : decode cX5_driest 39 = .ok (.iconst 0, 1) := by decide +kernel
theorem dX5_driest_40 : decode cX5_driest 40 = .ok (.istore 4, 2) := by decide +kernel
theorem dX5_driest_42 : decode cX5_driest 42 = .ok (.iload_n 3, 1) := by decide +kernel
theorem dX5_driest_43 : decode cX5_driest 43 = .ok (.ifCond .le 37, 3) := by decide +kernel
theorem dX5_driest_46 : decode cX5_driest 46 = .ok (.iload 4, 2) := by decide +kernel
theorem dX5_driest_48 : decode cX5_driest 48 = .ok (.ifCond .ne 32, 3) := by decide +kernel
theorem dX5_driest_51 : decode cX5_driest 51 = .ok (.iinc 3 (-1), 3) := by decide +kernel
theorem dX5_driest_54 : decode cX5_driest 54 = .ok (.aload_n 0, 1) := by decide +kernel
theorem dX5_driest_55 : decode cX5_driest 55 = .ok (.getfield 7, 3) := by decide +kernel
theorem dX5_driest_58 : decode cX5_driest 58 = .ok (.iconst 1, 1) := by decide +kernel
theorem dX5_driest_59 : decode cX5_driest 59 = .ok (.iload_n 3, 1) := by decide +kernel
theorem dX5_driest_60 : decode cX5_driest 60 = .ok (.iastore, 1) := by decide +kernel
theorem dX5_driest_61 : decode cX5_driest 61 = .ok (.aload_n 0, 1) := by decide +kernel
theorem dX5_driest_62 : decode cX5_driest 62 = .ok (.iload_n 1, 1) := by decide +kernel
theorem dX5_driest_63 : decode cX5_driest 63 = .ok (.invokevirtual 167, 3) := by decide +kernel
theorem dX5_driest_66 : decode cX5_driest 66 = .ok (.iload_n 2, 1) := by decide +kernel
theorem dX5_driest_67 : decode cX5_driest 67 = .ok (.if_icmp .lt 7, 3) := by decide +kernel
theorem dX5_driest_70 : decode cX5_driest 70 = .ok (.iconst 1, 1) := by decide +kernel
theorem dX5_driest_71 : decode cX5_driest 71 = .ok (.goto 4, 3) := by decide +kernel
theorem dX5_driest_74 : decode cX5_driest 74 = .ok (.iconst 0, 1) := by decide +kernel
theorem dX5_driest_75 : decode cX5_driest 75 = .ok (.istore 4, 2) := by decide +kernel
theorem dX5_driest_77 : decode cX5_driest 77 = .ok (.goto (-35), 3) := by decide +kernel
theorem dX5_driest_80 : decode cX5_driest 80 = .ok (.iload 4, 2) := by decide +kernel
theorem dX5_driest_82 : decode cX5_driest 82 = .ok (.ifCond .eq 7, 3) := by decide +kernel
theorem dX5_driest_85 : decode cX5_driest 85 = .ok (.iload_n 3, 1) := by decide +kernel
theorem dX5_driest_86 : decode cX5_driest 86 = .ok (.goto 9, 3) := by decide +kernel
theorem dX5_driest_89 : decode cX5_driest 89 = .ok (.aload_n 0, 1) := by decide +kernel
theorem dX5_driest_90 : decode cX5_driest 90 = .ok (.ldc 166, 2) := by decide +kernel
theorem dX5_driest_92 : decode cX5_driest 92 = .ok (.invokevirtual 81, 3) := by decide +kernel
theorem dX5_driest_95 : decode cX5_driest 95 = .ok (.ireturn, 1) := by decide +kernel
theorem dX5_needs_0 : decode cX5_needs 0 = .ok (.aload_n 0, 1) := by decide +kernel
theorem dX5_needs_1 : decode cX5_needs 1 = .ok (.iload_n 1, 1) := by decide +kernel
theorem dX5_needs_2 : decode cX5_needs 2 = .ok (.invokevirtual 111, 3) := by decide +kernel
theorem dX5_needs_5 : decode cX5_needs 5 = .ok (.ifCond .eq 20, 3) := by decide +kernel
theorem dX5_needs_8 : decode cX5_needs 8 = .ok (.iload_n 2, 1) := by decide +kernel
theorem dX5_needs_9 : decode cX5_needs 9 = .ok (.invokestatic 72, 3) := by decide +kernel
theorem dX5_needs_12 : decode cX5_needs 12 = .ok (.ifCond .eq 13, 3) := by decide +kernel
theorem dX5_needs_15 : decode cX5_needs 15 = .ok (.iload_n 3, 1) := by decide +kernel
theorem dX5_needs_16 : decode cX5_needs 16 = .ok (.iconst 0, 1) := by decide +kernel
theorem dX5_needs_17 : decode cX5_needs 17 = .ok (.bipush 60, 2) := by decide +kernel
theorem dX5_needs_19 : decode cX5_needs 19 = .ok (.invokestatic 45, 3) := by decide +kernel
theorem dX5_needs_22 : decode cX5_needs 22 = .ok (.ifCond .ne 10, 3) := by decide +kernel
theorem dX5_needs_25 : decode cX5_needs 25 = .ok (.aload_n 0, 1) := by decide +kernel
theorem dX5_needs_26 : decode cX5_needs 26 = .ok (.ldc 44, 2) := by decide +kernel
theorem dX5_needs_28 : decode cX5_needs 28 = .ok (.invokevirtual 81, 3) := by decide +kernel
theorem dX5_needs_31 : decode cX5_needs 31 = .ok (.ireturn, 1) := by decide +kernel
theorem dX5_needs_32 : decode cX5_needs 32 = .ok (.aload_n 0, 1) := by decide +kernel
theorem dX5_needs_33 : decode cX5_needs 33 = .ok (.iconst 1, 1) := by decide +kernel
theorem dX5_needs_34 : decode cX5_needs 34 = .ok (.aload_n 0, 1) := by decide +kernel
theorem dX5_needs_35 : decode cX5_needs 35 = .ok (.getfield 16, 3) := by decide +kernel
theorem dX5_needs_38 : decode cX5_needs 38 = .ok (.invokevirtual 156, 3) := by decide +kernel
theorem dX5_needs_41 : decode cX5_needs 41 = .ok (.iconst (-1), 1) := by decide +kernel
theorem dX5_needs_42 : decode cX5_needs 42 = .ok (.istore 4, 2) := by decide +kernel
theorem dX5_needs_44 : decode cX5_needs 44 = .ok (.iconst 0, 1) := by decide +kernel
theorem dX5_needs_45 : decode cX5_needs 45 = .ok (.istore 5, 2) := by decide +kernel
theorem dX5_needs_47 : decode cX5_needs 47 = .ok (.iload 4, 2) := by decide +kernel
theorem dX5_needs_49 : decode cX5_needs 49 = .ok (.bipush 99, 2) := by decide +kernel
theorem dX5_needs_51 : decode cX5_needs 51 = .ok (.if_icmp .ge 42, 3) := by decide +kernel
theorem dX5_needs_54 : decode cX5_needs 54 = .ok (.iload 5, 2) := by decide +kernel
theorem dX5_needs_56 : decode cX5_needs 56 = .ok (.ifCond .ne 37, 3) := by decide +kernel
theorem dX5_needs_59 : decode cX5_needs 59 = .ok (.iinc 4 1, 3) := by decide +kernel
theorem dX5_needs_62 : decode cX5_needs 62 = .ok (.aload_n 0, 1) := by decide +kernel
theorem dX5_needs_63 : decode cX5_needs 63 = .ok (.iload_n 1, 1) := by decide +kernel
theorem dX5_needs_64 : decode cX5_needs 64 = .ok (.iconst 3, 1) := by decide +kernel
theorem dX5_needs_65 : decode cX5_needs 65 = .ok (.iload 4, 2) := by decide +kernel
theorem dX5_needs_67 : decode cX5_needs 67 = .ok (.invokevirtual 99, 3) := by decide +kernel
theorem dX5_needs_70 : decode cX5_needs 70 = .ok (.aload_n 0, 1) := by decide +kernel
theorem dX5_needs_71 : decode cX5_needs 71 = .ok (.iload_n 3, 1) := by decide +kernel
theorem dX5_needs_72 : decode cX5_needs 72 = .ok (.iconst 3, 1) := by decide +kernel
theorem dX5_needs_73 : decode cX5_needs 73 = .ok (.iconst 3, 1) := by decide +kernel
theorem dX5_needs_74 : decode cX5_needs 74 = .ok (.iload_n 2, 1) := by decide +kernel
theorem dX5_needs_75 : decode cX5_needs 75 = .ok (.imul, 1) := by decide +kernel
theorem dX5_needs_76 : decode cX5_needs 76 = .ok (.iadd, 1) := by decide +kernel
theorem dX5_needs_77 : decode cX5_needs 77 = .ok (.invokevirtual 160, 3) := by decide +kernel
theorem dX5_needs_80 : decode cX5_needs 80 = .ok (.ifCond .le 7, 3) := by decide +kernel
theorem dX5_needs_83 : decode cX5_needs 83 = .ok (.iconst 1, 1) := by decide +kernel
theorem dX5_needs_84 : decode cX5_needs 84 = .ok (.goto 4, 3) := by decide +kernel
theorem dX5_needs_87 : decode cX5_needs 87 = .ok (.iconst 0, 1) := by decide +kernel
theorem dX5_needs_88 : decode cX5_needs 88 = .ok (.istore 5, 2) := by decide +kernel
theorem dX5_needs_90 : decode cX5_needs 90 = .ok (.goto (-43), 3) := by decide +kernel
theorem dX5_needs_93 : decode cX5_needs 93 = .ok (.iload 5, 2) := by decide +kernel
theorem dX5_needs_95 : decode cX5_needs 95 = .ok (.ifCond .eq 8, 3) := by decide +kernel
theorem dX5_needs_98 : decode cX5_needs 98 = .ok (.iload 4, 2) := by decide +kernel
theorem dX5_needs_100 : decode cX5_needs 100 = .ok (.goto 9, 3) := by decide +kernel
theorem dX5_needs_103 : decode cX5_needs 103 = .ok (.aload_n 0, 1) := by decide +kernel
theorem dX5_needs_104 : decode cX5_needs 104 = .ok (.ldc 166, 2) := by decide +kernel
theorem dX5_needs_106 : decode cX5_needs 106 = .ok (.invokevirtual 81, 3) := by decide +kernel
theorem dX5_needs_109 : decode cX5_needs 109 = .ok (.ireturn, 1) := by decide +kernel
theorem dX5_dear_0 : decode cX5_dear 0 = .ok (.iload_n 1, 1) := by decide +kernel
theorem dX5_dear_1 : decode cX5_dear 1 = .ok (.iconst 1, 1) := by decide +kernel
theorem dX5_dear_2 : decode cX5_dear 2 = .ok (.bipush 60, 2) := by decide +kernel
theorem dX5_dear_4 : decode cX5_dear 4 = .ok (.invokestatic 45, 3) := by decide +kernel
theorem dX5_dear_7 : decode cX5_dear 7 = .ok (.ifCond .ne 10, 3) := by decide +kernel
theorem dX5_dear_10 : decode cX5_dear 10 = .ok (.aload_n 0, 1) := by decide +kernel
theorem dX5_dear_11 : decode cX5_dear 11 = .ok (.ldc 44, 2) := by decide +kernel
theorem dX5_dear_13 : decode cX5_dear 13 = .ok (.invokevirtual 81, 3) := by decide +kernel
theorem dX5_dear_16 : decode cX5_dear 16 = .ok (.ireturn, 1) := by decide +kernel
theorem dX5_dear_17 : decode cX5_dear 17 = .ok (.aload_n 0, 1) := by decide +kernel
theorem dX5_dear_18 : decode cX5_dear 18 = .ok (.iconst 1, 1) := by decide +kernel
theorem dX5_dear_19 : decode cX5_dear 19 = .ok (.aload_n 0, 1) := by decide +kernel
theorem dX5_dear_20 : decode cX5_dear 20 = .ok (.getfield 16, 3) := by decide +kernel
theorem dX5_dear_23 : decode cX5_dear 23 = .ok (.invokevirtual 156, 3) := by decide +kernel
theorem dX5_dear_26 : decode cX5_dear 26 = .ok (.iconst (-1), 1) := by decide +kernel
theorem dX5_dear_27 : decode cX5_dear 27 = .ok (.istore_n 2, 1) := by decide +kernel
theorem dX5_dear_28 : decode cX5_dear 28 = .ok (.iconst 0, 1) := by decide +kernel
theorem dX5_dear_29 : decode cX5_dear 29 = .ok (.istore_n 3, 1) := by decide +kernel
theorem dX5_dear_30 : decode cX5_dear 30 = .ok (.iconst 0, 1) := by decide +kernel
theorem dX5_dear_31 : decode cX5_dear 31 = .ok (.istore 4, 2) := by decide +kernel
theorem dX5_dear_33 : decode cX5_dear 33 = .ok (.iload 4, 2) := by decide +kernel
theorem dX5_dear_35 : decode cX5_dear 35 = .ok (.aload_n 0, 1) := by decide +kernel
theorem dX5_dear_36 : decode cX5_dear 36 = .ok (.getfield 7, 3) := by decide +kernel
theorem dX5_dear_39 : decode cX5_dear 39 = .ok (.iconst 2, 1) := by decide +kernel
theorem dX5_dear_40 : decode cX5_dear 40 = .ok (.iaload, 1) := by decide +kernel
theorem dX5_dear_41 : decode cX5_dear 41 = .ok (.if_icmp .ge 65, 3) := by decide +kernel
theorem dX5_dear_44 : decode cX5_dear 44 = .ok (.aload_n 0, 1) := by decide +kernel
theorem dX5_dear_45 : decode cX5_dear 45 = .ok (.iload 4, 2) := by decide +kernel
theorem dX5_dear_47 : decode cX5_dear 47 = .ok (.iconst 3, 1) := by decide +kernel
theorem dX5_dear_48 : decode cX5_dear 48 = .ok (.iconst 0, 1) := by decide +kernel
theorem dX5_dear_49 : decode cX5_dear 49 = .ok (.invokevirtual 99, 3) := by decide +kernel
theorem dX5_dear_52 : decode cX5_dear 52 = .ok (.aload_n 0, 1) := by decide +kernel
theorem dX5_dear_53 : decode cX5_dear 53 = .ok (.iload_n 1, 1) := by decide +kernel
theorem dX5_dear_54 : decode cX5_dear 54 = .ok (.invokevirtual 167, 3) := by decide +kernel
theorem dX5_dear_57 : decode cX5_dear 57 = .ok (.istore 5, 2) := by decide +kernel
theorem dX5_dear_59 : decode cX5_dear 59 = .ok (.iload_n 2, 1) := by decide +kernel
theorem dX5_dear_60 : decode cX5_dear 60 = .ok (.ifCond .lt 9, 3) := by decide +kernel
theorem dX5_dear_63 : decode cX5_dear 63 = .ok (.iload 5, 2) := by decide +kernel
theorem dX5_dear_65 : decode cX5_dear 65 = .ok (.iload_n 3, 1) := by decide +kernel
theorem dX5_dear_66 : decode cX5_dear 66 = .ok (.if_icmp .ge 7, 3) := by decide +kernel
theorem dX5_dear_69 : decode cX5_dear 69 = .ok (.iconst 1, 1) := by decide +kernel
theorem dX5_dear_70 : decode cX5_dear 70 = .ok (.goto 4, 3) := by decide +kernel
theorem dX5_dear_73 : decode cX5_dear 73 = .ok (.iconst 0, 1) := by decide +kernel
theorem dX5_dear_74 : decode cX5_dear 74 = .ok (.istore 6, 2) := by decide +kernel
theorem dX5_dear_76 : decode cX5_dear 76 = .ok (.iload 6, 2) := by decide +kernel
theorem dX5_dear_78 : decode cX5_dear 78 = .ok (.ifCond .eq 8, 3) := by decide +kernel
theorem dX5_dear_81 : decode cX5_dear 81 = .ok (.iload 4, 2) := by decide +kernel
theorem dX5_dear_83 : decode cX5_dear 83 = .ok (.goto 4, 3) := by decide +kernel
theorem dX5_dear_86 : decode cX5_dear 86 = .ok (.iload_n 2, 1) := by decide +kernel
theorem dX5_dear_87 : decode cX5_dear 87 = .ok (.istore_n 2, 1) := by decide +kernel
theorem dX5_dear_88 : decode cX5_dear 88 = .ok (.iload 6, 2) := by decide +kernel
theorem dX5_dear_90 : decode cX5_dear 90 = .ok (.ifCond .eq 8, 3) := by decide +kernel
theorem dX5_dear_93 : decode cX5_dear 93 = .ok (.iload 5, 2) := by decide +kernel
theorem dX5_dear_95 : decode cX5_dear 95 = .ok (.goto 4, 3) := by decide +kernel
theorem dX5_dear_98 : decode cX5_dear 98 = .ok (.iload_n 3, 1) := by decide +kernel
theorem dX5_dear_99 : decode cX5_dear 99 = .ok (.istore_n 3, 1) := by decide +kernel
theorem dX5_dear_100 : decode cX5_dear 100 = .ok (.iinc 4 1, 3) := by decide +kernel
theorem dX5_dear_103 : decode cX5_dear 103 = .ok (.goto (-70), 3) := by decide +kernel
theorem dX5_dear_106 : decode cX5_dear 106 = .ok (.iload_n 2, 1) := by decide +kernel
theorem dX5_dear_107 : decode cX5_dear 107 = .ok (.ifCond .ge 12, 3) := by decide +kernel
theorem dX5_dear_110 : decode cX5_dear 110 = .ok (.aload_n 0, 1) := by decide +kernel
theorem dX5_dear_111 : decode cX5_dear 111 = .ok (.ldc 166, 2) := by decide +kernel
theorem dX5_dear_113 : decode cX5_dear 113 = .ok (.invokevirtual 81, 3) := by decide +kernel
theorem dX5_dear_116 : decode cX5_dear 116 = .ok (.goto 4, 3) := by decide +kernel
theorem dX5_dear_119 : decode cX5_dear 119 = .ok (.iload_n 2, 1) := by decide +kernel
theorem dX5_dear_120 : decode cX5_dear 120 = .ok (.ireturn, 1) := by decide +kernel
theorem dX5_open_0 : decode cX5_open 0 = .ok (.iload_n 1, 1) := by decide +kernel
theorem dX5_open_1 : decode cX5_open 1 = .ok (.iconst 1, 1) := by decide +kernel
theorem dX5_open_2 : decode cX5_open 2 = .ok (.bipush 60, 2) := by decide +kernel
theorem dX5_open_4 : decode cX5_open 4 = .ok (.invokestatic 45, 3) := by decide +kernel
theorem dX5_open_7 : decode cX5_open 7 = .ok (.ifCond .ne 10, 3) := by decide +kernel
theorem dX5_open_10 : decode cX5_open 10 = .ok (.aload_n 0, 1) := by decide +kernel
theorem dX5_open_11 : decode cX5_open 11 = .ok (.ldc 44, 2) := by decide +kernel
theorem dX5_open_13 : decode cX5_open 13 = .ok (.invokevirtual 81, 3) := by decide +kernel
theorem dX5_open_16 : decode cX5_open 16 = .ok (.ireturn, 1) := by decide +kernel
theorem dX5_open_17 : decode cX5_open 17 = .ok (.aload_n 0, 1) := by decide +kernel
theorem dX5_open_18 : decode cX5_open 18 = .ok (.iconst 1, 1) := by decide +kernel
theorem dX5_open_19 : decode cX5_open 19 = .ok (.aload_n 0, 1) := by decide +kernel
theorem dX5_open_20 : decode cX5_open 20 = .ok (.getfield 16, 3) := by decide +kernel
theorem dX5_open_23 : decode cX5_open 23 = .ok (.invokevirtual 156, 3) := by decide +kernel
theorem dX5_open_26 : decode cX5_open 26 = .ok (.iconst 0, 1) := by decide +kernel
theorem dX5_open_27 : decode cX5_open 27 = .ok (.istore_n 2, 1) := by decide +kernel
theorem dX5_open_28 : decode cX5_open 28 = .ok (.iconst (-1), 1) := by decide +kernel
theorem dX5_open_29 : decode cX5_open 29 = .ok (.istore_n 3, 1) := by decide +kernel
theorem dX5_open_30 : decode cX5_open 30 = .ok (.iconst 0, 1) := by decide +kernel
theorem dX5_open_31 : decode cX5_open 31 = .ok (.istore 4, 2) := by decide +kernel
theorem dX5_open_33 : decode cX5_open 33 = .ok (.iload 4, 2) := by decide +kernel
theorem dX5_open_35 : decode cX5_open 35 = .ok (.bipush 12, 2) := by decide +kernel
theorem dX5_open_37 : decode cX5_open 37 = .ok (.if_icmp .ge 58, 3) := by decide +kernel
theorem dX5_open_40 : decode cX5_open 40 = .ok (.aload_n 0, 1) := by decide +kernel
theorem dX5_open_41 : decode cX5_open 41 = .ok (.iload 4, 2) := by decide +kernel
theorem dX5_open_43 : decode cX5_open 43 = .ok (.iconst 1, 1) := by decide +kernel
theorem dX5_open_44 : decode cX5_open 44 = .ok (.iconst 1, 1) := by decide +kernel
theorem dX5_open_45 : decode cX5_open 45 = .ok (.aload_n 0, 1) := by decide +kernel
theorem dX5_open_46 : decode cX5_open 46 = .ok (.iload 4, 2) := by decide +kernel
theorem dX5_open_48 : decode cX5_open 48 = .ok (.iconst 1, 1) := by decide +kernel
theorem dX5_open_49 : decode cX5_open 49 = .ok (.invokevirtual 49, 3) := by decide +kernel
theorem dX5_open_52 : decode cX5_open 52 = .ok (.isub, 1) := by decide +kernel
theorem dX5_open_53 : decode cX5_open 53 = .ok (.invokevirtual 128, 3) := by decide +kernel
theorem dX5_open_56 : decode cX5_open 56 = .ok (.aload_n 0, 1) := by decide +kernel
theorem dX5_open_57 : decode cX5_open 57 = .ok (.iload_n 1, 1) := by decide +kernel
theorem dX5_open_58 : decode cX5_open 58 = .ok (.invokevirtual 167, 3) := by decide +kernel
theorem dX5_open_61 : decode cX5_open 61 = .ok (.istore 5, 2) := by decide +kernel
theorem dX5_open_63 : decode cX5_open 63 = .ok (.iload 5, 2) := by decide +kernel
theorem dX5_open_65 : decode cX5_open 65 = .ok (.iload_n 3, 1) := by decide +kernel
theorem dX5_open_66 : decode cX5_open 66 = .ok (.if_icmp .le 8, 3) := by decide +kernel
theorem dX5_open_69 : decode cX5_open 69 = .ok (.iload 4, 2) := by decide +kernel
theorem dX5_open_71 : decode cX5_open 71 = .ok (.goto 4, 3) := by decide +kernel
theorem dX5_open_74 : decode cX5_open 74 = .ok (.iload_n 2, 1) := by decide +kernel
theorem dX5_open_75 : decode cX5_open 75 = .ok (.istore_n 2, 1) := by decide +kernel
theorem dX5_open_76 : decode cX5_open 76 = .ok (.iload 5, 2) := by decide +kernel
theorem dX5_open_78 : decode cX5_open 78 = .ok (.iload_n 3, 1) := by decide +kernel
theorem dX5_open_79 : decode cX5_open 79 = .ok (.if_icmp .le 8, 3) := by decide +kernel
theorem dX5_open_82 : decode cX5_open 82 = .ok (.iload 5, 2) := by decide +kernel
theorem dX5_open_84 : decode cX5_open 84 = .ok (.goto 4, 3) := by decide +kernel
theorem dX5_open_87 : decode cX5_open 87 = .ok (.iload_n 3, 1) := by decide +kernel
theorem dX5_open_88 : decode cX5_open 88 = .ok (.istore_n 3, 1) := by decide +kernel
theorem dX5_open_89 : decode cX5_open 89 = .ok (.iinc 4 1, 3) := by decide +kernel
theorem dX5_open_92 : decode cX5_open 92 = .ok (.goto (-59), 3) := by decide +kernel
theorem dX5_open_95 : decode cX5_open 95 = .ok (.iload_n 2, 1) := by decide +kernel
theorem dX5_open_96 : decode cX5_open 96 = .ok (.ireturn, 1) := by decide +kernel
theorem dX5_feed_0 : decode cX5_feed 0 = .ok (.iload_n 2, 1) := by decide +kernel
theorem dX5_feed_1 : decode cX5_feed 1 = .ok (.iconst 1, 1) := by decide +kernel
theorem dX5_feed_2 : decode cX5_feed 2 = .ok (.iconst 4, 1) := by decide +kernel
theorem dX5_feed_3 : decode cX5_feed 3 = .ok (.invokestatic 45, 3) := by decide +kernel
theorem dX5_feed_6 : decode cX5_feed 6 = .ok (.ifCond .ne 10, 3) := by decide +kernel
theorem dX5_feed_9 : decode cX5_feed 9 = .ok (.aload_n 0, 1) := by decide +kernel
theorem dX5_feed_10 : decode cX5_feed 10 = .ok (.ldc 44, 2) := by decide +kernel
theorem dX5_feed_12 : decode cX5_feed 12 = .ok (.invokevirtual 81, 3) := by decide +kernel
theorem dX5_feed_15 : decode cX5_feed 15 = .ok (.ireturn, 1) := by decide +kernel
theorem dX5_feed_16 : decode cX5_feed 16 = .ok (.aload_n 0, 1) := by decide +kernel
theorem dX5_feed_17 : decode cX5_feed 17 = .ok (.getfield 170, 3) := by decide +kernel
theorem dX5_feed_20 : decode cX5_feed 20 = .ok (.iload_n 2, 1) := by decide +kernel
theorem dX5_feed_21 : decode cX5_feed 21 = .ok (.iadd, 1) := by decide +kernel
theorem dX5_feed_22 : decode cX5_feed 22 = .ok (.bipush 120, 2) := by decide +kernel
theorem dX5_feed_24 : decode cX5_feed 24 = .ok (.if_icmp .le 10, 3) := by decide +kernel
theorem dX5_feed_27 : decode cX5_feed 27 = .ok (.aload_n 0, 1) := by decide +kernel
theorem dX5_feed_28 : decode cX5_feed 28 = .ok (.ldc 106, 2) := by decide +kernel
theorem dX5_feed_30 : decode cX5_feed 30 = .ok (.invokevirtual 81, 3) := by decide +kernel
theorem dX5_feed_33 : decode cX5_feed 33 = .ok (.ireturn, 1) := by decide +kernel
theorem dX5_feed_34 : decode cX5_feed 34 = .ok (.iload_n 2, 1) := by decide +kernel
theorem dX5_feed_35 : decode cX5_feed 35 = .ok (.iconst 1, 1) := by decide +kernel
theorem dX5_feed_36 : decode cX5_feed 36 = .ok (.isub, 1) := by decide +kernel
theorem dX5_feed_37 : decode cX5_feed 37 = .ok (.istore_n 3, 1) := by decide +kernel
theorem dX5_feed_38 : decode cX5_feed 38 = .ok (.iload_n 3, 1) := by decide +kernel
theorem dX5_feed_39 : decode cX5_feed 39 = .ok (.ifCond .lt 38, 3) := by decide +kernel
theorem dX5_feed_42 : decode cX5_feed 42 = .ok (.aload_n 0, 1) := by decide +kernel
theorem dX5_feed_43 : decode cX5_feed 43 = .ok (.getfield 22, 3) := by decide +kernel
theorem dX5_feed_46 : decode cX5_feed 46 = .ok (.aload_n 0, 1) := by decide +kernel
theorem dX5_feed_47 : decode cX5_feed 47 = .ok (.getfield 170, 3) := by decide +kernel
theorem dX5_feed_50 : decode cX5_feed 50 = .ok (.iload_n 1, 1) := by decide +kernel
theorem dX5_feed_51 : decode cX5_feed 51 = .ok (.bipush 8, 2) := by decide +kernel
theorem dX5_feed_53 : decode cX5_feed 53 = .ok (.iload_n 3, 1) := by decide +kernel
theorem dX5_feed_54 : decode cX5_feed 54 = .ok (.imul, 1) := by decide +kernel
theorem dX5_feed_55 : decode cX5_feed 55 = .ok (.ishr, 1) := by decide +kernel
theorem dX5_feed_56 : decode cX5_feed 56 = .ok (.sipush 255, 3) := by decide +kernel
theorem dX5_feed_59 : decode cX5_feed 59 = .ok (.iand, 1) := by decide +kernel
theorem dX5_feed_60 : decode cX5_feed 60 = .ok (.iastore, 1) := by decide +kernel
theorem dX5_feed_61 : decode cX5_feed 61 = .ok (.aload_n 0, 1) := by decide +kernel
theorem dX5_feed_62 : decode cX5_feed 62 = .ok (.dup, 1) := by decide +kernel
theorem dX5_feed_63 : decode cX5_feed 63 = .ok (.getfield 170, 3) := by decide +kernel
theorem dX5_feed_66 : decode cX5_feed 66 = .ok (.iconst 1, 1) := by decide +kernel
theorem dX5_feed_67 : decode cX5_feed 67 = .ok (.iadd, 1) := by decide +kernel
theorem dX5_feed_68 : decode cX5_feed 68 = .ok (.putfield 170, 3) := by decide +kernel
theorem dX5_feed_71 : decode cX5_feed 71 = .ok (.iinc 3 (-1), 3) := by decide +kernel
theorem dX5_feed_74 : decode cX5_feed 74 = .ok (.goto (-36), 3) := by decide +kernel
theorem dX5_feed_77 : decode cX5_feed 77 = .ok (.aload_n 0, 1) := by decide +kernel
theorem dX5_feed_78 : decode cX5_feed 78 = .ok (.getfield 170, 3) := by decide +kernel
theorem dX5_feed_81 : decode cX5_feed 81 = .ok (.ireturn, 1) := by decide +kernel
theorem dX5_wipe_0 : decode cX5_wipe 0 = .ok (.aload_n 0, 1) := by decide +kernel
theorem dX5_wipe_1 : decode cX5_wipe 1 = .ok (.getfield 170, 3) := by decide +kernel
theorem dX5_wipe_4 : decode cX5_wipe 4 = .ok (.istore_n 1, 1) := by decide +kernel
theorem dX5_wipe_5 : decode cX5_wipe 5 = .ok (.aload_n 0, 1) := by decide +kernel
theorem dX5_wipe_6 : decode cX5_wipe 6 = .ok (.iconst 0, 1) := by decide +kernel
theorem dX5_wipe_7 : decode cX5_wipe 7 = .ok (.putfield 170, 3) := by decide +kernel
theorem dX5_wipe_10 : decode cX5_wipe 10 = .ok (.iload_n 1, 1) := by decide +kernel
theorem dX5_wipe_11 : decode cX5_wipe 11 = .ok (.ireturn, 1) := by decide +kernel
theorem dX5_byteAt_0 : decode cX5_byteAt 0 = .ok (.iload_n 1, 1) := by decide +kernel
theorem dX5_byteAt_1 : decode cX5_byteAt 1 = .ok (.aload_n 0, 1) := by decide +kernel
theorem dX5_byteAt_2 : decode cX5_byteAt 2 = .ok (.getfield 170, 3) := by decide +kernel
theorem dX5_byteAt_5 : decode cX5_byteAt 5 = .ok (.if_icmp .ge 12, 3) := by decide +kernel
theorem dX5_byteAt_8 : decode cX5_byteAt 8 = .ok (.aload_n 0, 1) := by decide +kernel
theorem dX5_byteAt_9 : decode cX5_byteAt 9 = .ok (.getfield 22, 3) := by decide +kernel
theorem dX5_byteAt_12 : decode cX5_byteAt 12 = .ok (.iload_n 1, 1) := by decide +kernel
theorem dX5_byteAt_13 : decode cX5_byteAt 13 = .ok (.iaload, 1) := by decide +kernel
theorem dX5_byteAt_14 : decode cX5_byteAt 14 = .ok (.goto 4, 3) := by decide +kernel
theorem dX5_byteAt_17 : decode cX5_byteAt 17 = .ok (.iconst (-1), 1) := by decide +kernel
theorem dX5_byteAt_18 : decode cX5_byteAt 18 = .ok (.ireturn, 1) := by decide +kernel
theorem dX5_isLetter_0 : decode cX5_isLetter 0 = .ok (.iload_n 0, 1) := by decide +kernel
theorem dX5_isLetter_1 : decode cX5_isLetter 1 = .ok (.bipush 97, 2) := by decide +kernel
theorem dX5_isLetter_3 : decode cX5_isLetter 3 = .ok (.bipush 122, 2) := by decide +kernel
theorem dX5_isLetter_5 : decode cX5_isLetter 5 = .ok (.invokestatic 45, 3) := by decide +kernel
theorem dX5_isLetter_8 : decode cX5_isLetter 8 = .ok (.ireturn, 1) := by decide +kernel
theorem dX5_isDigit_0 : decode cX5_isDigit 0 = .ok (.iload_n 0, 1) := by decide +kernel
theorem dX5_isDigit_1 : decode cX5_isDigit 1 = .ok (.bipush 48, 2) := by decide +kernel
theorem dX5_isDigit_3 : decode cX5_isDigit 3 = .ok (.bipush 57, 2) := by decide +kernel
theorem dX5_isDigit_5 : decode cX5_isDigit 5 = .ok (.invokestatic 45, 3) := by decide +kernel
theorem dX5_isDigit_8 : decode cX5_isDigit 8 = .ok (.ireturn, 1) := by decide +kernel
theorem dX5_advance_0 : decode cX5_advance 0 = .ok (.aload_n 0, 1) := by decide +kernel
theorem dX5_advance_1 : decode cX5_advance 1 = .ok (.aload_n 0, 1) := by decide +kernel
theorem dX5_advance_2 : decode cX5_advance 2 = .ok (.getfield 173, 3) := by decide +kernel
theorem dX5_advance_5 : decode cX5_advance 5 = .ok (.putfield 176, 3) := by decide +kernel
theorem dX5_advance_8 : decode cX5_advance 8 = .ok (.aload_n 0, 1) := by decide +kernel
theorem dX5_advance_9 : decode cX5_advance 9 = .ok (.aload_n 0, 1) := by decide +kernel
theorem dX5_advance_10 : decode cX5_advance 10 = .ok (.getfield 176, 3) := by decide +kernel
theorem dX5_advance_13 : decode cX5_advance 13 = .ok (.invokevirtual 179, 3) := by decide +kernel
theorem dX5_advance_16 : decode cX5_advance 16 = .ok (.bipush 32, 2) := by decide +kernel
theorem dX5_advance_18 : decode cX5_advance 18 = .ok (.if_icmp .ne 16, 3) := by decide +kernel
theorem dX5_advance_21 : decode cX5_advance 21 = .ok (.aload_n 0, 1) := by decide +kernel
theorem dX5_advance_22 : decode cX5_advance 22 = .ok (.dup, 1) := by decide +kernel
theorem dX5_advance_23 : decode cX5_advance 23 = .ok (.getfield 176, 3) := by decide +kernel
theorem dX5_advance_26 : decode cX5_advance 26 = .ok (.iconst 1, 1) := by decide +kernel
theorem dX5_advance_27 : decode cX5_advance 27 = .ok (.iadd, 1) := by decide +kernel
theorem dX5_advance_28 : decode cX5_advance 28 = .ok (.putfield 176, 3) := by decide +kernel
theorem dX5_advance_31 : decode cX5_advance 31 = .ok (.goto (-23), 3) := by decide +kernel
theorem dX5_advance_34 : decode cX5_advance 34 = .ok (.aload_n 0, 1) := by decide +kernel
theorem dX5_advance_35 : decode cX5_advance 35 = .ok (.aload_n 0, 1) := by decide +kernel
theorem dX5_advance_36 : decode cX5_advance 36 = .ok (.getfield 176, 3) := by decide +kernel
theorem dX5_advance_39 : decode cX5_advance 39 = .ok (.putfield 173, 3) := by decide +kernel
theorem dX5_advance_42 : decode cX5_advance 42 = .ok (.aload_n 0, 1) := by decide +kernel
theorem dX5_advance_43 : decode cX5_advance 43 = .ok (.aload_n 0, 1) := by decide +kernel
theorem dX5_advance_44 : decode cX5_advance 44 = .ok (.getfield 176, 3) := by decide +kernel
theorem dX5_advance_47 : decode cX5_advance 47 = .ok (.invokevirtual 179, 3) := by decide +kernel
theorem dX5_advance_50 : decode cX5_advance 50 = .ok (.istore_n 1, 1) := by decide +kernel
theorem dX5_advance_51 : decode cX5_advance 51 = .ok (.aload_n 0, 1) := by decide +kernel
theorem dX5_advance_52 : decode cX5_advance 52 = .ok (.iload_n 1, 1) := by decide +kernel
theorem dX5_advance_53 : decode cX5_advance 53 = .ok (.ifCond .ge 7, 3) := by decide +kernel
theorem dX5_advance_56 : decode cX5_advance 56 = .ok (.iconst 0, 1) := by decide +kernel
theorem dX5_advance_57 : decode cX5_advance 57 = .ok (.goto 26, 3) := by decide +kernel
theorem dX5_advance_60 : decode cX5_advance 60 = .ok (.iload_n 1, 1) := by decide +kernel
theorem dX5_advance_61 : decode cX5_advance 61 = .ok (.invokestatic 182, 3) := by decide +kernel
theorem dX5_advance_64 : decode cX5_advance 64 = .ok (.ifCond .eq 7, 3) := by decide +kernel
theorem dX5_advance_67 : decode cX5_advance 67 = .ok (.iconst 1, 1) := by decide +kernel
theorem dX5_advance_68 : decode cX5_advance 68 = .ok (.goto 15, 3) := by decide +kernel
theorem dX5_advance_71 : decode cX5_advance 71 = .ok (.iload_n 1, 1) := by decide +kernel
theorem dX5_advance_72 : decode cX5_advance 72 = .ok (.invokestatic 185, 3) := by decide +kernel
theorem dX5_advance_75 : decode cX5_advance 75 = .ok (.ifCond .eq 7, 3) := by decide +kernel
theorem dX5_advance_78 : decode cX5_advance 78 = .ok (.iconst 2, 1) := by decide +kernel
theorem dX5_advance_79 : decode cX5_advance 79 = .ok (.goto 4, 3) := by decide +kernel
theorem dX5_advance_82 : decode cX5_advance 82 = .ok (.iconst 3, 1) := by decide +kernel
theorem dX5_advance_83 : decode cX5_advance 83 = .ok (.putfield 188, 3) := by decide +kernel
theorem dX5_advance_86 : decode cX5_advance 86 = .ok (.aload_n 0, 1) := by decide +kernel
theorem dX5_advance_87 : decode cX5_advance 87 = .ok (.lconst 0, 1) := by decide +kernel
theorem dX5_advance_88 : decode cX5_advance 88 = .ok (.putfield 191, 3) := by decide +kernel
theorem dX5_advance_91 : decode cX5_advance 91 = .ok (.aload_n 0, 1) := by decide +kernel
theorem dX5_advance_92 : decode cX5_advance 92 = .ok (.aload_n 0, 1) := by decide +kernel
theorem dX5_advance_93 : decode cX5_advance 93 = .ok (.getfield 188, 3) := by decide +kernel
theorem dX5_advance_96 : decode cX5_advance 96 = .ok (.iconst 2, 1) := by decide +kernel
theorem dX5_advance_97 : decode cX5_advance 97 = .ok (.if_icmp .ne 7, 3) := by decide +kernel
theorem dX5_advance_100 : decode cX5_advance 100 = .ok (.iconst 0, 1) := by decide +kernel
theorem dX5_advance_101 : decode cX5_advance 101 = .ok (.goto 4, 3) := by decide +kernel
theorem dX5_advance_104 : decode cX5_advance 104 = .ok (.iload_n 1, 1) := by decide +kernel
theorem dX5_advance_105 : decode cX5_advance 105 = .ok (.putfield 195, 3) := by decide +kernel
theorem dX5_advance_108 : decode cX5_advance 108 = .ok (.aload_n 0, 1) := by decide +kernel
theorem dX5_advance_109 : decode cX5_advance 109 = .ok (.getfield 188, 3) := by decide +kernel
theorem dX5_advance_112 : decode cX5_advance 112 = .ok (.iconst 3, 1) := by decide +kernel
theorem dX5_advance_113 : decode cX5_advance 113 = .ok (.if_icmp .ne 13, 3) := by decide +kernel
theorem dX5_advance_116 : decode cX5_advance 116 = .ok (.aload_n 0, 1) := by decide +kernel
theorem dX5_advance_117 : decode cX5_advance 117 = .ok (.dup, 1) := by decide +kernel
theorem dX5_advance_118 : decode cX5_advance 118 = .ok (.getfield 173, 3) := by decide +kernel
theorem dX5_advance_121 : decode cX5_advance 121 = .ok (.iconst 1, 1) := by decide +kernel
theorem dX5_advance_122 : decode cX5_advance 122 = .ok (.iadd, 1) := by decide +kernel
theorem dX5_advance_123 : decode cX5_advance 123 = .ok (.putfield 173, 3) := by decide +kernel
theorem dX5_advance_126 : decode cX5_advance 126 = .ok (.aload_n 0, 1) := by decide +kernel
theorem dX5_advance_127 : decode cX5_advance 127 = .ok (.getfield 188, 3) := by decide +kernel
theorem dX5_advance_130 : decode cX5_advance 130 = .ok (.iconst 1, 1) := by decide +kernel
theorem dX5_advance_131 : decode cX5_advance 131 = .ok (.if_icmp .ne 76, 3) := by decide +kernel
theorem dX5_advance_134 : decode cX5_advance 134 = .ok (.aload_n 0, 1) := by decide +kernel
theorem dX5_advance_135 : decode cX5_advance 135 = .ok (.aload_n 0, 1) := by decide +kernel
theorem dX5_advance_136 : decode cX5_advance 136 = .ok (.getfield 173, 3) := by decide +kernel
theorem dX5_advance_139 : decode cX5_advance 139 = .ok (.invokevirtual 179, 3) := by decide +kernel
theorem dX5_advance_142 : decode cX5_advance 142 = .ok (.invokestatic 182, 3) := by decide +kernel
theorem dX5_advance_145 : decode cX5_advance 145 = .ok (.ifCond .eq 62, 3) := by decide +kernel
theorem dX5_advance_148 : decode cX5_advance 148 = .ok (.aload_n 0, 1) := by decide +kernel
theorem dX5_advance_149 : decode cX5_advance 149 = .ok (.aload_n 0, 1) := by decide +kernel
theorem dX5_advance_150 : decode cX5_advance 150 = .ok (.getfield 173, 3) := by decide +kernel
theorem dX5_advance_153 : decode cX5_advance 153 = .ok (.aload_n 0, 1) := by decide +kernel
theorem dX5_advance_154 : decode cX5_advance 154 = .ok (.getfield 176, 3) := by decide +kernel
theorem dX5_advance_157 : decode cX5_advance 157 = .ok (.isub, 1) := by decide +kernel
theorem dX5_advance_158 : decode cX5_advance 158 = .ok (.bipush 12, 2) := by decide +kernel
theorem dX5_advance_160 : decode cX5_advance 160 = .ok (.if_icmp .ge 28, 3) := by decide +kernel
theorem dX5_advance_163 : decode cX5_advance 163 = .ok (.ldc2_w 198, 3) := by decide +kernel
theorem dX5_advance_166 : decode cX5_advance 166 = .ok (.aload_n 0, 1) := by decide +kernel
theorem dX5_advance_167 : decode cX5_advance 167 = .ok (.getfield 191, 3) := by decide +kernel
theorem dX5_advance_170 : decode cX5_advance 170 = .ok (.lmul, 1) := by decide +kernel
theorem dX5_advance_171 : decode cX5_advance 171 = .ok (.aload_n 0, 1) := by decide +kernel
theorem dX5_advance_172 : decode cX5_advance 172 = .ok (.aload_n 0, 1) := by decide +kernel
theorem dX5_advance_173 : decode cX5_advance 173 = .ok (.getfield 173, 3) := by decide +kernel
theorem dX5_advance_176 : decode cX5_advance 176 = .ok (.invokevirtual 179, 3) := by decide +kernel
theorem dX5_advance_179 : decode cX5_advance 179 = .ok (.i2l, 1) := by decide +kernel
theorem dX5_advance_180 : decode cX5_advance 180 = .ok (.ladd, 1) := by decide +kernel
theorem dX5_advance_181 : decode cX5_advance 181 = .ok (.ldc2_w 200, 3) := by decide +kernel
theorem dX5_advance_184 : decode cX5_advance 184 = .ok (.lsub, 1) := by decide +kernel
theorem dX5_advance_185 : decode cX5_advance 185 = .ok (.goto 6, 3) := by decide +kernel
theorem dX5_advance_188 : decode cX5_advance 188 = .ok (.ldc2_w 202, 3) := by decide +kernel
theorem dX5_advance_191 : decode cX5_advance 191 = .ok (.putfield 191, 3) := by decide +kernel
theorem dX5_advance_194 : decode cX5_advance 194 = .ok (.aload_n 0, 1) := by decide +kernel
theorem dX5_advance_195 : decode cX5_advance 195 = .ok (.dup, 1) := by decide +kernel
theorem dX5_advance_196 : decode cX5_advance 196 = .ok (.getfield 173, 3) := by decide +kernel
theorem dX5_advance_199 : decode cX5_advance 199 = .ok (.iconst 1, 1) := by decide +kernel
theorem dX5_advance_200 : decode cX5_advance 200 = .ok (.iadd, 1) := by decide +kernel
theorem dX5_advance_201 : decode cX5_advance 201 = .ok (.putfield 173, 3) := by decide +kernel
theorem dX5_advance_204 : decode cX5_advance 204 = .ok (.goto (-78), 3) := by decide +kernel
theorem dX5_advance_207 : decode cX5_advance 207 = .ok (.aload_n 0, 1) := by decide +kernel
theorem dX5_advance_208 : decode cX5_advance 208 = .ok (.getfield 188, 3) := by decide +kernel
theorem dX5_advance_211 : decode cX5_advance 211 = .ok (.iconst 2, 1) := by decide +kernel
theorem dX5_advance_212 : decode cX5_advance 212 = .ok (.if_icmp .ne 69, 3) := by decide +kernel
theorem dX5_advance_215 : decode cX5_advance 215 = .ok (.aload_n 0, 1) := by decide +kernel
theorem dX5_advance_216 : decode cX5_advance 216 = .ok (.aload_n 0, 1) := by decide +kernel
theorem dX5_advance_217 : decode cX5_advance 217 = .ok (.getfield 173, 3) := by decide +kernel
theorem dX5_advance_220 : decode cX5_advance 220 = .ok (.invokevirtual 179, 3) := by decide +kernel
theorem dX5_advance_223 : decode cX5_advance 223 = .ok (.invokestatic 185, 3) := by decide +kernel
theorem dX5_advance_226 : decode cX5_advance 226 = .ok (.ifCond .eq 55, 3) := by decide +kernel
theorem dX5_advance_229 : decode cX5_advance 229 = .ok (.aload_n 0, 1) := by decide +kernel
theorem dX5_advance_230 : decode cX5_advance 230 = .ok (.aload_n 0, 1) := by decide +kernel
theorem dX5_advance_231 : decode cX5_advance 231 = .ok (.getfield 195, 3) := by decide +kernel
theorem dX5_advance_234 : decode cX5_advance 234 = .ok (.sipush 999, 3) := by decide +kernel
theorem dX5_advance_237 : decode cX5_advance 237 = .ok (.if_icmp .le 9, 3) := by decide +kernel
theorem dX5_advance_240 : decode cX5_advance 240 = .ok (.sipush 10000, 3) := by decide +kernel
theorem dX5_advance_243 : decode cX5_advance 243 = .ok (.goto 22, 3) := by decide +kernel
theorem dX5_advance_246 : decode cX5_advance 246 = .ok (.bipush 10, 2) := by decide +kernel
theorem dX5_advance_248 : decode cX5_advance 248 = .ok (.aload_n 0, 1) := by decide +kernel
theorem dX5_advance_249 : decode cX5_advance 249 = .ok (.getfield 195, 3) := by decide +kernel
theorem dX5_advance_252 : decode cX5_advance 252 = .ok (.imul, 1) := by decide +kernel
theorem dX5_advance_253 : decode cX5_advance 253 = .ok (.aload_n 0, 1) := by decide +kernel
theorem dX5_advance_254 : decode cX5_advance 254 = .ok (.aload_n 0, 1) := by decide +kernel
theorem dX5_advance_255 : decode cX5_advance 255 = .ok (.getfield 173, 3) := by decide +kernel
theorem dX5_advance_258 : decode cX5_advance 258 = .ok (.invokevirtual 179, 3) := by decide +kernel
theorem dX5_advance_261 : decode cX5_advance 261 = .ok (.iadd, 1) := by decide +kernel
theorem dX5_advance_262 : decode cX5_advance 262 = .ok (.bipush 48, 2) := by decide +kernel
theorem dX5_advance_264 : decode cX5_advance 264 = .ok (.isub, 1) := by decide +kernel
theorem dX5_advance_265 : decode cX5_advance 265 = .ok (.putfield 195, 3) := by decide +kernel
theorem dX5_advance_268 : decode cX5_advance 268 = .ok (.aload_n 0, 1) := by decide +kernel
theorem dX5_advance_269 : decode cX5_advance 269 = .ok (.dup, 1) := by decide +kernel
theorem dX5_advance_270 : decode cX5_advance 270 = .ok (.getfield 173, 3) := by decide +kernel
theorem dX5_advance_273 : decode cX5_advance 273 = .ok (.iconst 1, 1) := by decide +kernel
theorem dX5_advance_274 : decode cX5_advance 274 = .ok (.iadd, 1) := by decide +kernel
theorem dX5_advance_275 : decode cX5_advance 275 = .ok (.putfield 173, 3) := by decide +kernel
theorem dX5_advance_278 : decode cX5_advance 278 = .ok (.goto (-71), 3) := by decide +kernel
theorem dX5_advance_281 : decode cX5_advance 281 = .ok (.return_, 1) := by decide +kernel
theorem dX5_isWord_0 : decode cX5_isWord 0 = .ok (.aload_n 0, 1) := by decide +kernel
theorem dX5_isWord_1 : decode cX5_isWord 1 = .ok (.getfield 188, 3) := by decide +kernel
theorem dX5_isWord_4 : decode cX5_isWord 4 = .ok (.iconst 1, 1) := by decide +kernel
theorem dX5_isWord_5 : decode cX5_isWord 5 = .ok (.if_icmp .ne 16, 3) := by decide +kernel
theorem dX5_isWord_8 : decode cX5_isWord 8 = .ok (.aload_n 0, 1) := by decide +kernel
theorem dX5_isWord_9 : decode cX5_isWord 9 = .ok (.getfield 191, 3) := by decide +kernel
theorem dX5_isWord_12 : decode cX5_isWord 12 = .ok (.lload_n 1, 1) := by decide +kernel
theorem dX5_isWord_13 : decode cX5_isWord 13 = .ok (.lcmp, 1) := by decide +kernel
theorem dX5_isWord_14 : decode cX5_isWord 14 = .ok (.ifCond .ne 7, 3) := by decide +kernel
theorem dX5_isWord_17 : decode cX5_isWord 17 = .ok (.iconst 1, 1) := by decide +kernel
theorem dX5_isWord_18 : decode cX5_isWord 18 = .ok (.goto 4, 3) := by decide +kernel
theorem dX5_isWord_21 : decode cX5_isWord 21 = .ok (.iconst 0, 1) := by decide +kernel
theorem dX5_isWord_22 : decode cX5_isWord 22 = .ok (.ireturn, 1) := by decide +kernel
theorem dX5_kindHere_0 : decode cX5_kindHere 0 = .ok (.aload_n 0, 1) := by decide +kernel
theorem dX5_kindHere_1 : decode cX5_kindHere 1 = .ok (.ldc2_w 204, 3) := by decide +kernel
theorem dX5_kindHere_4 : decode cX5_kindHere 4 = .ok (.invokevirtual 206, 3) := by decide +kernel
theorem dX5_kindHere_7 : decode cX5_kindHere 7 = .ok (.ifCond .eq 7, 3) := by decide +kernel
theorem dX5_kindHere_10 : decode cX5_kindHere 10 = .ok (.iconst 0, 1) := by decide +kernel
theorem dX5_kindHere_11 : decode cX5_kindHere 11 = .ok (.goto 74, 3) := by decide +kernel
theorem dX5_kindHere_14 : decode cX5_kindHere 14 = .ok (.aload_n 0, 1) := by decide +kernel
theorem dX5_kindHere_15 : decode cX5_kindHere 15 = .ok (.ldc2_w 210, 3) := by decide +kernel
theorem dX5_kindHere_18 : decode cX5_kindHere 18 = .ok (.invokevirtual 206, 3) := by decide +kernel
theorem dX5_kindHere_21 : decode cX5_kindHere 21 = .ok (.ifCond .eq 7, 3) := by decide +kernel
theorem dX5_kindHere_24 : decode cX5_kindHere 24 = .ok (.iconst 1, 1) := by decide +kernel
theorem dX5_kindHere_25 : decode cX5_kindHere 25 = .ok (.goto 60, 3) := by decide +kernel
theorem dX5_kindHere_28 : decode cX5_kindHere 28 = .ok (.aload_n 0, 1) := by decide +kernel
theorem dX5_kindHere_29 : decode cX5_kindHere 29 = .ok (.ldc2_w 212, 3) := by decide +kernel
theorem dX5_kindHere_32 : decode cX5_kindHere 32 = .ok (.invokevirtual 206, 3) := by decide +kernel
theorem dX5_kindHere_35 : decode cX5_kindHere 35 = .ok (.ifCond .eq 7, 3) := by decide +kernel
theorem dX5_kindHere_38 : decode cX5_kindHere 38 = .ok (.iconst 2, 1) := by decide +kernel
theorem dX5_kindHere_39 : decode cX5_kindHere 39 = .ok (.goto 46, 3) := by decide +kernel
theorem dX5_kindHere_42 : decode cX5_kindHere 42 = .ok (.aload_n 0, 1) := by decide +kernel
theorem dX5_kindHere_43 : decode cX5_kindHere 43 = .ok (.ldc2_w 214, 3) := by decide +kernel
theorem dX5_kindHere_46 : decode cX5_kindHere 46 = .ok (.invokevirtual 206, 3) := by decide +kernel
theorem dX5_kindHere_49 : decode cX5_kindHere 49 = .ok (.ifCond .eq 7, 3) := by decide +kernel
theorem dX5_kindHere_52 : decode cX5_kindHere 52 = .ok (.iconst 3, 1) := by decide +kernel
theorem dX5_kindHere_53 : decode cX5_kindHere 53 = .ok (.goto 32, 3) := by decide +kernel
theorem dX5_kindHere_56 : decode cX5_kindHere 56 = .ok (.aload_n 0, 1) := by decide +kernel
theorem dX5_kindHere_57 : decode cX5_kindHere 57 = .ok (.ldc2_w 216, 3) := by decide +kernel
theorem dX5_kindHere_60 : decode cX5_kindHere 60 = .ok (.invokevirtual 206, 3) := by decide +kernel
theorem dX5_kindHere_63 : decode cX5_kindHere 63 = .ok (.ifCond .eq 7, 3) := by decide +kernel
theorem dX5_kindHere_66 : decode cX5_kindHere 66 = .ok (.iconst 4, 1) := by decide +kernel
theorem dX5_kindHere_67 : decode cX5_kindHere 67 = .ok (.goto 18, 3) := by decide +kernel
theorem dX5_kindHere_70 : decode cX5_kindHere 70 = .ok (.aload_n 0, 1) := by decide +kernel
theorem dX5_kindHere_71 : decode cX5_kindHere 71 = .ok (.ldc2_w 218, 3) := by decide +kernel
theorem dX5_kindHere_74 : decode cX5_kindHere 74 = .ok (.invokevirtual 206, 3) := by decide +kernel
theorem dX5_kindHere_77 : decode cX5_kindHere 77 = .ok (.ifCond .eq 7, 3) := by decide +kernel
theorem dX5_kindHere_80 : decode cX5_kindHere 80 = .ok (.iconst 5, 1) := by decide +kernel
theorem dX5_kindHere_81 : decode cX5_kindHere 81 = .ok (.goto 4, 3) := by decide +kernel
theorem dX5_kindHere_84 : decode cX5_kindHere 84 = .ok (.iconst (-1), 1) := by decide +kernel
theorem dX5_kindHere_85 : decode cX5_kindHere 85 = .ok (.ireturn, 1) := by decide +kernel
theorem dX5_wantNumber_0 : decode cX5_wantNumber 0 = .ok (.aload_n 0, 1) := by decide +kernel
theorem dX5_wantNumber_1 : decode cX5_wantNumber 1 = .ok (.getfield 195, 3) := by decide +kernel
theorem dX5_wantNumber_4 : decode cX5_wantNumber 4 = .ok (.istore_n 3, 1) := by decide +kernel
theorem dX5_wantNumber_5 : decode cX5_wantNumber 5 = .ok (.aload_n 0, 1) := by decide +kernel
theorem dX5_wantNumber_6 : decode cX5_wantNumber 6 = .ok (.aload_n 0, 1) := by decide +kernel
theorem dX5_wantNumber_7 : decode cX5_wantNumber 7 = .ok (.getfield 220, 3) := by decide +kernel
theorem dX5_wantNumber_10 : decode cX5_wantNumber 10 = .ok (.ifCond .eq 24, 3) := by decide +kernel
theorem dX5_wantNumber_13 : decode cX5_wantNumber 13 = .ok (.aload_n 0, 1) := by decide +kernel
theorem dX5_wantNumber_14 : decode cX5_wantNumber 14 = .ok (.getfield 188, 3) := by decide +kernel
theorem dX5_wantNumber_17 : decode cX5_wantNumber 17 = .ok (.iconst 2, 1) := by decide +kernel
theorem dX5_wantNumber_18 : decode cX5_wantNumber 18 = .ok (.if_icmp .ne 16, 3) := by decide +kernel
theorem dX5_wantNumber_21 : decode cX5_wantNumber 21 = .ok (.iload_n 3, 1) := by decide +kernel
theorem dX5_wantNumber_22 : decode cX5_wantNumber 22 = .ok (.iload_n 1, 1) := by decide +kernel
theorem dX5_wantNumber_23 : decode cX5_wantNumber 23 = .ok (.iload_n 2, 1) := by decide +kernel
theorem dX5_wantNumber_24 : decode cX5_wantNumber 24 = .ok (.invokestatic 45, 3) := by decide +kernel
theorem dX5_wantNumber_27 : decode cX5_wantNumber 27 = .ok (.ifCond .eq 7, 3) := by decide +kernel
theorem dX5_wantNumber_30 : decode cX5_wantNumber 30 = .ok (.iconst 1, 1) := by decide +kernel
theorem dX5_wantNumber_31 : decode cX5_wantNumber 31 = .ok (.goto 4, 3) := by decide +kernel
theorem dX5_wantNumber_34 : decode cX5_wantNumber 34 = .ok (.iconst 0, 1) := by decide +kernel
theorem dX5_wantNumber_35 : decode cX5_wantNumber 35 = .ok (.putfield 220, 3) := by decide +kernel
theorem dX5_wantNumber_38 : decode cX5_wantNumber 38 = .ok (.aload_n 0, 1) := by decide +kernel
theorem dX5_wantNumber_39 : decode cX5_wantNumber 39 = .ok (.getfield 220, 3) := by decide +kernel
theorem dX5_wantNumber_42 : decode cX5_wantNumber 42 = .ok (.ifCond .eq 7, 3) := by decide +kernel
