theorem dX0_init_0 : decode cX0_init 0 = .ok (.aload_n 0, 1) := by decide +kernel
theorem dX0_init_1 : decode cX0_init 1 = .ok (.invokespecial 3, 3) := by decide +kernel
theorem dX0_init_4 : decode cX0_init 4 = .ok (.aload_n 0, 1) := by decide +kernel
theorem dX0_init_5 : decode cX0_init 5 = .ok (.iconst 4, 1) := by decide +kernel
theorem dX0_init_6 : decode cX0_init 6 = .ok (.newarray .int, 2) := by decide +kernel
theorem dX0_init_8 : decode cX0_init 8 = .ok (.putfield 9, 3) := by decide +kernel
theorem dX0_init_11 : decode cX0_init 11 = .ok (.aload_n 0, 1) := by decide +kernel
theorem dX0_init_12 : decode cX0_init 12 = .ok (.iconst 4, 1) := by decide +kernel
theorem dX0_init_13 : decode cX0_init 13 = .ok (.newarray .int, 2) := by decide +kernel
theorem dX0_init_15 : decode cX0_init 15 = .ok (.putfield 15, 3) := by decide +kernel
theorem dX0_init_18 : decode cX0_init 18 = .ok (.aload_n 0, 1) := by decide +kernel
theorem dX0_init_19 : decode cX0_init 19 = .ok (.sipush 160, 3) := by decide +kernel
theorem dX0_init_22 : decode cX0_init 22 = .ok (.newarray .long, 2) := by decide +kernel
theorem dX0_init_24 : decode cX0_init 24 = .ok (.putfield 18, 3) := by decide +kernel
theorem dX0_init_27 : decode cX0_init 27 = .ok (.return_, 1) := by decide +kernel
theorem dX0_lay_0 : decode cX0_lay 0 = .ok (.aload_n 0, 1) := by decide +kernel
theorem dX0_lay_1 : decode cX0_lay 1 = .ok (.getfield 9, 3) := by decide +kernel
theorem dX0_lay_4 : decode cX0_lay 4 = .ok (.iload_n 1, 1) := by decide +kernel
theorem dX0_lay_5 : decode cX0_lay 5 = .ok (.iload_n 2, 1) := by decide +kernel
theorem dX0_lay_6 : decode cX0_lay 6 = .ok (.iastore, 1) := by decide +kernel
theorem dX0_lay_7 : decode cX0_lay 7 = .ok (.aload_n 0, 1) := by decide +kernel
theorem dX0_lay_8 : decode cX0_lay 8 = .ok (.getfield 15, 3) := by decide +kernel
theorem dX0_lay_11 : decode cX0_lay 11 = .ok (.iload_n 1, 1) := by decide +kernel
theorem dX0_lay_12 : decode cX0_lay 12 = .ok (.iload_n 3, 1) := by decide +kernel
theorem dX0_lay_13 : decode cX0_lay 13 = .ok (.iastore, 1) := by decide +kernel
theorem dX0_lay_14 : decode cX0_lay 14 = .ok (.iconst 0, 1) := by decide +kernel
theorem dX0_lay_15 : decode cX0_lay 15 = .ok (.istore 4, 2) := by decide +kernel
theorem dX0_lay_17 : decode cX0_lay 17 = .ok (.iload 4, 2) := by decide +kernel
theorem dX0_lay_19 : decode cX0_lay 19 = .ok (.bipush 40, 2) := by decide +kernel
theorem dX0_lay_21 : decode cX0_lay 21 = .ok (.if_icmp .ge 22, 3) := by decide +kernel
theorem dX0_lay_24 : decode cX0_lay 24 = .ok (.aload_n 0, 1) := by decide +kernel
theorem dX0_lay_25 : decode cX0_lay 25 = .ok (.getfield 18, 3) := by decide +kernel
theorem dX0_lay_28 : decode cX0_lay 28 = .ok (.iload_n 1, 1) := by decide +kernel
theorem dX0_lay_29 : decode cX0_lay 29 = .ok (.bipush 40, 2) := by decide +kernel
theorem dX0_lay_31 : decode cX0_lay 31 = .ok (.imul, 1) := by decide +kernel
theorem dX0_lay_32 : decode cX0_lay 32 = .ok (.iload 4, 2) := by decide +kernel
theorem dX0_lay_34 : decode cX0_lay 34 = .ok (.iadd, 1) := by decide +kernel
theorem dX0_lay_35 : decode cX0_lay 35 = .ok (.lconst 0, 1) := by decide +kernel
theorem dX0_lay_36 : decode cX0_lay 36 = .ok (.lastore, 1) := by decide +kernel
theorem dX0_lay_37 : decode cX0_lay 37 = .ok (.iinc 4 1, 3) := by decide +kernel
theorem dX0_lay_40 : decode cX0_lay 40 = .ok (.goto (-23), 3) := by decide +kernel
theorem dX0_lay_43 : decode cX0_lay 43 = .ok (.return_, 1) := by decide +kernel
theorem dX0_isMissing_0 : decode cX0_isMissing 0 = .ok (.aload_n 0, 1) := by decide +kernel
theorem dX0_isMissing_1 : decode cX0_isMissing 1 = .ok (.getfield 9, 3) := by decide +kernel
theorem dX0_isMissing_4 : decode cX0_isMissing 4 = .ok (.iload_n 1, 1) := by decide +kernel
theorem dX0_isMissing_5 : decode cX0_isMissing 5 = .ok (.iaload, 1) := by decide +kernel
theorem dX0_isMissing_6 : decode cX0_isMissing 6 = .ok (.ifCond .ne 7, 3) := by decide +kernel
theorem dX0_isMissing_9 : decode cX0_isMissing 9 = .ok (.iconst 1, 1) := by decide +kernel
theorem dX0_isMissing_10 : decode cX0_isMissing 10 = .ok (.goto 4, 3) := by decide +kernel
theorem dX0_isMissing_13 : decode cX0_isMissing 13 = .ok (.iconst 0, 1) := by decide +kernel
theorem dX0_isMissing_14 : decode cX0_isMissing 14 = .ok (.ireturn, 1) := by decide +kernel
theorem dX0_number_0 : decode cX0_number 0 = .ok (.aload_n 0, 1) := by decide +kernel
theorem dX0_number_1 : decode cX0_number 1 = .ok (.getfield 18, 3) := by decide +kernel
theorem dX0_number_4 : decode cX0_number 4 = .ok (.iload_n 1, 1) := by decide +kernel
theorem dX0_number_5 : decode cX0_number 5 = .ok (.bipush 40, 2) := by decide +kernel
theorem dX0_number_7 : decode cX0_number 7 = .ok (.imul, 1) := by decide +kernel
theorem dX0_number_8 : decode cX0_number 8 = .ok (.iload_n 2, 1) := by decide +kernel
theorem dX0_number_9 : decode cX0_number 9 = .ok (.iadd, 1) := by decide +kernel
theorem dX0_number_10 : decode cX0_number 10 = .ok (.laload, 1) := by decide +kernel
theorem dX0_number_11 : decode cX0_number 11 = .ok (.lreturn, 1) := by decide +kernel
theorem dX0_put_0 : decode cX0_put 0 = .ok (.aload_n 0, 1) := by decide +kernel
theorem dX0_put_1 : decode cX0_put 1 = .ok (.getfield 18, 3) := by decide +kernel
theorem dX0_put_4 : decode cX0_put 4 = .ok (.iload_n 1, 1) := by decide +kernel
theorem dX0_put_5 : decode cX0_put 5 = .ok (.bipush 40, 2) := by decide +kernel
theorem dX0_put_7 : decode cX0_put 7 = .ok (.imul, 1) := by decide +kernel
theorem dX0_put_8 : decode cX0_put 8 = .ok (.iload_n 2, 1) := by decide +kernel
theorem dX0_put_9 : decode cX0_put 9 = .ok (.iadd, 1) := by decide +kernel
theorem dX0_put_10 : decode cX0_put 10 = .ok (.lload_n 3, 1) := by decide +kernel
theorem dX0_put_11 : decode cX0_put 11 = .ok (.aload_n 0, 1) := by decide +kernel
theorem dX0_put_12 : decode cX0_put 12 = .ok (.getfield 9, 3) := by decide +kernel
theorem dX0_put_15 : decode cX0_put 15 = .ok (.iload_n 1, 1) := by decide +kernel
theorem dX0_put_16 : decode cX0_put 16 = .ok (.iaload, 1) := by decide +kernel
theorem dX0_put_17 : decode cX0_put 17 = .ok (.invokestatic 22, 3) := by decide +kernel
theorem dX0_put_20 : decode cX0_put 20 = .ok (.lastore, 1) := by decide +kernel
theorem dX0_put_21 : decode cX0_put 21 = .ok (.return_, 1) := by decide +kernel
theorem dX0_cut_0 : decode cX0_cut 0 = .ok (.iload_n 2, 1) := by decide +kernel
theorem dX0_cut_1 : decode cX0_cut 1 = .ok (.lookupswitch 37 #[(8, 27), (16, 32)], 27) := by decide +kernel
theorem dX0_cut_28 : decode cX0_cut 28 = .ok (.lload_n 0, 1) := by decide +kernel
theorem dX0_cut_29 : decode cX0_cut 29 = .ok (.l2i, 1) := by decide +kernel
theorem dX0_cut_30 : decode cX0_cut 30 = .ok (.i2b, 1) := by decide +kernel
theorem dX0_cut_31 : decode cX0_cut 31 = .ok (.i2l, 1) := by decide +kernel
theorem dX0_cut_32 : decode cX0_cut 32 = .ok (.lreturn, 1) := by decide +kernel
theorem dX0_cut_33 : decode cX0_cut 33 = .ok (.lload_n 0, 1) := by decide +kernel
theorem dX0_cut_34 : decode cX0_cut 34 = .ok (.l2i, 1) := by decide +kernel
theorem dX0_cut_35 : decode cX0_cut 35 = .ok (.i2s, 1) := by decide +kernel
theorem dX0_cut_36 : decode cX0_cut 36 = .ok (.i2l, 1) := by decide +kernel
theorem dX0_cut_37 : decode cX0_cut 37 = .ok (.lreturn, 1) := by decide +kernel
theorem dX0_cut_38 : decode cX0_cut 38 = .ok (.lload_n 0, 1) := by decide +kernel
theorem dX0_cut_39 : decode cX0_cut 39 = .ok (.lreturn, 1) := by decide +kernel
theorem dX0_hasRun_0 : decode cX0_hasRun 0 = .ok (.iload_n 2, 1) := by decide +kernel
theorem dX0_hasRun_1 : decode cX0_hasRun 1 = .ok (.ifCond .lt 33, 3) := by decide +kernel
theorem dX0_hasRun_4 : decode cX0_hasRun 4 = .ok (.iload_n 3, 1) := by decide +kernel
theorem dX0_hasRun_5 : decode cX0_hasRun 5 = .ok (.ifCond .lt 29, 3) := by decide +kernel
theorem dX0_hasRun_8 : decode cX0_hasRun 8 = .ok (.iload_n 3, 1) := by decide +kernel
theorem dX0_hasRun_9 : decode cX0_hasRun 9 = .ok (.aload_n 0, 1) := by decide +kernel
theorem dX0_hasRun_10 : decode cX0_hasRun 10 = .ok (.getfield 15, 3) := by decide +kernel
theorem dX0_hasRun_13 : decode cX0_hasRun 13 = .ok (.iload_n 1, 1) := by decide +kernel
theorem dX0_hasRun_14 : decode cX0_hasRun 14 = .ok (.iaload, 1) := by decide +kernel
theorem dX0_hasRun_15 : decode cX0_hasRun 15 = .ok (.if_icmp .gt 19, 3) := by decide +kernel
theorem dX0_hasRun_18 : decode cX0_hasRun 18 = .ok (.iload_n 2, 1) := by decide +kernel
theorem dX0_hasRun_19 : decode cX0_hasRun 19 = .ok (.aload_n 0, 1) := by decide +kernel
theorem dX0_hasRun_20 : decode cX0_hasRun 20 = .ok (.getfield 15, 3) := by decide +kernel
theorem dX0_hasRun_23 : decode cX0_hasRun 23 = .ok (.iload_n 1, 1) := by decide +kernel
theorem dX0_hasRun_24 : decode cX0_hasRun 24 = .ok (.iaload, 1) := by decide +kernel
theorem dX0_hasRun_25 : decode cX0_hasRun 25 = .ok (.iload_n 3, 1) := by decide +kernel
theorem dX0_hasRun_26 : decode cX0_hasRun 26 = .ok (.isub, 1) := by decide +kernel
theorem dX0_hasRun_27 : decode cX0_hasRun 27 = .ok (.if_icmp .gt 7, 3) := by decide +kernel
theorem dX0_hasRun_30 : decode cX0_hasRun 30 = .ok (.iconst 1, 1) := by decide +kernel
theorem dX0_hasRun_31 : decode cX0_hasRun 31 = .ok (.goto 4, 3) := by decide +kernel
theorem dX0_hasRun_34 : decode cX0_hasRun 34 = .ok (.iconst 0, 1) := by decide +kernel
theorem dX0_hasRun_35 : decode cX0_hasRun 35 = .ok (.ireturn, 1) := by decide +kernel
theorem dX0_move_0 : decode cX0_move 0 = .ok (.aload_n 0, 1) := by decide +kernel
theorem dX0_move_1 : decode cX0_move 1 = .ok (.getfield 18, 3) := by decide +kernel
theorem dX0_move_4 : decode cX0_move 4 = .ok (.iload_n 1, 1) := by decide +kernel
theorem dX0_move_5 : decode cX0_move 5 = .ok (.bipush 40, 2) := by decide +kernel
theorem dX0_move_7 : decode cX0_move 7 = .ok (.imul, 1) := by decide +kernel
theorem dX0_move_8 : decode cX0_move 8 = .ok (.iload_n 2, 1) := by decide +kernel
theorem dX0_move_9 : decode cX0_move 9 = .ok (.iadd, 1) := by decide +kernel
theorem dX0_move_10 : decode cX0_move 10 = .ok (.aload_n 0, 1) := by decide +kernel
theorem dX0_move_11 : decode cX0_move 11 = .ok (.getfield 18, 3) := by decide +kernel
theorem dX0_move_14 : decode cX0_move 14 = .ok (.iload_n 3, 1) := by decide +kernel
theorem dX0_move_15 : decode cX0_move 15 = .ok (.bipush 40, 2) := by decide +kernel
theorem dX0_move_17 : decode cX0_move 17 = .ok (.imul, 1) := by decide +kernel
theorem dX0_move_18 : decode cX0_move 18 = .ok (.iload 4, 2) := by decide +kernel
theorem dX0_move_20 : decode cX0_move 20 = .ok (.iadd, 1) := by decide +kernel
theorem dX0_move_21 : decode cX0_move 21 = .ok (.iload 5, 2) := by decide +kernel
theorem dX0_move_23 : decode cX0_move 23 = .ok (.invokestatic 26, 3) := by decide +kernel
theorem dX0_move_26 : decode cX0_move 26 = .ok (.return_, 1) := by decide +kernel
theorem dX1_init_0 : decode cX1_init 0 = .ok (.aload_n 0, 1) := by decide +kernel
theorem dX1_init_1 : decode cX1_init 1 = .ok (.invokespecial 3, 3) := by decide +kernel
theorem dX1_init_4 : decode cX1_init 4 = .ok (.aload_n 0, 1) := by decide +kernel
theorem dX1_init_5 : decode cX1_init 5 = .ok (.iconst 0, 1) := by decide +kernel
theorem dX1_init_6 : decode cX1_init 6 = .ok (.putfield 9, 3) := by decide +kernel
theorem dX1_init_9 : decode cX1_init 9 = .ok (.aload_n 0, 1) := by decide +kernel
theorem dX1_init_10 : decode cX1_init 10 = .ok (.iconst 2, 1) := by decide +kernel
theorem dX1_init_11 : decode cX1_init 11 = .ok (.putfield 15, 3) := by decide +kernel
theorem dX1_init_14 : decode cX1_init 14 = .ok (.aload_n 0, 1) := by decide +kernel
theorem dX1_init_15 : decode cX1_init 15 = .ok (.bipush 12, 2) := by decide +kernel
theorem dX1_init_17 : decode cX1_init 17 = .ok (.newarray .int, 2) := by decide +kernel
theorem dX1_init_19 : decode cX1_init 19 = .ok (.putfield 18, 3) := by decide +kernel
theorem dX1_init_22 : decode cX1_init 22 = .ok (.aload_n 0, 1) := by decide +kernel
theorem dX1_init_23 : decode cX1_init 23 = .ok (.bipush 12, 2) := by decide +kernel
theorem dX1_init_25 : decode cX1_init 25 = .ok (.newarray .int, 2) := by decide +kernel
theorem dX1_init_27 : decode cX1_init 27 = .ok (.putfield 22, 3) := by decide +kernel
theorem dX1_init_30 : decode cX1_init 30 = .ok (.aload_n 0, 1) := by decide +kernel
theorem dX1_init_31 : decode cX1_init 31 = .ok (.bipush 12, 2) := by decide +kernel
theorem dX1_init_33 : decode cX1_init 33 = .ok (.newarray .int, 2) := by decide +kernel
theorem dX1_init_35 : decode cX1_init 35 = .ok (.putfield 25, 3) := by decide +kernel
theorem dX1_init_38 : decode cX1_init 38 = .ok (.aload_n 0, 1) := by decide +kernel
theorem dX1_init_39 : decode cX1_init 39 = .ok (.iconst 0, 1) := by decide +kernel
theorem dX1_init_40 : decode cX1_init 40 = .ok (.putfield 28, 3) := by decide +kernel
theorem dX1_init_43 : decode cX1_init 43 = .ok (.aload_n 0, 1) := by decide +kernel
theorem dX1_init_44 : decode cX1_init 44 = .ok (.bipush 8, 2) := by decide +kernel
theorem dX1_init_46 : decode cX1_init 46 = .ok (.newarray .int, 2) := by decide +kernel
theorem dX1_init_48 : decode cX1_init 48 = .ok (.putfield 31, 3) := by decide +kernel
theorem dX1_init_51 : decode cX1_init 51 = .ok (.aload_n 0, 1) := by decide +kernel
theorem dX1_init_52 : decode cX1_init 52 = .ok (.bipush 8, 2) := by decide +kernel
theorem dX1_init_54 : decode cX1_init 54 = .ok (.newarray .int, 2) := by decide +kernel
theorem dX1_init_56 : decode cX1_init 56 = .ok (.putfield 34, 3) := by decide +kernel
theorem dX1_init_59 : decode cX1_init 59 = .ok (.aload_n 0, 1) := by decide +kernel
theorem dX1_init_60 : decode cX1_init 60 = .ok (.bipush 8, 2) := by decide +kernel
theorem dX1_init_62 : decode cX1_init 62 = .ok (.newarray .int, 2) := by decide +kernel
theorem dX1_init_64 : decode cX1_init 64 = .ok (.putfield 37, 3) := by decide +kernel
theorem dX1_init_67 : decode cX1_init 67 = .ok (.aload_n 0, 1) := by decide +kernel
theorem dX1_init_68 : decode cX1_init 68 = .ok (.bipush 8, 2) := by decide +kernel
theorem dX1_init_70 : decode cX1_init 70 = .ok (.newarray .int, 2) := by decide +kernel
theorem dX1_init_72 : decode cX1_init 72 = .ok (.putfield 40, 3) := by decide +kernel
theorem dX1_init_75 : decode cX1_init 75 = .ok (.aload_n 0, 1) := by decide +kernel
theorem dX1_init_76 : decode cX1_init 76 = .ok (.bipush 8, 2) := by decide +kernel
theorem dX1_init_78 : decode cX1_init 78 = .ok (.newarray .int, 2) := by decide +kernel
theorem dX1_init_80 : decode cX1_init 80 = .ok (.putfield 43, 3) := by decide +kernel
theorem dX1_init_83 : decode cX1_init 83 = .ok (.aload_n 0, 1) := by decide +kernel
theorem dX1_init_84 : decode cX1_init 84 = .ok (.bipush 8, 2) := by decide +kernel
theorem dX1_init_86 : decode cX1_init 86 = .ok (.newarray .int, 2) := by decide +kernel
theorem dX1_init_88 : decode cX1_init 88 = .ok (.putfield 46, 3) := by decide +kernel
theorem dX1_init_91 : decode cX1_init 91 = .ok (.aload_n 0, 1) := by decide +kernel
theorem dX1_init_92 : decode cX1_init 92 = .ok (.iconst 0, 1) := by decide +kernel
theorem dX1_init_93 : decode cX1_init 93 = .ok (.putfield 49, 3) := by decide +kernel
theorem dX1_init_96 : decode cX1_init 96 = .ok (.iconst 0, 1) := by decide +kernel
theorem dX1_init_97 : decode cX1_init 97 = .ok (.istore_n 1, 1) := by decide +kernel
theorem dX1_init_98 : decode cX1_init 98 = .ok (.iload_n 1, 1) := by decide +kernel
theorem dX1_init_99 : decode cX1_init 99 = .ok (.bipush 12, 2) := by decide +kernel
theorem dX1_init_101 : decode cX1_init 101 = .ok (.if_icmp .ge 16, 3) := by decide +kernel
theorem dX1_init_104 : decode cX1_init 104 = .ok (.aload_n 0, 1) := by decide +kernel
theorem dX1_init_105 : decode cX1_init 105 = .ok (.getfield 22, 3) := by decide +kernel
theorem dX1_init_108 : decode cX1_init 108 = .ok (.iload_n 1, 1) := by decide +kernel
theorem dX1_init_109 : decode cX1_init 109 = .ok (.iconst 1, 1) := by decide +kernel
theorem dX1_init_110 : decode cX1_init 110 = .ok (.iastore, 1) := by decide +kernel
theorem dX1_init_111 : decode cX1_init 111 = .ok (.iinc 1 1, 3) := by decide +kernel
theorem dX1_init_114 : decode cX1_init 114 = .ok (.goto (-16), 3) := by decide +kernel
theorem dX1_init_117 : decode cX1_init 117 = .ok (.return_, 1) := by decide +kernel
theorem dX1_become_0 : decode cX1_become 0 = .ok (.aload_n 0, 1) := by decide +kernel
theorem dX1_become_1 : decode cX1_become 1 = .ok (.aload_n 1, 1) := by decide +kernel
theorem dX1_become_2 : decode cX1_become 2 = .ok (.getfield 9, 3) := by decide +kernel
theorem dX1_become_5 : decode cX1_become 5 = .ok (.putfield 9, 3) := by decide +kernel
theorem dX1_become_8 : decode cX1_become 8 = .ok (.aload_n 0, 1) := by decide +kernel
theorem dX1_become_9 : decode cX1_become 9 = .ok (.aload_n 1, 1) := by decide +kernel
theorem dX1_become_10 : decode cX1_become 10 = .ok (.getfield 15, 3) := by decide +kernel
theorem dX1_become_13 : decode cX1_become 13 = .ok (.putfield 15, 3) := by decide +kernel
theorem dX1_become_16 : decode cX1_become 16 = .ok (.aload_n 1, 1) := by decide +kernel
theorem dX1_become_17 : decode cX1_become 17 = .ok (.getfield 18, 3) := by decide +kernel
theorem dX1_become_20 : decode cX1_become 20 = .ok (.iconst 0, 1) := by decide +kernel
theorem dX1_become_21 : decode cX1_become 21 = .ok (.aload_n 0, 1) := by decide +kernel
theorem dX1_become_22 : decode cX1_become 22 = .ok (.getfield 18, 3) := by decide +kernel
theorem dX1_become_25 : decode cX1_become 25 = .ok (.iconst 0, 1) := by decide +kernel
theorem dX1_become_26 : decode cX1_become 26 = .ok (.bipush 12, 2) := by decide +kernel
theorem dX1_become_28 : decode cX1_become 28 = .ok (.invokestatic 52, 3) := by decide +kernel
theorem dX1_become_31 : decode cX1_become 31 = .ok (.aload_n 1, 1) := by decide +kernel
theorem dX1_become_32 : decode cX1_become 32 = .ok (.getfield 22, 3) := by decide +kernel
theorem dX1_become_35 : decode cX1_become 35 = .ok (.iconst 0, 1) := by decide +kernel
theorem dX1_become_36 : decode cX1_become 36 = .ok (.aload_n 0, 1) := by decide +kernel
theorem dX1_become_37 : decode cX1_become 37 = .ok (.getfield 22, 3) := by decide +kernel
theorem dX1_become_40 : decode cX1_become 40 = .ok (.iconst 0, 1) := by decide +kernel
theorem dX1_become_41 : decode cX1_become 41 = .ok (.bipush 12, 2) := by decide +kernel
theorem dX1_become_43 : decode cX1_become 43 = .ok (.invokestatic 52, 3) := by decide +kernel
theorem dX1_become_46 : decode cX1_become 46 = .ok (.aload_n 1, 1) := by decide +kernel
theorem dX1_become_47 : decode cX1_become 47 = .ok (.getfield 25, 3) := by decide +kernel
theorem dX1_become_50 : decode cX1_become 50 = .ok (.iconst 0, 1) := by decide +kernel
theorem dX1_become_51 : decode cX1_become 51 = .ok (.aload_n 0, 1) := by decide +kernel
theorem dX1_become_52 : decode cX1_become 52 = .ok (.getfield 25, 3) := by decide +kernel
theorem dX1_become_55 : decode cX1_become 55 = .ok (.iconst 0, 1) := by decide +kernel
theorem dX1_become_56 : decode cX1_become 56 = .ok (.bipush 12, 2) := by decide +kernel
theorem dX1_become_58 : decode cX1_become 58 = .ok (.invokestatic 52, 3) := by decide +kernel
theorem dX1_become_61 : decode cX1_become 61 = .ok (.aload_n 0, 1) := by decide +kernel
theorem dX1_become_62 : decode cX1_become 62 = .ok (.aload_n 1, 1) := by decide +kernel
theorem dX1_become_63 : decode cX1_become 63 = .ok (.getfield 28, 3) := by decide +kernel
theorem dX1_become_66 : decode cX1_become 66 = .ok (.putfield 28, 3) := by decide +kernel
theorem dX1_become_69 : decode cX1_become 69 = .ok (.aload_n 1, 1) := by decide +kernel
theorem dX1_become_70 : decode cX1_become 70 = .ok (.getfield 31, 3) := by decide +kernel
theorem dX1_become_73 : decode cX1_become 73 = .ok (.iconst 0, 1) := by decide +kernel
theorem dX1_become_74 : decode cX1_become 74 = .ok (.aload_n 0, 1) := by decide +kernel
theorem dX1_become_75 : decode cX1_become 75 = .ok (.getfield 31, 3) := by decide +kernel
theorem dX1_become_78 : decode cX1_become 78 = .ok (.iconst 0, 1) := by decide +kernel
theorem dX1_become_79 : decode cX1_become 79 = .ok (.bipush 8, 2) := by decide +kernel
theorem dX1_become_81 : decode cX1_become 81 = .ok (.invokestatic 52, 3) := by decide +kernel
theorem dX1_become_84 : decode cX1_become 84 = .ok (.aload_n 1, 1) := by decide +kernel
theorem dX1_become_85 : decode cX1_become 85 = .ok (.getfield 34, 3) := by decide +kernel
theorem dX1_become_88 : decode cX1_become 88 = .ok (.iconst 0, 1) := by decide +kernel
theorem dX1_become_89 : decode cX1_become 89 = .ok (.aload_n 0, 1) := by decide +kernel
theorem dX1_become_90 : decode cX1_become 90 = .ok (.getfield 34, 3) := by decide +kernel
theorem dX1_become_93 : decode cX1_become 93 = .ok (.iconst 0, 1) := by decide +kernel
theorem dX1_become_94 : decode cX1_become 94 = .ok (.bipush 8, 2) := by decide +kernel
theorem dX1_become_96 : decode cX1_become 96 = .ok (.invokestatic 52, 3) := by decide +kernel
theorem dX1_become_99 : decode cX1_become 99 = .ok (.aload_n 1, 1) := by decide +kernel
theorem dX1_become_100 : decode cX1_become 100 = .ok (.getfield 37, 3) := by decide +kernel
theorem dX1_become_103 : decode cX1_become 103 = .ok (.iconst 0, 1) := by decide +kernel
theorem dX1_become_104 : decode cX1_become 104 = .ok (.aload_n 0, 1) := by decide +kernel
theorem dX1_become_105 : decode cX1_become 105 = .ok (.getfield 37, 3) := by decide +kernel
theorem dX1_become_108 : decode cX1_become 108 = .ok (.iconst 0, 1) := by decide +kernel
theorem dX1_become_109 : decode cX1_become 109 = .ok (.bipush 8, 2) := by decide +kernel
theorem dX1_become_111 : decode cX1_become 111 = .ok (.invokestatic 52, 3) := by decide +kernel
theorem dX1_become_114 : decode cX1_become 114 = .ok (.aload_n 1, 1) := by decide +kernel
theorem dX1_become_115 : decode cX1_become 115 = .ok (.getfield 40, 3) := by decide +kernel
theorem dX1_become_118 : decode cX1_become 118 = .ok (.iconst 0, 1) := by decide +kernel
theorem dX1_become_119 : decode cX1_become 119 = .ok (.aload_n 0, 1) := by decide +kernel
theorem dX1_become_120 : decode cX1_become 120 = .ok (.getfield 40, 3) := by decide +kernel
theorem dX1_become_123 : decode cX1_become 123 = .ok (.iconst 0, 1) := by decide +kernel
theorem dX1_become_124 : decode cX1_become 124 = .ok (.bipush 8, 2) := by decide +kernel
theorem dX1_become_126 : decode cX1_become 126 = .ok (.invokestatic 52, 3) := by decide +kernel
theorem dX1_become_129 : decode cX1_become 129 = .ok (.aload_n 1, 1) := by decide +kernel
theorem dX1_become_130 : decode cX1_become 130 = .ok (.getfield 43, 3) := by decide +kernel
theorem dX1_become_133 : decode cX1_become 133 = .ok (.iconst 0, 1) := by decide +kernel
theorem dX1_become_134 : decode cX1_become 134 = .ok (.aload_n 0, 1) := by decide +kernel
theorem dX1_become_135 : decode cX1_become 135 = .ok (.getfield 43, 3) := by decide +kernel
theorem dX1_become_138 : decode cX1_become 138 = .ok (.iconst 0, 1) := by decide +kernel
theorem dX1_become_139 : decode cX1_become 139 = .ok (.bipush 8, 2) := by decide +kernel
theorem dX1_become_141 : decode cX1_become 141 = .ok (.invokestatic 52, 3) := by decide +kernel
theorem dX1_become_144 : decode cX1_become 144 = .ok (.aload_n 1, 1) := by decide +kernel
theorem dX1_become_145 : decode cX1_become 145 = .ok (.getfield 46, 3) := by decide +kernel
theorem dX1_become_148 : decode cX1_become 148 = .ok (.iconst 0, 1) := by decide +kernel
theorem dX1_become_149 : decode cX1_become 149 = .ok (.aload_n 0, 1) := by decide +kernel
theorem dX1_become_150 : decode cX1_become 150 = .ok (.getfield 46, 3) := by decide +kernel
theorem dX1_become_153 : decode cX1_become 153 = .ok (.iconst 0, 1) := by decide +kernel
theorem dX1_become_154 : decode cX1_become 154 = .ok (.bipush 8, 2) := by decide +kernel
theorem dX1_become_156 : decode cX1_become 156 = .ok (.invokestatic 52, 3) := by decide +kernel
theorem dX1_become_159 : decode cX1_become 159 = .ok (.return_, 1) := by decide +kernel
theorem dX1_addOne_0 : decode cX1_addOne 0 = .ok (.aload_n 0, 1) := by decide +kernel
theorem dX1_addOne_1 : decode cX1_addOne 1 = .ok (.getfield 28, 3) := by decide +kernel
theorem dX1_addOne_4 : decode cX1_addOne 4 = .ok (.istore_n 3, 1) := by decide +kernel
theorem dX1_addOne_5 : decode cX1_addOne 5 = .ok (.iload_n 3, 1) := by decide +kernel
theorem dX1_addOne_6 : decode cX1_addOne 6 = .ok (.bipush 8, 2) := by decide +kernel
theorem dX1_addOne_8 : decode cX1_addOne 8 = .ok (.if_icmp .lt 6, 3) := by decide +kernel
theorem dX1_addOne_11 : decode cX1_addOne 11 = .ok (.bipush 7, 2) := by decide +kernel
theorem dX1_addOne_13 : decode cX1_addOne 13 = .ok (.ireturn, 1) := by decide +kernel
theorem dX1_addOne_14 : decode cX1_addOne 14 = .ok (.aload_n 0, 1) := by decide +kernel
theorem dX1_addOne_15 : decode cX1_addOne 15 = .ok (.getfield 31, 3) := by decide +kernel
theorem dX1_addOne_18 : decode cX1_addOne 18 = .ok (.iload_n 3, 1) := by decide +kernel
theorem dX1_addOne_19 : decode cX1_addOne 19 = .ok (.iload_n 1, 1) := by decide +kernel
theorem dX1_addOne_20 : decode cX1_addOne 20 = .ok (.iastore, 1) := by decide +kernel
theorem dX1_addOne_21 : decode cX1_addOne 21 = .ok (.aload_n 0, 1) := by decide +kernel
theorem dX1_addOne_22 : decode cX1_addOne 22 = .ok (.getfield 34, 3) := by decide +kernel
theorem dX1_addOne_25 : decode cX1_addOne 25 = .ok (.iload_n 3, 1) := by decide +kernel
theorem dX1_addOne_26 : decode cX1_addOne 26 = .ok (.iload_n 2, 1) := by decide +kernel
theorem dX1_addOne_27 : decode cX1_addOne 27 = .ok (.iastore, 1) := by decide +kernel
theorem dX1_addOne_28 : decode cX1_addOne 28 = .ok (.aload_n 0, 1) := by decide +kernel
theorem dX1_addOne_29 : decode cX1_addOne 29 = .ok (.getfield 37, 3) := by decide +kernel
theorem dX1_addOne_32 : decode cX1_addOne 32 = .ok (.iload_n 3, 1) := by decide +kernel
theorem dX1_addOne_33 : decode cX1_addOne 33 = .ok (.iconst 1, 1) := by decide +kernel
theorem dX1_addOne_34 : decode cX1_addOne 34 = .ok (.iastore, 1) := by decide +kernel
theorem dX1_addOne_35 : decode cX1_addOne 35 = .ok (.aload_n 0, 1) := by decide +kernel
theorem dX1_addOne_36 : decode cX1_addOne 36 = .ok (.getfield 40, 3) := by decide +kernel
theorem dX1_addOne_39 : decode cX1_addOne 39 = .ok (.iload_n 3, 1) := by decide +kernel
theorem dX1_addOne_40 : decode cX1_addOne 40 = .ok (.bipush 20, 2) := by decide +kernel
theorem dX1_addOne_42 : decode cX1_addOne 42 = .ok (.iastore, 1) := by decide +kernel
theorem dX1_addOne_43 : decode cX1_addOne 43 = .ok (.aload_n 0, 1) := by decide +kernel
theorem dX1_addOne_44 : decode cX1_addOne 44 = .ok (.getfield 43, 3) := by decide +kernel
theorem dX1_addOne_47 : decode cX1_addOne 47 = .ok (.iload_n 3, 1) := by decide +kernel
theorem dX1_addOne_48 : decode cX1_addOne 48 = .ok (.iconst 0, 1) := by decide +kernel
theorem dX1_addOne_49 : decode cX1_addOne 49 = .ok (.iastore, 1) := by decide +kernel
theorem dX1_addOne_50 : decode cX1_addOne 50 = .ok (.aload_n 0, 1) := by decide +kernel
theorem dX1_addOne_51 : decode cX1_addOne 51 = .ok (.getfield 46, 3) := by decide +kernel
theorem dX1_addOne_54 : decode cX1_addOne 54 = .ok (.iload_n 3, 1) := by decide +kernel
theorem dX1_addOne_55 : decode cX1_addOne 55 = .ok (.iconst 0, 1) := by decide +kernel
theorem dX1_addOne_56 : decode cX1_addOne 56 = .ok (.iastore, 1) := by decide +kernel
theorem dX1_addOne_57 : decode cX1_addOne 57 = .ok (.aload_n 0, 1) := by decide +kernel
theorem dX1_addOne_58 : decode cX1_addOne 58 = .ok (.iload_n 3, 1) := by decide +kernel
theorem dX1_addOne_59 : decode cX1_addOne 59 = .ok (.iconst 1, 1) := by decide +kernel
theorem dX1_addOne_60 : decode cX1_addOne 60 = .ok (.iadd, 1) := by decide +kernel
theorem dX1_addOne_61 : decode cX1_addOne 61 = .ok (.putfield 28, 3) := by decide +kernel
theorem dX1_addOne_64 : decode cX1_addOne 64 = .ok (.iload_n 3, 1) := by decide +kernel
theorem dX1_addOne_65 : decode cX1_addOne 65 = .ok (.ireturn, 1) := by decide +kernel
theorem dX1_houseRow_0 : decode cX1_houseRow 0 = .ok (.iload_n 1, 1) := by decide +kernel
theorem dX1_houseRow_1 : decode cX1_houseRow 1 = .ok (.lookupswitch 37 #[(0, 27), (1, 32)], 27) := by decide +kernel
theorem dX1_houseRow_28 : decode cX1_houseRow 28 = .ok (.aload_n 0, 1) := by decide +kernel
theorem dX1_houseRow_29 : decode cX1_houseRow 29 = .ok (.getfield 18, 3) := by decide +kernel
theorem dX1_houseRow_32 : decode cX1_houseRow 32 = .ok (.areturn, 1) := by decide +kernel
theorem dX1_houseRow_33 : decode cX1_houseRow 33 = .ok (.aload_n 0, 1) := by decide +kernel
theorem dX1_houseRow_34 : decode cX1_houseRow 34 = .ok (.getfield 22, 3) := by decide +kernel
theorem dX1_houseRow_37 : decode cX1_houseRow 37 = .ok (.areturn, 1) := by decide +kernel
theorem dX1_houseRow_38 : decode cX1_houseRow 38 = .ok (.aload_n 0, 1) := by decide +kernel
theorem dX1_houseRow_39 : decode cX1_houseRow 39 = .ok (.getfield 25, 3) := by decide +kernel
theorem dX1_houseRow_42 : decode cX1_houseRow 42 = .ok (.areturn, 1) := by decide +kernel
theorem dX1_sneezerRow_0 : decode cX1_sneezerRow 0 = .ok (.iload_n 1, 1) := by decide +kernel
theorem dX1_sneezerRow_1 : decode cX1_sneezerRow 1 = .ok (.tableswitch 51 1 4 #[31, 36, 41, 46], 31) := by decide +kernel
theorem dX1_sneezerRow_32 : decode cX1_sneezerRow 32 = .ok (.aload_n 0, 1) := by decide +kernel
theorem dX1_sneezerRow_33 : decode cX1_sneezerRow 33 = .ok (.getfield 34, 3) := by decide +kernel
theorem dX1_sneezerRow_36 : decode cX1_sneezerRow 36 = .ok (.areturn, 1) := by decide +kernel
theorem dX1_sneezerRow_37 : decode cX1_sneezerRow 37 = .ok (.aload_n 0, 1) := by decide +kernel
theorem dX1_sneezerRow_38 : decode cX1_sneezerRow 38 = .ok (.getfield 37, 3) := by decide +kernel
theorem dX1_sneezerRow_41 : decode cX1_sneezerRow 41 = .ok (.areturn, 1) := by decide +kernel
theorem dX1_sneezerRow_42 : decode cX1_sneezerRow 42 = .ok (.aload_n 0, 1) := by decide +kernel
theorem dX1_sneezerRow_43 : decode cX1_sneezerRow 43 = .ok (.getfield 40, 3) := by decide +kernel
theorem dX1_sneezerRow_46 : decode cX1_sneezerRow 46 = .ok (.areturn, 1) := by decide +kernel
theorem dX1_sneezerRow_47 : decode cX1_sneezerRow 47 = .ok (.aload_n 0, 1) := by decide +kernel
theorem dX1_sneezerRow_48 : decode cX1_sneezerRow 48 = .ok (.getfield 43, 3) := by decide +kernel
theorem dX1_sneezerRow_51 : decode cX1_sneezerRow 51 = .ok (.areturn, 1) := by decide +kernel
theorem dX1_sneezerRow_52 : decode cX1_sneezerRow 52 = .ok (.aload_n 0, 1) := by decide +kernel
theorem dX1_sneezerRow_53 : decode cX1_sneezerRow 53 = .ok (.getfield 46, 3) := by decide +kernel
theorem dX1_sneezerRow_56 : decode cX1_sneezerRow 56 = .ok (.areturn, 1) := by decide +kernel
theorem dX1_burns_0 : decode cX1_burns 0 = .ok (.aload_n 0, 1) := by decide +kernel
theorem dX1_burns_1 : decode cX1_burns 1 = .ok (.getfield 18, 3) := by decide +kernel
theorem dX1_burns_4 : decode cX1_burns 4 = .ok (.iload_n 1, 1) := by decide +kernel
theorem dX1_burns_5 : decode cX1_burns 5 = .ok (.iaload, 1) := by decide +kernel
theorem dX1_burns_6 : decode cX1_burns 6 = .ok (.ifCond .le 7, 3) := by decide +kernel
theorem dX1_burns_9 : decode cX1_burns 9 = .ok (.iconst 1, 1) := by decide +kernel
theorem dX1_burns_10 : decode cX1_burns 10 = .ok (.goto 4, 3) := by decide +kernel
theorem dX1_burns_13 : decode cX1_burns 13 = .ok (.iconst 0, 1) := by decide +kernel
theorem dX1_burns_14 : decode cX1_burns 14 = .ok (.ireturn, 1) := by decide +kernel
theorem dX1_burning_0 : decode cX1_burning 0 = .ok (.iconst 0, 1) := by decide +kernel
theorem dX1_burning_1 : decode cX1_burning 1 = .ok (.istore_n 1, 1) := by decide +kernel
theorem dX1_burning_2 : decode cX1_burning 2 = .ok (.iconst 0, 1) := by decide +kernel
theorem dX1_burning_3 : decode cX1_burning 3 = .ok (.istore_n 2, 1) := by decide +kernel
theorem dX1_burning_4 : decode cX1_burning 4 = .ok (.iload_n 2, 1) := by decide +kernel
theorem dX1_burning_5 : decode cX1_burning 5 = .ok (.bipush 12, 2) := by decide +kernel
theorem dX1_burning_7 : decode cX1_burning 7 = .ok (.if_icmp .ge 23, 3) := by decide +kernel
theorem dX1_burning_10 : decode cX1_burning 10 = .ok (.aload_n 0, 1) := by decide +kernel
theorem dX1_burning_11 : decode cX1_burning 11 = .ok (.iload_n 2, 1) := by decide +kernel
theorem dX1_burning_12 : decode cX1_burning 12 = .ok (.invokevirtual 58, 3) := by decide +kernel
theorem dX1_burning_15 : decode cX1_burning 15 = .ok (.ifCond .eq 9, 3) := by decide +kernel
theorem dX1_burning_18 : decode cX1_burning 18 = .ok (.iload_n 1, 1) := by decide +kernel
theorem dX1_burning_19 : decode cX1_burning 19 = .ok (.iconst 1, 1) := by decide +kernel
theorem dX1_burning_20 : decode cX1_burning 20 = .ok (.iload_n 2, 1) := by decide +kernel
theorem dX1_burning_21 : decode cX1_burning 21 = .ok (.ishl, 1) := by decide +kernel
theorem dX1_burning_22 : decode cX1_burning 22 = .ok (.ior, 1) := by decide +kernel
theorem dX1_burning_23 : decode cX1_burning 23 = .ok (.istore_n 1, 1) := by decide +kernel
theorem dX1_burning_24 : decode cX1_burning 24 = .ok (.iinc 2 1, 3) := by decide +kernel
theorem dX1_burning_27 : decode cX1_burning 27 = .ok (.goto (-23), 3) := by decide +kernel
theorem dX1_burning_30 : decode cX1_burning 30 = .ok (.iload_n 1, 1) := by decide +kernel
theorem dX1_burning_31 : decode cX1_burning 31 = .ok (.ireturn, 1) := by decide +kernel
theorem dX1_lampsBurning_0 : decode cX1_lampsBurning 0 = .ok (.iconst 0, 1) := by decide +kernel
theorem dX1_lampsBurning_1 : decode cX1_lampsBurning 1 = .ok (.istore_n 1, 1) := by decide +kernel
theorem dX1_lampsBurning_2 : decode cX1_lampsBurning 2 = .ok (.iconst 0, 1) := by decide +kernel
theorem dX1_lampsBurning_3 : decode cX1_lampsBurning 3 = .ok (.istore_n 2, 1) := by decide +kernel
theorem dX1_lampsBurning_4 : decode cX1_lampsBurning 4 = .ok (.iload_n 2, 1) := by decide +kernel
theorem dX1_lampsBurning_5 : decode cX1_lampsBurning 5 = .ok (.bipush 12, 2) := by decide +kernel
theorem dX1_lampsBurning_7 : decode cX1_lampsBurning 7 = .ok (.if_icmp .ge 21, 3) := by decide +kernel
theorem dX1_lampsBurning_10 : decode cX1_lampsBurning 10 = .ok (.aload_n 0, 1) := by decide +kernel
theorem dX1_lampsBurning_11 : decode cX1_lampsBurning 11 = .ok (.getfield 18, 3) := by decide +kernel
theorem dX1_lampsBurning_14 : decode cX1_lampsBurning 14 = .ok (.iload_n 2, 1) := by decide +kernel
theorem dX1_lampsBurning_15 : decode cX1_lampsBurning 15 = .ok (.iaload, 1) := by decide +kernel
theorem dX1_lampsBurning_16 : decode cX1_lampsBurning 16 = .ok (.ifCond .le 6, 3) := by decide +kernel
theorem dX1_lampsBurning_19 : decode cX1_lampsBurning 19 = .ok (.iinc 1 1, 3) := by decide +kernel
theorem dX1_lampsBurning_22 : decode cX1_lampsBurning 22 = .ok (.iinc 2 1, 3) := by decide +kernel
theorem dX1_lampsBurning_25 : decode cX1_lampsBurning 25 = .ok (.goto (-21), 3) := by decide +kernel
theorem dX1_lampsBurning_28 : decode cX1_lampsBurning 28 = .ok (.iload_n 1, 1) := by decide +kernel
theorem dX1_lampsBurning_29 : decode cX1_lampsBurning 29 = .ok (.ireturn, 1) := by decide +kernel
theorem dX1_openBooks_0 : decode cX1_openBooks 0 = .ok (.iconst 0, 1) := by decide +kernel
theorem dX1_openBooks_1 : decode cX1_openBooks 1 = .ok (.istore_n 1, 1) := by decide +kernel
theorem dX1_openBooks_2 : decode cX1_openBooks 2 = .ok (.iconst 0, 1) := by decide +kernel
theorem dX1_openBooks_3 : decode cX1_openBooks 3 = .ok (.istore_n 2, 1) := by decide +kernel
theorem dX1_openBooks_4 : decode cX1_openBooks 4 = .ok (.iload_n 2, 1) := by decide +kernel
theorem dX1_openBooks_5 : decode cX1_openBooks 5 = .ok (.bipush 12, 2) := by decide +kernel
theorem dX1_openBooks_7 : decode cX1_openBooks 7 = .ok (.if_icmp .ge 25, 3) := by decide +kernel
theorem dX1_openBooks_10 : decode cX1_openBooks 10 = .ok (.aload_n 0, 1) := by decide +kernel
theorem dX1_openBooks_11 : decode cX1_openBooks 11 = .ok (.getfield 22, 3) := by decide +kernel
theorem dX1_openBooks_14 : decode cX1_openBooks 14 = .ok (.iload_n 2, 1) := by decide +kernel
theorem dX1_openBooks_15 : decode cX1_openBooks 15 = .ok (.iaload, 1) := by decide +kernel
theorem dX1_openBooks_16 : decode cX1_openBooks 16 = .ok (.iconst 1, 1) := by decide +kernel
theorem dX1_openBooks_17 : decode cX1_openBooks 17 = .ok (.if_icmp .ne 9, 3) := by decide +kernel
theorem dX1_openBooks_20 : decode cX1_openBooks 20 = .ok (.iload_n 1, 1) := by decide +kernel
theorem dX1_openBooks_21 : decode cX1_openBooks 21 = .ok (.iconst 1, 1) := by decide +kernel
theorem dX1_openBooks_22 : decode cX1_openBooks 22 = .ok (.iload_n 2, 1) := by decide +kernel
theorem dX1_openBooks_23 : decode cX1_openBooks 23 = .ok (.ishl, 1) := by decide +kernel
theorem dX1_openBooks_24 : decode cX1_openBooks 24 = .ok (.ior, 1) := by decide +kernel
theorem dX1_openBooks_25 : decode cX1_openBooks 25 = .ok (.istore_n 1, 1) := by decide +kernel
theorem dX1_openBooks_26 : decode cX1_openBooks 26 = .ok (.iinc 2 1, 3) := by decide +kernel
theorem dX1_openBooks_29 : decode cX1_openBooks 29 = .ok (.goto (-25), 3) := by decide +kernel
theorem dX1_openBooks_32 : decode cX1_openBooks 32 = .ok (.iload_n 1, 1) := by decide +kernel
theorem dX1_openBooks_33 : decode cX1_openBooks 33 = .ok (.ireturn, 1) := by decide +kernel
theorem dX1_whoIsAt_0 : decode cX1_whoIsAt 0 = .ok (.iconst 0, 1) := by decide +kernel
theorem dX1_whoIsAt_1 : decode cX1_whoIsAt 1 = .ok (.istore_n 2, 1) := by decide +kernel
theorem dX1_whoIsAt_2 : decode cX1_whoIsAt 2 = .ok (.iconst 0, 1) := by decide +kernel
theorem dX1_whoIsAt_3 : decode cX1_whoIsAt 3 = .ok (.istore_n 3, 1) := by decide +kernel
theorem dX1_whoIsAt_4 : decode cX1_whoIsAt 4 = .ok (.iload_n 3, 1) := by decide +kernel
theorem dX1_whoIsAt_5 : decode cX1_whoIsAt 5 = .ok (.aload_n 0, 1) := by decide +kernel
theorem dX1_whoIsAt_6 : decode cX1_whoIsAt 6 = .ok (.getfield 28, 3) := by decide +kernel
theorem dX1_whoIsAt_9 : decode cX1_whoIsAt 9 = .ok (.if_icmp .ge 25, 3) := by decide +kernel
theorem dX1_whoIsAt_12 : decode cX1_whoIsAt 12 = .ok (.aload_n 0, 1) := by decide +kernel
theorem dX1_whoIsAt_13 : decode cX1_whoIsAt 13 = .ok (.getfield 34, 3) := by decide +kernel
theorem dX1_whoIsAt_16 : decode cX1_whoIsAt 16 = .ok (.iload_n 3, 1) := by decide +kernel
theorem dX1_whoIsAt_17 : decode cX1_whoIsAt 17 = .ok (.iaload, 1) := by decide +kernel
theorem dX1_whoIsAt_18 : decode cX1_whoIsAt 18 = .ok (.iload_n 1, 1) := by decide +kernel
theorem dX1_whoIsAt_19 : decode cX1_whoIsAt 19 = .ok (.if_icmp .ne 9, 3) := by decide +kernel
theorem dX1_whoIsAt_22 : decode cX1_whoIsAt 22 = .ok (.iload_n 2, 1) := by decide +kernel
theorem dX1_whoIsAt_23 : decode cX1_whoIsAt 23 = .ok (.iconst 1, 1) := by decide +kernel
theorem dX1_whoIsAt_24 : decode cX1_whoIsAt 24 = .ok (.iload_n 3, 1) := by decide +kernel
theorem dX1_whoIsAt_25 : decode cX1_whoIsAt 25 = .ok (.ishl, 1) := by decide +kernel
theorem dX1_whoIsAt_26 : decode cX1_whoIsAt 26 = .ok (.ior, 1) := by decide +kernel
theorem dX1_whoIsAt_27 : decode cX1_whoIsAt 27 = .ok (.istore_n 2, 1) := by decide +kernel
theorem dX1_whoIsAt_28 : decode cX1_whoIsAt 28 = .ok (.iinc 3 1, 3) := by decide +kernel
theorem dX1_whoIsAt_31 : decode cX1_whoIsAt 31 = .ok (.goto (-27), 3) := by decide +kernel
theorem dX1_whoIsAt_34 : decode cX1_whoIsAt 34 = .ok (.iload_n 2, 1) := by decide +kernel
theorem dX1_whoIsAt_35 : decode cX1_whoIsAt 35 = .ok (.ireturn, 1) := by decide +kernel
theorem dX1_readOfAll_0 : decode cX1_readOfAll 0 = .ok (.iconst 0, 1) := by decide +kernel
theorem dX1_readOfAll_1 : decode cX1_readOfAll 1 = .ok (.istore_n 1, 1) := by decide +kernel
theorem dX1_readOfAll_2 : decode cX1_readOfAll 2 = .ok (.iconst 0, 1) := by decide +kernel
theorem dX1_readOfAll_3 : decode cX1_readOfAll 3 = .ok (.istore_n 2, 1) := by decide +kernel
theorem dX1_readOfAll_4 : decode cX1_readOfAll 4 = .ok (.iload_n 2, 1) := by decide +kernel
theorem dX1_readOfAll_5 : decode cX1_readOfAll 5 = .ok (.bipush 12, 2) := by decide +kernel
theorem dX1_readOfAll_7 : decode cX1_readOfAll 7 = .ok (.if_icmp .ge 18, 3) := by decide +kernel
theorem dX1_readOfAll_10 : decode cX1_readOfAll 10 = .ok (.iload_n 1, 1) := by decide +kernel
theorem dX1_readOfAll_11 : decode cX1_readOfAll 11 = .ok (.aload_n 0, 1) := by decide +kernel
theorem dX1_readOfAll_12 : decode cX1_readOfAll 12 = .ok (.getfield 25, 3) := by decide +kernel
theorem dX1_readOfAll_15 : decode cX1_readOfAll 15 = .ok (.iload_n 2, 1) := by decide +kernel
theorem dX1_readOfAll_16 : decode cX1_readOfAll 16 = .ok (.iaload, 1) := by decide +kernel
theorem dX1_readOfAll_17 : decode cX1_readOfAll 17 = .ok (.iadd, 1) := by decide +kernel
theorem dX1_readOfAll_18 : decode cX1_readOfAll 18 = .ok (.istore_n 1, 1) := by decide +kernel
theorem dX1_readOfAll_19 : decode cX1_readOfAll 19 = .ok (.iinc 2 1, 3) := by decide +kernel
theorem dX1_readOfAll_22 : decode cX1_readOfAll 22 = .ok (.goto (-18), 3) := by decide +kernel
theorem dX1_readOfAll_25 : decode cX1_readOfAll 25 = .ok (.iload_n 1, 1) := by decide +kernel
theorem dX1_readOfAll_26 : decode cX1_readOfAll 26 = .ok (.ireturn, 1) := by decide +kernel
theorem dX1_coldOfAll_0 : decode cX1_coldOfAll 0 = .ok (.iconst 0, 1) := by decide +kernel
theorem dX1_coldOfAll_1 : decode cX1_coldOfAll 1 = .ok (.istore_n 1, 1) := by decide +kernel
theorem dX1_coldOfAll_2 : decode cX1_coldOfAll 2 = .ok (.iconst 0, 1) := by decide +kernel
theorem dX1_coldOfAll_3 : decode cX1_coldOfAll 3 = .ok (.istore_n 2, 1) := by decide +kernel
theorem dX1_coldOfAll_4 : decode cX1_coldOfAll 4 = .ok (.iload_n 2, 1) := by decide +kernel
theorem dX1_coldOfAll_5 : decode cX1_coldOfAll 5 = .ok (.aload_n 0, 1) := by decide +kernel
theorem dX1_coldOfAll_6 : decode cX1_coldOfAll 6 = .ok (.getfield 28, 3) := by decide +kernel
theorem dX1_coldOfAll_9 : decode cX1_coldOfAll 9 = .ok (.if_icmp .ge 18, 3) := by decide +kernel
theorem dX1_coldOfAll_12 : decode cX1_coldOfAll 12 = .ok (.iload_n 1, 1) := by decide +kernel
theorem dX1_coldOfAll_13 : decode cX1_coldOfAll 13 = .ok (.aload_n 0, 1) := by decide +kernel
theorem dX1_coldOfAll_14 : decode cX1_coldOfAll 14 = .ok (.getfield 40, 3) := by decide +kernel
theorem dX1_coldOfAll_17 : decode cX1_coldOfAll 17 = .ok (.iload_n 2, 1) := by decide +kernel
theorem dX1_coldOfAll_18 : decode cX1_coldOfAll 18 = .ok (.iaload, 1) := by decide +kernel
theorem dX1_coldOfAll_19 : decode cX1_coldOfAll 19 = .ok (.iadd, 1) := by decide +kernel
theorem dX1_coldOfAll_20 : decode cX1_coldOfAll 20 = .ok (.istore_n 1, 1) := by decide +kernel
theorem dX1_coldOfAll_21 : decode cX1_coldOfAll 21 = .ok (.iinc 2 1, 3) := by decide +kernel
theorem dX1_coldOfAll_24 : decode cX1_coldOfAll 24 = .ok (.goto (-20), 3) := by decide +kernel
theorem dX1_coldOfAll_27 : decode cX1_coldOfAll 27 = .ok (.iload_n 1, 1) := by decide +kernel
theorem dX1_coldOfAll_28 : decode cX1_coldOfAll 28 = .ok (.ireturn, 1) := by decide +kernel
theorem dX1_goneOffOfAll_0 : decode cX1_goneOffOfAll 0 = .ok (.iconst 0, 1) := by decide +kernel
theorem dX1_goneOffOfAll_1 : decode cX1_goneOffOfAll 1 = .ok (.istore_n 1, 1) := by decide +kernel
theorem dX1_goneOffOfAll_2 : decode cX1_goneOffOfAll 2 = .ok (.iconst 0, 1) := by decide +kernel
theorem dX1_goneOffOfAll_3 : decode cX1_goneOffOfAll 3 = .ok (.istore_n 2, 1) := by decide +kernel
theorem dX1_goneOffOfAll_4 : decode cX1_goneOffOfAll 4 = .ok (.iload_n 2, 1) := by decide +kernel
theorem dX1_goneOffOfAll_5 : decode cX1_goneOffOfAll 5 = .ok (.aload_n 0, 1) := by decide +kernel
theorem dX1_goneOffOfAll_6 : decode cX1_goneOffOfAll 6 = .ok (.getfield 28, 3) := by decide +kernel
theorem dX1_goneOffOfAll_9 : decode cX1_goneOffOfAll 9 = .ok (.if_icmp .ge 18, 3) := by decide +kernel
theorem dX1_goneOffOfAll_12 : decode cX1_goneOffOfAll 12 = .ok (.iload_n 1, 1) := by decide +kernel
theorem dX1_goneOffOfAll_13 : decode cX1_goneOffOfAll 13 = .ok (.aload_n 0, 1) := by decide +kernel
theorem dX1_goneOffOfAll_14 : decode cX1_goneOffOfAll 14 = .ok (.getfield 46, 3) := by decide +kernel
theorem dX1_goneOffOfAll_17 : decode cX1_goneOffOfAll 17 = .ok (.iload_n 2, 1) := by decide +kernel
theorem dX1_goneOffOfAll_18 : decode cX1_goneOffOfAll 18 = .ok (.iaload, 1) := by decide +kernel
theorem dX1_goneOffOfAll_19 : decode cX1_goneOffOfAll 19 = .ok (.iadd, 1) := by decide +kernel
theorem dX1_goneOffOfAll_20 : decode cX1_goneOffOfAll 20 = .ok (.istore_n 1, 1) := by decide +kernel
theorem dX1_goneOffOfAll_21 : decode cX1_goneOffOfAll 21 = .ok (.iinc 2 1, 3) := by decide +kernel
theorem dX1_goneOffOfAll_24 : decode cX1_goneOffOfAll 24 = .ok (.goto (-20), 3) := by decide +kernel
theorem dX1_goneOffOfAll_27 : decode cX1_goneOffOfAll 27 = .ok (.iload_n 1, 1) := by decide +kernel
theorem dX1_goneOffOfAll_28 : decode cX1_goneOffOfAll 28 = .ok (.ireturn, 1) := by decide +kernel
theorem dX1_ticklesOf_0 : decode cX1_ticklesOf 0 = .ok (.iconst 0, 1) := by decide +kernel
theorem dX1_ticklesOf_1 : decode cX1_ticklesOf 1 = .ok (.aload_n 0, 1) := by decide +kernel
theorem dX1_ticklesOf_2 : decode cX1_ticklesOf 2 = .ok (.getfield 40, 3) := by decide +kernel
theorem dX1_ticklesOf_5 : decode cX1_ticklesOf 5 = .ok (.iload_n 1, 1) := by decide +kernel
theorem dX1_ticklesOf_6 : decode cX1_ticklesOf 6 = .ok (.iaload, 1) := by decide +kernel
theorem dX1_ticklesOf_7 : decode cX1_ticklesOf 7 = .ok (.iconst 4, 1) := by decide +kernel
theorem dX1_ticklesOf_8 : decode cX1_ticklesOf 8 = .ok (.idiv, 1) := by decide +kernel
theorem dX1_ticklesOf_9 : decode cX1_ticklesOf 9 = .ok (.aload_n 0, 1) := by decide +kernel
theorem dX1_ticklesOf_10 : decode cX1_ticklesOf 10 = .ok (.getfield 15, 3) := by decide +kernel
theorem dX1_ticklesOf_13 : decode cX1_ticklesOf 13 = .ok (.isub, 1) := by decide +kernel
theorem dX1_ticklesOf_14 : decode cX1_ticklesOf 14 = .ok (.invokestatic 62, 3) := by decide +kernel
theorem dX1_ticklesOf_17 : decode cX1_ticklesOf 17 = .ok (.istore_n 2, 1) := by decide +kernel
theorem dX1_ticklesOf_18 : decode cX1_ticklesOf 18 = .ok (.iload_n 2, 1) := by decide +kernel
theorem dX1_ticklesOf_19 : decode cX1_ticklesOf 19 = .ok (.iconst 2, 1) := by decide +kernel
theorem dX1_ticklesOf_20 : decode cX1_ticklesOf 20 = .ok (.idiv, 1) := by decide +kernel
theorem dX1_ticklesOf_21 : decode cX1_ticklesOf 21 = .ok (.istore_n 3, 1) := by decide +kernel
theorem dX1_ticklesOf_22 : decode cX1_ticklesOf 22 = .ok (.iload_n 2, 1) := by decide +kernel
theorem dX1_ticklesOf_23 : decode cX1_ticklesOf 23 = .ok (.iconst 3, 1) := by decide +kernel
theorem dX1_ticklesOf_24 : decode cX1_ticklesOf 24 = .ok (.iadd, 1) := by decide +kernel
theorem dX1_ticklesOf_25 : decode cX1_ticklesOf 25 = .ok (.istore 4, 2) := by decide +kernel
theorem dX1_ticklesOf_27 : decode cX1_ticklesOf 27 = .ok (.aload_n 0, 1) := by decide +kernel
theorem dX1_ticklesOf_28 : decode cX1_ticklesOf 28 = .ok (.getfield 31, 3) := by decide +kernel
theorem dX1_ticklesOf_31 : decode cX1_ticklesOf 31 = .ok (.iload_n 1, 1) := by decide +kernel
theorem dX1_ticklesOf_32 : decode cX1_ticklesOf 32 = .ok (.iaload, 1) := by decide +kernel
theorem dX1_ticklesOf_33 : decode cX1_ticklesOf 33 = .ok (.tableswitch 69 1 5 #[35, 37, 40, 42, 46], 35) := by decide +kernel
theorem dX1_ticklesOf_68 : decode cX1_ticklesOf 68 = .ok (.iload_n 3, 1) := by decide +kernel
theorem dX1_ticklesOf_69 : decode cX1_ticklesOf 69 = .ok (.ireturn, 1) := by decide +kernel
theorem dX1_ticklesOf_70 : decode cX1_ticklesOf 70 = .ok (.iload 4, 2) := by decide +kernel
theorem dX1_ticklesOf_72 : decode cX1_ticklesOf 72 = .ok (.ireturn, 1) := by decide +kernel
theorem dX1_ticklesOf_73 : decode cX1_ticklesOf 73 = .ok (.iconst 0, 1) := by decide +kernel
theorem dX1_ticklesOf_74 : decode cX1_ticklesOf 74 = .ok (.ireturn, 1) := by decide +kernel
theorem dX1_ticklesOf_75 : decode cX1_ticklesOf 75 = .ok (.iload_n 3, 1) := by decide +kernel
theorem dX1_ticklesOf_76 : decode cX1_ticklesOf 76 = .ok (.iconst 1, 1) := by decide +kernel
theorem dX1_ticklesOf_77 : decode cX1_ticklesOf 77 = .ok (.iadd, 1) := by decide +kernel
theorem dX1_ticklesOf_78 : decode cX1_ticklesOf 78 = .ok (.ireturn, 1) := by decide +kernel
theorem dX1_ticklesOf_79 : decode cX1_ticklesOf 79 = .ok (.aload_n 0, 1) := by decide +kernel
theorem dX1_ticklesOf_80 : decode cX1_ticklesOf 80 = .ok (.aload_n 0, 1) := by decide +kernel
theorem dX1_ticklesOf_81 : decode cX1_ticklesOf 81 = .ok (.getfield 34, 3) := by decide +kernel
theorem dX1_ticklesOf_84 : decode cX1_ticklesOf 84 = .ok (.iload_n 1, 1) := by decide +kernel
theorem dX1_ticklesOf_85 : decode cX1_ticklesOf 85 = .ok (.iaload, 1) := by decide +kernel
theorem dX1_ticklesOf_86 : decode cX1_ticklesOf 86 = .ok (.invokevirtual 58, 3) := by decide +kernel
theorem dX1_ticklesOf_89 : decode cX1_ticklesOf 89 = .ok (.ifCond .eq 10, 3) := by decide +kernel
theorem dX1_ticklesOf_92 : decode cX1_ticklesOf 92 = .ok (.iconst 2, 1) := by decide +kernel
theorem dX1_ticklesOf_93 : decode cX1_ticklesOf 93 = .ok (.iload 4, 2) := by decide +kernel
theorem dX1_ticklesOf_95 : decode cX1_ticklesOf 95 = .ok (.imul, 1) := by decide +kernel
theorem dX1_ticklesOf_96 : decode cX1_ticklesOf 96 = .ok (.goto 5, 3) := by decide +kernel
theorem dX1_ticklesOf_99 : decode cX1_ticklesOf 99 = .ok (.iload 4, 2) := by decide +kernel
theorem dX1_ticklesOf_101 : decode cX1_ticklesOf 101 = .ok (.ireturn, 1) := by decide +kernel
theorem dX1_ticklesOf_102 : decode cX1_ticklesOf 102 = .ok (.iload_n 2, 1) := by decide +kernel
theorem dX1_ticklesOf_103 : decode cX1_ticklesOf 103 = .ok (.ireturn, 1) := by decide +kernel
theorem dX1_holdsOf_0 : decode cX1_holdsOf 0 = .ok (.bipush 30, 2) := by decide +kernel
theorem dX1_holdsOf_2 : decode cX1_holdsOf 2 = .ok (.istore_n 2, 1) := by decide +kernel
theorem dX1_holdsOf_3 : decode cX1_holdsOf 3 = .ok (.iload_n 2, 1) := by decide +kernel
theorem dX1_holdsOf_4 : decode cX1_holdsOf 4 = .ok (.bipush 60, 2) := by decide +kernel
theorem dX1_holdsOf_6 : decode cX1_holdsOf 6 = .ok (.iadd, 1) := by decide +kernel
theorem dX1_holdsOf_7 : decode cX1_holdsOf 7 = .ok (.istore_n 3, 1) := by decide +kernel
theorem dX1_holdsOf_8 : decode cX1_holdsOf 8 = .ok (.iload_n 2, 1) := by decide +kernel
theorem dX1_holdsOf_9 : decode cX1_holdsOf 9 = .ok (.bipush 10, 2) := by decide +kernel
theorem dX1_holdsOf_11 : decode cX1_holdsOf 11 = .ok (.isub, 1) := by decide +kernel
theorem dX1_holdsOf_12 : decode cX1_holdsOf 12 = .ok (.istore 4, 2) := by decide +kernel
theorem dX1_holdsOf_14 : decode cX1_holdsOf 14 = .ok (.aload_n 0, 1) := by decide +kernel
theorem dX1_holdsOf_15 : decode cX1_holdsOf 15 = .ok (.getfield 31, 3) := by decide +kernel
theorem dX1_holdsOf_18 : decode cX1_holdsOf 18 = .ok (.iload_n 1, 1) := by decide +kernel
theorem dX1_holdsOf_19 : decode cX1_holdsOf 19 = .ok (.iaload, 1) := by decide +kernel
theorem dX1_holdsOf_20 : decode cX1_holdsOf 20 = .ok (.tableswitch 56 1 5 #[36, 38, 41, 44, 53], 36) := by decide +kernel
theorem dX1_holdsOf_56 : decode cX1_holdsOf 56 = .ok (.iload_n 3, 1) := by decide +kernel
theorem dX1_holdsOf_57 : decode cX1_holdsOf 57 = .ok (.ireturn, 1) := by decide +kernel
theorem dX1_holdsOf_58 : decode cX1_holdsOf 58 = .ok (.iload 4, 2) := by decide +kernel
theorem dX1_holdsOf_60 : decode cX1_holdsOf 60 = .ok (.ireturn, 1) := by decide +kernel
theorem dX1_holdsOf_61 : decode cX1_holdsOf 61 = .ok (.bipush 99, 2) := by decide +kernel
theorem dX1_holdsOf_63 : decode cX1_holdsOf 63 = .ok (.ireturn, 1) := by decide +kernel
theorem dX1_holdsOf_64 : decode cX1_holdsOf 64 = .ok (.iload_n 3, 1) := by decide +kernel
theorem dX1_holdsOf_65 : decode cX1_holdsOf 65 = .ok (.iconst 5, 1) := by decide +kernel
theorem dX1_holdsOf_66 : decode cX1_holdsOf 66 = .ok (.aload_n 0, 1) := by decide +kernel
theorem dX1_holdsOf_67 : decode cX1_holdsOf 67 = .ok (.invokevirtual 68, 3) := by decide +kernel
theorem dX1_holdsOf_70 : decode cX1_holdsOf 70 = .ok (.imul, 1) := by decide +kernel
theorem dX1_holdsOf_71 : decode cX1_holdsOf 71 = .ok (.isub, 1) := by decide +kernel
theorem dX1_holdsOf_72 : decode cX1_holdsOf 72 = .ok (.ireturn, 1) := by decide +kernel
theorem dX1_holdsOf_73 : decode cX1_holdsOf 73 = .ok (.iload 4, 2) := by decide +kernel
theorem dX1_holdsOf_75 : decode cX1_holdsOf 75 = .ok (.ireturn, 1) := by decide +kernel
theorem dX1_holdsOf_76 : decode cX1_holdsOf 76 = .ok (.iload_n 2, 1) := by decide +kernel
theorem dX1_holdsOf_77 : decode cX1_holdsOf 77 = .ok (.ireturn, 1) := by decide +kernel
theorem dX1_blowsOf_0 : decode cX1_blowsOf 0 = .ok (.iconst 1, 1) := by decide +kernel
theorem dX1_blowsOf_1 : decode cX1_blowsOf 1 = .ok (.aload_n 0, 1) := by decide +kernel
theorem dX1_blowsOf_2 : decode cX1_blowsOf 2 = .ok (.getfield 40, 3) := by decide +kernel
theorem dX1_blowsOf_5 : decode cX1_blowsOf 5 = .ok (.iload_n 1, 1) := by decide +kernel
theorem dX1_blowsOf_6 : decode cX1_blowsOf 6 = .ok (.iaload, 1) := by decide +kernel
theorem dX1_blowsOf_7 : decode cX1_blowsOf 7 = .ok (.bipush 25, 2) := by decide +kernel
theorem dX1_blowsOf_9 : decode cX1_blowsOf 9 = .ok (.idiv, 1) := by decide +kernel
theorem dX1_blowsOf_10 : decode cX1_blowsOf 10 = .ok (.iadd, 1) := by decide +kernel
theorem dX1_blowsOf_11 : decode cX1_blowsOf 11 = .ok (.istore_n 2, 1) := by decide +kernel
theorem dX1_blowsOf_12 : decode cX1_blowsOf 12 = .ok (.iconst 2, 1) := by decide +kernel
theorem dX1_blowsOf_13 : decode cX1_blowsOf 13 = .ok (.iload_n 2, 1) := by decide +kernel
theorem dX1_blowsOf_14 : decode cX1_blowsOf 14 = .ok (.imul, 1) := by decide +kernel
theorem dX1_blowsOf_15 : decode cX1_blowsOf 15 = .ok (.istore_n 3, 1) := by decide +kernel
theorem dX1_blowsOf_16 : decode cX1_blowsOf 16 = .ok (.iconst 1, 1) := by decide +kernel
theorem dX1_blowsOf_17 : decode cX1_blowsOf 17 = .ok (.istore 4, 2) := by decide +kernel
theorem dX1_blowsOf_19 : decode cX1_blowsOf 19 = .ok (.aload_n 0, 1) := by decide +kernel
theorem dX1_blowsOf_20 : decode cX1_blowsOf 20 = .ok (.getfield 31, 3) := by decide +kernel
theorem dX1_blowsOf_23 : decode cX1_blowsOf 23 = .ok (.iload_n 1, 1) := by decide +kernel
theorem dX1_blowsOf_24 : decode cX1_blowsOf 24 = .ok (.iaload, 1) := by decide +kernel
theorem dX1_blowsOf_25 : decode cX1_blowsOf 25 = .ok (.tableswitch 59 1 5 #[35, 37, 40, 42, 46], 35) := by decide +kernel
theorem dX1_blowsOf_60 : decode cX1_blowsOf 60 = .ok (.iload_n 3, 1) := by decide +kernel
theorem dX1_blowsOf_61 : decode cX1_blowsOf 61 = .ok (.ireturn, 1) := by decide +kernel
theorem dX1_blowsOf_62 : decode cX1_blowsOf 62 = .ok (.iload 4, 2) := by decide +kernel
theorem dX1_blowsOf_64 : decode cX1_blowsOf 64 = .ok (.ireturn, 1) := by decide +kernel
theorem dX1_blowsOf_65 : decode cX1_blowsOf 65 = .ok (.iconst 0, 1) := by decide +kernel
theorem dX1_blowsOf_66 : decode cX1_blowsOf 66 = .ok (.ireturn, 1) := by decide +kernel
theorem dX1_blowsOf_67 : decode cX1_blowsOf 67 = .ok (.iload_n 3, 1) := by decide +kernel
theorem dX1_blowsOf_68 : decode cX1_blowsOf 68 = .ok (.iconst 1, 1) := by decide +kernel
theorem dX1_blowsOf_69 : decode cX1_blowsOf 69 = .ok (.iadd, 1) := by decide +kernel
theorem dX1_blowsOf_70 : decode cX1_blowsOf 70 = .ok (.ireturn, 1) := by decide +kernel
theorem dX1_blowsOf_71 : decode cX1_blowsOf 71 = .ok (.iload 4, 2) := by decide +kernel
theorem dX1_blowsOf_73 : decode cX1_blowsOf 73 = .ok (.aload_n 0, 1) := by decide +kernel
theorem dX1_blowsOf_74 : decode cX1_blowsOf 74 = .ok (.getfield 40, 3) := by decide +kernel
theorem dX1_blowsOf_77 : decode cX1_blowsOf 77 = .ok (.iload_n 1, 1) := by decide +kernel
theorem dX1_blowsOf_78 : decode cX1_blowsOf 78 = .ok (.iaload, 1) := by decide +kernel
theorem dX1_blowsOf_79 : decode cX1_blowsOf 79 = .ok (.bipush 50, 2) := by decide +kernel
theorem dX1_blowsOf_81 : decode cX1_blowsOf 81 = .ok (.idiv, 1) := by decide +kernel
theorem dX1_blowsOf_82 : decode cX1_blowsOf 82 = .ok (.iadd, 1) := by decide +kernel
theorem dX1_blowsOf_83 : decode cX1_blowsOf 83 = .ok (.ireturn, 1) := by decide +kernel
theorem dX1_blowsOf_84 : decode cX1_blowsOf 84 = .ok (.iload_n 2, 1) := by decide +kernel
theorem dX1_blowsOf_85 : decode cX1_blowsOf 85 = .ok (.ireturn, 1) := by decide +kernel
theorem dX1_healsOf_0 : decode cX1_healsOf 0 = .ok (.iconst 1, 1) := by decide +kernel
theorem dX1_healsOf_1 : decode cX1_healsOf 1 = .ok (.istore_n 2, 1) := by decide +kernel
theorem dX1_healsOf_2 : decode cX1_healsOf 2 = .ok (.iconst 0, 1) := by decide +kernel
theorem dX1_healsOf_3 : decode cX1_healsOf 3 = .ok (.istore_n 3, 1) := by decide +kernel
theorem dX1_healsOf_4 : decode cX1_healsOf 4 = .ok (.iload_n 2, 1) := by decide +kernel
theorem dX1_healsOf_5 : decode cX1_healsOf 5 = .ok (.iconst 1, 1) := by decide +kernel
theorem dX1_healsOf_6 : decode cX1_healsOf 6 = .ok (.iadd, 1) := by decide +kernel
theorem dX1_healsOf_7 : decode cX1_healsOf 7 = .ok (.istore 4, 2) := by decide +kernel
theorem dX1_healsOf_9 : decode cX1_healsOf 9 = .ok (.aload_n 0, 1) := by decide +kernel
theorem dX1_healsOf_10 : decode cX1_healsOf 10 = .ok (.getfield 31, 3) := by decide +kernel
theorem dX1_healsOf_13 : decode cX1_healsOf 13 = .ok (.iload_n 1, 1) := by decide +kernel
theorem dX1_healsOf_14 : decode cX1_healsOf 14 = .ok (.iaload, 1) := by decide +kernel
theorem dX1_healsOf_15 : decode cX1_healsOf 15 = .ok (.tableswitch 55 1 5 #[33, 35, 38, 41, 50], 33) := by decide +kernel
theorem dX1_healsOf_48 : decode cX1_healsOf 48 = .ok (.iload_n 3, 1) := by decide +kernel
theorem dX1_healsOf_49 : decode cX1_healsOf 49 = .ok (.ireturn, 1) := by decide +kernel
theorem dX1_healsOf_50 : decode cX1_healsOf 50 = .ok (.iload 4, 2) := by decide +kernel
theorem dX1_healsOf_52 : decode cX1_healsOf 52 = .ok (.ireturn, 1) := by decide +kernel
theorem dX1_healsOf_53 : decode cX1_healsOf 53 = .ok (.bipush 9, 2) := by decide +kernel
theorem dX1_healsOf_55 : decode cX1_healsOf 55 = .ok (.ireturn, 1) := by decide +kernel
theorem dX1_healsOf_56 : decode cX1_healsOf 56 = .ok (.iload_n 3, 1) := by decide +kernel
theorem dX1_healsOf_57 : decode cX1_healsOf 57 = .ok (.aload_n 0, 1) := by decide +kernel
theorem dX1_healsOf_58 : decode cX1_healsOf 58 = .ok (.getfield 15, 3) := by decide +kernel
theorem dX1_healsOf_61 : decode cX1_healsOf 61 = .ok (.iconst 3, 1) := by decide +kernel
theorem dX1_healsOf_62 : decode cX1_healsOf 62 = .ok (.idiv, 1) := by decide +kernel
theorem dX1_healsOf_63 : decode cX1_healsOf 63 = .ok (.iadd, 1) := by decide +kernel
theorem dX1_healsOf_64 : decode cX1_healsOf 64 = .ok (.ireturn, 1) := by decide +kernel
theorem dX1_healsOf_65 : decode cX1_healsOf 65 = .ok (.iload 4, 2) := by decide +kernel
theorem dX1_healsOf_67 : decode cX1_healsOf 67 = .ok (.iconst 1, 1) := by decide +kernel
theorem dX1_healsOf_68 : decode cX1_healsOf 68 = .ok (.isub, 1) := by decide +kernel
theorem dX1_healsOf_69 : decode cX1_healsOf 69 = .ok (.ireturn, 1) := by decide +kernel
theorem dX1_healsOf_70 : decode cX1_healsOf 70 = .ok (.iload_n 2, 1) := by decide +kernel
theorem dX1_healsOf_71 : decode cX1_healsOf 71 = .ok (.ireturn, 1) := by decide +kernel
theorem dX1_ready_0 : decode cX1_ready 0 = .ok (.iconst 0, 1) := by decide +kernel
theorem dX1_ready_1 : decode cX1_ready 1 = .ok (.istore_n 1, 1) := by decide +kernel
theorem dX1_ready_2 : decode cX1_ready 2 = .ok (.iconst 0, 1) := by decide +kernel
theorem dX1_ready_3 : decode cX1_ready 3 = .ok (.istore_n 2, 1) := by decide +kernel
theorem dX1_ready_4 : decode cX1_ready 4 = .ok (.iload_n 2, 1) := by decide +kernel
theorem dX1_ready_5 : decode cX1_ready 5 = .ok (.aload_n 0, 1) := by decide +kernel
theorem dX1_ready_6 : decode cX1_ready 6 = .ok (.getfield 28, 3) := by decide +kernel
theorem dX1_ready_9 : decode cX1_ready 9 = .ok (.if_icmp .ge 29, 3) := by decide +kernel
theorem dX1_ready_12 : decode cX1_ready 12 = .ok (.aload_n 0, 1) := by decide +kernel
theorem dX1_ready_13 : decode cX1_ready 13 = .ok (.getfield 43, 3) := by decide +kernel
theorem dX1_ready_16 : decode cX1_ready 16 = .ok (.iload_n 2, 1) := by decide +kernel
theorem dX1_ready_17 : decode cX1_ready 17 = .ok (.iaload, 1) := by decide +kernel
theorem dX1_ready_18 : decode cX1_ready 18 = .ok (.aload_n 0, 1) := by decide +kernel
theorem dX1_ready_19 : decode cX1_ready 19 = .ok (.iload_n 2, 1) := by decide +kernel
theorem dX1_ready_20 : decode cX1_ready 20 = .ok (.invokevirtual 72, 3) := by decide +kernel
theorem dX1_ready_23 : decode cX1_ready 23 = .ok (.if_icmp .lt 9, 3) := by decide +kernel
theorem dX1_ready_26 : decode cX1_ready 26 = .ok (.iload_n 1, 1) := by decide +kernel
theorem dX1_ready_27 : decode cX1_ready 27 = .ok (.iconst 1, 1) := by decide +kernel
theorem dX1_ready_28 : decode cX1_ready 28 = .ok (.iload_n 2, 1) := by decide +kernel
theorem dX1_ready_29 : decode cX1_ready 29 = .ok (.ishl, 1) := by decide +kernel
theorem dX1_ready_30 : decode cX1_ready 30 = .ok (.ior, 1) := by decide +kernel
theorem dX1_ready_31 : decode cX1_ready 31 = .ok (.istore_n 1, 1) := by decide +kernel
theorem dX1_ready_32 : decode cX1_ready 32 = .ok (.iinc 2 1, 3) := by decide +kernel
theorem dX1_ready_35 : decode cX1_ready 35 = .ok (.goto (-31), 3) := by decide +kernel
theorem dX1_ready_38 : decode cX1_ready 38 = .ok (.iload_n 1, 1) := by decide +kernel
theorem dX1_ready_39 : decode cX1_ready 39 = .ok (.ireturn, 1) := by decide +kernel
theorem dX1_goMinutes_0 : decode cX1_goMinutes 0 = .ok (.iconst 0, 1) := by decide +kernel
theorem dX1_goMinutes_1 : decode cX1_goMinutes 1 = .ok (.istore_n 2, 1) := by decide +kernel
theorem dX1_goMinutes_2 : decode cX1_goMinutes 2 = .ok (.iload_n 2, 1) := by decide +kernel
theorem dX1_goMinutes_3 : decode cX1_goMinutes 3 = .ok (.iload_n 1, 1) := by decide +kernel
theorem dX1_goMinutes_4 : decode cX1_goMinutes 4 = .ok (.if_icmp .ge 13, 3) := by decide +kernel
theorem dX1_goMinutes_7 : decode cX1_goMinutes 7 = .ok (.aload_n 0, 1) := by decide +kernel
theorem dX1_goMinutes_8 : decode cX1_goMinutes 8 = .ok (.invokevirtual 76, 3) := by decide +kernel
theorem dX1_goMinutes_11 : decode cX1_goMinutes 11 = .ok (.iinc 2 1, 3) := by decide +kernel
theorem dX1_goMinutes_14 : decode cX1_goMinutes 14 = .ok (.goto (-12), 3) := by decide +kernel
theorem dX1_goMinutes_17 : decode cX1_goMinutes 17 = .ok (.return_, 1) := by decide +kernel
theorem dX1_goMinute_0 : decode cX1_goMinute 0 = .ok (.aload_n 0, 1) := by decide +kernel
theorem dX1_goMinute_1 : decode cX1_goMinute 1 = .ok (.invokevirtual 79, 3) := by decide +kernel
theorem dX1_goMinute_4 : decode cX1_goMinute 4 = .ok (.aload_n 0, 1) := by decide +kernel
theorem dX1_goMinute_5 : decode cX1_goMinute 5 = .ok (.invokevirtual 82, 3) := by decide +kernel
theorem dX1_goMinute_8 : decode cX1_goMinute 8 = .ok (.aload_n 0, 1) := by decide +kernel
theorem dX1_goMinute_9 : decode cX1_goMinute 9 = .ok (.aload_n 0, 1) := by decide +kernel
theorem dX1_goMinute_10 : decode cX1_goMinute 10 = .ok (.invokevirtual 85, 3) := by decide +kernel
theorem dX1_goMinute_13 : decode cX1_goMinute 13 = .ok (.putfield 49, 3) := by decide +kernel
theorem dX1_goMinute_16 : decode cX1_goMinute 16 = .ok (.iconst 0, 1) := by decide +kernel
theorem dX1_goMinute_17 : decode cX1_goMinute 17 = .ok (.istore_n 1, 1) := by decide +kernel
theorem dX1_goMinute_18 : decode cX1_goMinute 18 = .ok (.iload_n 1, 1) := by decide +kernel
theorem dX1_goMinute_19 : decode cX1_goMinute 19 = .ok (.aload_n 0, 1) := by decide +kernel
theorem dX1_goMinute_20 : decode cX1_goMinute 20 = .ok (.getfield 28, 3) := by decide +kernel
theorem dX1_goMinute_23 : decode cX1_goMinute 23 = .ok (.if_icmp .ge 25, 3) := by decide +kernel
theorem dX1_goMinute_26 : decode cX1_goMinute 26 = .ok (.aload_n 0, 1) := by decide +kernel
theorem dX1_goMinute_27 : decode cX1_goMinute 27 = .ok (.getfield 49, 3) := by decide +kernel
theorem dX1_goMinute_30 : decode cX1_goMinute 30 = .ok (.iload_n 1, 1) := by decide +kernel
theorem dX1_goMinute_31 : decode cX1_goMinute 31 = .ok (.invokestatic 88, 3) := by decide +kernel
theorem dX1_goMinute_34 : decode cX1_goMinute 34 = .ok (.ifCond .eq 8, 3) := by decide +kernel
theorem dX1_goMinute_37 : decode cX1_goMinute 37 = .ok (.aload_n 0, 1) := by decide +kernel
theorem dX1_goMinute_38 : decode cX1_goMinute 38 = .ok (.iload_n 1, 1) := by decide +kernel
theorem dX1_goMinute_39 : decode cX1_goMinute 39 = .ok (.invokevirtual 92, 3) := by decide +kernel
theorem dX1_goMinute_42 : decode cX1_goMinute 42 = .ok (.iinc 1 1, 3) := by decide +kernel
theorem dX1_goMinute_45 : decode cX1_goMinute 45 = .ok (.goto (-27), 3) := by decide +kernel
theorem dX1_goMinute_48 : decode cX1_goMinute 48 = .ok (.aload_n 0, 1) := by decide +kernel
theorem dX1_goMinute_49 : decode cX1_goMinute 49 = .ok (.invokevirtual 96, 3) := by decide +kernel
theorem dX1_goMinute_52 : decode cX1_goMinute 52 = .ok (.aload_n 0, 1) := by decide +kernel
theorem dX1_goMinute_53 : decode cX1_goMinute 53 = .ok (.dup, 1) := by decide +kernel
theorem dX1_goMinute_54 : decode cX1_goMinute 54 = .ok (.getfield 9, 3) := by decide +kernel
theorem dX1_goMinute_57 : decode cX1_goMinute 57 = .ok (.iconst 1, 1) := by decide +kernel
theorem dX1_goMinute_58 : decode cX1_goMinute 58 = .ok (.iadd, 1) := by decide +kernel
theorem dX1_goMinute_59 : decode cX1_goMinute 59 = .ok (.putfield 9, 3) := by decide +kernel
theorem dX1_goMinute_62 : decode cX1_goMinute 62 = .ok (.return_, 1) := by decide +kernel
theorem dX1_burnLamps_0 : decode cX1_burnLamps 0 = .ok (.iconst 0, 1) := by decide +kernel
theorem dX1_burnLamps_1 : decode cX1_burnLamps 1 = .ok (.istore_n 1, 1) := by decide +kernel
theorem dX1_burnLamps_2 : decode cX1_burnLamps 2 = .ok (.iload_n 1, 1) := by decide +kernel
theorem dX1_burnLamps_3 : decode cX1_burnLamps 3 = .ok (.bipush 12, 2) := by decide +kernel
theorem dX1_burnLamps_5 : decode cX1_burnLamps 5 = .ok (.if_icmp .ge 47, 3) := by decide +kernel
theorem dX1_burnLamps_8 : decode cX1_burnLamps 8 = .ok (.aload_n 0, 1) := by decide +kernel
theorem dX1_burnLamps_9 : decode cX1_burnLamps 9 = .ok (.iload_n 1, 1) := by decide +kernel
theorem dX1_burnLamps_10 : decode cX1_burnLamps 10 = .ok (.invokevirtual 58, 3) := by decide +kernel
theorem dX1_burnLamps_13 : decode cX1_burnLamps 13 = .ok (.ifCond .eq 33, 3) := by decide +kernel
theorem dX1_burnLamps_16 : decode cX1_burnLamps 16 = .ok (.aload_n 0, 1) := by decide +kernel
theorem dX1_burnLamps_17 : decode cX1_burnLamps 17 = .ok (.getfield 25, 3) := by decide +kernel
theorem dX1_burnLamps_20 : decode cX1_burnLamps 20 = .ok (.iload_n 1, 1) := by decide +kernel
theorem dX1_burnLamps_21 : decode cX1_burnLamps 21 = .ok (.sipush 9999, 3) := by decide +kernel
theorem dX1_burnLamps_24 : decode cX1_burnLamps 24 = .ok (.aload_n 0, 1) := by decide +kernel
theorem dX1_burnLamps_25 : decode cX1_burnLamps 25 = .ok (.getfield 25, 3) := by decide +kernel
theorem dX1_burnLamps_28 : decode cX1_burnLamps 28 = .ok (.iload_n 1, 1) := by decide +kernel
theorem dX1_burnLamps_29 : decode cX1_burnLamps 29 = .ok (.iaload, 1) := by decide +kernel
theorem dX1_burnLamps_30 : decode cX1_burnLamps 30 = .ok (.iconst 1, 1) := by decide +kernel
theorem dX1_burnLamps_31 : decode cX1_burnLamps 31 = .ok (.iadd, 1) := by decide +kernel
theorem dX1_burnLamps_32 : decode cX1_burnLamps 32 = .ok (.invokestatic 99, 3) := by decide +kernel
theorem dX1_burnLamps_35 : decode cX1_burnLamps 35 = .ok (.iastore, 1) := by decide +kernel
theorem dX1_burnLamps_36 : decode cX1_burnLamps 36 = .ok (.aload_n 0, 1) := by decide +kernel
theorem dX1_burnLamps_37 : decode cX1_burnLamps 37 = .ok (.getfield 18, 3) := by decide +kernel
theorem dX1_burnLamps_40 : decode cX1_burnLamps 40 = .ok (.iload_n 1, 1) := by decide +kernel
theorem dX1_burnLamps_41 : decode cX1_burnLamps 41 = .ok (.dup2, 1) := by decide +kernel
theorem dX1_burnLamps_42 : decode cX1_burnLamps 42 = .ok (.iaload, 1) := by decide +kernel
theorem dX1_burnLamps_43 : decode cX1_burnLamps 43 = .ok (.iconst 1, 1) := by decide +kernel
theorem dX1_burnLamps_44 : decode cX1_burnLamps 44 = .ok (.isub, 1) := by decide +kernel
theorem dX1_burnLamps_45 : decode cX1_burnLamps 45 = .ok (.iastore, 1) := by decide +kernel
theorem dX1_burnLamps_46 : decode cX1_burnLamps 46 = .ok (.iinc 1 1, 3) := by decide +kernel
theorem dX1_burnLamps_49 : decode cX1_burnLamps 49 = .ok (.goto (-47), 3) := by decide +kernel
theorem dX1_burnLamps_52 : decode cX1_burnLamps 52 = .ok (.return_, 1) := by decide +kernel
theorem dX1_tickleAll_0 : decode cX1_tickleAll 0 = .ok (.iconst 0, 1) := by decide +kernel
theorem dX1_tickleAll_1 : decode cX1_tickleAll 1 = .ok (.istore_n 1, 1) := by decide +kernel
theorem dX1_tickleAll_2 : decode cX1_tickleAll 2 = .ok (.iload_n 1, 1) := by decide +kernel
theorem dX1_tickleAll_3 : decode cX1_tickleAll 3 = .ok (.aload_n 0, 1) := by decide +kernel
theorem dX1_tickleAll_4 : decode cX1_tickleAll 4 = .ok (.getfield 28, 3) := by decide +kernel
theorem dX1_tickleAll_7 : decode cX1_tickleAll 7 = .ok (.if_icmp .ge 32, 3) := by decide +kernel
theorem dX1_tickleAll_10 : decode cX1_tickleAll 10 = .ok (.aload_n 0, 1) := by decide +kernel
theorem dX1_tickleAll_11 : decode cX1_tickleAll 11 = .ok (.getfield 43, 3) := by decide +kernel
theorem dX1_tickleAll_14 : decode cX1_tickleAll 14 = .ok (.iload_n 1, 1) := by decide +kernel
theorem dX1_tickleAll_15 : decode cX1_tickleAll 15 = .ok (.bipush 99, 2) := by decide +kernel
theorem dX1_tickleAll_17 : decode cX1_tickleAll 17 = .ok (.aload_n 0, 1) := by decide +kernel
theorem dX1_tickleAll_18 : decode cX1_tickleAll 18 = .ok (.getfield 43, 3) := by decide +kernel
theorem dX1_tickleAll_21 : decode cX1_tickleAll 21 = .ok (.iload_n 1, 1) := by decide +kernel
theorem dX1_tickleAll_22 : decode cX1_tickleAll 22 = .ok (.iaload, 1) := by decide +kernel
theorem dX1_tickleAll_23 : decode cX1_tickleAll 23 = .ok (.aload_n 0, 1) := by decide +kernel
theorem dX1_tickleAll_24 : decode cX1_tickleAll 24 = .ok (.iload_n 1, 1) := by decide +kernel
theorem dX1_tickleAll_25 : decode cX1_tickleAll 25 = .ok (.invokevirtual 102, 3) := by decide +kernel
theorem dX1_tickleAll_28 : decode cX1_tickleAll 28 = .ok (.iadd, 1) := by decide +kernel
theorem dX1_tickleAll_29 : decode cX1_tickleAll 29 = .ok (.invokestatic 99, 3) := by decide +kernel
theorem dX1_tickleAll_32 : decode cX1_tickleAll 32 = .ok (.iastore, 1) := by decide +kernel
theorem dX1_tickleAll_33 : decode cX1_tickleAll 33 = .ok (.iinc 1 1, 3) := by decide +kernel
theorem dX1_tickleAll_36 : decode cX1_tickleAll 36 = .ok (.goto (-34), 3) := by decide +kernel
theorem dX1_tickleAll_39 : decode cX1_tickleAll 39 = .ok (.return_, 1) := by decide +kernel
theorem dX1_goOff_0 : decode cX1_goOff 0 = .ok (.aload_n 0, 1) := by decide +kernel
theorem dX1_goOff_1 : decode cX1_goOff 1 = .ok (.getfield 43, 3) := by decide +kernel
theorem dX1_goOff_4 : decode cX1_goOff 4 = .ok (.iload_n 1, 1) := by decide +kernel
theorem dX1_goOff_5 : decode cX1_goOff 5 = .ok (.iconst 0, 1) := by decide +kernel
theorem dX1_goOff_6 : decode cX1_goOff 6 = .ok (.iastore, 1) := by decide +kernel
theorem dX1_goOff_7 : decode cX1_goOff 7 = .ok (.aload_n 0, 1) := by decide +kernel
theorem dX1_goOff_8 : decode cX1_goOff 8 = .ok (.getfield 46, 3) := by decide +kernel
theorem dX1_goOff_11 : decode cX1_goOff 11 = .ok (.iload_n 1, 1) := by decide +kernel
theorem dX1_goOff_12 : decode cX1_goOff 12 = .ok (.sipush 9999, 3) := by decide +kernel
theorem dX1_goOff_15 : decode cX1_goOff 15 = .ok (.aload_n 0, 1) := by decide +kernel
theorem dX1_goOff_16 : decode cX1_goOff 16 = .ok (.getfield 46, 3) := by decide +kernel
theorem dX1_goOff_19 : decode cX1_goOff 19 = .ok (.iload_n 1, 1) := by decide +kernel
theorem dX1_goOff_20 : decode cX1_goOff 20 = .ok (.iaload, 1) := by decide +kernel
theorem dX1_goOff_21 : decode cX1_goOff 21 = .ok (.iconst 1, 1) := by decide +kernel
theorem dX1_goOff_22 : decode cX1_goOff 22 = .ok (.iadd, 1) := by decide +kernel
theorem dX1_goOff_23 : decode cX1_goOff 23 = .ok (.invokestatic 99, 3) := by decide +kernel
theorem dX1_goOff_26 : decode cX1_goOff 26 = .ok (.iastore, 1) := by decide +kernel
theorem dX1_goOff_27 : decode cX1_goOff 27 = .ok (.aload_n 0, 1) := by decide +kernel
theorem dX1_goOff_28 : decode cX1_goOff 28 = .ok (.iload_n 1, 1) := by decide +kernel
theorem dX1_goOff_29 : decode cX1_goOff 29 = .ok (.invokevirtual 105, 3) := by decide +kernel
theorem dX1_goOff_32 : decode cX1_goOff 32 = .ok (.aload_n 0, 1) := by decide +kernel
theorem dX1_goOff_33 : decode cX1_goOff 33 = .ok (.iload_n 1, 1) := by decide +kernel
theorem dX1_goOff_34 : decode cX1_goOff 34 = .ok (.invokevirtual 108, 3) := by decide +kernel
theorem dX1_goOff_37 : decode cX1_goOff 37 = .ok (.return_, 1) := by decide +kernel
theorem dX1_lightBefore_0 : decode cX1_lightBefore 0 = .ok (.aload_n 0, 1) := by decide +kernel
theorem dX1_lightBefore_1 : decode cX1_lightBefore 1 = .ok (.getfield 37, 3) := by decide +kernel
theorem dX1_lightBefore_4 : decode cX1_lightBefore 4 = .ok (.iload_n 1, 1) := by decide +kernel
theorem dX1_lightBefore_5 : decode cX1_lightBefore 5 = .ok (.iaload, 1) := by decide +kernel
theorem dX1_lightBefore_6 : decode cX1_lightBefore 6 = .ok (.iconst 1, 1) := by decide +kernel
theorem dX1_lightBefore_7 : decode cX1_lightBefore 7 = .ok (.if_icmp .ne 7, 3) := by decide +kernel
theorem dX1_lightBefore_10 : decode cX1_lightBefore 10 = .ok (.iconst 1, 1) := by decide +kernel
theorem dX1_lightBefore_11 : decode cX1_lightBefore 11 = .ok (.goto 4, 3) := by decide +kernel
theorem dX1_lightBefore_14 : decode cX1_lightBefore 14 = .ok (.iconst (-1), 1) := by decide +kernel
theorem dX1_lightBefore_15 : decode cX1_lightBefore 15 = .ok (.istore_n 2, 1) := by decide +kernel
theorem dX1_lightBefore_16 : decode cX1_lightBefore 16 = .ok (.iconst 5, 1) := by decide +kernel
theorem dX1_lightBefore_17 : decode cX1_lightBefore 17 = .ok (.aload_n 0, 1) := by decide +kernel
theorem dX1_lightBefore_18 : decode cX1_lightBefore 18 = .ok (.getfield 40, 3) := by decide +kernel
theorem dX1_lightBefore_21 : decode cX1_lightBefore 21 = .ok (.iload_n 1, 1) := by decide +kernel
theorem dX1_lightBefore_22 : decode cX1_lightBefore 22 = .ok (.iaload, 1) := by decide +kernel
theorem dX1_lightBefore_23 : decode cX1_lightBefore 23 = .ok (.bipush 10, 2) := by decide +kernel
theorem dX1_lightBefore_25 : decode cX1_lightBefore 25 = .ok (.idiv, 1) := by decide +kernel
theorem dX1_lightBefore_26 : decode cX1_lightBefore 26 = .ok (.iadd, 1) := by decide +kernel
theorem dX1_lightBefore_27 : decode cX1_lightBefore 27 = .ok (.istore_n 3, 1) := by decide +kernel
theorem dX1_lightBefore_28 : decode cX1_lightBefore 28 = .ok (.aload_n 0, 1) := by decide +kernel
theorem dX1_lightBefore_29 : decode cX1_lightBefore 29 = .ok (.iload_n 1, 1) := by decide +kernel
theorem dX1_lightBefore_30 : decode cX1_lightBefore 30 = .ok (.invokevirtual 111, 3) := by decide +kernel
theorem dX1_lightBefore_33 : decode cX1_lightBefore 33 = .ok (.istore 4, 2) := by decide +kernel
theorem dX1_lightBefore_35 : decode cX1_lightBefore 35 = .ok (.iconst 1, 1) := by decide +kernel
theorem dX1_lightBefore_36 : decode cX1_lightBefore 36 = .ok (.istore 5, 2) := by decide +kernel
theorem dX1_lightBefore_38 : decode cX1_lightBefore 38 = .ok (.iload 5, 2) := by decide +kernel
theorem dX1_lightBefore_40 : decode cX1_lightBefore 40 = .ok (.iload 4, 2) := by decide +kernel
theorem dX1_lightBefore_42 : decode cX1_lightBefore 42 = .ok (.if_icmp .gt 59, 3) := by decide +kernel
theorem dX1_lightBefore_45 : decode cX1_lightBefore 45 = .ok (.aload_n 0, 1) := by decide +kernel
theorem dX1_lightBefore_46 : decode cX1_lightBefore 46 = .ok (.getfield 34, 3) := by decide +kernel
theorem dX1_lightBefore_49 : decode cX1_lightBefore 49 = .ok (.iload_n 1, 1) := by decide +kernel
theorem dX1_lightBefore_50 : decode cX1_lightBefore 50 = .ok (.iaload, 1) := by decide +kernel
theorem dX1_lightBefore_51 : decode cX1_lightBefore 51 = .ok (.iload 5, 2) := by decide +kernel
theorem dX1_lightBefore_53 : decode cX1_lightBefore 53 = .ok (.iload_n 2, 1) := by decide +kernel
theorem dX1_lightBefore_54 : decode cX1_lightBefore 54 = .ok (.imul, 1) := by decide +kernel
theorem dX1_lightBefore_55 : decode cX1_lightBefore 55 = .ok (.iadd, 1) := by decide +kernel
theorem dX1_lightBefore_56 : decode cX1_lightBefore 56 = .ok (.istore 6, 2) := by decide +kernel
theorem dX1_lightBefore_58 : decode cX1_lightBefore 58 = .ok (.iload 6, 2) := by decide +kernel
theorem dX1_lightBefore_60 : decode cX1_lightBefore 60 = .ok (.invokestatic 114, 3) := by decide +kernel
theorem dX1_lightBefore_63 : decode cX1_lightBefore 63 = .ok (.ifCond .eq 32, 3) := by decide +kernel
theorem dX1_lightBefore_66 : decode cX1_lightBefore 66 = .ok (.aload_n 0, 1) := by decide +kernel
theorem dX1_lightBefore_67 : decode cX1_lightBefore 67 = .ok (.getfield 22, 3) := by decide +kernel
theorem dX1_lightBefore_70 : decode cX1_lightBefore 70 = .ok (.iload 6, 2) := by decide +kernel
theorem dX1_lightBefore_72 : decode cX1_lightBefore 72 = .ok (.iaload, 1) := by decide +kernel
theorem dX1_lightBefore_73 : decode cX1_lightBefore 73 = .ok (.iconst 1, 1) := by decide +kernel
theorem dX1_lightBefore_74 : decode cX1_lightBefore 74 = .ok (.if_icmp .ne 21, 3) := by decide +kernel
theorem dX1_lightBefore_77 : decode cX1_lightBefore 77 = .ok (.aload_n 0, 1) := by decide +kernel
theorem dX1_lightBefore_78 : decode cX1_lightBefore 78 = .ok (.getfield 18, 3) := by decide +kernel
theorem dX1_lightBefore_81 : decode cX1_lightBefore 81 = .ok (.iload 6, 2) := by decide +kernel
theorem dX1_lightBefore_83 : decode cX1_lightBefore 83 = .ok (.aload_n 0, 1) := by decide +kernel
theorem dX1_lightBefore_84 : decode cX1_lightBefore 84 = .ok (.getfield 18, 3) := by decide +kernel
theorem dX1_lightBefore_87 : decode cX1_lightBefore 87 = .ok (.iload 6, 2) := by decide +kernel
theorem dX1_lightBefore_89 : decode cX1_lightBefore 89 = .ok (.iaload, 1) := by decide +kernel
theorem dX1_lightBefore_90 : decode cX1_lightBefore 90 = .ok (.iload_n 3, 1) := by decide +kernel
theorem dX1_lightBefore_91 : decode cX1_lightBefore 91 = .ok (.invokestatic 62, 3) := by decide +kernel
theorem dX1_lightBefore_94 : decode cX1_lightBefore 94 = .ok (.iastore, 1) := by decide +kernel
theorem dX1_lightBefore_95 : decode cX1_lightBefore 95 = .ok (.iinc 5 1, 3) := by decide +kernel
theorem dX1_lightBefore_98 : decode cX1_lightBefore 98 = .ok (.goto (-60), 3) := by decide +kernel
theorem dX1_lightBefore_101 : decode cX1_lightBefore 101 = .ok (.return_, 1) := by decide +kernel
theorem dX1_giveCold_0 : decode cX1_giveCold 0 = .ok (.iconst 0, 1) := by decide +kernel
theorem dX1_giveCold_1 : decode cX1_giveCold 1 = .ok (.istore_n 2, 1) := by decide +kernel
theorem dX1_giveCold_2 : decode cX1_giveCold 2 = .ok (.iload_n 2, 1) := by decide +kernel
theorem dX1_giveCold_3 : decode cX1_giveCold 3 = .ok (.aload_n 0, 1) := by decide +kernel
theorem dX1_giveCold_4 : decode cX1_giveCold 4 = .ok (.getfield 28, 3) := by decide +kernel
theorem dX1_giveCold_7 : decode cX1_giveCold 7 = .ok (.if_icmp .ge 64, 3) := by decide +kernel
theorem dX1_giveCold_10 : decode cX1_giveCold 10 = .ok (.iload_n 2, 1) := by decide +kernel
theorem dX1_giveCold_11 : decode cX1_giveCold 11 = .ok (.iload_n 1, 1) := by decide +kernel
theorem dX1_giveCold_12 : decode cX1_giveCold 12 = .ok (.if_icmp .eq 53, 3) := by decide +kernel
theorem dX1_giveCold_15 : decode cX1_giveCold 15 = .ok (.aload_n 0, 1) := by decide +kernel
theorem dX1_giveCold_16 : decode cX1_giveCold 16 = .ok (.getfield 31, 3) := by decide +kernel
theorem dX1_giveCold_19 : decode cX1_giveCold 19 = .ok (.iload_n 2, 1) := by decide +kernel
theorem dX1_giveCold_20 : decode cX1_giveCold 20 = .ok (.iaload, 1) := by decide +kernel
theorem dX1_giveCold_21 : decode cX1_giveCold 21 = .ok (.iconst 3, 1) := by decide +kernel
theorem dX1_giveCold_22 : decode cX1_giveCold 22 = .ok (.if_icmp .eq 43, 3) := by decide +kernel
theorem dX1_giveCold_25 : decode cX1_giveCold 25 = .ok (.aload_n 0, 1) := by decide +kernel
theorem dX1_giveCold_26 : decode cX1_giveCold 26 = .ok (.getfield 34, 3) := by decide +kernel
theorem dX1_giveCold_29 : decode cX1_giveCold 29 = .ok (.iload_n 2, 1) := by decide +kernel
theorem dX1_giveCold_30 : decode cX1_giveCold 30 = .ok (.iaload, 1) := by decide +kernel
theorem dX1_giveCold_31 : decode cX1_giveCold 31 = .ok (.aload_n 0, 1) := by decide +kernel
theorem dX1_giveCold_32 : decode cX1_giveCold 32 = .ok (.getfield 34, 3) := by decide +kernel
theorem dX1_giveCold_35 : decode cX1_giveCold 35 = .ok (.iload_n 1, 1) := by decide +kernel
theorem dX1_giveCold_36 : decode cX1_giveCold 36 = .ok (.iaload, 1) := by decide +kernel
theorem dX1_giveCold_37 : decode cX1_giveCold 37 = .ok (.isub, 1) := by decide +kernel
theorem dX1_giveCold_38 : decode cX1_giveCold 38 = .ok (.invokestatic 117, 3) := by decide +kernel
theorem dX1_giveCold_41 : decode cX1_giveCold 41 = .ok (.iconst 1, 1) := by decide +kernel
theorem dX1_giveCold_42 : decode cX1_giveCold 42 = .ok (.if_icmp .gt 23, 3) := by decide +kernel
theorem dX1_giveCold_45 : decode cX1_giveCold 45 = .ok (.aload_n 0, 1) := by decide +kernel
theorem dX1_giveCold_46 : decode cX1_giveCold 46 = .ok (.getfield 40, 3) := by decide +kernel
theorem dX1_giveCold_49 : decode cX1_giveCold 49 = .ok (.iload_n 2, 1) := by decide +kernel
theorem dX1_giveCold_50 : decode cX1_giveCold 50 = .ok (.bipush 99, 2) := by decide +kernel
theorem dX1_giveCold_52 : decode cX1_giveCold 52 = .ok (.aload_n 0, 1) := by decide +kernel
theorem dX1_giveCold_53 : decode cX1_giveCold 53 = .ok (.getfield 40, 3) := by decide +kernel
theorem dX1_giveCold_56 : decode cX1_giveCold 56 = .ok (.iload_n 2, 1) := by decide +kernel
theorem dX1_giveCold_57 : decode cX1_giveCold 57 = .ok (.iaload, 1) := by decide +kernel
theorem dX1_giveCold_58 : decode cX1_giveCold 58 = .ok (.bipush 6, 2) := by decide +kernel
theorem dX1_giveCold_60 : decode cX1_giveCold 60 = .ok (.iadd, 1) := by decide +kernel
theorem dX1_giveCold_61 : decode cX1_giveCold 61 = .ok (.invokestatic 99, 3) := by decide +kernel
theorem dX1_giveCold_64 : decode cX1_giveCold 64 = .ok (.iastore, 1) := by decide +kernel
theorem dX1_giveCold_65 : decode cX1_giveCold 65 = .ok (.iinc 2 1, 3) := by decide +kernel
theorem dX1_giveCold_68 : decode cX1_giveCold 68 = .ok (.goto (-66), 3) := by decide +kernel
theorem dX1_giveCold_71 : decode cX1_giveCold 71 = .ok (.return_, 1) := by decide +kernel
theorem dX1_healAll_0 : decode cX1_healAll 0 = .ok (.iconst 0, 1) := by decide +kernel
theorem dX1_healAll_1 : decode cX1_healAll 1 = .ok (.istore_n 1, 1) := by decide +kernel
theorem dX1_healAll_2 : decode cX1_healAll 2 = .ok (.iload_n 1, 1) := by decide +kernel
theorem dX1_healAll_3 : decode cX1_healAll 3 = .ok (.aload_n 0, 1) := by decide +kernel
theorem dX1_healAll_4 : decode cX1_healAll 4 = .ok (.getfield 28, 3) := by decide +kernel
theorem dX1_healAll_7 : decode cX1_healAll 7 = .ok (.if_icmp .ge 31, 3) := by decide +kernel
theorem dX1_healAll_10 : decode cX1_healAll 10 = .ok (.aload_n 0, 1) := by decide +kernel
theorem dX1_healAll_11 : decode cX1_healAll 11 = .ok (.getfield 40, 3) := by decide +kernel
theorem dX1_healAll_14 : decode cX1_healAll 14 = .ok (.iload_n 1, 1) := by decide +kernel
theorem dX1_healAll_15 : decode cX1_healAll 15 = .ok (.iconst 0, 1) := by decide +kernel
theorem dX1_healAll_16 : decode cX1_healAll 16 = .ok (.aload_n 0, 1) := by decide +kernel
theorem dX1_healAll_17 : decode cX1_healAll 17 = .ok (.getfield 40, 3) := by decide +kernel
theorem dX1_healAll_20 : decode cX1_healAll 20 = .ok (.iload_n 1, 1) := by decide +kernel
theorem dX1_healAll_21 : decode cX1_healAll 21 = .ok (.iaload, 1) := by decide +kernel
theorem dX1_healAll_22 : decode cX1_healAll 22 = .ok (.aload_n 0, 1) := by decide +kernel
theorem dX1_healAll_23 : decode cX1_healAll 23 = .ok (.iload_n 1, 1) := by decide +kernel
theorem dX1_healAll_24 : decode cX1_healAll 24 = .ok (.invokevirtual 120, 3) := by decide +kernel
theorem dX1_healAll_27 : decode cX1_healAll 27 = .ok (.isub, 1) := by decide +kernel
theorem dX1_healAll_28 : decode cX1_healAll 28 = .ok (.invokestatic 62, 3) := by decide +kernel
theorem dX1_healAll_31 : decode cX1_healAll 31 = .ok (.iastore, 1) := by decide +kernel
theorem dX1_healAll_32 : decode cX1_healAll 32 = .ok (.iinc 1 1, 3) := by decide +kernel
theorem dX1_healAll_35 : decode cX1_healAll 35 = .ok (.goto (-33), 3) := by decide +kernel
theorem dX1_healAll_38 : decode cX1_healAll 38 = .ok (.return_, 1) := by decide +kernel
theorem dX2_init_0 : decode cX2_init 0 = .ok (.aload_n 0, 1) := by decide +kernel
theorem dX2_init_1 : decode cX2_init 1 = .ok (.invokespecial 3, 3) := by decide +kernel
theorem dX2_init_4 : decode cX2_init 4 = .ok (.aload_n 0, 1) := by decide +kernel
theorem dX2_init_5 : decode cX2_init 5 = .ok (.bipush 120, 2) := by decide +kernel
theorem dX2_init_7 : decode cX2_init 7 = .ok (.newarray .int, 2) := by decide +kernel
theorem dX2_init_9 : decode cX2_init 9 = .ok (.putfield 9, 3) := by decide +kernel
theorem dX2_init_12 : decode cX2_init 12 = .ok (.aload_n 0, 1) := by decide +kernel
theorem dX2_init_13 : decode cX2_init 13 = .ok (.iconst 0, 1) := by decide +kernel
theorem dX2_init_14 : decode cX2_init 14 = .ok (.putfield 15, 3) := by decide +kernel
theorem dX2_init_17 : decode cX2_init 17 = .ok (.return_, 1) := by decide +kernel
theorem dX2_addByte_0 : decode cX2_addByte 0 = .ok (.aload_n 0, 1) := by decide +kernel
theorem dX2_addByte_1 : decode cX2_addByte 1 = .ok (.getfield 15, 3) := by decide +kernel
theorem dX2_addByte_4 : decode cX2_addByte 4 = .ok (.bipush 120, 2) := by decide +kernel
theorem dX2_addByte_6 : decode cX2_addByte 6 = .ok (.if_icmp .ge 23, 3) := by decide +kernel
theorem dX2_addByte_9 : decode cX2_addByte 9 = .ok (.aload_n 0, 1) := by decide +kernel
theorem dX2_addByte_10 : decode cX2_addByte 10 = .ok (.getfield 9, 3) := by decide +kernel
theorem dX2_addByte_13 : decode cX2_addByte 13 = .ok (.aload_n 0, 1) := by decide +kernel
theorem dX2_addByte_14 : decode cX2_addByte 14 = .ok (.getfield 15, 3) := by decide +kernel
theorem dX2_addByte_17 : decode cX2_addByte 17 = .ok (.iload_n 1, 1) := by decide +kernel
theorem dX2_addByte_18 : decode cX2_addByte 18 = .ok (.iastore, 1) := by decide +kernel
theorem dX2_addByte_19 : decode cX2_addByte 19 = .ok (.aload_n 0, 1) := by decide +kernel
theorem dX2_addByte_20 : decode cX2_addByte 20 = .ok (.dup, 1) := by decide +kernel
theorem dX2_addByte_21 : decode cX2_addByte 21 = .ok (.getfield 15, 3) := by decide +kernel
theorem dX2_addByte_24 : decode cX2_addByte 24 = .ok (.iconst 1, 1) := by decide +kernel
theorem dX2_addByte_25 : decode cX2_addByte 25 = .ok (.iadd, 1) := by decide +kernel
theorem dX2_addByte_26 : decode cX2_addByte 26 = .ok (.putfield 15, 3) := by decide +kernel
theorem dX2_addByte_29 : decode cX2_addByte 29 = .ok (.return_, 1) := by decide +kernel
theorem dX2_byteAt_0 : decode cX2_byteAt 0 = .ok (.iload_n 1, 1) := by decide +kernel
theorem dX2_byteAt_1 : decode cX2_byteAt 1 = .ok (.ifCond .lt 20, 3) := by decide +kernel
theorem dX2_byteAt_4 : decode cX2_byteAt 4 = .ok (.iload_n 1, 1) := by decide +kernel
theorem dX2_byteAt_5 : decode cX2_byteAt 5 = .ok (.aload_n 0, 1) := by decide +kernel
theorem dX2_byteAt_6 : decode cX2_byteAt 6 = .ok (.getfield 15, 3) := by decide +kernel
theorem dX2_byteAt_9 : decode cX2_byteAt 9 = .ok (.if_icmp .ge 12, 3) := by decide +kernel
theorem dX2_byteAt_12 : decode cX2_byteAt 12 = .ok (.aload_n 0, 1) := by decide +kernel
theorem dX2_byteAt_13 : decode cX2_byteAt 13 = .ok (.getfield 9, 3) := by decide +kernel
theorem dX2_byteAt_16 : decode cX2_byteAt 16 = .ok (.iload_n 1, 1) := by decide +kernel
theorem dX2_byteAt_17 : decode cX2_byteAt 17 = .ok (.iaload, 1) := by decide +kernel
theorem dX2_byteAt_18 : decode cX2_byteAt 18 = .ok (.goto 4, 3) := by decide +kernel
theorem dX2_byteAt_21 : decode cX2_byteAt 21 = .ok (.iconst (-1), 1) := by decide +kernel
theorem dX2_byteAt_22 : decode cX2_byteAt 22 = .ok (.ireturn, 1) := by decide +kernel
theorem dX3_init_0 : decode cX3_init 0 = .ok (.aload_n 0, 1) := by decide +kernel
theorem dX3_init_1 : decode cX3_init 1 = .ok (.invokespecial 3, 3) := by decide +kernel
theorem dX3_init_4 : decode cX3_init 4 = .ok (.aload_n 0, 1) := by decide +kernel
theorem dX3_init_5 : decode cX3_init 5 = .ok (.iconst 0, 1) := by decide +kernel
theorem dX3_init_6 : decode cX3_init 6 = .ok (.putfield 9, 3) := by decide +kernel
theorem dX3_init_9 : decode cX3_init 9 = .ok (.aload_n 0, 1) := by decide +kernel
theorem dX3_init_10 : decode cX3_init 10 = .ok (.iconst 0, 1) := by decide +kernel
theorem dX3_init_11 : decode cX3_init 11 = .ok (.putfield 15, 3) := by decide +kernel
theorem dX3_init_14 : decode cX3_init 14 = .ok (.aload_n 0, 1) := by decide +kernel
theorem dX3_init_15 : decode cX3_init 15 = .ok (.iconst 0, 1) := by decide +kernel
theorem dX3_init_16 : decode cX3_init 16 = .ok (.putfield 18, 3) := by decide +kernel
theorem dX3_init_19 : decode cX3_init 19 = .ok (.aload_n 0, 1) := by decide +kernel
theorem dX3_init_20 : decode cX3_init 20 = .ok (.iconst 0, 1) := by decide +kernel
theorem dX3_init_21 : decode cX3_init 21 = .ok (.putfield 21, 3) := by decide +kernel
theorem dX3_init_24 : decode cX3_init 24 = .ok (.aload_n 0, 1) := by decide +kernel
theorem dX3_init_25 : decode cX3_init 25 = .ok (.iconst 0, 1) := by decide +kernel
theorem dX3_init_26 : decode cX3_init 26 = .ok (.putfield 24, 3) := by decide +kernel
theorem dX3_init_29 : decode cX3_init 29 = .ok (.return_, 1) := by decide +kernel
theorem dX3_tellAll_0 : decode cX3_tellAll 0 = .ok (.aload_n 0, 1) := by decide +kernel
theorem dX3_tellAll_1 : decode cX3_tellAll 1 = .ok (.iconst 0, 1) := by decide +kernel
theorem dX3_tellAll_2 : decode cX3_tellAll 2 = .ok (.putfield 9, 3) := by decide +kernel
theorem dX3_tellAll_5 : decode cX3_tellAll 5 = .ok (.aload_n 0, 1) := by decide +kernel
theorem dX3_tellAll_6 : decode cX3_tellAll 6 = .ok (.iconst 0, 1) := by decide +kernel
theorem dX3_tellAll_7 : decode cX3_tellAll 7 = .ok (.putfield 18, 3) := by decide +kernel
theorem dX3_tellAll_10 : decode cX3_tellAll 10 = .ok (.aload_n 0, 1) := by decide +kernel
theorem dX3_tellAll_11 : decode cX3_tellAll 11 = .ok (.aload_n 1, 1) := by decide +kernel
theorem dX3_tellAll_12 : decode cX3_tellAll 12 = .ok (.invokevirtual 27, 3) := by decide +kernel
theorem dX3_tellAll_15 : decode cX3_tellAll 15 = .ok (.iconst 0, 1) := by decide +kernel
theorem dX3_tellAll_16 : decode cX3_tellAll 16 = .ok (.istore_n 3, 1) := by decide +kernel
theorem dX3_tellAll_17 : decode cX3_tellAll 17 = .ok (.iload_n 3, 1) := by decide +kernel
theorem dX3_tellAll_18 : decode cX3_tellAll 18 = .ok (.bipush 120, 2) := by decide +kernel
theorem dX3_tellAll_20 : decode cX3_tellAll 20 = .ok (.if_icmp .gt 54, 3) := by decide +kernel
theorem dX3_tellAll_23 : decode cX3_tellAll 23 = .ok (.aload_n 0, 1) := by decide +kernel
theorem dX3_tellAll_24 : decode cX3_tellAll 24 = .ok (.aload_n 1, 1) := by decide +kernel
