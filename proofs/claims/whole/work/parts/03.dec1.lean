theorem dX3_tellAll_25 : decode cX3_tellAll 25 = .ok (.aload_n 2, 1) := by decide +kernel
theorem dX3_tellAll_26 : decode cX3_tellAll 26 = .ok (.invokevirtual 31, 3) := by decide +kernel
theorem dX3_tellAll_29 : decode cX3_tellAll 29 = .ok (.ifCond .ne 5, 3) := by decide +kernel
theorem dX3_tellAll_32 : decode cX3_tellAll 32 = .ok (.iconst 0, 1) := by decide +kernel
theorem dX3_tellAll_33 : decode cX3_tellAll 33 = .ok (.ireturn, 1) := by decide +kernel
theorem dX3_tellAll_34 : decode cX3_tellAll 34 = .ok (.aload_n 0, 1) := by decide +kernel
theorem dX3_tellAll_35 : decode cX3_tellAll 35 = .ok (.dup, 1) := by decide +kernel
theorem dX3_tellAll_36 : decode cX3_tellAll 36 = .ok (.getfield 9, 3) := by decide +kernel
theorem dX3_tellAll_39 : decode cX3_tellAll 39 = .ok (.iconst 1, 1) := by decide +kernel
theorem dX3_tellAll_40 : decode cX3_tellAll 40 = .ok (.iadd, 1) := by decide +kernel
theorem dX3_tellAll_41 : decode cX3_tellAll 41 = .ok (.putfield 9, 3) := by decide +kernel
theorem dX3_tellAll_44 : decode cX3_tellAll 44 = .ok (.aload_n 0, 1) := by decide +kernel
theorem dX3_tellAll_45 : decode cX3_tellAll 45 = .ok (.getfield 21, 3) := by decide +kernel
theorem dX3_tellAll_48 : decode cX3_tellAll 48 = .ok (.ifCond .ne 5, 3) := by decide +kernel
theorem dX3_tellAll_51 : decode cX3_tellAll 51 = .ok (.iconst 1, 1) := by decide +kernel
theorem dX3_tellAll_52 : decode cX3_tellAll 52 = .ok (.ireturn, 1) := by decide +kernel
theorem dX3_tellAll_53 : decode cX3_tellAll 53 = .ok (.aload_n 0, 1) := by decide +kernel
theorem dX3_tellAll_54 : decode cX3_tellAll 54 = .ok (.getfield 21, 3) := by decide +kernel
theorem dX3_tellAll_57 : decode cX3_tellAll 57 = .ok (.iconst 3, 1) := by decide +kernel
theorem dX3_tellAll_58 : decode cX3_tellAll 58 = .ok (.if_icmp .eq 5, 3) := by decide +kernel
theorem dX3_tellAll_61 : decode cX3_tellAll 61 = .ok (.iconst 0, 1) := by decide +kernel
theorem dX3_tellAll_62 : decode cX3_tellAll 62 = .ok (.ireturn, 1) := by decide +kernel
theorem dX3_tellAll_63 : decode cX3_tellAll 63 = .ok (.aload_n 0, 1) := by decide +kernel
theorem dX3_tellAll_64 : decode cX3_tellAll 64 = .ok (.aload_n 1, 1) := by decide +kernel
theorem dX3_tellAll_65 : decode cX3_tellAll 65 = .ok (.invokevirtual 27, 3) := by decide +kernel
theorem dX3_tellAll_68 : decode cX3_tellAll 68 = .ok (.iinc 3 1, 3) := by decide +kernel
theorem dX3_tellAll_71 : decode cX3_tellAll 71 = .ok (.goto (-54), 3) := by decide +kernel
theorem dX3_tellAll_74 : decode cX3_tellAll 74 = .ok (.iconst 0, 1) := by decide +kernel
theorem dX3_tellAll_75 : decode cX3_tellAll 75 = .ok (.ireturn, 1) := by decide +kernel
theorem dX3_tellItem_0 : decode cX3_tellItem 0 = .ok (.iconst 0, 1) := by decide +kernel
theorem dX3_tellItem_1 : decode cX3_tellItem 1 = .ok (.istore_n 3, 1) := by decide +kernel
theorem dX3_tellItem_2 : decode cX3_tellItem 2 = .ok (.iload_n 3, 1) := by decide +kernel
theorem dX3_tellItem_3 : decode cX3_tellItem 3 = .ok (.bipush 6, 2) := by decide +kernel
theorem dX3_tellItem_5 : decode cX3_tellItem 5 = .ok (.if_icmp .ge 29, 3) := by decide +kernel
theorem dX3_tellItem_8 : decode cX3_tellItem 8 = .ok (.aload_n 0, 1) := by decide +kernel
theorem dX3_tellItem_9 : decode cX3_tellItem 9 = .ok (.aload_n 1, 1) := by decide +kernel
theorem dX3_tellItem_10 : decode cX3_tellItem 10 = .ok (.iload_n 3, 1) := by decide +kernel
theorem dX3_tellItem_11 : decode cX3_tellItem 11 = .ok (.invokestatic 35, 3) := by decide +kernel
theorem dX3_tellItem_14 : decode cX3_tellItem 14 = .ok (.invokevirtual 39, 3) := by decide +kernel
theorem dX3_tellItem_17 : decode cX3_tellItem 17 = .ok (.ifCond .eq 11, 3) := by decide +kernel
theorem dX3_tellItem_20 : decode cX3_tellItem 20 = .ok (.aload_n 0, 1) := by decide +kernel
theorem dX3_tellItem_21 : decode cX3_tellItem 21 = .ok (.aload_n 1, 1) := by decide +kernel
theorem dX3_tellItem_22 : decode cX3_tellItem 22 = .ok (.aload_n 2, 1) := by decide +kernel
theorem dX3_tellItem_23 : decode cX3_tellItem 23 = .ok (.iload_n 3, 1) := by decide +kernel
theorem dX3_tellItem_24 : decode cX3_tellItem 24 = .ok (.invokevirtual 43, 3) := by decide +kernel
theorem dX3_tellItem_27 : decode cX3_tellItem 27 = .ok (.ireturn, 1) := by decide +kernel
theorem dX3_tellItem_28 : decode cX3_tellItem 28 = .ok (.iinc 3 1, 3) := by decide +kernel
theorem dX3_tellItem_31 : decode cX3_tellItem 31 = .ok (.goto (-29), 3) := by decide +kernel
theorem dX3_tellItem_34 : decode cX3_tellItem 34 = .ok (.aload_n 0, 1) := by decide +kernel
theorem dX3_tellItem_35 : decode cX3_tellItem 35 = .ok (.aload_n 1, 1) := by decide +kernel
theorem dX3_tellItem_36 : decode cX3_tellItem 36 = .ok (.ldc 47, 2) := by decide +kernel
theorem dX3_tellItem_38 : decode cX3_tellItem 38 = .ok (.invokevirtual 39, 3) := by decide +kernel
theorem dX3_tellItem_41 : decode cX3_tellItem 41 = .ok (.ifCond .eq 11, 3) := by decide +kernel
theorem dX3_tellItem_44 : decode cX3_tellItem 44 = .ok (.aload_n 0, 1) := by decide +kernel
theorem dX3_tellItem_45 : decode cX3_tellItem 45 = .ok (.aload_n 1, 1) := by decide +kernel
theorem dX3_tellItem_46 : decode cX3_tellItem 46 = .ok (.aload_n 2, 1) := by decide +kernel
theorem dX3_tellItem_47 : decode cX3_tellItem 47 = .ok (.iconst 1, 1) := by decide +kernel
theorem dX3_tellItem_48 : decode cX3_tellItem 48 = .ok (.invokevirtual 49, 3) := by decide +kernel
theorem dX3_tellItem_51 : decode cX3_tellItem 51 = .ok (.ireturn, 1) := by decide +kernel
theorem dX3_tellItem_52 : decode cX3_tellItem 52 = .ok (.aload_n 0, 1) := by decide +kernel
theorem dX3_tellItem_53 : decode cX3_tellItem 53 = .ok (.aload_n 1, 1) := by decide +kernel
theorem dX3_tellItem_54 : decode cX3_tellItem 54 = .ok (.ldc 52, 2) := by decide +kernel
theorem dX3_tellItem_56 : decode cX3_tellItem 56 = .ok (.invokevirtual 39, 3) := by decide +kernel
theorem dX3_tellItem_59 : decode cX3_tellItem 59 = .ok (.ifCond .eq 11, 3) := by decide +kernel
theorem dX3_tellItem_62 : decode cX3_tellItem 62 = .ok (.aload_n 0, 1) := by decide +kernel
theorem dX3_tellItem_63 : decode cX3_tellItem 63 = .ok (.aload_n 1, 1) := by decide +kernel
theorem dX3_tellItem_64 : decode cX3_tellItem 64 = .ok (.aload_n 2, 1) := by decide +kernel
theorem dX3_tellItem_65 : decode cX3_tellItem 65 = .ok (.iconst 0, 1) := by decide +kernel
theorem dX3_tellItem_66 : decode cX3_tellItem 66 = .ok (.invokevirtual 49, 3) := by decide +kernel
theorem dX3_tellItem_69 : decode cX3_tellItem 69 = .ok (.ireturn, 1) := by decide +kernel
theorem dX3_tellItem_70 : decode cX3_tellItem 70 = .ok (.aload_n 0, 1) := by decide +kernel
theorem dX3_tellItem_71 : decode cX3_tellItem 71 = .ok (.aload_n 1, 1) := by decide +kernel
theorem dX3_tellItem_72 : decode cX3_tellItem 72 = .ok (.ldc 54, 2) := by decide +kernel
theorem dX3_tellItem_74 : decode cX3_tellItem 74 = .ok (.invokevirtual 39, 3) := by decide +kernel
theorem dX3_tellItem_77 : decode cX3_tellItem 77 = .ok (.ifCond .eq 10, 3) := by decide +kernel
theorem dX3_tellItem_80 : decode cX3_tellItem 80 = .ok (.aload_n 0, 1) := by decide +kernel
theorem dX3_tellItem_81 : decode cX3_tellItem 81 = .ok (.aload_n 1, 1) := by decide +kernel
theorem dX3_tellItem_82 : decode cX3_tellItem 82 = .ok (.aload_n 2, 1) := by decide +kernel
theorem dX3_tellItem_83 : decode cX3_tellItem 83 = .ok (.invokevirtual 56, 3) := by decide +kernel
theorem dX3_tellItem_86 : decode cX3_tellItem 86 = .ok (.ireturn, 1) := by decide +kernel
theorem dX3_tellItem_87 : decode cX3_tellItem 87 = .ok (.aload_n 0, 1) := by decide +kernel
theorem dX3_tellItem_88 : decode cX3_tellItem 88 = .ok (.aload_n 1, 1) := by decide +kernel
theorem dX3_tellItem_89 : decode cX3_tellItem 89 = .ok (.ldc 59, 2) := by decide +kernel
theorem dX3_tellItem_91 : decode cX3_tellItem 91 = .ok (.invokevirtual 39, 3) := by decide +kernel
theorem dX3_tellItem_94 : decode cX3_tellItem 94 = .ok (.ifCond .eq 10, 3) := by decide +kernel
theorem dX3_tellItem_97 : decode cX3_tellItem 97 = .ok (.aload_n 0, 1) := by decide +kernel
theorem dX3_tellItem_98 : decode cX3_tellItem 98 = .ok (.aload_n 1, 1) := by decide +kernel
theorem dX3_tellItem_99 : decode cX3_tellItem 99 = .ok (.aload_n 2, 1) := by decide +kernel
theorem dX3_tellItem_100 : decode cX3_tellItem 100 = .ok (.invokevirtual 61, 3) := by decide +kernel
theorem dX3_tellItem_103 : decode cX3_tellItem 103 = .ok (.ireturn, 1) := by decide +kernel
theorem dX3_tellItem_104 : decode cX3_tellItem 104 = .ok (.iconst 0, 1) := by decide +kernel
theorem dX3_tellItem_105 : decode cX3_tellItem 105 = .ok (.ireturn, 1) := by decide +kernel
theorem dX3_tellSneezer_0 : decode cX3_tellSneezer 0 = .ok (.aload_n 2, 1) := by decide +kernel
theorem dX3_tellSneezer_1 : decode cX3_tellSneezer 1 = .ok (.getfield 64, 3) := by decide +kernel
theorem dX3_tellSneezer_4 : decode cX3_tellSneezer 4 = .ok (.bipush 8, 2) := by decide +kernel
theorem dX3_tellSneezer_6 : decode cX3_tellSneezer 6 = .ok (.if_icmp .lt 5, 3) := by decide +kernel
theorem dX3_tellSneezer_9 : decode cX3_tellSneezer 9 = .ok (.iconst 0, 1) := by decide +kernel
theorem dX3_tellSneezer_10 : decode cX3_tellSneezer 10 = .ok (.ireturn, 1) := by decide +kernel
theorem dX3_tellSneezer_11 : decode cX3_tellSneezer 11 = .ok (.aload_n 0, 1) := by decide +kernel
theorem dX3_tellSneezer_12 : decode cX3_tellSneezer 12 = .ok (.aload_n 1, 1) := by decide +kernel
theorem dX3_tellSneezer_13 : decode cX3_tellSneezer 13 = .ok (.invokevirtual 27, 3) := by decide +kernel
theorem dX3_tellSneezer_16 : decode cX3_tellSneezer 16 = .ok (.aload_n 0, 1) := by decide +kernel
theorem dX3_tellSneezer_17 : decode cX3_tellSneezer 17 = .ok (.bipush 11, 2) := by decide +kernel
theorem dX3_tellSneezer_19 : decode cX3_tellSneezer 19 = .ok (.invokevirtual 69, 3) := by decide +kernel
theorem dX3_tellSneezer_22 : decode cX3_tellSneezer 22 = .ok (.ifCond .ne 5, 3) := by decide +kernel
theorem dX3_tellSneezer_25 : decode cX3_tellSneezer 25 = .ok (.iconst 0, 1) := by decide +kernel
theorem dX3_tellSneezer_26 : decode cX3_tellSneezer 26 = .ok (.ireturn, 1) := by decide +kernel
theorem dX3_tellSneezer_27 : decode cX3_tellSneezer 27 = .ok (.aload_n 2, 1) := by decide +kernel
theorem dX3_tellSneezer_28 : decode cX3_tellSneezer 28 = .ok (.iload_n 3, 1) := by decide +kernel
theorem dX3_tellSneezer_29 : decode cX3_tellSneezer 29 = .ok (.aload_n 0, 1) := by decide +kernel
theorem dX3_tellSneezer_30 : decode cX3_tellSneezer 30 = .ok (.getfield 24, 3) := by decide +kernel
theorem dX3_tellSneezer_33 : decode cX3_tellSneezer 33 = .ok (.invokevirtual 73, 3) := by decide +kernel
theorem dX3_tellSneezer_36 : decode cX3_tellSneezer 36 = .ok (.istore 4, 2) := by decide +kernel
theorem dX3_tellSneezer_38 : decode cX3_tellSneezer 38 = .ok (.aload_n 0, 1) := by decide +kernel
theorem dX3_tellSneezer_39 : decode cX3_tellSneezer 39 = .ok (.aload_n 1, 1) := by decide +kernel
theorem dX3_tellSneezer_40 : decode cX3_tellSneezer 40 = .ok (.invokevirtual 27, 3) := by decide +kernel
theorem dX3_tellSneezer_43 : decode cX3_tellSneezer 43 = .ok (.aload_n 0, 1) := by decide +kernel
theorem dX3_tellSneezer_44 : decode cX3_tellSneezer 44 = .ok (.aload_n 1, 1) := by decide +kernel
theorem dX3_tellSneezer_45 : decode cX3_tellSneezer 45 = .ok (.ldc 77, 2) := by decide +kernel
theorem dX3_tellSneezer_47 : decode cX3_tellSneezer 47 = .ok (.invokevirtual 39, 3) := by decide +kernel
theorem dX3_tellSneezer_50 : decode cX3_tellSneezer 50 = .ok (.ifCond .eq 16, 3) := by decide +kernel
theorem dX3_tellSneezer_53 : decode cX3_tellSneezer 53 = .ok (.aload_n 2, 1) := by decide +kernel
theorem dX3_tellSneezer_54 : decode cX3_tellSneezer 54 = .ok (.getfield 79, 3) := by decide +kernel
theorem dX3_tellSneezer_57 : decode cX3_tellSneezer 57 = .ok (.iload 4, 2) := by decide +kernel
theorem dX3_tellSneezer_59 : decode cX3_tellSneezer 59 = .ok (.iconst 0, 1) := by decide +kernel
theorem dX3_tellSneezer_60 : decode cX3_tellSneezer 60 = .ok (.iastore, 1) := by decide +kernel
theorem dX3_tellSneezer_61 : decode cX3_tellSneezer 61 = .ok (.aload_n 0, 1) := by decide +kernel
theorem dX3_tellSneezer_62 : decode cX3_tellSneezer 62 = .ok (.aload_n 1, 1) := by decide +kernel
theorem dX3_tellSneezer_63 : decode cX3_tellSneezer 63 = .ok (.invokevirtual 27, 3) := by decide +kernel
theorem dX3_tellSneezer_66 : decode cX3_tellSneezer 66 = .ok (.aload_n 0, 1) := by decide +kernel
theorem dX3_tellSneezer_67 : decode cX3_tellSneezer 67 = .ok (.aload_n 1, 1) := by decide +kernel
theorem dX3_tellSneezer_68 : decode cX3_tellSneezer 68 = .ok (.ldc 83, 2) := by decide +kernel
theorem dX3_tellSneezer_70 : decode cX3_tellSneezer 70 = .ok (.aload_n 2, 1) := by decide +kernel
theorem dX3_tellSneezer_71 : decode cX3_tellSneezer 71 = .ok (.getfield 85, 3) := by decide +kernel
theorem dX3_tellSneezer_74 : decode cX3_tellSneezer 74 = .ok (.iload 4, 2) := by decide +kernel
theorem dX3_tellSneezer_76 : decode cX3_tellSneezer 76 = .ok (.invokevirtual 88, 3) := by decide +kernel
theorem dX3_tellSneezer_79 : decode cX3_tellSneezer 79 = .ok (.ifCond .eq 23, 3) := by decide +kernel
theorem dX3_tellSneezer_82 : decode cX3_tellSneezer 82 = .ok (.aload_n 0, 1) := by decide +kernel
theorem dX3_tellSneezer_83 : decode cX3_tellSneezer 83 = .ok (.aload_n 1, 1) := by decide +kernel
theorem dX3_tellSneezer_84 : decode cX3_tellSneezer 84 = .ok (.ldc 92, 2) := by decide +kernel
theorem dX3_tellSneezer_86 : decode cX3_tellSneezer 86 = .ok (.aload_n 2, 1) := by decide +kernel
theorem dX3_tellSneezer_87 : decode cX3_tellSneezer 87 = .ok (.getfield 94, 3) := by decide +kernel
theorem dX3_tellSneezer_90 : decode cX3_tellSneezer 90 = .ok (.iload 4, 2) := by decide +kernel
theorem dX3_tellSneezer_92 : decode cX3_tellSneezer 92 = .ok (.invokevirtual 88, 3) := by decide +kernel
theorem dX3_tellSneezer_95 : decode cX3_tellSneezer 95 = .ok (.ifCond .eq 7, 3) := by decide +kernel
theorem dX3_tellSneezer_98 : decode cX3_tellSneezer 98 = .ok (.iconst 1, 1) := by decide +kernel
theorem dX3_tellSneezer_99 : decode cX3_tellSneezer 99 = .ok (.goto 4, 3) := by decide +kernel
theorem dX3_tellSneezer_102 : decode cX3_tellSneezer 102 = .ok (.iconst 0, 1) := by decide +kernel
theorem dX3_tellSneezer_103 : decode cX3_tellSneezer 103 = .ok (.ireturn, 1) := by decide +kernel
theorem dX3_tellPart_0 : decode cX3_tellPart 0 = .ok (.aload_n 0, 1) := by decide +kernel
theorem dX3_tellPart_1 : decode cX3_tellPart 1 = .ok (.aload_n 1, 1) := by decide +kernel
theorem dX3_tellPart_2 : decode cX3_tellPart 2 = .ok (.aload_n 2, 1) := by decide +kernel
theorem dX3_tellPart_3 : decode cX3_tellPart 3 = .ok (.invokevirtual 39, 3) := by decide +kernel
theorem dX3_tellPart_6 : decode cX3_tellPart 6 = .ok (.ifCond .ne 5, 3) := by decide +kernel
theorem dX3_tellPart_9 : decode cX3_tellPart 9 = .ok (.iconst 1, 1) := by decide +kernel
theorem dX3_tellPart_10 : decode cX3_tellPart 10 = .ok (.ireturn, 1) := by decide +kernel
theorem dX3_tellPart_11 : decode cX3_tellPart 11 = .ok (.aload_n 0, 1) := by decide +kernel
theorem dX3_tellPart_12 : decode cX3_tellPart 12 = .ok (.aload_n 1, 1) := by decide +kernel
theorem dX3_tellPart_13 : decode cX3_tellPart 13 = .ok (.invokevirtual 27, 3) := by decide +kernel
theorem dX3_tellPart_16 : decode cX3_tellPart 16 = .ok (.aload_n 0, 1) := by decide +kernel
theorem dX3_tellPart_17 : decode cX3_tellPart 17 = .ok (.bipush 99, 2) := by decide +kernel
theorem dX3_tellPart_19 : decode cX3_tellPart 19 = .ok (.invokevirtual 69, 3) := by decide +kernel
theorem dX3_tellPart_22 : decode cX3_tellPart 22 = .ok (.ifCond .ne 5, 3) := by decide +kernel
theorem dX3_tellPart_25 : decode cX3_tellPart 25 = .ok (.iconst 0, 1) := by decide +kernel
theorem dX3_tellPart_26 : decode cX3_tellPart 26 = .ok (.ireturn, 1) := by decide +kernel
theorem dX3_tellPart_27 : decode cX3_tellPart 27 = .ok (.aload_n 3, 1) := by decide +kernel
theorem dX3_tellPart_28 : decode cX3_tellPart 28 = .ok (.iload 4, 2) := by decide +kernel
theorem dX3_tellPart_30 : decode cX3_tellPart 30 = .ok (.aload_n 0, 1) := by decide +kernel
theorem dX3_tellPart_31 : decode cX3_tellPart 31 = .ok (.getfield 24, 3) := by decide +kernel
theorem dX3_tellPart_34 : decode cX3_tellPart 34 = .ok (.iastore, 1) := by decide +kernel
theorem dX3_tellPart_35 : decode cX3_tellPart 35 = .ok (.aload_n 0, 1) := by decide +kernel
theorem dX3_tellPart_36 : decode cX3_tellPart 36 = .ok (.aload_n 1, 1) := by decide +kernel
theorem dX3_tellPart_37 : decode cX3_tellPart 37 = .ok (.invokevirtual 27, 3) := by decide +kernel
theorem dX3_tellPart_40 : decode cX3_tellPart 40 = .ok (.iconst 1, 1) := by decide +kernel
theorem dX3_tellPart_41 : decode cX3_tellPart 41 = .ok (.ireturn, 1) := by decide +kernel
theorem dX3_tellBook_0 : decode cX3_tellBook 0 = .ok (.aload_n 0, 1) := by decide +kernel
theorem dX3_tellBook_1 : decode cX3_tellBook 1 = .ok (.aload_n 1, 1) := by decide +kernel
theorem dX3_tellBook_2 : decode cX3_tellBook 2 = .ok (.invokevirtual 27, 3) := by decide +kernel
theorem dX3_tellBook_5 : decode cX3_tellBook 5 = .ok (.aload_n 0, 1) := by decide +kernel
theorem dX3_tellBook_6 : decode cX3_tellBook 6 = .ok (.bipush 11, 2) := by decide +kernel
theorem dX3_tellBook_8 : decode cX3_tellBook 8 = .ok (.invokevirtual 69, 3) := by decide +kernel
theorem dX3_tellBook_11 : decode cX3_tellBook 11 = .ok (.ifCond .ne 5, 3) := by decide +kernel
theorem dX3_tellBook_14 : decode cX3_tellBook 14 = .ok (.iconst 0, 1) := by decide +kernel
theorem dX3_tellBook_15 : decode cX3_tellBook 15 = .ok (.ireturn, 1) := by decide +kernel
theorem dX3_tellBook_16 : decode cX3_tellBook 16 = .ok (.aload_n 2, 1) := by decide +kernel
theorem dX3_tellBook_17 : decode cX3_tellBook 17 = .ok (.getfield 96, 3) := by decide +kernel
theorem dX3_tellBook_20 : decode cX3_tellBook 20 = .ok (.aload_n 0, 1) := by decide +kernel
theorem dX3_tellBook_21 : decode cX3_tellBook 21 = .ok (.getfield 24, 3) := by decide +kernel
theorem dX3_tellBook_24 : decode cX3_tellBook 24 = .ok (.iload_n 3, 1) := by decide +kernel
theorem dX3_tellBook_25 : decode cX3_tellBook 25 = .ok (.iastore, 1) := by decide +kernel
theorem dX3_tellBook_26 : decode cX3_tellBook 26 = .ok (.aload_n 0, 1) := by decide +kernel
theorem dX3_tellBook_27 : decode cX3_tellBook 27 = .ok (.aload_n 1, 1) := by decide +kernel
theorem dX3_tellBook_28 : decode cX3_tellBook 28 = .ok (.invokevirtual 27, 3) := by decide +kernel
theorem dX3_tellBook_31 : decode cX3_tellBook 31 = .ok (.iconst 1, 1) := by decide +kernel
theorem dX3_tellBook_32 : decode cX3_tellBook 32 = .ok (.ireturn, 1) := by decide +kernel
theorem dX3_tellDry_0 : decode cX3_tellDry 0 = .ok (.aload_n 0, 1) := by decide +kernel
theorem dX3_tellDry_1 : decode cX3_tellDry 1 = .ok (.aload_n 1, 1) := by decide +kernel
theorem dX3_tellDry_2 : decode cX3_tellDry 2 = .ok (.invokevirtual 27, 3) := by decide +kernel
theorem dX3_tellDry_5 : decode cX3_tellDry 5 = .ok (.aload_n 0, 1) := by decide +kernel
theorem dX3_tellDry_6 : decode cX3_tellDry 6 = .ok (.bipush 9, 2) := by decide +kernel
theorem dX3_tellDry_8 : decode cX3_tellDry 8 = .ok (.invokevirtual 69, 3) := by decide +kernel
theorem dX3_tellDry_11 : decode cX3_tellDry 11 = .ok (.ifCond .ne 5, 3) := by decide +kernel
theorem dX3_tellDry_14 : decode cX3_tellDry 14 = .ok (.iconst 0, 1) := by decide +kernel
theorem dX3_tellDry_15 : decode cX3_tellDry 15 = .ok (.ireturn, 1) := by decide +kernel
theorem dX3_tellDry_16 : decode cX3_tellDry 16 = .ok (.aload_n 2, 1) := by decide +kernel
theorem dX3_tellDry_17 : decode cX3_tellDry 17 = .ok (.aload_n 0, 1) := by decide +kernel
theorem dX3_tellDry_18 : decode cX3_tellDry 18 = .ok (.getfield 24, 3) := by decide +kernel
theorem dX3_tellDry_21 : decode cX3_tellDry 21 = .ok (.putfield 99, 3) := by decide +kernel
theorem dX3_tellDry_24 : decode cX3_tellDry 24 = .ok (.aload_n 0, 1) := by decide +kernel
theorem dX3_tellDry_25 : decode cX3_tellDry 25 = .ok (.aload_n 1, 1) := by decide +kernel
theorem dX3_tellDry_26 : decode cX3_tellDry 26 = .ok (.invokevirtual 27, 3) := by decide +kernel
theorem dX3_tellDry_29 : decode cX3_tellDry 29 = .ok (.iconst 1, 1) := by decide +kernel
theorem dX3_tellDry_30 : decode cX3_tellDry 30 = .ok (.ireturn, 1) := by decide +kernel
theorem dX3_tellLamp_0 : decode cX3_tellLamp 0 = .ok (.aload_n 0, 1) := by decide +kernel
theorem dX3_tellLamp_1 : decode cX3_tellLamp 1 = .ok (.aload_n 1, 1) := by decide +kernel
theorem dX3_tellLamp_2 : decode cX3_tellLamp 2 = .ok (.invokevirtual 27, 3) := by decide +kernel
theorem dX3_tellLamp_5 : decode cX3_tellLamp 5 = .ok (.aload_n 0, 1) := by decide +kernel
theorem dX3_tellLamp_6 : decode cX3_tellLamp 6 = .ok (.bipush 11, 2) := by decide +kernel
theorem dX3_tellLamp_8 : decode cX3_tellLamp 8 = .ok (.invokevirtual 69, 3) := by decide +kernel
theorem dX3_tellLamp_11 : decode cX3_tellLamp 11 = .ok (.ifCond .ne 5, 3) := by decide +kernel
theorem dX3_tellLamp_14 : decode cX3_tellLamp 14 = .ok (.iconst 0, 1) := by decide +kernel
theorem dX3_tellLamp_15 : decode cX3_tellLamp 15 = .ok (.ireturn, 1) := by decide +kernel
theorem dX3_tellLamp_16 : decode cX3_tellLamp 16 = .ok (.aload_n 0, 1) := by decide +kernel
theorem dX3_tellLamp_17 : decode cX3_tellLamp 17 = .ok (.getfield 24, 3) := by decide +kernel
theorem dX3_tellLamp_20 : decode cX3_tellLamp 20 = .ok (.istore_n 3, 1) := by decide +kernel
theorem dX3_tellLamp_21 : decode cX3_tellLamp 21 = .ok (.aload_n 0, 1) := by decide +kernel
theorem dX3_tellLamp_22 : decode cX3_tellLamp 22 = .ok (.aload_n 1, 1) := by decide +kernel
theorem dX3_tellLamp_23 : decode cX3_tellLamp 23 = .ok (.invokevirtual 27, 3) := by decide +kernel
theorem dX3_tellLamp_26 : decode cX3_tellLamp 26 = .ok (.aload_n 0, 1) := by decide +kernel
theorem dX3_tellLamp_27 : decode cX3_tellLamp 27 = .ok (.bipush 99, 2) := by decide +kernel
theorem dX3_tellLamp_29 : decode cX3_tellLamp 29 = .ok (.invokevirtual 69, 3) := by decide +kernel
theorem dX3_tellLamp_32 : decode cX3_tellLamp 32 = .ok (.ifCond .ne 5, 3) := by decide +kernel
theorem dX3_tellLamp_35 : decode cX3_tellLamp 35 = .ok (.iconst 0, 1) := by decide +kernel
theorem dX3_tellLamp_36 : decode cX3_tellLamp 36 = .ok (.ireturn, 1) := by decide +kernel
theorem dX3_tellLamp_37 : decode cX3_tellLamp 37 = .ok (.aload_n 2, 1) := by decide +kernel
theorem dX3_tellLamp_38 : decode cX3_tellLamp 38 = .ok (.getfield 102, 3) := by decide +kernel
theorem dX3_tellLamp_41 : decode cX3_tellLamp 41 = .ok (.iload_n 3, 1) := by decide +kernel
theorem dX3_tellLamp_42 : decode cX3_tellLamp 42 = .ok (.aload_n 0, 1) := by decide +kernel
theorem dX3_tellLamp_43 : decode cX3_tellLamp 43 = .ok (.getfield 24, 3) := by decide +kernel
theorem dX3_tellLamp_46 : decode cX3_tellLamp 46 = .ok (.iastore, 1) := by decide +kernel
theorem dX3_tellLamp_47 : decode cX3_tellLamp 47 = .ok (.aload_n 0, 1) := by decide +kernel
theorem dX3_tellLamp_48 : decode cX3_tellLamp 48 = .ok (.aload_n 1, 1) := by decide +kernel
theorem dX3_tellLamp_49 : decode cX3_tellLamp 49 = .ok (.invokevirtual 27, 3) := by decide +kernel
theorem dX3_tellLamp_52 : decode cX3_tellLamp 52 = .ok (.iconst 1, 1) := by decide +kernel
theorem dX3_tellLamp_53 : decode cX3_tellLamp 53 = .ok (.ireturn, 1) := by decide +kernel
theorem dX3_nameOfKind_0 : decode cX3_nameOfKind 0 = .ok (.iload_n 0, 1) := by decide +kernel
theorem dX3_nameOfKind_1 : decode cX3_nameOfKind 1 = .ok (.tableswitch 50 1 5 #[35, 38, 41, 44, 47], 35) := by decide +kernel
theorem dX3_nameOfKind_36 : decode cX3_nameOfKind 36 = .ok (.ldc 105, 2) := by decide +kernel
theorem dX3_nameOfKind_38 : decode cX3_nameOfKind 38 = .ok (.areturn, 1) := by decide +kernel
theorem dX3_nameOfKind_39 : decode cX3_nameOfKind 39 = .ok (.ldc 107, 2) := by decide +kernel
theorem dX3_nameOfKind_41 : decode cX3_nameOfKind 41 = .ok (.areturn, 1) := by decide +kernel
theorem dX3_nameOfKind_42 : decode cX3_nameOfKind 42 = .ok (.ldc 109, 2) := by decide +kernel
theorem dX3_nameOfKind_44 : decode cX3_nameOfKind 44 = .ok (.areturn, 1) := by decide +kernel
theorem dX3_nameOfKind_45 : decode cX3_nameOfKind 45 = .ok (.ldc 111, 2) := by decide +kernel
theorem dX3_nameOfKind_47 : decode cX3_nameOfKind 47 = .ok (.areturn, 1) := by decide +kernel
theorem dX3_nameOfKind_48 : decode cX3_nameOfKind 48 = .ok (.ldc 113, 2) := by decide +kernel
theorem dX3_nameOfKind_50 : decode cX3_nameOfKind 50 = .ok (.areturn, 1) := by decide +kernel
theorem dX3_nameOfKind_51 : decode cX3_nameOfKind 51 = .ok (.ldc 115, 2) := by decide +kernel
theorem dX3_nameOfKind_53 : decode cX3_nameOfKind 53 = .ok (.areturn, 1) := by decide +kernel
theorem dX3_isNumber_0 : decode cX3_isNumber 0 = .ok (.aload_n 0, 1) := by decide +kernel
theorem dX3_isNumber_1 : decode cX3_isNumber 1 = .ok (.getfield 21, 3) := by decide +kernel
theorem dX3_isNumber_4 : decode cX3_isNumber 4 = .ok (.iconst 2, 1) := by decide +kernel
theorem dX3_isNumber_5 : decode cX3_isNumber 5 = .ok (.if_icmp .ne 19, 3) := by decide +kernel
theorem dX3_isNumber_8 : decode cX3_isNumber 8 = .ok (.aload_n 0, 1) := by decide +kernel
theorem dX3_isNumber_9 : decode cX3_isNumber 9 = .ok (.getfield 24, 3) := by decide +kernel
theorem dX3_isNumber_12 : decode cX3_isNumber 12 = .ok (.iconst 0, 1) := by decide +kernel
theorem dX3_isNumber_13 : decode cX3_isNumber 13 = .ok (.iload_n 1, 1) := by decide +kernel
theorem dX3_isNumber_14 : decode cX3_isNumber 14 = .ok (.invokestatic 117, 3) := by decide +kernel
theorem dX3_isNumber_17 : decode cX3_isNumber 17 = .ok (.ifCond .eq 7, 3) := by decide +kernel
theorem dX3_isNumber_20 : decode cX3_isNumber 20 = .ok (.iconst 1, 1) := by decide +kernel
theorem dX3_isNumber_21 : decode cX3_isNumber 21 = .ok (.goto 4, 3) := by decide +kernel
theorem dX3_isNumber_24 : decode cX3_isNumber 24 = .ok (.iconst 0, 1) := by decide +kernel
theorem dX3_isNumber_25 : decode cX3_isNumber 25 = .ok (.ireturn, 1) := by decide +kernel
theorem dX3_isWord_0 : decode cX3_isWord 0 = .ok (.aload_n 0, 1) := by decide +kernel
theorem dX3_isWord_1 : decode cX3_isWord 1 = .ok (.getfield 21, 3) := by decide +kernel
theorem dX3_isWord_4 : decode cX3_isWord 4 = .ok (.iconst 1, 1) := by decide +kernel
theorem dX3_isWord_5 : decode cX3_isWord 5 = .ok (.if_icmp .ne 19, 3) := by decide +kernel
theorem dX3_isWord_8 : decode cX3_isWord 8 = .ok (.aload_n 0, 1) := by decide +kernel
theorem dX3_isWord_9 : decode cX3_isWord 9 = .ok (.getfield 18, 3) := by decide +kernel
theorem dX3_isWord_12 : decode cX3_isWord 12 = .ok (.aload_n 0, 1) := by decide +kernel
theorem dX3_isWord_13 : decode cX3_isWord 13 = .ok (.getfield 15, 3) := by decide +kernel
theorem dX3_isWord_16 : decode cX3_isWord 16 = .ok (.isub, 1) := by decide +kernel
theorem dX3_isWord_17 : decode cX3_isWord 17 = .ok (.aload_n 2, 1) := by decide +kernel
theorem dX3_isWord_18 : decode cX3_isWord 18 = .ok (.invokevirtual 121, 3) := by decide +kernel
theorem dX3_isWord_21 : decode cX3_isWord 21 = .ok (.if_icmp .eq 5, 3) := by decide +kernel
theorem dX3_isWord_24 : decode cX3_isWord 24 = .ok (.iconst 0, 1) := by decide +kernel
theorem dX3_isWord_25 : decode cX3_isWord 25 = .ok (.ireturn, 1) := by decide +kernel
theorem dX3_isWord_26 : decode cX3_isWord 26 = .ok (.iconst 0, 1) := by decide +kernel
theorem dX3_isWord_27 : decode cX3_isWord 27 = .ok (.istore_n 3, 1) := by decide +kernel
theorem dX3_isWord_28 : decode cX3_isWord 28 = .ok (.iload_n 3, 1) := by decide +kernel
theorem dX3_isWord_29 : decode cX3_isWord 29 = .ok (.aload_n 2, 1) := by decide +kernel
theorem dX3_isWord_30 : decode cX3_isWord 30 = .ok (.invokevirtual 121, 3) := by decide +kernel
theorem dX3_isWord_33 : decode cX3_isWord 33 = .ok (.if_icmp .ge 29, 3) := by decide +kernel
theorem dX3_isWord_36 : decode cX3_isWord 36 = .ok (.aload_n 1, 1) := by decide +kernel
theorem dX3_isWord_37 : decode cX3_isWord 37 = .ok (.aload_n 0, 1) := by decide +kernel
theorem dX3_isWord_38 : decode cX3_isWord 38 = .ok (.getfield 15, 3) := by decide +kernel
theorem dX3_isWord_41 : decode cX3_isWord 41 = .ok (.iload_n 3, 1) := by decide +kernel
theorem dX3_isWord_42 : decode cX3_isWord 42 = .ok (.iadd, 1) := by decide +kernel
theorem dX3_isWord_43 : decode cX3_isWord 43 = .ok (.invokevirtual 127, 3) := by decide +kernel
theorem dX3_isWord_46 : decode cX3_isWord 46 = .ok (.aload_n 2, 1) := by decide +kernel
theorem dX3_isWord_47 : decode cX3_isWord 47 = .ok (.iload_n 3, 1) := by decide +kernel
theorem dX3_isWord_48 : decode cX3_isWord 48 = .ok (.invokevirtual 133, 3) := by decide +kernel
theorem dX3_isWord_51 : decode cX3_isWord 51 = .ok (.if_icmp .eq 5, 3) := by decide +kernel
theorem dX3_isWord_54 : decode cX3_isWord 54 = .ok (.iconst 0, 1) := by decide +kernel
theorem dX3_isWord_55 : decode cX3_isWord 55 = .ok (.ireturn, 1) := by decide +kernel
theorem dX3_isWord_56 : decode cX3_isWord 56 = .ok (.iinc 3 1, 3) := by decide +kernel
theorem dX3_isWord_59 : decode cX3_isWord 59 = .ok (.goto (-31), 3) := by decide +kernel
theorem dX3_isWord_62 : decode cX3_isWord 62 = .ok (.iconst 1, 1) := by decide +kernel
theorem dX3_isWord_63 : decode cX3_isWord 63 = .ok (.ireturn, 1) := by decide +kernel
theorem dX3_step_0 : decode cX3_step 0 = .ok (.aload_n 0, 1) := by decide +kernel
theorem dX3_step_1 : decode cX3_step 1 = .ok (.aload_n 0, 1) := by decide +kernel
theorem dX3_step_2 : decode cX3_step 2 = .ok (.getfield 18, 3) := by decide +kernel
theorem dX3_step_5 : decode cX3_step 5 = .ok (.putfield 15, 3) := by decide +kernel
theorem dX3_step_8 : decode cX3_step 8 = .ok (.aload_n 0, 1) := by decide +kernel
theorem dX3_step_9 : decode cX3_step 9 = .ok (.getfield 15, 3) := by decide +kernel
theorem dX3_step_12 : decode cX3_step 12 = .ok (.aload_n 1, 1) := by decide +kernel
theorem dX3_step_13 : decode cX3_step 13 = .ok (.getfield 137, 3) := by decide +kernel
theorem dX3_step_16 : decode cX3_step 16 = .ok (.if_icmp .ge 29, 3) := by decide +kernel
theorem dX3_step_19 : decode cX3_step 19 = .ok (.aload_n 1, 1) := by decide +kernel
theorem dX3_step_20 : decode cX3_step 20 = .ok (.aload_n 0, 1) := by decide +kernel
theorem dX3_step_21 : decode cX3_step 21 = .ok (.getfield 15, 3) := by decide +kernel
theorem dX3_step_24 : decode cX3_step 24 = .ok (.invokevirtual 127, 3) := by decide +kernel
theorem dX3_step_27 : decode cX3_step 27 = .ok (.bipush 32, 2) := by decide +kernel
theorem dX3_step_29 : decode cX3_step 29 = .ok (.if_icmp .ne 16, 3) := by decide +kernel
theorem dX3_step_32 : decode cX3_step 32 = .ok (.aload_n 0, 1) := by decide +kernel
theorem dX3_step_33 : decode cX3_step 33 = .ok (.dup, 1) := by decide +kernel
theorem dX3_step_34 : decode cX3_step 34 = .ok (.getfield 15, 3) := by decide +kernel
theorem dX3_step_37 : decode cX3_step 37 = .ok (.iconst 1, 1) := by decide +kernel
theorem dX3_step_38 : decode cX3_step 38 = .ok (.iadd, 1) := by decide +kernel
theorem dX3_step_39 : decode cX3_step 39 = .ok (.putfield 15, 3) := by decide +kernel
theorem dX3_step_42 : decode cX3_step 42 = .ok (.goto (-34), 3) := by decide +kernel
theorem dX3_step_45 : decode cX3_step 45 = .ok (.aload_n 0, 1) := by decide +kernel
theorem dX3_step_46 : decode cX3_step 46 = .ok (.aload_n 0, 1) := by decide +kernel
theorem dX3_step_47 : decode cX3_step 47 = .ok (.getfield 15, 3) := by decide +kernel
theorem dX3_step_50 : decode cX3_step 50 = .ok (.putfield 18, 3) := by decide +kernel
theorem dX3_step_53 : decode cX3_step 53 = .ok (.aload_n 1, 1) := by decide +kernel
theorem dX3_step_54 : decode cX3_step 54 = .ok (.aload_n 0, 1) := by decide +kernel
theorem dX3_step_55 : decode cX3_step 55 = .ok (.getfield 15, 3) := by decide +kernel
theorem dX3_step_58 : decode cX3_step 58 = .ok (.invokevirtual 127, 3) := by decide +kernel
theorem dX3_step_61 : decode cX3_step 61 = .ok (.istore_n 2, 1) := by decide +kernel
theorem dX3_step_62 : decode cX3_step 62 = .ok (.iload_n 2, 1) := by decide +kernel
theorem dX3_step_63 : decode cX3_step 63 = .ok (.ifCond .ge 11, 3) := by decide +kernel
theorem dX3_step_66 : decode cX3_step 66 = .ok (.aload_n 0, 1) := by decide +kernel
theorem dX3_step_67 : decode cX3_step 67 = .ok (.iconst 0, 1) := by decide +kernel
theorem dX3_step_68 : decode cX3_step 68 = .ok (.putfield 21, 3) := by decide +kernel
theorem dX3_step_71 : decode cX3_step 71 = .ok (.goto 162, 3) := by decide +kernel
theorem dX3_step_74 : decode cX3_step 74 = .ok (.iload_n 2, 1) := by decide +kernel
theorem dX3_step_75 : decode cX3_step 75 = .ok (.invokestatic 139, 3) := by decide +kernel
theorem dX3_step_78 : decode cX3_step 78 = .ok (.ifCond .eq 46, 3) := by decide +kernel
theorem dX3_step_81 : decode cX3_step 81 = .ok (.aload_n 0, 1) := by decide +kernel
theorem dX3_step_82 : decode cX3_step 82 = .ok (.iconst 1, 1) := by decide +kernel
theorem dX3_step_83 : decode cX3_step 83 = .ok (.putfield 21, 3) := by decide +kernel
theorem dX3_step_86 : decode cX3_step 86 = .ok (.aload_n 0, 1) := by decide +kernel
theorem dX3_step_87 : decode cX3_step 87 = .ok (.getfield 18, 3) := by decide +kernel
theorem dX3_step_90 : decode cX3_step 90 = .ok (.aload_n 1, 1) := by decide +kernel
theorem dX3_step_91 : decode cX3_step 91 = .ok (.getfield 137, 3) := by decide +kernel
theorem dX3_step_94 : decode cX3_step 94 = .ok (.if_icmp .ge 139, 3) := by decide +kernel
theorem dX3_step_97 : decode cX3_step 97 = .ok (.aload_n 1, 1) := by decide +kernel
theorem dX3_step_98 : decode cX3_step 98 = .ok (.aload_n 0, 1) := by decide +kernel
theorem dX3_step_99 : decode cX3_step 99 = .ok (.getfield 18, 3) := by decide +kernel
theorem dX3_step_102 : decode cX3_step 102 = .ok (.invokevirtual 127, 3) := by decide +kernel
theorem dX3_step_105 : decode cX3_step 105 = .ok (.invokestatic 139, 3) := by decide +kernel
theorem dX3_step_108 : decode cX3_step 108 = .ok (.ifCond .eq 125, 3) := by decide +kernel
theorem dX3_step_111 : decode cX3_step 111 = .ok (.aload_n 0, 1) := by decide +kernel
theorem dX3_step_112 : decode cX3_step 112 = .ok (.dup, 1) := by decide +kernel
theorem dX3_step_113 : decode cX3_step 113 = .ok (.getfield 18, 3) := by decide +kernel
theorem dX3_step_116 : decode cX3_step 116 = .ok (.iconst 1, 1) := by decide +kernel
theorem dX3_step_117 : decode cX3_step 117 = .ok (.iadd, 1) := by decide +kernel
theorem dX3_step_118 : decode cX3_step 118 = .ok (.putfield 18, 3) := by decide +kernel
theorem dX3_step_121 : decode cX3_step 121 = .ok (.goto (-35), 3) := by decide +kernel
theorem dX3_step_124 : decode cX3_step 124 = .ok (.iload_n 2, 1) := by decide +kernel
theorem dX3_step_125 : decode cX3_step 125 = .ok (.invokestatic 142, 3) := by decide +kernel
theorem dX3_step_128 : decode cX3_step 128 = .ok (.ifCond .eq 80, 3) := by decide +kernel
theorem dX3_step_131 : decode cX3_step 131 = .ok (.aload_n 0, 1) := by decide +kernel
theorem dX3_step_132 : decode cX3_step 132 = .ok (.iconst 2, 1) := by decide +kernel
theorem dX3_step_133 : decode cX3_step 133 = .ok (.putfield 21, 3) := by decide +kernel
theorem dX3_step_136 : decode cX3_step 136 = .ok (.aload_n 0, 1) := by decide +kernel
theorem dX3_step_137 : decode cX3_step 137 = .ok (.iconst 0, 1) := by decide +kernel
theorem dX3_step_138 : decode cX3_step 138 = .ok (.putfield 24, 3) := by decide +kernel
theorem dX3_step_141 : decode cX3_step 141 = .ok (.aload_n 0, 1) := by decide +kernel
theorem dX3_step_142 : decode cX3_step 142 = .ok (.getfield 18, 3) := by decide +kernel
theorem dX3_step_145 : decode cX3_step 145 = .ok (.aload_n 1, 1) := by decide +kernel
theorem dX3_step_146 : decode cX3_step 146 = .ok (.getfield 137, 3) := by decide +kernel
theorem dX3_step_149 : decode cX3_step 149 = .ok (.if_icmp .ge 84, 3) := by decide +kernel
theorem dX3_step_152 : decode cX3_step 152 = .ok (.aload_n 1, 1) := by decide +kernel
theorem dX3_step_153 : decode cX3_step 153 = .ok (.aload_n 0, 1) := by decide +kernel
theorem dX3_step_154 : decode cX3_step 154 = .ok (.getfield 18, 3) := by decide +kernel
theorem dX3_step_157 : decode cX3_step 157 = .ok (.invokevirtual 127, 3) := by decide +kernel
theorem dX3_step_160 : decode cX3_step 160 = .ok (.invokestatic 142, 3) := by decide +kernel
theorem dX3_step_163 : decode cX3_step 163 = .ok (.ifCond .eq 70, 3) := by decide +kernel
theorem dX3_step_166 : decode cX3_step 166 = .ok (.aload_n 0, 1) := by decide +kernel
theorem dX3_step_167 : decode cX3_step 167 = .ok (.sipush 1000, 3) := by decide +kernel
theorem dX3_step_170 : decode cX3_step 170 = .ok (.bipush 10, 2) := by decide +kernel
theorem dX3_step_172 : decode cX3_step 172 = .ok (.aload_n 0, 1) := by decide +kernel
theorem dX3_step_173 : decode cX3_step 173 = .ok (.getfield 24, 3) := by decide +kernel
theorem dX3_step_176 : decode cX3_step 176 = .ok (.imul, 1) := by decide +kernel
theorem dX3_step_177 : decode cX3_step 177 = .ok (.aload_n 1, 1) := by decide +kernel
theorem dX3_step_178 : decode cX3_step 178 = .ok (.aload_n 0, 1) := by decide +kernel
theorem dX3_step_179 : decode cX3_step 179 = .ok (.getfield 18, 3) := by decide +kernel
theorem dX3_step_182 : decode cX3_step 182 = .ok (.invokevirtual 127, 3) := by decide +kernel
theorem dX3_step_185 : decode cX3_step 185 = .ok (.iadd, 1) := by decide +kernel
theorem dX3_step_186 : decode cX3_step 186 = .ok (.bipush 48, 2) := by decide +kernel
theorem dX3_step_188 : decode cX3_step 188 = .ok (.isub, 1) := by decide +kernel
theorem dX3_step_189 : decode cX3_step 189 = .ok (.invokestatic 145, 3) := by decide +kernel
theorem dX3_step_192 : decode cX3_step 192 = .ok (.putfield 24, 3) := by decide +kernel
theorem dX3_step_195 : decode cX3_step 195 = .ok (.aload_n 0, 1) := by decide +kernel
theorem dX3_step_196 : decode cX3_step 196 = .ok (.dup, 1) := by decide +kernel
theorem dX3_step_197 : decode cX3_step 197 = .ok (.getfield 18, 3) := by decide +kernel
theorem dX3_step_200 : decode cX3_step 200 = .ok (.iconst 1, 1) := by decide +kernel
theorem dX3_step_201 : decode cX3_step 201 = .ok (.iadd, 1) := by decide +kernel
theorem dX3_step_202 : decode cX3_step 202 = .ok (.putfield 18, 3) := by decide +kernel
theorem dX3_step_205 : decode cX3_step 205 = .ok (.goto (-64), 3) := by decide +kernel
theorem dX3_step_208 : decode cX3_step 208 = .ok (.aload_n 0, 1) := by decide +kernel
theorem dX3_step_209 : decode cX3_step 209 = .ok (.iload_n 2, 1) := by decide +kernel
theorem dX3_step_210 : decode cX3_step 210 = .ok (.bipush 59, 2) := by decide +kernel
theorem dX3_step_212 : decode cX3_step 212 = .ok (.if_icmp .ne 7, 3) := by decide +kernel
theorem dX3_step_215 : decode cX3_step 215 = .ok (.iconst 3, 1) := by decide +kernel
theorem dX3_step_216 : decode cX3_step 216 = .ok (.goto 4, 3) := by decide +kernel
theorem dX3_step_219 : decode cX3_step 219 = .ok (.iconst 4, 1) := by decide +kernel
theorem dX3_step_220 : decode cX3_step 220 = .ok (.putfield 21, 3) := by decide +kernel
theorem dX3_step_223 : decode cX3_step 223 = .ok (.aload_n 0, 1) := by decide +kernel
theorem dX3_step_224 : decode cX3_step 224 = .ok (.dup, 1) := by decide +kernel
theorem dX3_step_225 : decode cX3_step 225 = .ok (.getfield 18, 3) := by decide +kernel
theorem dX3_step_228 : decode cX3_step 228 = .ok (.iconst 1, 1) := by decide +kernel
theorem dX3_step_229 : decode cX3_step 229 = .ok (.iadd, 1) := by decide +kernel
theorem dX3_step_230 : decode cX3_step 230 = .ok (.putfield 18, 3) := by decide +kernel
theorem dX3_step_233 : decode cX3_step 233 = .ok (.return_, 1) := by decide +kernel
theorem dX3_isLetter_0 : decode cX3_isLetter 0 = .ok (.iload_n 0, 1) := by decide +kernel
theorem dX3_isLetter_1 : decode cX3_isLetter 1 = .ok (.bipush 97, 2) := by decide +kernel
theorem dX3_isLetter_3 : decode cX3_isLetter 3 = .ok (.if_icmp .lt 13, 3) := by decide +kernel
theorem dX3_isLetter_6 : decode cX3_isLetter 6 = .ok (.iload_n 0, 1) := by decide +kernel
theorem dX3_isLetter_7 : decode cX3_isLetter 7 = .ok (.bipush 122, 2) := by decide +kernel
theorem dX3_isLetter_9 : decode cX3_isLetter 9 = .ok (.if_icmp .gt 7, 3) := by decide +kernel
theorem dX3_isLetter_12 : decode cX3_isLetter 12 = .ok (.iconst 1, 1) := by decide +kernel
theorem dX3_isLetter_13 : decode cX3_isLetter 13 = .ok (.goto 4, 3) := by decide +kernel
theorem dX3_isLetter_16 : decode cX3_isLetter 16 = .ok (.iconst 0, 1) := by decide +kernel
theorem dX3_isLetter_17 : decode cX3_isLetter 17 = .ok (.ireturn, 1) := by decide +kernel
theorem dX3_isDigit_0 : decode cX3_isDigit 0 = .ok (.iload_n 0, 1) := by decide +kernel
theorem dX3_isDigit_1 : decode cX3_isDigit 1 = .ok (.bipush 48, 2) := by decide +kernel
theorem dX3_isDigit_3 : decode cX3_isDigit 3 = .ok (.if_icmp .lt 13, 3) := by decide +kernel
theorem dX3_isDigit_6 : decode cX3_isDigit 6 = .ok (.iload_n 0, 1) := by decide +kernel
theorem dX3_isDigit_7 : decode cX3_isDigit 7 = .ok (.bipush 57, 2) := by decide +kernel
theorem dX3_isDigit_9 : decode cX3_isDigit 9 = .ok (.if_icmp .gt 7, 3) := by decide +kernel
theorem dX3_isDigit_12 : decode cX3_isDigit 12 = .ok (.iconst 1, 1) := by decide +kernel
theorem dX3_isDigit_13 : decode cX3_isDigit 13 = .ok (.goto 4, 3) := by decide +kernel
theorem dX3_isDigit_16 : decode cX3_isDigit 16 = .ok (.iconst 0, 1) := by decide +kernel
theorem dX3_isDigit_17 : decode cX3_isDigit 17 = .ok (.ireturn, 1) := by decide +kernel
theorem dX4_init_0 : decode cX4_init 0 = .ok (.aload_n 0, 1) := by decide +kernel
theorem dX4_init_1 : decode cX4_init 1 = .ok (.invokespecial 1, 3) := by decide +kernel
theorem dX4_init_4 : decode cX4_init 4 = .ok (.aload_n 0, 1) := by decide +kernel
theorem dX4_init_5 : decode cX4_init 5 = .ok (.new 7, 3) := by decide +kernel
theorem dX4_init_8 : decode cX4_init 8 = .ok (.dup, 1) := by decide +kernel
theorem dX4_init_9 : decode cX4_init 9 = .ok (.invokespecial 9, 3) := by decide +kernel
theorem dX4_init_12 : decode cX4_init 12 = .ok (.putfield 10, 3) := by decide +kernel
theorem dX4_init_15 : decode cX4_init 15 = .ok (.aload_n 0, 1) := by decide +kernel
theorem dX4_init_16 : decode cX4_init 16 = .ok (.new 7, 3) := by decide +kernel
theorem dX4_init_19 : decode cX4_init 19 = .ok (.dup, 1) := by decide +kernel
theorem dX4_init_20 : decode cX4_init 20 = .ok (.invokespecial 9, 3) := by decide +kernel
theorem dX4_init_23 : decode cX4_init 23 = .ok (.putfield 16, 3) := by decide +kernel
theorem dX4_init_26 : decode cX4_init 26 = .ok (.aload_n 0, 1) := by decide +kernel
theorem dX4_init_27 : decode cX4_init 27 = .ok (.new 7, 3) := by decide +kernel
theorem dX4_init_30 : decode cX4_init 30 = .ok (.dup, 1) := by decide +kernel
theorem dX4_init_31 : decode cX4_init 31 = .ok (.invokespecial 9, 3) := by decide +kernel
theorem dX4_init_34 : decode cX4_init 34 = .ok (.putfield 19, 3) := by decide +kernel
theorem dX4_init_37 : decode cX4_init 37 = .ok (.aload_n 0, 1) := by decide +kernel
theorem dX4_init_38 : decode cX4_init 38 = .ok (.new 22, 3) := by decide +kernel
theorem dX4_init_41 : decode cX4_init 41 = .ok (.dup, 1) := by decide +kernel
theorem dX4_init_42 : decode cX4_init 42 = .ok (.invokespecial 24, 3) := by decide +kernel
theorem dX4_init_45 : decode cX4_init 45 = .ok (.putfield 25, 3) := by decide +kernel
theorem dX4_init_48 : decode cX4_init 48 = .ok (.aload_n 0, 1) := by decide +kernel
theorem dX4_init_49 : decode cX4_init 49 = .ok (.new 29, 3) := by decide +kernel
theorem dX4_init_52 : decode cX4_init 52 = .ok (.dup, 1) := by decide +kernel
theorem dX4_init_53 : decode cX4_init 53 = .ok (.invokespecial 31, 3) := by decide +kernel
theorem dX4_init_56 : decode cX4_init 56 = .ok (.putfield 32, 3) := by decide +kernel
theorem dX4_init_59 : decode cX4_init 59 = .ok (.aload_n 0, 1) := by decide +kernel
theorem dX4_init_60 : decode cX4_init 60 = .ok (.new 36, 3) := by decide +kernel
theorem dX4_init_63 : decode cX4_init 63 = .ok (.dup, 1) := by decide +kernel
theorem dX4_init_64 : decode cX4_init 64 = .ok (.invokespecial 38, 3) := by decide +kernel
theorem dX4_init_67 : decode cX4_init 67 = .ok (.putfield 39, 3) := by decide +kernel
theorem dX4_init_70 : decode cX4_init 70 = .ok (.aload_n 0, 1) := by decide +kernel
theorem dX4_init_71 : decode cX4_init 71 = .ok (.bipush 7, 2) := by decide +kernel
theorem dX4_init_73 : decode cX4_init 73 = .ok (.newarray .int, 2) := by decide +kernel
theorem dX4_init_75 : decode cX4_init 75 = .ok (.putfield 43, 3) := by decide +kernel
theorem dX4_init_78 : decode cX4_init 78 = .ok (.aload_n 0, 1) := by decide +kernel
theorem dX4_init_79 : decode cX4_init 79 = .ok (.iconst 0, 1) := by decide +kernel
theorem dX4_init_80 : decode cX4_init 80 = .ok (.putfield 47, 3) := by decide +kernel
theorem dX4_init_83 : decode cX4_init 83 = .ok (.return_, 1) := by decide +kernel
theorem dX4_house_0 : decode cX4_house 0 = .ok (.iload_n 1, 1) := by decide +kernel
theorem dX4_house_1 : decode cX4_house 1 = .ok (.invokestatic 51, 3) := by decide +kernel
theorem dX4_house_4 : decode cX4_house 4 = .ok (.ifCond .eq 24, 3) := by decide +kernel
theorem dX4_house_7 : decode cX4_house 7 = .ok (.iload_n 2, 1) := by decide +kernel
theorem dX4_house_8 : decode cX4_house 8 = .ok (.iconst 0, 1) := by decide +kernel
theorem dX4_house_9 : decode cX4_house 9 = .ok (.iconst 2, 1) := by decide +kernel
theorem dX4_house_10 : decode cX4_house 10 = .ok (.invokestatic 55, 3) := by decide +kernel
theorem dX4_house_13 : decode cX4_house 13 = .ok (.ifCond .eq 15, 3) := by decide +kernel
theorem dX4_house_16 : decode cX4_house 16 = .ok (.iload_n 3, 1) := by decide +kernel
theorem dX4_house_17 : decode cX4_house 17 = .ok (.iconst 0, 1) := by decide +kernel
theorem dX4_house_18 : decode cX4_house 18 = .ok (.iload_n 2, 1) := by decide +kernel
theorem dX4_house_19 : decode cX4_house 19 = .ok (.invokestatic 59, 3) := by decide +kernel
theorem dX4_house_22 : decode cX4_house 22 = .ok (.invokestatic 55, 3) := by decide +kernel
theorem dX4_house_25 : decode cX4_house 25 = .ok (.ifCond .ne 10, 3) := by decide +kernel
theorem dX4_house_28 : decode cX4_house 28 = .ok (.aload_n 0, 1) := by decide +kernel
theorem dX4_house_29 : decode cX4_house 29 = .ok (.ldc 63, 2) := by decide +kernel
theorem dX4_house_31 : decode cX4_house 31 = .ok (.invokevirtual 64, 3) := by decide +kernel
theorem dX4_house_34 : decode cX4_house 34 = .ok (.ireturn, 1) := by decide +kernel
theorem dX4_house_35 : decode cX4_house 35 = .ok (.aload_n 0, 1) := by decide +kernel
theorem dX4_house_36 : decode cX4_house 36 = .ok (.getfield 10, 3) := by decide +kernel
theorem dX4_house_39 : decode cX4_house 39 = .ok (.iload_n 2, 1) := by decide +kernel
theorem dX4_house_40 : decode cX4_house 40 = .ok (.invokevirtual 67, 3) := by decide +kernel
theorem dX4_house_43 : decode cX4_house 43 = .ok (.astore 4, 2) := by decide +kernel
theorem dX4_house_45 : decode cX4_house 45 = .ok (.aload 4, 2) := by decide +kernel
theorem dX4_house_47 : decode cX4_house 47 = .ok (.iload_n 1, 1) := by decide +kernel
theorem dX4_house_48 : decode cX4_house 48 = .ok (.iaload, 1) := by decide +kernel
theorem dX4_house_49 : decode cX4_house 49 = .ok (.istore 5, 2) := by decide +kernel
theorem dX4_house_51 : decode cX4_house 51 = .ok (.aload 4, 2) := by decide +kernel
theorem dX4_house_53 : decode cX4_house 53 = .ok (.iload_n 1, 1) := by decide +kernel
theorem dX4_house_54 : decode cX4_house 54 = .ok (.iload_n 3, 1) := by decide +kernel
theorem dX4_house_55 : decode cX4_house 55 = .ok (.iastore, 1) := by decide +kernel
theorem dX4_house_56 : decode cX4_house 56 = .ok (.iload 5, 2) := by decide +kernel
theorem dX4_house_58 : decode cX4_house 58 = .ok (.ireturn, 1) := by decide +kernel
theorem dX4_houseOf_0 : decode cX4_houseOf 0 = .ok (.iload_n 1, 1) := by decide +kernel
theorem dX4_houseOf_1 : decode cX4_houseOf 1 = .ok (.invokestatic 51, 3) := by decide +kernel
theorem dX4_houseOf_4 : decode cX4_houseOf 4 = .ok (.ifCond .eq 12, 3) := by decide +kernel
theorem dX4_houseOf_7 : decode cX4_houseOf 7 = .ok (.iload_n 2, 1) := by decide +kernel
theorem dX4_houseOf_8 : decode cX4_houseOf 8 = .ok (.iconst 0, 1) := by decide +kernel
theorem dX4_houseOf_9 : decode cX4_houseOf 9 = .ok (.iconst 3, 1) := by decide +kernel
theorem dX4_houseOf_10 : decode cX4_houseOf 10 = .ok (.invokestatic 55, 3) := by decide +kernel
theorem dX4_houseOf_13 : decode cX4_houseOf 13 = .ok (.ifCond .ne 10, 3) := by decide +kernel
theorem dX4_houseOf_16 : decode cX4_houseOf 16 = .ok (.aload_n 0, 1) := by decide +kernel
theorem dX4_houseOf_17 : decode cX4_houseOf 17 = .ok (.ldc 63, 2) := by decide +kernel
theorem dX4_houseOf_19 : decode cX4_houseOf 19 = .ok (.invokevirtual 64, 3) := by decide +kernel
theorem dX4_houseOf_22 : decode cX4_houseOf 22 = .ok (.ireturn, 1) := by decide +kernel
theorem dX4_houseOf_23 : decode cX4_houseOf 23 = .ok (.iload_n 2, 1) := by decide +kernel
theorem dX4_houseOf_24 : decode cX4_houseOf 24 = .ok (.iconst 3, 1) := by decide +kernel
theorem dX4_houseOf_25 : decode cX4_houseOf 25 = .ok (.if_icmp .ne 14, 3) := by decide +kernel
theorem dX4_houseOf_28 : decode cX4_houseOf 28 = .ok (.aload_n 0, 1) := by decide +kernel
theorem dX4_houseOf_29 : decode cX4_houseOf 29 = .ok (.getfield 10, 3) := by decide +kernel
theorem dX4_houseOf_32 : decode cX4_houseOf 32 = .ok (.iload_n 1, 1) := by decide +kernel
theorem dX4_houseOf_33 : decode cX4_houseOf 33 = .ok (.invokevirtual 71, 3) := by decide +kernel
theorem dX4_houseOf_36 : decode cX4_houseOf 36 = .ok (.goto 13, 3) := by decide +kernel
theorem dX4_houseOf_39 : decode cX4_houseOf 39 = .ok (.aload_n 0, 1) := by decide +kernel
theorem dX4_houseOf_40 : decode cX4_houseOf 40 = .ok (.getfield 10, 3) := by decide +kernel
theorem dX4_houseOf_43 : decode cX4_houseOf 43 = .ok (.iload_n 2, 1) := by decide +kernel
theorem dX4_houseOf_44 : decode cX4_houseOf 44 = .ok (.invokevirtual 67, 3) := by decide +kernel
theorem dX4_houseOf_47 : decode cX4_houseOf 47 = .ok (.iload_n 1, 1) := by decide +kernel
theorem dX4_houseOf_48 : decode cX4_houseOf 48 = .ok (.iaload, 1) := by decide +kernel
theorem dX4_houseOf_49 : decode cX4_houseOf 49 = .ok (.ireturn, 1) := by decide +kernel
theorem dX4_dry_0 : decode cX4_dry 0 = .ok (.iload_n 1, 1) := by decide +kernel
theorem dX4_dry_1 : decode cX4_dry 1 = .ok (.iconst 0, 1) := by decide +kernel
theorem dX4_dry_2 : decode cX4_dry 2 = .ok (.bipush 9, 2) := by decide +kernel
theorem dX4_dry_4 : decode cX4_dry 4 = .ok (.invokestatic 55, 3) := by decide +kernel
theorem dX4_dry_7 : decode cX4_dry 7 = .ok (.ifCond .ne 10, 3) := by decide +kernel
theorem dX4_dry_10 : decode cX4_dry 10 = .ok (.aload_n 0, 1) := by decide +kernel
theorem dX4_dry_11 : decode cX4_dry 11 = .ok (.ldc 63, 2) := by decide +kernel
theorem dX4_dry_13 : decode cX4_dry 13 = .ok (.invokevirtual 64, 3) := by decide +kernel
theorem dX4_dry_16 : decode cX4_dry 16 = .ok (.ireturn, 1) := by decide +kernel
theorem dX4_dry_17 : decode cX4_dry 17 = .ok (.aload_n 0, 1) := by decide +kernel
theorem dX4_dry_18 : decode cX4_dry 18 = .ok (.getfield 10, 3) := by decide +kernel
theorem dX4_dry_21 : decode cX4_dry 21 = .ok (.getfield 74, 3) := by decide +kernel
theorem dX4_dry_24 : decode cX4_dry 24 = .ok (.istore_n 2, 1) := by decide +kernel
theorem dX4_dry_25 : decode cX4_dry 25 = .ok (.aload_n 0, 1) := by decide +kernel
theorem dX4_dry_26 : decode cX4_dry 26 = .ok (.getfield 10, 3) := by decide +kernel
theorem dX4_dry_29 : decode cX4_dry 29 = .ok (.iload_n 1, 1) := by decide +kernel
theorem dX4_dry_30 : decode cX4_dry 30 = .ok (.putfield 74, 3) := by decide +kernel
theorem dX4_dry_33 : decode cX4_dry 33 = .ok (.iload_n 2, 1) := by decide +kernel
theorem dX4_dry_34 : decode cX4_dry 34 = .ok (.ireturn, 1) := by decide +kernel
theorem dX4_now_0 : decode cX4_now 0 = .ok (.iload_n 1, 1) := by decide +kernel
theorem dX4_now_1 : decode cX4_now 1 = .ok (.tableswitch 99 0 6 #[43, 51, 59, 67, 75, 83, 91], 43) := by decide +kernel
theorem dX4_now_44 : decode cX4_now 44 = .ok (.aload_n 0, 1) := by decide +kernel
theorem dX4_now_45 : decode cX4_now 45 = .ok (.getfield 10, 3) := by decide +kernel
theorem dX4_now_48 : decode cX4_now 48 = .ok (.getfield 78, 3) := by decide +kernel
theorem dX4_now_51 : decode cX4_now 51 = .ok (.ireturn, 1) := by decide +kernel
theorem dX4_now_52 : decode cX4_now 52 = .ok (.aload_n 0, 1) := by decide +kernel
theorem dX4_now_53 : decode cX4_now 53 = .ok (.getfield 10, 3) := by decide +kernel
theorem dX4_now_56 : decode cX4_now 56 = .ok (.getfield 74, 3) := by decide +kernel
theorem dX4_now_59 : decode cX4_now 59 = .ok (.ireturn, 1) := by decide +kernel
theorem dX4_now_60 : decode cX4_now 60 = .ok (.aload_n 0, 1) := by decide +kernel
theorem dX4_now_61 : decode cX4_now 61 = .ok (.getfield 10, 3) := by decide +kernel
theorem dX4_now_64 : decode cX4_now 64 = .ok (.invokevirtual 81, 3) := by decide +kernel
theorem dX4_now_67 : decode cX4_now 67 = .ok (.ireturn, 1) := by decide +kernel
theorem dX4_now_68 : decode cX4_now 68 = .ok (.aload_n 0, 1) := by decide +kernel
theorem dX4_now_69 : decode cX4_now 69 = .ok (.getfield 10, 3) := by decide +kernel
theorem dX4_now_72 : decode cX4_now 72 = .ok (.invokevirtual 85, 3) := by decide +kernel
theorem dX4_now_75 : decode cX4_now 75 = .ok (.ireturn, 1) := by decide +kernel
theorem dX4_now_76 : decode cX4_now 76 = .ok (.aload_n 0, 1) := by decide +kernel
theorem dX4_now_77 : decode cX4_now 77 = .ok (.getfield 10, 3) := by decide +kernel
theorem dX4_now_80 : decode cX4_now 80 = .ok (.invokevirtual 88, 3) := by decide +kernel
theorem dX4_now_83 : decode cX4_now 83 = .ok (.ireturn, 1) := by decide +kernel
theorem dX4_now_84 : decode cX4_now 84 = .ok (.aload_n 0, 1) := by decide +kernel
theorem dX4_now_85 : decode cX4_now 85 = .ok (.getfield 10, 3) := by decide +kernel
theorem dX4_now_88 : decode cX4_now 88 = .ok (.invokevirtual 91, 3) := by decide +kernel
theorem dX4_now_91 : decode cX4_now 91 = .ok (.ireturn, 1) := by decide +kernel
theorem dX4_now_92 : decode cX4_now 92 = .ok (.aload_n 0, 1) := by decide +kernel
theorem dX4_now_93 : decode cX4_now 93 = .ok (.getfield 10, 3) := by decide +kernel
theorem dX4_now_96 : decode cX4_now 96 = .ok (.invokevirtual 94, 3) := by decide +kernel
theorem dX4_now_99 : decode cX4_now 99 = .ok (.ireturn, 1) := by decide +kernel
theorem dX4_now_100 : decode cX4_now 100 = .ok (.aload_n 0, 1) := by decide +kernel
theorem dX4_now_101 : decode cX4_now 101 = .ok (.ldc 63, 2) := by decide +kernel
theorem dX4_now_103 : decode cX4_now 103 = .ok (.invokevirtual 64, 3) := by decide +kernel
theorem dX4_now_106 : decode cX4_now 106 = .ok (.ireturn, 1) := by decide +kernel
theorem dX4_sneezer_0 : decode cX4_sneezer 0 = .ok (.iload_n 1, 1) := by decide +kernel
theorem dX4_sneezer_1 : decode cX4_sneezer 1 = .ok (.invokestatic 97, 3) := by decide +kernel
theorem dX4_sneezer_4 : decode cX4_sneezer 4 = .ok (.ifCond .eq 10, 3) := by decide +kernel
theorem dX4_sneezer_7 : decode cX4_sneezer 7 = .ok (.iload_n 2, 1) := by decide +kernel
theorem dX4_sneezer_8 : decode cX4_sneezer 8 = .ok (.invokestatic 51, 3) := by decide +kernel
theorem dX4_sneezer_11 : decode cX4_sneezer 11 = .ok (.ifCond .ne 10, 3) := by decide +kernel
theorem dX4_sneezer_14 : decode cX4_sneezer 14 = .ok (.aload_n 0, 1) := by decide +kernel
theorem dX4_sneezer_15 : decode cX4_sneezer 15 = .ok (.ldc 63, 2) := by decide +kernel
theorem dX4_sneezer_17 : decode cX4_sneezer 17 = .ok (.invokevirtual 64, 3) := by decide +kernel
theorem dX4_sneezer_20 : decode cX4_sneezer 20 = .ok (.ireturn, 1) := by decide +kernel
theorem dX4_sneezer_21 : decode cX4_sneezer 21 = .ok (.aload_n 0, 1) := by decide +kernel
theorem dX4_sneezer_22 : decode cX4_sneezer 22 = .ok (.getfield 10, 3) := by decide +kernel
theorem dX4_sneezer_25 : decode cX4_sneezer 25 = .ok (.getfield 100, 3) := by decide +kernel
theorem dX4_sneezer_28 : decode cX4_sneezer 28 = .ok (.bipush 8, 2) := by decide +kernel
theorem dX4_sneezer_30 : decode cX4_sneezer 30 = .ok (.if_icmp .lt 10, 3) := by decide +kernel
theorem dX4_sneezer_33 : decode cX4_sneezer 33 = .ok (.aload_n 0, 1) := by decide +kernel
theorem dX4_sneezer_34 : decode cX4_sneezer 34 = .ok (.ldc 103, 2) := by decide +kernel
theorem dX4_sneezer_36 : decode cX4_sneezer 36 = .ok (.invokevirtual 64, 3) := by decide +kernel
theorem dX4_sneezer_39 : decode cX4_sneezer 39 = .ok (.ireturn, 1) := by decide +kernel
theorem dX4_sneezer_40 : decode cX4_sneezer 40 = .ok (.aload_n 0, 1) := by decide +kernel
theorem dX4_sneezer_41 : decode cX4_sneezer 41 = .ok (.getfield 10, 3) := by decide +kernel
theorem dX4_sneezer_44 : decode cX4_sneezer 44 = .ok (.iload_n 1, 1) := by decide +kernel
theorem dX4_sneezer_45 : decode cX4_sneezer 45 = .ok (.iload_n 2, 1) := by decide +kernel
theorem dX4_sneezer_46 : decode cX4_sneezer 46 = .ok (.invokevirtual 104, 3) := by decide +kernel
theorem dX4_sneezer_49 : decode cX4_sneezer 49 = .ok (.ireturn, 1) := by decide +kernel
theorem dX4_of_0 : decode cX4_of 0 = .ok (.aload_n 0, 1) := by decide +kernel
theorem dX4_of_1 : decode cX4_of 1 = .ok (.iload_n 1, 1) := by decide +kernel
theorem dX4_of_2 : decode cX4_of 2 = .ok (.invokevirtual 108, 3) := by decide +kernel
theorem dX4_of_5 : decode cX4_of 5 = .ok (.ifCond .ne 10, 3) := by decide +kernel
theorem dX4_of_8 : decode cX4_of 8 = .ok (.aload_n 0, 1) := by decide +kernel
theorem dX4_of_9 : decode cX4_of 9 = .ok (.ldc 63, 2) := by decide +kernel
theorem dX4_of_11 : decode cX4_of 11 = .ok (.invokevirtual 64, 3) := by decide +kernel
theorem dX4_of_14 : decode cX4_of 14 = .ok (.ireturn, 1) := by decide +kernel
theorem dX4_of_15 : decode cX4_of 15 = .ok (.iload_n 2, 1) := by decide +kernel
theorem dX4_of_16 : decode cX4_of 16 = .ok (.tableswitch 152 0 9 #[56, 66, 76, 86, 96, 106, 116, 125, 134, 143], 56) := by decide +kernel
theorem dX4_of_72 : decode cX4_of 72 = .ok (.aload_n 0, 1) := by decide +kernel
theorem dX4_of_73 : decode cX4_of 73 = .ok (.getfield 10, 3) := by decide +kernel
theorem dX4_of_76 : decode cX4_of 76 = .ok (.getfield 111, 3) := by decide +kernel
theorem dX4_of_79 : decode cX4_of 79 = .ok (.iload_n 1, 1) := by decide +kernel
theorem dX4_of_80 : decode cX4_of 80 = .ok (.iaload, 1) := by decide +kernel
theorem dX4_of_81 : decode cX4_of 81 = .ok (.ireturn, 1) := by decide +kernel
theorem dX4_of_82 : decode cX4_of 82 = .ok (.aload_n 0, 1) := by decide +kernel
theorem dX4_of_83 : decode cX4_of 83 = .ok (.getfield 10, 3) := by decide +kernel
theorem dX4_of_86 : decode cX4_of 86 = .ok (.getfield 114, 3) := by decide +kernel
theorem dX4_of_89 : decode cX4_of 89 = .ok (.iload_n 1, 1) := by decide +kernel
theorem dX4_of_90 : decode cX4_of 90 = .ok (.iaload, 1) := by decide +kernel
theorem dX4_of_91 : decode cX4_of 91 = .ok (.ireturn, 1) := by decide +kernel
theorem dX4_of_92 : decode cX4_of 92 = .ok (.aload_n 0, 1) := by decide +kernel
theorem dX4_of_93 : decode cX4_of 93 = .ok (.getfield 10, 3) := by decide +kernel
theorem dX4_of_96 : decode cX4_of 96 = .ok (.getfield 117, 3) := by decide +kernel
theorem dX4_of_99 : decode cX4_of 99 = .ok (.iload_n 1, 1) := by decide +kernel
theorem dX4_of_100 : decode cX4_of 100 = .ok (.iaload, 1) := by decide +kernel
theorem dX4_of_101 : decode cX4_of 101 = .ok (.ireturn, 1) := by decide +kernel
theorem dX4_of_102 : decode cX4_of 102 = .ok (.aload_n 0, 1) := by decide +kernel
theorem dX4_of_103 : decode cX4_of 103 = .ok (.getfield 10, 3) := by decide +kernel
theorem dX4_of_106 : decode cX4_of 106 = .ok (.getfield 120, 3) := by decide +kernel
theorem dX4_of_109 : decode cX4_of 109 = .ok (.iload_n 1, 1) := by decide +kernel
theorem dX4_of_110 : decode cX4_of 110 = .ok (.iaload, 1) := by decide +kernel
theorem dX4_of_111 : decode cX4_of 111 = .ok (.ireturn, 1) := by decide +kernel
theorem dX4_of_112 : decode cX4_of 112 = .ok (.aload_n 0, 1) := by decide +kernel
theorem dX4_of_113 : decode cX4_of 113 = .ok (.getfield 10, 3) := by decide +kernel
theorem dX4_of_116 : decode cX4_of 116 = .ok (.getfield 123, 3) := by decide +kernel
theorem dX4_of_119 : decode cX4_of 119 = .ok (.iload_n 1, 1) := by decide +kernel
theorem dX4_of_120 : decode cX4_of 120 = .ok (.iaload, 1) := by decide +kernel
theorem dX4_of_121 : decode cX4_of 121 = .ok (.ireturn, 1) := by decide +kernel
theorem dX4_of_122 : decode cX4_of 122 = .ok (.aload_n 0, 1) := by decide +kernel
theorem dX4_of_123 : decode cX4_of 123 = .ok (.getfield 10, 3) := by decide +kernel
theorem dX4_of_126 : decode cX4_of 126 = .ok (.getfield 126, 3) := by decide +kernel
theorem dX4_of_129 : decode cX4_of 129 = .ok (.iload_n 1, 1) := by decide +kernel
theorem dX4_of_130 : decode cX4_of 130 = .ok (.iaload, 1) := by decide +kernel
theorem dX4_of_131 : decode cX4_of 131 = .ok (.ireturn, 1) := by decide +kernel
theorem dX4_of_132 : decode cX4_of 132 = .ok (.aload_n 0, 1) := by decide +kernel
theorem dX4_of_133 : decode cX4_of 133 = .ok (.getfield 10, 3) := by decide +kernel
theorem dX4_of_136 : decode cX4_of 136 = .ok (.iload_n 1, 1) := by decide +kernel
theorem dX4_of_137 : decode cX4_of 137 = .ok (.invokevirtual 129, 3) := by decide +kernel
theorem dX4_of_140 : decode cX4_of 140 = .ok (.ireturn, 1) := by decide +kernel
theorem dX4_of_141 : decode cX4_of 141 = .ok (.aload_n 0, 1) := by decide +kernel
theorem dX4_of_142 : decode cX4_of 142 = .ok (.getfield 10, 3) := by decide +kernel
theorem dX4_of_145 : decode cX4_of 145 = .ok (.iload_n 1, 1) := by decide +kernel
theorem dX4_of_146 : decode cX4_of 146 = .ok (.invokevirtual 132, 3) := by decide +kernel
theorem dX4_of_149 : decode cX4_of 149 = .ok (.ireturn, 1) := by decide +kernel
theorem dX4_of_150 : decode cX4_of 150 = .ok (.aload_n 0, 1) := by decide +kernel
theorem dX4_of_151 : decode cX4_of 151 = .ok (.getfield 10, 3) := by decide +kernel
theorem dX4_of_154 : decode cX4_of 154 = .ok (.iload_n 1, 1) := by decide +kernel
theorem dX4_of_155 : decode cX4_of 155 = .ok (.invokevirtual 135, 3) := by decide +kernel
theorem dX4_of_158 : decode cX4_of 158 = .ok (.ireturn, 1) := by decide +kernel
theorem dX4_of_159 : decode cX4_of 159 = .ok (.aload_n 0, 1) := by decide +kernel
theorem dX4_of_160 : decode cX4_of 160 = .ok (.getfield 10, 3) := by decide +kernel
theorem dX4_of_163 : decode cX4_of 163 = .ok (.iload_n 1, 1) := by decide +kernel
theorem dX4_of_164 : decode cX4_of 164 = .ok (.invokevirtual 138, 3) := by decide +kernel
theorem dX4_of_167 : decode cX4_of 167 = .ok (.ireturn, 1) := by decide +kernel
theorem dX4_of_168 : decode cX4_of 168 = .ok (.aload_n 0, 1) := by decide +kernel
theorem dX4_of_169 : decode cX4_of 169 = .ok (.ldc 63, 2) := by decide +kernel
theorem dX4_of_171 : decode cX4_of 171 = .ok (.invokevirtual 64, 3) := by decide +kernel
theorem dX4_of_174 : decode cX4_of 174 = .ok (.ireturn, 1) := by decide +kernel
theorem dX4_set_0 : decode cX4_set 0 = .ok (.aload_n 0, 1) := by decide +kernel
theorem dX4_set_1 : decode cX4_set 1 = .ok (.iload_n 1, 1) := by decide +kernel
theorem dX4_set_2 : decode cX4_set 2 = .ok (.invokevirtual 108, 3) := by decide +kernel
theorem dX4_set_5 : decode cX4_set 5 = .ok (.ifCond .eq 24, 3) := by decide +kernel
theorem dX4_set_8 : decode cX4_set 8 = .ok (.iload_n 2, 1) := by decide +kernel
theorem dX4_set_9 : decode cX4_set 9 = .ok (.iconst 1, 1) := by decide +kernel
theorem dX4_set_10 : decode cX4_set 10 = .ok (.iconst 5, 1) := by decide +kernel
theorem dX4_set_11 : decode cX4_set 11 = .ok (.invokestatic 55, 3) := by decide +kernel
theorem dX4_set_14 : decode cX4_set 14 = .ok (.ifCond .eq 15, 3) := by decide +kernel
theorem dX4_set_17 : decode cX4_set 17 = .ok (.iload_n 3, 1) := by decide +kernel
theorem dX4_set_18 : decode cX4_set 18 = .ok (.iconst 0, 1) := by decide +kernel
theorem dX4_set_19 : decode cX4_set 19 = .ok (.iload_n 2, 1) := by decide +kernel
theorem dX4_set_20 : decode cX4_set 20 = .ok (.invokestatic 141, 3) := by decide +kernel
theorem dX4_set_23 : decode cX4_set 23 = .ok (.invokestatic 55, 3) := by decide +kernel
theorem dX4_set_26 : decode cX4_set 26 = .ok (.ifCond .ne 10, 3) := by decide +kernel
theorem dX4_set_29 : decode cX4_set 29 = .ok (.aload_n 0, 1) := by decide +kernel
theorem dX4_set_30 : decode cX4_set 30 = .ok (.ldc 63, 2) := by decide +kernel
theorem dX4_set_32 : decode cX4_set 32 = .ok (.invokevirtual 64, 3) := by decide +kernel
theorem dX4_set_35 : decode cX4_set 35 = .ok (.ireturn, 1) := by decide +kernel
theorem dX4_set_36 : decode cX4_set 36 = .ok (.aload_n 0, 1) := by decide +kernel
theorem dX4_set_37 : decode cX4_set 37 = .ok (.getfield 10, 3) := by decide +kernel
theorem dX4_set_40 : decode cX4_set 40 = .ok (.iload_n 2, 1) := by decide +kernel
theorem dX4_set_41 : decode cX4_set 41 = .ok (.invokevirtual 144, 3) := by decide +kernel
theorem dX4_set_44 : decode cX4_set 44 = .ok (.astore 4, 2) := by decide +kernel
theorem dX4_set_46 : decode cX4_set 46 = .ok (.aload 4, 2) := by decide +kernel
theorem dX4_set_48 : decode cX4_set 48 = .ok (.iload_n 1, 1) := by decide +kernel
theorem dX4_set_49 : decode cX4_set 49 = .ok (.iaload, 1) := by decide +kernel
theorem dX4_set_50 : decode cX4_set 50 = .ok (.istore 5, 2) := by decide +kernel
theorem dX4_set_52 : decode cX4_set 52 = .ok (.aload 4, 2) := by decide +kernel
theorem dX4_set_54 : decode cX4_set 54 = .ok (.iload_n 1, 1) := by decide +kernel
theorem dX4_set_55 : decode cX4_set 55 = .ok (.iload_n 3, 1) := by decide +kernel
theorem dX4_set_56 : decode cX4_set 56 = .ok (.iastore, 1) := by decide +kernel
theorem dX4_set_57 : decode cX4_set 57 = .ok (.iload 5, 2) := by decide +kernel
theorem dX4_set_59 : decode cX4_set 59 = .ok (.ireturn, 1) := by decide +kernel
theorem dX4_turn_0 : decode cX4_turn 0 = .ok (.aload_n 0, 1) := by decide +kernel
theorem dX4_turn_1 : decode cX4_turn 1 = .ok (.iload_n 1, 1) := by decide +kernel
theorem dX4_turn_2 : decode cX4_turn 2 = .ok (.invokevirtual 108, 3) := by decide +kernel
theorem dX4_turn_5 : decode cX4_turn 5 = .ok (.ifCond .eq 10, 3) := by decide +kernel
theorem dX4_turn_8 : decode cX4_turn 8 = .ok (.iload_n 2, 1) := by decide +kernel
theorem dX4_turn_9 : decode cX4_turn 9 = .ok (.invokestatic 97, 3) := by decide +kernel
theorem dX4_turn_12 : decode cX4_turn 12 = .ok (.ifCond .ne 10, 3) := by decide +kernel
theorem dX4_turn_15 : decode cX4_turn 15 = .ok (.aload_n 0, 1) := by decide +kernel
theorem dX4_turn_16 : decode cX4_turn 16 = .ok (.ldc 63, 2) := by decide +kernel
theorem dX4_turn_18 : decode cX4_turn 18 = .ok (.invokevirtual 64, 3) := by decide +kernel
theorem dX4_turn_21 : decode cX4_turn 21 = .ok (.ireturn, 1) := by decide +kernel
theorem dX4_turn_22 : decode cX4_turn 22 = .ok (.aload_n 0, 1) := by decide +kernel
theorem dX4_turn_23 : decode cX4_turn 23 = .ok (.getfield 10, 3) := by decide +kernel
theorem dX4_turn_26 : decode cX4_turn 26 = .ok (.getfield 111, 3) := by decide +kernel
theorem dX4_turn_29 : decode cX4_turn 29 = .ok (.iload_n 1, 1) := by decide +kernel
theorem dX4_turn_30 : decode cX4_turn 30 = .ok (.iaload, 1) := by decide +kernel
theorem dX4_turn_31 : decode cX4_turn 31 = .ok (.istore_n 3, 1) := by decide +kernel
theorem dX4_turn_32 : decode cX4_turn 32 = .ok (.aload_n 0, 1) := by decide +kernel
theorem dX4_turn_33 : decode cX4_turn 33 = .ok (.getfield 10, 3) := by decide +kernel
theorem dX4_turn_36 : decode cX4_turn 36 = .ok (.getfield 111, 3) := by decide +kernel
theorem dX4_turn_39 : decode cX4_turn 39 = .ok (.iload_n 1, 1) := by decide +kernel
theorem dX4_turn_40 : decode cX4_turn 40 = .ok (.iload_n 2, 1) := by decide +kernel
theorem dX4_turn_41 : decode cX4_turn 41 = .ok (.iastore, 1) := by decide +kernel
theorem dX4_turn_42 : decode cX4_turn 42 = .ok (.iload_n 3, 1) := by decide +kernel
theorem dX4_turn_43 : decode cX4_turn 43 = .ok (.ireturn, 1) := by decide +kernel
theorem dX4_as_0 : decode cX4_as 0 = .ok (.aload_n 0, 1) := by decide +kernel
theorem dX4_as_1 : decode cX4_as 1 = .ok (.iload_n 1, 1) := by decide +kernel
theorem dX4_as_2 : decode cX4_as 2 = .ok (.invokevirtual 108, 3) := by decide +kernel
theorem dX4_as_5 : decode cX4_as 5 = .ok (.ifCond .eq 10, 3) := by decide +kernel
theorem dX4_as_8 : decode cX4_as 8 = .ok (.iload_n 2, 1) := by decide +kernel
theorem dX4_as_9 : decode cX4_as 9 = .ok (.invokestatic 97, 3) := by decide +kernel
theorem dX4_as_12 : decode cX4_as 12 = .ok (.ifCond .ne 10, 3) := by decide +kernel
theorem dX4_as_15 : decode cX4_as 15 = .ok (.aload_n 0, 1) := by decide +kernel
theorem dX4_as_16 : decode cX4_as 16 = .ok (.ldc 63, 2) := by decide +kernel
theorem dX4_as_18 : decode cX4_as 18 = .ok (.invokevirtual 64, 3) := by decide +kernel
theorem dX4_as_21 : decode cX4_as 21 = .ok (.ireturn, 1) := by decide +kernel
theorem dX4_as_22 : decode cX4_as 22 = .ok (.aload_n 0, 1) := by decide +kernel
theorem dX4_as_23 : decode cX4_as 23 = .ok (.getfield 10, 3) := by decide +kernel
theorem dX4_as_26 : decode cX4_as 26 = .ok (.getfield 111, 3) := by decide +kernel
theorem dX4_as_29 : decode cX4_as 29 = .ok (.iload_n 1, 1) := by decide +kernel
theorem dX4_as_30 : decode cX4_as 30 = .ok (.iaload, 1) := by decide +kernel
theorem dX4_as_31 : decode cX4_as 31 = .ok (.iload_n 2, 1) := by decide +kernel
theorem dX4_as_32 : decode cX4_as 32 = .ok (.invokestatic 147, 3) := by decide +kernel
theorem dX4_as_35 : decode cX4_as 35 = .ok (.ifCond .ne 10, 3) := by decide +kernel
theorem dX4_as_38 : decode cX4_as 38 = .ok (.aload_n 0, 1) := by decide +kernel
theorem dX4_as_39 : decode cX4_as 39 = .ok (.ldc 151, 2) := by decide +kernel
theorem dX4_as_41 : decode cX4_as 41 = .ok (.invokevirtual 64, 3) := by decide +kernel
theorem dX4_as_44 : decode cX4_as 44 = .ok (.ireturn, 1) := by decide +kernel
theorem dX4_as_45 : decode cX4_as 45 = .ok (.aload_n 0, 1) := by decide +kernel
theorem dX4_as_46 : decode cX4_as 46 = .ok (.getfield 10, 3) := by decide +kernel
theorem dX4_as_49 : decode cX4_as 49 = .ok (.getfield 120, 3) := by decide +kernel
theorem dX4_as_52 : decode cX4_as 52 = .ok (.iload_n 1, 1) := by decide +kernel
theorem dX4_as_53 : decode cX4_as 53 = .ok (.iaload, 1) := by decide +kernel
theorem dX4_as_54 : decode cX4_as 54 = .ok (.ireturn, 1) := by decide +kernel
theorem dX4_minutes_0 : decode cX4_minutes 0 = .ok (.iload_n 1, 1) := by decide +kernel
theorem dX4_minutes_1 : decode cX4_minutes 1 = .ok (.iconst 1, 1) := by decide +kernel
theorem dX4_minutes_2 : decode cX4_minutes 2 = .ok (.bipush 100, 2) := by decide +kernel
theorem dX4_minutes_4 : decode cX4_minutes 4 = .ok (.invokestatic 55, 3) := by decide +kernel
theorem dX4_minutes_7 : decode cX4_minutes 7 = .ok (.ifCond .ne 10, 3) := by decide +kernel
theorem dX4_minutes_10 : decode cX4_minutes 10 = .ok (.aload_n 0, 1) := by decide +kernel
theorem dX4_minutes_11 : decode cX4_minutes 11 = .ok (.ldc 63, 2) := by decide +kernel
theorem dX4_minutes_13 : decode cX4_minutes 13 = .ok (.invokevirtual 64, 3) := by decide +kernel
theorem dX4_minutes_16 : decode cX4_minutes 16 = .ok (.ireturn, 1) := by decide +kernel
theorem dX4_minutes_17 : decode cX4_minutes 17 = .ok (.aload_n 0, 1) := by decide +kernel
theorem dX4_minutes_18 : decode cX4_minutes 18 = .ok (.getfield 10, 3) := by decide +kernel
theorem dX4_minutes_21 : decode cX4_minutes 21 = .ok (.getfield 78, 3) := by decide +kernel
theorem dX4_minutes_24 : decode cX4_minutes 24 = .ok (.ldc 152, 2) := by decide +kernel
theorem dX4_minutes_26 : decode cX4_minutes 26 = .ok (.iload_n 1, 1) := by decide +kernel
theorem dX4_minutes_27 : decode cX4_minutes 27 = .ok (.isub, 1) := by decide +kernel
theorem dX4_minutes_28 : decode cX4_minutes 28 = .ok (.if_icmp .le 10, 3) := by decide +kernel
theorem dX4_minutes_31 : decode cX4_minutes 31 = .ok (.aload_n 0, 1) := by decide +kernel
theorem dX4_minutes_32 : decode cX4_minutes 32 = .ok (.ldc 153, 2) := by decide +kernel
theorem dX4_minutes_34 : decode cX4_minutes 34 = .ok (.invokevirtual 64, 3) := by decide +kernel
theorem dX4_minutes_37 : decode cX4_minutes 37 = .ok (.ireturn, 1) := by decide +kernel
theorem dX4_minutes_38 : decode cX4_minutes 38 = .ok (.aload_n 0, 1) := by decide +kernel
theorem dX4_minutes_39 : decode cX4_minutes 39 = .ok (.getfield 10, 3) := by decide +kernel
theorem dX4_minutes_42 : decode cX4_minutes 42 = .ok (.iload_n 1, 1) := by decide +kernel
theorem dX4_minutes_43 : decode cX4_minutes 43 = .ok (.invokevirtual 154, 3) := by decide +kernel
theorem dX4_minutes_46 : decode cX4_minutes 46 = .ok (.aload_n 0, 1) := by decide +kernel
theorem dX4_minutes_47 : decode cX4_minutes 47 = .ok (.getfield 10, 3) := by decide +kernel
theorem dX4_minutes_50 : decode cX4_minutes 50 = .ok (.invokevirtual 81, 3) := by decide +kernel
theorem dX4_minutes_53 : decode cX4_minutes 53 = .ok (.ireturn, 1) := by decide +kernel
theorem dX4_on_0 : decode cX4_on 0 = .ok (.aload_n 0, 1) := by decide +kernel
theorem dX4_on_1 : decode cX4_on 1 = .ok (.iload_n 1, 1) := by decide +kernel
theorem dX4_on_2 : decode cX4_on 2 = .ok (.invokevirtual 108, 3) := by decide +kernel
theorem dX4_on_5 : decode cX4_on 5 = .ok (.ifCond .eq 23, 3) := by decide +kernel
theorem dX4_on_8 : decode cX4_on 8 = .ok (.iload_n 2, 1) := by decide +kernel
theorem dX4_on_9 : decode cX4_on 9 = .ok (.iconst 0, 1) := by decide +kernel
theorem dX4_on_10 : decode cX4_on 10 = .ok (.sipush 200, 3) := by decide +kernel
theorem dX4_on_13 : decode cX4_on 13 = .ok (.invokestatic 55, 3) := by decide +kernel
theorem dX4_on_16 : decode cX4_on 16 = .ok (.ifCond .eq 12, 3) := by decide +kernel
theorem dX4_on_19 : decode cX4_on 19 = .ok (.iload_n 3, 1) := by decide +kernel
theorem dX4_on_20 : decode cX4_on 20 = .ok (.iconst 0, 1) := by decide +kernel
theorem dX4_on_21 : decode cX4_on 21 = .ok (.iconst 2, 1) := by decide +kernel
theorem dX4_on_22 : decode cX4_on 22 = .ok (.invokestatic 55, 3) := by decide +kernel
theorem dX4_on_25 : decode cX4_on 25 = .ok (.ifCond .ne 10, 3) := by decide +kernel
theorem dX4_on_28 : decode cX4_on 28 = .ok (.aload_n 0, 1) := by decide +kernel
theorem dX4_on_29 : decode cX4_on 29 = .ok (.ldc 63, 2) := by decide +kernel
theorem dX4_on_31 : decode cX4_on 31 = .ok (.invokevirtual 64, 3) := by decide +kernel
theorem dX4_on_34 : decode cX4_on 34 = .ok (.ireturn, 1) := by decide +kernel
theorem dX4_on_35 : decode cX4_on 35 = .ok (.aload_n 0, 1) := by decide +kernel
theorem dX4_on_36 : decode cX4_on 36 = .ok (.invokevirtual 158, 3) := by decide +kernel
theorem dX4_on_39 : decode cX4_on 39 = .ok (.aload_n 0, 1) := by decide +kernel
theorem dX4_on_40 : decode cX4_on 40 = .ok (.getfield 16, 3) := by decide +kernel
theorem dX4_on_43 : decode cX4_on 43 = .ok (.iload_n 2, 1) := by decide +kernel
theorem dX4_on_44 : decode cX4_on 44 = .ok (.invokevirtual 154, 3) := by decide +kernel
theorem dX4_on_47 : decode cX4_on 47 = .ok (.aload_n 0, 1) := by decide +kernel
theorem dX4_on_48 : decode cX4_on 48 = .ok (.getfield 16, 3) := by decide +kernel
theorem dX4_on_51 : decode cX4_on 51 = .ok (.iload_n 3, 1) := by decide +kernel
theorem dX4_on_52 : decode cX4_on 52 = .ok (.iconst 3, 1) := by decide +kernel
theorem dX4_on_53 : decode cX4_on 53 = .ok (.iadd, 1) := by decide +kernel
theorem dX4_on_54 : decode cX4_on 54 = .ok (.invokevirtual 144, 3) := by decide +kernel
theorem dX4_on_57 : decode cX4_on 57 = .ok (.iload_n 1, 1) := by decide +kernel
theorem dX4_on_58 : decode cX4_on 58 = .ok (.iaload, 1) := by decide +kernel
theorem dX4_on_59 : decode cX4_on 59 = .ok (.ireturn, 1) := by decide +kernel
theorem dX4_then_0 : decode cX4_then 0 = .ok (.iload_n 1, 1) := by decide +kernel
theorem dX4_then_1 : decode cX4_then 1 = .ok (.invokestatic 51, 3) := by decide +kernel
theorem dX4_then_4 : decode cX4_then 4 = .ok (.ifCond .eq 23, 3) := by decide +kernel
theorem dX4_then_7 : decode cX4_then 7 = .ok (.iload_n 2, 1) := by decide +kernel
theorem dX4_then_8 : decode cX4_then 8 = .ok (.iconst 0, 1) := by decide +kernel
theorem dX4_then_9 : decode cX4_then 9 = .ok (.sipush 200, 3) := by decide +kernel
theorem dX4_then_12 : decode cX4_then 12 = .ok (.invokestatic 55, 3) := by decide +kernel
theorem dX4_then_15 : decode cX4_then 15 = .ok (.ifCond .eq 12, 3) := by decide +kernel
theorem dX4_then_18 : decode cX4_then 18 = .ok (.iload_n 3, 1) := by decide +kernel
theorem dX4_then_19 : decode cX4_then 19 = .ok (.iconst 0, 1) := by decide +kernel
theorem dX4_then_20 : decode cX4_then 20 = .ok (.iconst 1, 1) := by decide +kernel
theorem dX4_then_21 : decode cX4_then 21 = .ok (.invokestatic 55, 3) := by decide +kernel
theorem dX4_then_24 : decode cX4_then 24 = .ok (.ifCond .ne 10, 3) := by decide +kernel
theorem dX4_then_27 : decode cX4_then 27 = .ok (.aload_n 0, 1) := by decide +kernel
theorem dX4_then_28 : decode cX4_then 28 = .ok (.ldc 63, 2) := by decide +kernel
theorem dX4_then_30 : decode cX4_then 30 = .ok (.invokevirtual 64, 3) := by decide +kernel
theorem dX4_then_33 : decode cX4_then 33 = .ok (.ireturn, 1) := by decide +kernel
theorem dX4_then_34 : decode cX4_then 34 = .ok (.aload_n 0, 1) := by decide +kernel
theorem dX4_then_35 : decode cX4_then 35 = .ok (.invokevirtual 158, 3) := by decide +kernel
theorem dX4_then_38 : decode cX4_then 38 = .ok (.aload_n 0, 1) := by decide +kernel
theorem dX4_then_39 : decode cX4_then 39 = .ok (.getfield 16, 3) := by decide +kernel
theorem dX4_then_42 : decode cX4_then 42 = .ok (.iload_n 2, 1) := by decide +kernel
theorem dX4_then_43 : decode cX4_then 43 = .ok (.invokevirtual 154, 3) := by decide +kernel
theorem dX4_then_46 : decode cX4_then 46 = .ok (.iload_n 3, 1) := by decide +kernel
theorem dX4_then_47 : decode cX4_then 47 = .ok (.ifCond .ne 15, 3) := by decide +kernel
theorem dX4_then_50 : decode cX4_then 50 = .ok (.aload_n 0, 1) := by decide +kernel
theorem dX4_then_51 : decode cX4_then 51 = .ok (.getfield 16, 3) := by decide +kernel
theorem dX4_then_54 : decode cX4_then 54 = .ok (.getfield 161, 3) := by decide +kernel
theorem dX4_then_57 : decode cX4_then 57 = .ok (.iload_n 1, 1) := by decide +kernel
theorem dX4_then_58 : decode cX4_then 58 = .ok (.iaload, 1) := by decide +kernel
theorem dX4_then_59 : decode cX4_then 59 = .ok (.goto 12, 3) := by decide +kernel
theorem dX4_then_62 : decode cX4_then 62 = .ok (.aload_n 0, 1) := by decide +kernel
theorem dX4_then_63 : decode cX4_then 63 = .ok (.getfield 16, 3) := by decide +kernel
theorem dX4_then_66 : decode cX4_then 66 = .ok (.getfield 164, 3) := by decide +kernel
theorem dX4_then_69 : decode cX4_then 69 = .ok (.iload_n 1, 1) := by decide +kernel
theorem dX4_then_70 : decode cX4_then 70 = .ok (.iaload, 1) := by decide +kernel
theorem dX4_then_71 : decode cX4_then 71 = .ok (.ireturn, 1) := by decide +kernel
theorem dX4_lit_0 : decode cX4_lit 0 = .ok (.iload_n 1, 1) := by decide +kernel
theorem dX4_lit_1 : decode cX4_lit 1 = .ok (.invokestatic 51, 3) := by decide +kernel
theorem dX4_lit_4 : decode cX4_lit 4 = .ok (.ifCond .eq 12, 3) := by decide +kernel
theorem dX4_lit_7 : decode cX4_lit 7 = .ok (.iload_n 2, 1) := by decide +kernel
theorem dX4_lit_8 : decode cX4_lit 8 = .ok (.iconst 0, 1) := by decide +kernel
theorem dX4_lit_9 : decode cX4_lit 9 = .ok (.iconst 1, 1) := by decide +kernel
theorem dX4_lit_10 : decode cX4_lit 10 = .ok (.invokestatic 55, 3) := by decide +kernel
theorem dX4_lit_13 : decode cX4_lit 13 = .ok (.ifCond .ne 10, 3) := by decide +kernel
theorem dX4_lit_16 : decode cX4_lit 16 = .ok (.aload_n 0, 1) := by decide +kernel
theorem dX4_lit_17 : decode cX4_lit 17 = .ok (.ldc 63, 2) := by decide +kernel
theorem dX4_lit_19 : decode cX4_lit 19 = .ok (.invokevirtual 64, 3) := by decide +kernel
theorem dX4_lit_22 : decode cX4_lit 22 = .ok (.ireturn, 1) := by decide +kernel
theorem dX4_lit_23 : decode cX4_lit 23 = .ok (.aload_n 0, 1) := by decide +kernel
theorem dX4_lit_24 : decode cX4_lit 24 = .ok (.invokevirtual 158, 3) := by decide +kernel
theorem dX4_lit_27 : decode cX4_lit 27 = .ok (.iconst 0, 1) := by decide +kernel
theorem dX4_lit_28 : decode cX4_lit 28 = .ok (.istore_n 3, 1) := by decide +kernel
theorem dX4_lit_29 : decode cX4_lit 29 = .ok (.iload_n 3, 1) := by decide +kernel
theorem dX4_lit_30 : decode cX4_lit 30 = .ok (.sipush 200, 3) := by decide +kernel
theorem dX4_lit_33 : decode cX4_lit 33 = .ok (.if_icmp .gt 39, 3) := by decide +kernel
theorem dX4_lit_36 : decode cX4_lit 36 = .ok (.aload_n 0, 1) := by decide +kernel
theorem dX4_lit_37 : decode cX4_lit 37 = .ok (.getfield 16, 3) := by decide +kernel
theorem dX4_lit_40 : decode cX4_lit 40 = .ok (.iload_n 1, 1) := by decide +kernel
theorem dX4_lit_41 : decode cX4_lit 41 = .ok (.invokevirtual 167, 3) := by decide +kernel
theorem dX4_lit_44 : decode cX4_lit 44 = .ok (.iload_n 2, 1) := by decide +kernel
theorem dX4_lit_45 : decode cX4_lit 45 = .ok (.iconst 1, 1) := by decide +kernel
theorem dX4_lit_46 : decode cX4_lit 46 = .ok (.if_icmp .ne 7, 3) := by decide +kernel
theorem dX4_lit_49 : decode cX4_lit 49 = .ok (.iconst 1, 1) := by decide +kernel
theorem dX4_lit_50 : decode cX4_lit 50 = .ok (.goto 4, 3) := by decide +kernel
theorem dX4_lit_53 : decode cX4_lit 53 = .ok (.iconst 0, 1) := by decide +kernel
theorem dX4_lit_54 : decode cX4_lit 54 = .ok (.if_icmp .ne 5, 3) := by decide +kernel
theorem dX4_lit_57 : decode cX4_lit 57 = .ok (.iload_n 3, 1) := by decide +kernel
theorem dX4_lit_58 : decode cX4_lit 58 = .ok (.ireturn, 1) := by decide +kernel
theorem dX4_lit_59 : decode cX4_lit 59 = .ok (.aload_n 0, 1) := by decide +kernel
theorem dX4_lit_60 : decode cX4_lit 60 = .ok (.getfield 16, 3) := by decide +kernel
theorem dX4_lit_63 : decode cX4_lit 63 = .ok (.invokevirtual 170, 3) := by decide +kernel
theorem dX4_lit_66 : decode cX4_lit 66 = .ok (.iinc 3 1, 3) := by decide +kernel
theorem dX4_lit_69 : decode cX4_lit 69 = .ok (.goto (-40), 3) := by decide +kernel
theorem dX4_lit_72 : decode cX4_lit 72 = .ok (.aload_n 0, 1) := by decide +kernel
theorem dX4_lit_73 : decode cX4_lit 73 = .ok (.ldc 173, 2) := by decide +kernel
theorem dX4_lit_75 : decode cX4_lit 75 = .ok (.invokevirtual 64, 3) := by decide +kernel
theorem dX4_lit_78 : decode cX4_lit 78 = .ok (.ireturn, 1) := by decide +kernel
theorem dX4_goes_0 : decode cX4_goes 0 = .ok (.aload_n 0, 1) := by decide +kernel
theorem dX4_goes_1 : decode cX4_goes 1 = .ok (.iload_n 1, 1) := by decide +kernel
theorem dX4_goes_2 : decode cX4_goes 2 = .ok (.invokevirtual 108, 3) := by decide +kernel
theorem dX4_goes_5 : decode cX4_goes 5 = .ok (.ifCond .ne 10, 3) := by decide +kernel
theorem dX4_goes_8 : decode cX4_goes 8 = .ok (.aload_n 0, 1) := by decide +kernel
theorem dX4_goes_9 : decode cX4_goes 9 = .ok (.ldc 63, 2) := by decide +kernel
theorem dX4_goes_11 : decode cX4_goes 11 = .ok (.invokevirtual 64, 3) := by decide +kernel
theorem dX4_goes_14 : decode cX4_goes 14 = .ok (.ireturn, 1) := by decide +kernel
theorem dX4_goes_15 : decode cX4_goes 15 = .ok (.aload_n 0, 1) := by decide +kernel
theorem dX4_goes_16 : decode cX4_goes 16 = .ok (.invokevirtual 158, 3) := by decide +kernel
theorem dX4_goes_19 : decode cX4_goes 19 = .ok (.iconst 1, 1) := by decide +kernel
theorem dX4_goes_20 : decode cX4_goes 20 = .ok (.istore_n 2, 1) := by decide +kernel
theorem dX4_goes_21 : decode cX4_goes 21 = .ok (.iload_n 2, 1) := by decide +kernel
theorem dX4_goes_22 : decode cX4_goes 22 = .ok (.sipush 200, 3) := by decide +kernel
theorem dX4_goes_25 : decode cX4_goes 25 = .ok (.if_icmp .gt 32, 3) := by decide +kernel
theorem dX4_goes_28 : decode cX4_goes 28 = .ok (.aload_n 0, 1) := by decide +kernel
theorem dX4_goes_29 : decode cX4_goes 29 = .ok (.getfield 16, 3) := by decide +kernel
theorem dX4_goes_32 : decode cX4_goes 32 = .ok (.invokevirtual 170, 3) := by decide +kernel
theorem dX4_goes_35 : decode cX4_goes 35 = .ok (.aload_n 0, 1) := by decide +kernel
theorem dX4_goes_36 : decode cX4_goes 36 = .ok (.getfield 16, 3) := by decide +kernel
theorem dX4_goes_39 : decode cX4_goes 39 = .ok (.getfield 174, 3) := by decide +kernel
theorem dX4_goes_42 : decode cX4_goes 42 = .ok (.iload_n 1, 1) := by decide +kernel
theorem dX4_goes_43 : decode cX4_goes 43 = .ok (.invokestatic 177, 3) := by decide +kernel
theorem dX4_goes_46 : decode cX4_goes 46 = .ok (.ifCond .eq 5, 3) := by decide +kernel
theorem dX4_goes_49 : decode cX4_goes 49 = .ok (.iload_n 2, 1) := by decide +kernel
theorem dX4_goes_50 : decode cX4_goes 50 = .ok (.ireturn, 1) := by decide +kernel
theorem dX4_goes_51 : decode cX4_goes 51 = .ok (.iinc 2 1, 3) := by decide +kernel
theorem dX4_goes_54 : decode cX4_goes 54 = .ok (.goto (-33), 3) := by decide +kernel
theorem dX4_goes_57 : decode cX4_goes 57 = .ok (.aload_n 0, 1) := by decide +kernel
theorem dX4_goes_58 : decode cX4_goes 58 = .ok (.ldc 173, 2) := by decide +kernel
theorem dX4_goes_60 : decode cX4_goes 60 = .ok (.invokevirtual 64, 3) := by decide +kernel
theorem dX4_goes_63 : decode cX4_goes 63 = .ok (.ireturn, 1) := by decide +kernel
theorem dX4_well_0 : decode cX4_well 0 = .ok (.aload_n 0, 1) := by decide +kernel
theorem dX4_well_1 : decode cX4_well 1 = .ok (.invokevirtual 158, 3) := by decide +kernel
theorem dX4_well_4 : decode cX4_well 4 = .ok (.iconst 0, 1) := by decide +kernel
theorem dX4_well_5 : decode cX4_well 5 = .ok (.istore_n 1, 1) := by decide +kernel
theorem dX4_well_6 : decode cX4_well 6 = .ok (.iload_n 1, 1) := by decide +kernel
theorem dX4_well_7 : decode cX4_well 7 = .ok (.sipush 200, 3) := by decide +kernel
theorem dX4_well_10 : decode cX4_well 10 = .ok (.if_icmp .gt 28, 3) := by decide +kernel
theorem dX4_well_13 : decode cX4_well 13 = .ok (.aload_n 0, 1) := by decide +kernel
theorem dX4_well_14 : decode cX4_well 14 = .ok (.getfield 16, 3) := by decide +kernel
theorem dX4_well_17 : decode cX4_well 17 = .ok (.invokevirtual 91, 3) := by decide +kernel
theorem dX4_well_20 : decode cX4_well 20 = .ok (.ifCond .ne 5, 3) := by decide +kernel
theorem dX4_well_23 : decode cX4_well 23 = .ok (.iload_n 1, 1) := by decide +kernel
theorem dX4_well_24 : decode cX4_well 24 = .ok (.ireturn, 1) := by decide +kernel
theorem dX4_well_25 : decode cX4_well 25 = .ok (.aload_n 0, 1) := by decide +kernel
theorem dX4_well_26 : decode cX4_well 26 = .ok (.getfield 16, 3) := by decide +kernel
theorem dX4_well_29 : decode cX4_well 29 = .ok (.invokevirtual 170, 3) := by decide +kernel
theorem dX4_well_32 : decode cX4_well 32 = .ok (.iinc 1 1, 3) := by decide +kernel
theorem dX4_well_35 : decode cX4_well 35 = .ok (.goto (-29), 3) := by decide +kernel
theorem dX4_well_38 : decode cX4_well 38 = .ok (.aload_n 0, 1) := by decide +kernel
theorem dX4_well_39 : decode cX4_well 39 = .ok (.ldc 173, 2) := by decide +kernel
theorem dX4_well_41 : decode cX4_well 41 = .ok (.invokevirtual 64, 3) := by decide +kernel
theorem dX4_well_44 : decode cX4_well 44 = .ok (.ireturn, 1) := by decide +kernel
theorem dX4_feather_0 : decode cX4_feather 0 = .ok (.iload_n 1, 1) := by decide +kernel
theorem dX4_feather_1 : decode cX4_feather 1 = .ok (.iconst 1, 1) := by decide +kernel
theorem dX4_feather_2 : decode cX4_feather 2 = .ok (.bipush 60, 2) := by decide +kernel
theorem dX4_feather_4 : decode cX4_feather 4 = .ok (.invokestatic 55, 3) := by decide +kernel
theorem dX4_feather_7 : decode cX4_feather 7 = .ok (.ifCond .ne 10, 3) := by decide +kernel
theorem dX4_feather_10 : decode cX4_feather 10 = .ok (.aload_n 0, 1) := by decide +kernel
theorem dX4_feather_11 : decode cX4_feather 11 = .ok (.ldc 63, 2) := by decide +kernel
theorem dX4_feather_13 : decode cX4_feather 13 = .ok (.invokevirtual 64, 3) := by decide +kernel
theorem dX4_feather_16 : decode cX4_feather 16 = .ok (.ireturn, 1) := by decide +kernel
theorem dX4_feather_17 : decode cX4_feather 17 = .ok (.aload_n 0, 1) := by decide +kernel
theorem dX4_feather_18 : decode cX4_feather 18 = .ok (.getfield 10, 3) := by decide +kernel
theorem dX4_feather_21 : decode cX4_feather 21 = .ok (.getfield 100, 3) := by decide +kernel
theorem dX4_feather_24 : decode cX4_feather 24 = .ok (.ifCond .ne 10, 3) := by decide +kernel
theorem dX4_feather_27 : decode cX4_feather 27 = .ok (.aload_n 0, 1) := by decide +kernel
theorem dX4_feather_28 : decode cX4_feather 28 = .ok (.ldc 173, 2) := by decide +kernel
theorem dX4_feather_30 : decode cX4_feather 30 = .ok (.invokevirtual 64, 3) := by decide +kernel
theorem dX4_feather_33 : decode cX4_feather 33 = .ok (.ireturn, 1) := by decide +kernel
theorem dX4_feather_34 : decode cX4_feather 34 = .ok (.aload_n 0, 1) := by decide +kernel
theorem dX4_feather_35 : decode cX4_feather 35 = .ok (.iconst 0, 1) := by decide +kernel
theorem dX4_feather_36 : decode cX4_feather 36 = .ok (.aload_n 0, 1) := by decide +kernel
theorem dX4_feather_37 : decode cX4_feather 37 = .ok (.getfield 10, 3) := by decide +kernel
theorem dX4_feather_40 : decode cX4_feather 40 = .ok (.getfield 100, 3) := by decide +kernel
theorem dX4_feather_43 : decode cX4_feather 43 = .ok (.iconst 0, 1) := by decide +kernel
theorem dX4_feather_44 : decode cX4_feather 44 = .ok (.iload_n 1, 1) := by decide +kernel
