theorem dX5_wantNumber_45 : decode cX5_wantNumber 45 = .ok (.aload_n 0, 1) := by decide +kernel
theorem dX5_wantNumber_46 : decode cX5_wantNumber 46 = .ok (.invokevirtual 224, 3) := by decide +kernel
theorem dX5_wantNumber_49 : decode cX5_wantNumber 49 = .ok (.iload_n 3, 1) := by decide +kernel
theorem dX5_wantNumber_50 : decode cX5_wantNumber 50 = .ok (.ireturn, 1) := by decide +kernel
theorem dX5_mayWant_0 : decode cX5_mayWant 0 = .ok (.aload_n 0, 1) := by decide +kernel
theorem dX5_mayWant_1 : decode cX5_mayWant 1 = .ok (.getfield 220, 3) := by decide +kernel
theorem dX5_mayWant_4 : decode cX5_mayWant 4 = .ok (.ifCond .eq 11, 3) := by decide +kernel
theorem dX5_mayWant_7 : decode cX5_mayWant 7 = .ok (.aload_n 0, 1) := by decide +kernel
theorem dX5_mayWant_8 : decode cX5_mayWant 8 = .ok (.lload_n 1, 1) := by decide +kernel
theorem dX5_mayWant_9 : decode cX5_mayWant 9 = .ok (.invokevirtual 206, 3) := by decide +kernel
theorem dX5_mayWant_12 : decode cX5_mayWant 12 = .ok (.ifCond .ne 6, 3) := by decide +kernel
theorem dX5_mayWant_15 : decode cX5_mayWant 15 = .ok (.iload 5, 2) := by decide +kernel
theorem dX5_mayWant_17 : decode cX5_mayWant 17 = .ok (.ireturn, 1) := by decide +kernel
theorem dX5_mayWant_18 : decode cX5_mayWant 18 = .ok (.aload_n 0, 1) := by decide +kernel
theorem dX5_mayWant_19 : decode cX5_mayWant 19 = .ok (.invokevirtual 224, 3) := by decide +kernel
theorem dX5_mayWant_22 : decode cX5_mayWant 22 = .ok (.aload_n 0, 1) := by decide +kernel
theorem dX5_mayWant_23 : decode cX5_mayWant 23 = .ok (.iload_n 3, 1) := by decide +kernel
theorem dX5_mayWant_24 : decode cX5_mayWant 24 = .ok (.iload 4, 2) := by decide +kernel
theorem dX5_mayWant_26 : decode cX5_mayWant 26 = .ok (.invokevirtual 227, 3) := by decide +kernel
theorem dX5_mayWant_29 : decode cX5_mayWant 29 = .ok (.ireturn, 1) := by decide +kernel
theorem dX5_wantOne_0 : decode cX5_wantOne 0 = .ok (.aload_n 0, 1) := by decide +kernel
theorem dX5_wantOne_1 : decode cX5_wantOne 1 = .ok (.aload_n 0, 1) := by decide +kernel
theorem dX5_wantOne_2 : decode cX5_wantOne 2 = .ok (.getfield 7, 3) := by decide +kernel
theorem dX5_wantOne_5 : decode cX5_wantOne 5 = .ok (.iconst 2, 1) := by decide +kernel
theorem dX5_wantOne_6 : decode cX5_wantOne 6 = .ok (.iaload, 1) := by decide +kernel
theorem dX5_wantOne_7 : decode cX5_wantOne 7 = .ok (.bipush 8, 2) := by decide +kernel
theorem dX5_wantOne_9 : decode cX5_wantOne 9 = .ok (.if_icmp .ge 7, 3) := by decide +kernel
theorem dX5_wantOne_12 : decode cX5_wantOne 12 = .ok (.iconst 1, 1) := by decide +kernel
theorem dX5_wantOne_13 : decode cX5_wantOne 13 = .ok (.goto 4, 3) := by decide +kernel
theorem dX5_wantOne_16 : decode cX5_wantOne 16 = .ok (.iconst 0, 1) := by decide +kernel
theorem dX5_wantOne_17 : decode cX5_wantOne 17 = .ok (.putfield 220, 3) := by decide +kernel
theorem dX5_wantOne_20 : decode cX5_wantOne 20 = .ok (.aload_n 0, 1) := by decide +kernel
theorem dX5_wantOne_21 : decode cX5_wantOne 21 = .ok (.getfield 220, 3) := by decide +kernel
theorem dX5_wantOne_24 : decode cX5_wantOne 24 = .ok (.ifCond .ne 4, 3) := by decide +kernel
theorem dX5_wantOne_27 : decode cX5_wantOne 27 = .ok (.return_, 1) := by decide +kernel
theorem dX5_wantOne_28 : decode cX5_wantOne 28 = .ok (.aload_n 0, 1) := by decide +kernel
theorem dX5_wantOne_29 : decode cX5_wantOne 29 = .ok (.invokevirtual 224, 3) := by decide +kernel
theorem dX5_wantOne_32 : decode cX5_wantOne 32 = .ok (.aload_n 0, 1) := by decide +kernel
theorem dX5_wantOne_33 : decode cX5_wantOne 33 = .ok (.iconst 0, 1) := by decide +kernel
theorem dX5_wantOne_34 : decode cX5_wantOne 34 = .ok (.bipush 11, 2) := by decide +kernel
theorem dX5_wantOne_36 : decode cX5_wantOne 36 = .ok (.invokevirtual 227, 3) := by decide +kernel
theorem dX5_wantOne_39 : decode cX5_wantOne 39 = .ok (.istore_n 2, 1) := by decide +kernel
theorem dX5_wantOne_40 : decode cX5_wantOne 40 = .ok (.aload_n 0, 1) := by decide +kernel
theorem dX5_wantOne_41 : decode cX5_wantOne 41 = .ok (.getfield 220, 3) := by decide +kernel
theorem dX5_wantOne_44 : decode cX5_wantOne 44 = .ok (.ifCond .eq 17, 3) := by decide +kernel
theorem dX5_wantOne_47 : decode cX5_wantOne 47 = .ok (.aload_n 0, 1) := by decide +kernel
theorem dX5_wantOne_48 : decode cX5_wantOne 48 = .ok (.ldc2_w 230, 3) := by decide +kernel
theorem dX5_wantOne_51 : decode cX5_wantOne 51 = .ok (.invokevirtual 206, 3) := by decide +kernel
theorem dX5_wantOne_54 : decode cX5_wantOne 54 = .ok (.ifCond .eq 7, 3) := by decide +kernel
theorem dX5_wantOne_57 : decode cX5_wantOne 57 = .ok (.iconst 1, 1) := by decide +kernel
theorem dX5_wantOne_58 : decode cX5_wantOne 58 = .ok (.goto 4, 3) := by decide +kernel
theorem dX5_wantOne_61 : decode cX5_wantOne 61 = .ok (.iconst 0, 1) := by decide +kernel
theorem dX5_wantOne_62 : decode cX5_wantOne 62 = .ok (.istore_n 3, 1) := by decide +kernel
theorem dX5_wantOne_63 : decode cX5_wantOne 63 = .ok (.iload_n 3, 1) := by decide +kernel
theorem dX5_wantOne_64 : decode cX5_wantOne 64 = .ok (.ifCond .eq 7, 3) := by decide +kernel
theorem dX5_wantOne_67 : decode cX5_wantOne 67 = .ok (.aload_n 0, 1) := by decide +kernel
theorem dX5_wantOne_68 : decode cX5_wantOne 68 = .ok (.invokevirtual 224, 3) := by decide +kernel
theorem dX5_wantOne_71 : decode cX5_wantOne 71 = .ok (.aload_n 0, 1) := by decide +kernel
theorem dX5_wantOne_72 : decode cX5_wantOne 72 = .ok (.ldc2_w 232, 3) := by decide +kernel
theorem dX5_wantOne_75 : decode cX5_wantOne 75 = .ok (.iconst 0, 1) := by decide +kernel
theorem dX5_wantOne_76 : decode cX5_wantOne 76 = .ok (.bipush 99, 2) := by decide +kernel
theorem dX5_wantOne_78 : decode cX5_wantOne 78 = .ok (.bipush 20, 2) := by decide +kernel
theorem dX5_wantOne_80 : decode cX5_wantOne 80 = .ok (.invokevirtual 234, 3) := by decide +kernel
theorem dX5_wantOne_83 : decode cX5_wantOne 83 = .ok (.istore 4, 2) := by decide +kernel
theorem dX5_wantOne_85 : decode cX5_wantOne 85 = .ok (.aload_n 0, 1) := by decide +kernel
theorem dX5_wantOne_86 : decode cX5_wantOne 86 = .ok (.ldc2_w 238, 3) := by decide +kernel
theorem dX5_wantOne_89 : decode cX5_wantOne 89 = .ok (.iconst 0, 1) := by decide +kernel
theorem dX5_wantOne_90 : decode cX5_wantOne 90 = .ok (.bipush 99, 2) := by decide +kernel
theorem dX5_wantOne_92 : decode cX5_wantOne 92 = .ok (.iconst 0, 1) := by decide +kernel
theorem dX5_wantOne_93 : decode cX5_wantOne 93 = .ok (.invokevirtual 234, 3) := by decide +kernel
theorem dX5_wantOne_96 : decode cX5_wantOne 96 = .ok (.istore 5, 2) := by decide +kernel
theorem dX5_wantOne_98 : decode cX5_wantOne 98 = .ok (.aload_n 0, 1) := by decide +kernel
theorem dX5_wantOne_99 : decode cX5_wantOne 99 = .ok (.getfield 220, 3) := by decide +kernel
theorem dX5_wantOne_102 : decode cX5_wantOne 102 = .ok (.ifCond .eq 22, 3) := by decide +kernel
theorem dX5_wantOne_105 : decode cX5_wantOne 105 = .ok (.aload_n 0, 1) := by decide +kernel
theorem dX5_wantOne_106 : decode cX5_wantOne 106 = .ok (.iload_n 1, 1) := by decide +kernel
theorem dX5_wantOne_107 : decode cX5_wantOne 107 = .ok (.iload_n 2, 1) := by decide +kernel
theorem dX5_wantOne_108 : decode cX5_wantOne 108 = .ok (.iload_n 3, 1) := by decide +kernel
theorem dX5_wantOne_109 : decode cX5_wantOne 109 = .ok (.ifCond .eq 7, 3) := by decide +kernel
theorem dX5_wantOne_112 : decode cX5_wantOne 112 = .ok (.iconst 0, 1) := by decide +kernel
theorem dX5_wantOne_113 : decode cX5_wantOne 113 = .ok (.goto 4, 3) := by decide +kernel
theorem dX5_wantOne_116 : decode cX5_wantOne 116 = .ok (.iconst 1, 1) := by decide +kernel
theorem dX5_wantOne_117 : decode cX5_wantOne 117 = .ok (.iload 4, 2) := by decide +kernel
theorem dX5_wantOne_119 : decode cX5_wantOne 119 = .ok (.iload 5, 2) := by decide +kernel
theorem dX5_wantOne_121 : decode cX5_wantOne 121 = .ok (.invokevirtual 107, 3) := by decide +kernel
theorem dX5_wantOne_124 : decode cX5_wantOne 124 = .ok (.return_, 1) := by decide +kernel
theorem dX5_wantBook_0 : decode cX5_wantBook 0 = .ok (.aload_n 0, 1) := by decide +kernel
theorem dX5_wantBook_1 : decode cX5_wantBook 1 = .ok (.invokevirtual 224, 3) := by decide +kernel
theorem dX5_wantBook_4 : decode cX5_wantBook 4 = .ok (.aload_n 0, 1) := by decide +kernel
theorem dX5_wantBook_5 : decode cX5_wantBook 5 = .ok (.iconst 0, 1) := by decide +kernel
theorem dX5_wantBook_6 : decode cX5_wantBook 6 = .ok (.bipush 11, 2) := by decide +kernel
theorem dX5_wantBook_8 : decode cX5_wantBook 8 = .ok (.invokevirtual 227, 3) := by decide +kernel
theorem dX5_wantBook_11 : decode cX5_wantBook 11 = .ok (.istore_n 2, 1) := by decide +kernel
theorem dX5_wantBook_12 : decode cX5_wantBook 12 = .ok (.aload_n 0, 1) := by decide +kernel
theorem dX5_wantBook_13 : decode cX5_wantBook 13 = .ok (.getfield 220, 3) := by decide +kernel
theorem dX5_wantBook_16 : decode cX5_wantBook 16 = .ok (.ifCond .eq 10, 3) := by decide +kernel
theorem dX5_wantBook_19 : decode cX5_wantBook 19 = .ok (.aload_n 0, 1) := by decide +kernel
theorem dX5_wantBook_20 : decode cX5_wantBook 20 = .ok (.iload_n 2, 1) := by decide +kernel
theorem dX5_wantBook_21 : decode cX5_wantBook 21 = .ok (.iconst 1, 1) := by decide +kernel
theorem dX5_wantBook_22 : decode cX5_wantBook 22 = .ok (.iload_n 1, 1) := by decide +kernel
theorem dX5_wantBook_23 : decode cX5_wantBook 23 = .ok (.invokevirtual 128, 3) := by decide +kernel
theorem dX5_wantBook_26 : decode cX5_wantBook 26 = .ok (.return_, 1) := by decide +kernel
theorem dX5_wantLamp_0 : decode cX5_wantLamp 0 = .ok (.aload_n 0, 1) := by decide +kernel
theorem dX5_wantLamp_1 : decode cX5_wantLamp 1 = .ok (.invokevirtual 224, 3) := by decide +kernel
theorem dX5_wantLamp_4 : decode cX5_wantLamp 4 = .ok (.aload_n 0, 1) := by decide +kernel
theorem dX5_wantLamp_5 : decode cX5_wantLamp 5 = .ok (.iconst 0, 1) := by decide +kernel
theorem dX5_wantLamp_6 : decode cX5_wantLamp 6 = .ok (.bipush 11, 2) := by decide +kernel
theorem dX5_wantLamp_8 : decode cX5_wantLamp 8 = .ok (.invokevirtual 227, 3) := by decide +kernel
theorem dX5_wantLamp_11 : decode cX5_wantLamp 11 = .ok (.istore_n 1, 1) := by decide +kernel
theorem dX5_wantLamp_12 : decode cX5_wantLamp 12 = .ok (.aload_n 0, 1) := by decide +kernel
theorem dX5_wantLamp_13 : decode cX5_wantLamp 13 = .ok (.getfield 220, 3) := by decide +kernel
theorem dX5_wantLamp_16 : decode cX5_wantLamp 16 = .ok (.ifCond .eq 13, 3) := by decide +kernel
theorem dX5_wantLamp_19 : decode cX5_wantLamp 19 = .ok (.aload_n 0, 1) := by decide +kernel
theorem dX5_wantLamp_20 : decode cX5_wantLamp 20 = .ok (.iconst 0, 1) := by decide +kernel
theorem dX5_wantLamp_21 : decode cX5_wantLamp 21 = .ok (.bipush 99, 2) := by decide +kernel
theorem dX5_wantLamp_23 : decode cX5_wantLamp 23 = .ok (.invokevirtual 227, 3) := by decide +kernel
theorem dX5_wantLamp_26 : decode cX5_wantLamp 26 = .ok (.goto 4, 3) := by decide +kernel
theorem dX5_wantLamp_29 : decode cX5_wantLamp 29 = .ok (.iconst 0, 1) := by decide +kernel
theorem dX5_wantLamp_30 : decode cX5_wantLamp 30 = .ok (.istore_n 2, 1) := by decide +kernel
theorem dX5_wantLamp_31 : decode cX5_wantLamp 31 = .ok (.aload_n 0, 1) := by decide +kernel
theorem dX5_wantLamp_32 : decode cX5_wantLamp 32 = .ok (.getfield 220, 3) := by decide +kernel
theorem dX5_wantLamp_35 : decode cX5_wantLamp 35 = .ok (.ifCond .eq 10, 3) := by decide +kernel
theorem dX5_wantLamp_38 : decode cX5_wantLamp 38 = .ok (.aload_n 0, 1) := by decide +kernel
theorem dX5_wantLamp_39 : decode cX5_wantLamp 39 = .ok (.iload_n 1, 1) := by decide +kernel
theorem dX5_wantLamp_40 : decode cX5_wantLamp 40 = .ok (.iconst 0, 1) := by decide +kernel
theorem dX5_wantLamp_41 : decode cX5_wantLamp 41 = .ok (.iload_n 2, 1) := by decide +kernel
theorem dX5_wantLamp_42 : decode cX5_wantLamp 42 = .ok (.invokevirtual 128, 3) := by decide +kernel
theorem dX5_wantLamp_45 : decode cX5_wantLamp 45 = .ok (.return_, 1) := by decide +kernel
theorem dX5_wantItem_0 : decode cX5_wantItem 0 = .ok (.aload_n 0, 1) := by decide +kernel
theorem dX5_wantItem_1 : decode cX5_wantItem 1 = .ok (.invokevirtual 240, 3) := by decide +kernel
theorem dX5_wantItem_4 : decode cX5_wantItem 4 = .ok (.ifCond .lt 14, 3) := by decide +kernel
theorem dX5_wantItem_7 : decode cX5_wantItem 7 = .ok (.aload_n 0, 1) := by decide +kernel
theorem dX5_wantItem_8 : decode cX5_wantItem 8 = .ok (.aload_n 0, 1) := by decide +kernel
theorem dX5_wantItem_9 : decode cX5_wantItem 9 = .ok (.invokevirtual 240, 3) := by decide +kernel
theorem dX5_wantItem_12 : decode cX5_wantItem 12 = .ok (.invokevirtual 243, 3) := by decide +kernel
theorem dX5_wantItem_15 : decode cX5_wantItem 15 = .ok (.goto 109, 3) := by decide +kernel
theorem dX5_wantItem_18 : decode cX5_wantItem 18 = .ok (.aload_n 0, 1) := by decide +kernel
theorem dX5_wantItem_19 : decode cX5_wantItem 19 = .ok (.ldc2_w 246, 3) := by decide +kernel
theorem dX5_wantItem_22 : decode cX5_wantItem 22 = .ok (.invokevirtual 206, 3) := by decide +kernel
theorem dX5_wantItem_25 : decode cX5_wantItem 25 = .ok (.ifCond .eq 11, 3) := by decide +kernel
theorem dX5_wantItem_28 : decode cX5_wantItem 28 = .ok (.aload_n 0, 1) := by decide +kernel
theorem dX5_wantItem_29 : decode cX5_wantItem 29 = .ok (.iconst 1, 1) := by decide +kernel
theorem dX5_wantItem_30 : decode cX5_wantItem 30 = .ok (.invokevirtual 248, 3) := by decide +kernel
theorem dX5_wantItem_33 : decode cX5_wantItem 33 = .ok (.goto 91, 3) := by decide +kernel
theorem dX5_wantItem_36 : decode cX5_wantItem 36 = .ok (.aload_n 0, 1) := by decide +kernel
theorem dX5_wantItem_37 : decode cX5_wantItem 37 = .ok (.ldc2_w 251, 3) := by decide +kernel
theorem dX5_wantItem_40 : decode cX5_wantItem 40 = .ok (.invokevirtual 206, 3) := by decide +kernel
theorem dX5_wantItem_43 : decode cX5_wantItem 43 = .ok (.ifCond .eq 11, 3) := by decide +kernel
theorem dX5_wantItem_46 : decode cX5_wantItem 46 = .ok (.aload_n 0, 1) := by decide +kernel
theorem dX5_wantItem_47 : decode cX5_wantItem 47 = .ok (.iconst 0, 1) := by decide +kernel
theorem dX5_wantItem_48 : decode cX5_wantItem 48 = .ok (.invokevirtual 248, 3) := by decide +kernel
theorem dX5_wantItem_51 : decode cX5_wantItem 51 = .ok (.goto 73, 3) := by decide +kernel
theorem dX5_wantItem_54 : decode cX5_wantItem 54 = .ok (.aload_n 0, 1) := by decide +kernel
theorem dX5_wantItem_55 : decode cX5_wantItem 55 = .ok (.ldc2_w 253, 3) := by decide +kernel
theorem dX5_wantItem_58 : decode cX5_wantItem 58 = .ok (.invokevirtual 206, 3) := by decide +kernel
theorem dX5_wantItem_61 : decode cX5_wantItem 61 = .ok (.ifCond .eq 10, 3) := by decide +kernel
theorem dX5_wantItem_64 : decode cX5_wantItem 64 = .ok (.aload_n 0, 1) := by decide +kernel
theorem dX5_wantItem_65 : decode cX5_wantItem 65 = .ok (.invokevirtual 255, 3) := by decide +kernel
theorem dX5_wantItem_68 : decode cX5_wantItem 68 = .ok (.goto 56, 3) := by decide +kernel
theorem dX5_wantItem_71 : decode cX5_wantItem 71 = .ok (.aload_n 0, 1) := by decide +kernel
theorem dX5_wantItem_72 : decode cX5_wantItem 72 = .ok (.ldc2_w 258, 3) := by decide +kernel
theorem dX5_wantItem_75 : decode cX5_wantItem 75 = .ok (.invokevirtual 206, 3) := by decide +kernel
theorem dX5_wantItem_78 : decode cX5_wantItem 78 = .ok (.ifCond .eq 41, 3) := by decide +kernel
theorem dX5_wantItem_81 : decode cX5_wantItem 81 = .ok (.aload_n 0, 1) := by decide +kernel
theorem dX5_wantItem_82 : decode cX5_wantItem 82 = .ok (.invokevirtual 224, 3) := by decide +kernel
theorem dX5_wantItem_85 : decode cX5_wantItem 85 = .ok (.aload_n 0, 1) := by decide +kernel
theorem dX5_wantItem_86 : decode cX5_wantItem 86 = .ok (.iconst 0, 1) := by decide +kernel
theorem dX5_wantItem_87 : decode cX5_wantItem 87 = .ok (.bipush 9, 2) := by decide +kernel
theorem dX5_wantItem_89 : decode cX5_wantItem 89 = .ok (.invokevirtual 227, 3) := by decide +kernel
theorem dX5_wantItem_92 : decode cX5_wantItem 92 = .ok (.istore_n 1, 1) := by decide +kernel
theorem dX5_wantItem_93 : decode cX5_wantItem 93 = .ok (.aload_n 0, 1) := by decide +kernel
theorem dX5_wantItem_94 : decode cX5_wantItem 94 = .ok (.getfield 7, 3) := by decide +kernel
theorem dX5_wantItem_97 : decode cX5_wantItem 97 = .ok (.iconst 1, 1) := by decide +kernel
theorem dX5_wantItem_98 : decode cX5_wantItem 98 = .ok (.aload_n 0, 1) := by decide +kernel
theorem dX5_wantItem_99 : decode cX5_wantItem 99 = .ok (.getfield 220, 3) := by decide +kernel
theorem dX5_wantItem_102 : decode cX5_wantItem 102 = .ok (.ifCond .eq 7, 3) := by decide +kernel
theorem dX5_wantItem_105 : decode cX5_wantItem 105 = .ok (.iload_n 1, 1) := by decide +kernel
theorem dX5_wantItem_106 : decode cX5_wantItem 106 = .ok (.goto 9, 3) := by decide +kernel
theorem dX5_wantItem_109 : decode cX5_wantItem 109 = .ok (.aload_n 0, 1) := by decide +kernel
theorem dX5_wantItem_110 : decode cX5_wantItem 110 = .ok (.getfield 7, 3) := by decide +kernel
theorem dX5_wantItem_113 : decode cX5_wantItem 113 = .ok (.iconst 1, 1) := by decide +kernel
theorem dX5_wantItem_114 : decode cX5_wantItem 114 = .ok (.iaload, 1) := by decide +kernel
theorem dX5_wantItem_115 : decode cX5_wantItem 115 = .ok (.iastore, 1) := by decide +kernel
theorem dX5_wantItem_116 : decode cX5_wantItem 116 = .ok (.goto 8, 3) := by decide +kernel
theorem dX5_wantItem_119 : decode cX5_wantItem 119 = .ok (.aload_n 0, 1) := by decide +kernel
theorem dX5_wantItem_120 : decode cX5_wantItem 120 = .ok (.iconst 0, 1) := by decide +kernel
theorem dX5_wantItem_121 : decode cX5_wantItem 121 = .ok (.putfield 220, 3) := by decide +kernel
theorem dX5_wantItem_124 : decode cX5_wantItem 124 = .ok (.return_, 1) := by decide +kernel
theorem dX5_winter_0 : decode cX5_winter 0 = .ok (.aload_n 0, 1) := by decide +kernel
theorem dX5_winter_1 : decode cX5_winter 1 = .ok (.iconst 1, 1) := by decide +kernel
theorem dX5_winter_2 : decode cX5_winter 2 = .ok (.aload_n 0, 1) := by decide +kernel
theorem dX5_winter_3 : decode cX5_winter 3 = .ok (.getfield 41, 3) := by decide +kernel
theorem dX5_winter_6 : decode cX5_winter 6 = .ok (.invokevirtual 156, 3) := by decide +kernel
theorem dX5_winter_9 : decode cX5_winter 9 = .ok (.aload_n 0, 1) := by decide +kernel
theorem dX5_winter_10 : decode cX5_winter 10 = .ok (.iconst 0, 1) := by decide +kernel
theorem dX5_winter_11 : decode cX5_winter 11 = .ok (.putfield 173, 3) := by decide +kernel
theorem dX5_winter_14 : decode cX5_winter 14 = .ok (.aload_n 0, 1) := by decide +kernel
theorem dX5_winter_15 : decode cX5_winter 15 = .ok (.iconst 1, 1) := by decide +kernel
theorem dX5_winter_16 : decode cX5_winter 16 = .ok (.putfield 220, 3) := by decide +kernel
theorem dX5_winter_19 : decode cX5_winter 19 = .ok (.iconst 0, 1) := by decide +kernel
theorem dX5_winter_20 : decode cX5_winter 20 = .ok (.istore_n 1, 1) := by decide +kernel
theorem dX5_winter_21 : decode cX5_winter 21 = .ok (.iconst 1, 1) := by decide +kernel
theorem dX5_winter_22 : decode cX5_winter 22 = .ok (.istore_n 2, 1) := by decide +kernel
theorem dX5_winter_23 : decode cX5_winter 23 = .ok (.iload_n 2, 1) := by decide +kernel
theorem dX5_winter_24 : decode cX5_winter 24 = .ok (.ifCond .eq 47, 3) := by decide +kernel
theorem dX5_winter_27 : decode cX5_winter 27 = .ok (.aload_n 0, 1) := by decide +kernel
theorem dX5_winter_28 : decode cX5_winter 28 = .ok (.invokevirtual 224, 3) := by decide +kernel
theorem dX5_winter_31 : decode cX5_winter 31 = .ok (.aload_n 0, 1) := by decide +kernel
theorem dX5_winter_32 : decode cX5_winter 32 = .ok (.invokevirtual 260, 3) := by decide +kernel
theorem dX5_winter_35 : decode cX5_winter 35 = .ok (.iinc 1 1, 3) := by decide +kernel
theorem dX5_winter_38 : decode cX5_winter 38 = .ok (.aload_n 0, 1) := by decide +kernel
theorem dX5_winter_39 : decode cX5_winter 39 = .ok (.getfield 220, 3) := by decide +kernel
theorem dX5_winter_42 : decode cX5_winter 42 = .ok (.ifCond .eq 24, 3) := by decide +kernel
theorem dX5_winter_45 : decode cX5_winter 45 = .ok (.aload_n 0, 1) := by decide +kernel
theorem dX5_winter_46 : decode cX5_winter 46 = .ok (.getfield 188, 3) := by decide +kernel
theorem dX5_winter_49 : decode cX5_winter 49 = .ok (.iconst 3, 1) := by decide +kernel
theorem dX5_winter_50 : decode cX5_winter 50 = .ok (.if_icmp .ne 16, 3) := by decide +kernel
theorem dX5_winter_53 : decode cX5_winter 53 = .ok (.aload_n 0, 1) := by decide +kernel
theorem dX5_winter_54 : decode cX5_winter 54 = .ok (.getfield 195, 3) := by decide +kernel
theorem dX5_winter_57 : decode cX5_winter 57 = .ok (.bipush 59, 2) := by decide +kernel
theorem dX5_winter_59 : decode cX5_winter 59 = .ok (.if_icmp .ne 7, 3) := by decide +kernel
theorem dX5_winter_62 : decode cX5_winter 62 = .ok (.iconst 1, 1) := by decide +kernel
theorem dX5_winter_63 : decode cX5_winter 63 = .ok (.goto 4, 3) := by decide +kernel
theorem dX5_winter_66 : decode cX5_winter 66 = .ok (.iconst 0, 1) := by decide +kernel
theorem dX5_winter_67 : decode cX5_winter 67 = .ok (.istore_n 2, 1) := by decide +kernel
theorem dX5_winter_68 : decode cX5_winter 68 = .ok (.goto (-45), 3) := by decide +kernel
theorem dX5_winter_71 : decode cX5_winter 71 = .ok (.aload_n 0, 1) := by decide +kernel
theorem dX5_winter_72 : decode cX5_winter 72 = .ok (.aload_n 0, 1) := by decide +kernel
theorem dX5_winter_73 : decode cX5_winter 73 = .ok (.getfield 220, 3) := by decide +kernel
theorem dX5_winter_76 : decode cX5_winter 76 = .ok (.ifCond .eq 14, 3) := by decide +kernel
theorem dX5_winter_79 : decode cX5_winter 79 = .ok (.aload_n 0, 1) := by decide +kernel
theorem dX5_winter_80 : decode cX5_winter 80 = .ok (.getfield 188, 3) := by decide +kernel
theorem dX5_winter_83 : decode cX5_winter 83 = .ok (.ifCond .ne 7, 3) := by decide +kernel
theorem dX5_winter_86 : decode cX5_winter 86 = .ok (.iconst 1, 1) := by decide +kernel
theorem dX5_winter_87 : decode cX5_winter 87 = .ok (.goto 4, 3) := by decide +kernel
theorem dX5_winter_90 : decode cX5_winter 90 = .ok (.iconst 0, 1) := by decide +kernel
theorem dX5_winter_91 : decode cX5_winter 91 = .ok (.putfield 220, 3) := by decide +kernel
theorem dX5_winter_94 : decode cX5_winter 94 = .ok (.aload_n 0, 1) := by decide +kernel
theorem dX5_winter_95 : decode cX5_winter 95 = .ok (.iconst 0, 1) := by decide +kernel
theorem dX5_winter_96 : decode cX5_winter 96 = .ok (.putfield 170, 3) := by decide +kernel
theorem dX5_winter_99 : decode cX5_winter 99 = .ok (.aload_n 0, 1) := by decide +kernel
theorem dX5_winter_100 : decode cX5_winter 100 = .ok (.getfield 220, 3) := by decide +kernel
theorem dX5_winter_103 : decode cX5_winter 103 = .ok (.ifCond .ne 19, 3) := by decide +kernel
theorem dX5_winter_106 : decode cX5_winter 106 = .ok (.aload_n 0, 1) := by decide +kernel
theorem dX5_winter_107 : decode cX5_winter 107 = .ok (.iconst 0, 1) := by decide +kernel
theorem dX5_winter_108 : decode cX5_winter 108 = .ok (.aload_n 0, 1) := by decide +kernel
theorem dX5_winter_109 : decode cX5_winter 109 = .ok (.getfield 41, 3) := by decide +kernel
theorem dX5_winter_112 : decode cX5_winter 112 = .ok (.invokevirtual 156, 3) := by decide +kernel
theorem dX5_winter_115 : decode cX5_winter 115 = .ok (.iconst (-1), 1) := by decide +kernel
theorem dX5_winter_116 : decode cX5_winter 116 = .ok (.aload_n 0, 1) := by decide +kernel
theorem dX5_winter_117 : decode cX5_winter 117 = .ok (.getfield 176, 3) := by decide +kernel
theorem dX5_winter_120 : decode cX5_winter 120 = .ok (.isub, 1) := by decide +kernel
theorem dX5_winter_121 : decode cX5_winter 121 = .ok (.ireturn, 1) := by decide +kernel
theorem dX5_winter_122 : decode cX5_winter 122 = .ok (.iload_n 1, 1) := by decide +kernel
theorem dX5_winter_123 : decode cX5_winter 123 = .ok (.ireturn, 1) := by decide +kernel
theorem dX5_isSheet_0 : decode cX5_isSheet 0 = .ok (.iload_n 0, 1) := by decide +kernel
theorem dX5_isSheet_1 : decode cX5_isSheet 1 = .ok (.iconst 0, 1) := by decide +kernel
theorem dX5_isSheet_2 : decode cX5_isSheet 2 = .ok (.iconst 3, 1) := by decide +kernel
theorem dX5_isSheet_3 : decode cX5_isSheet 3 = .ok (.invokestatic 45, 3) := by decide +kernel
theorem dX5_isSheet_6 : decode cX5_isSheet 6 = .ok (.ireturn, 1) := by decide +kernel
theorem dX5_narrow_0 : decode cX5_narrow 0 = .ok (.iload_n 0, 1) := by decide +kernel
theorem dX5_narrow_1 : decode cX5_narrow 1 = .ok (.bipush 8, 2) := by decide +kernel
theorem dX5_narrow_3 : decode cX5_narrow 3 = .ok (.if_icmp .ne 13, 3) := by decide +kernel
theorem dX5_narrow_6 : decode cX5_narrow 6 = .ok (.lload_n 1, 1) := by decide +kernel
theorem dX5_narrow_7 : decode cX5_narrow 7 = .ok (.bipush 56, 2) := by decide +kernel
theorem dX5_narrow_9 : decode cX5_narrow 9 = .ok (.lshl, 1) := by decide +kernel
theorem dX5_narrow_10 : decode cX5_narrow 10 = .ok (.bipush 56, 2) := by decide +kernel
theorem dX5_narrow_12 : decode cX5_narrow 12 = .ok (.lshr, 1) := by decide +kernel
theorem dX5_narrow_13 : decode cX5_narrow 13 = .ok (.goto 20, 3) := by decide +kernel
theorem dX5_narrow_16 : decode cX5_narrow 16 = .ok (.iload_n 0, 1) := by decide +kernel
theorem dX5_narrow_17 : decode cX5_narrow 17 = .ok (.bipush 16, 2) := by decide +kernel
theorem dX5_narrow_19 : decode cX5_narrow 19 = .ok (.if_icmp .ne 13, 3) := by decide +kernel
theorem dX5_narrow_22 : decode cX5_narrow 22 = .ok (.lload_n 1, 1) := by decide +kernel
theorem dX5_narrow_23 : decode cX5_narrow 23 = .ok (.bipush 48, 2) := by decide +kernel
theorem dX5_narrow_25 : decode cX5_narrow 25 = .ok (.lshl, 1) := by decide +kernel
theorem dX5_narrow_26 : decode cX5_narrow 26 = .ok (.bipush 48, 2) := by decide +kernel
theorem dX5_narrow_28 : decode cX5_narrow 28 = .ok (.lshr, 1) := by decide +kernel
theorem dX5_narrow_29 : decode cX5_narrow 29 = .ok (.goto 4, 3) := by decide +kernel
theorem dX5_narrow_32 : decode cX5_narrow 32 = .ok (.lload_n 1, 1) := by decide +kernel
theorem dX5_narrow_33 : decode cX5_narrow 33 = .ok (.lreturn, 1) := by decide +kernel
theorem dX5_sheet_0 : decode cX5_sheet 0 = .ok (.iload_n 1, 1) := by decide +kernel
theorem dX5_sheet_1 : decode cX5_sheet 1 = .ok (.invokestatic 263, 3) := by decide +kernel
theorem dX5_sheet_4 : decode cX5_sheet 4 = .ok (.ifCond .eq 25, 3) := by decide +kernel
theorem dX5_sheet_7 : decode cX5_sheet 7 = .ok (.iload_n 2, 1) := by decide +kernel
theorem dX5_sheet_8 : decode cX5_sheet 8 = .ok (.ifCond .eq 28, 3) := by decide +kernel
theorem dX5_sheet_11 : decode cX5_sheet 11 = .ok (.iload_n 2, 1) := by decide +kernel
theorem dX5_sheet_12 : decode cX5_sheet 12 = .ok (.bipush 8, 2) := by decide +kernel
theorem dX5_sheet_14 : decode cX5_sheet 14 = .ok (.if_icmp .eq 22, 3) := by decide +kernel
theorem dX5_sheet_17 : decode cX5_sheet 17 = .ok (.iload_n 2, 1) := by decide +kernel
theorem dX5_sheet_18 : decode cX5_sheet 18 = .ok (.bipush 16, 2) := by decide +kernel
theorem dX5_sheet_20 : decode cX5_sheet 20 = .ok (.if_icmp .eq 16, 3) := by decide +kernel
theorem dX5_sheet_23 : decode cX5_sheet 23 = .ok (.iload_n 2, 1) := by decide +kernel
theorem dX5_sheet_24 : decode cX5_sheet 24 = .ok (.bipush 64, 2) := by decide +kernel
theorem dX5_sheet_26 : decode cX5_sheet 26 = .ok (.if_icmp .eq 10, 3) := by decide +kernel
theorem dX5_sheet_29 : decode cX5_sheet 29 = .ok (.aload_n 0, 1) := by decide +kernel
theorem dX5_sheet_30 : decode cX5_sheet 30 = .ok (.ldc 44, 2) := by decide +kernel
theorem dX5_sheet_32 : decode cX5_sheet 32 = .ok (.invokevirtual 81, 3) := by decide +kernel
theorem dX5_sheet_35 : decode cX5_sheet 35 = .ok (.ireturn, 1) := by decide +kernel
theorem dX5_sheet_36 : decode cX5_sheet 36 = .ok (.iload_n 3, 1) := by decide +kernel
theorem dX5_sheet_37 : decode cX5_sheet 37 = .ok (.ifCond .ge 11, 3) := by decide +kernel
theorem dX5_sheet_40 : decode cX5_sheet 40 = .ok (.aload_n 0, 1) := by decide +kernel
theorem dX5_sheet_41 : decode cX5_sheet 41 = .ok (.ldc_w 266, 3) := by decide +kernel
theorem dX5_sheet_44 : decode cX5_sheet 44 = .ok (.invokevirtual 81, 3) := by decide +kernel
theorem dX5_sheet_47 : decode cX5_sheet 47 = .ok (.ireturn, 1) := by decide +kernel
theorem dX5_sheet_48 : decode cX5_sheet 48 = .ok (.iload_n 3, 1) := by decide +kernel
theorem dX5_sheet_49 : decode cX5_sheet 49 = .ok (.bipush 40, 2) := by decide +kernel
theorem dX5_sheet_51 : decode cX5_sheet 51 = .ok (.if_icmp .le 10, 3) := by decide +kernel
theorem dX5_sheet_54 : decode cX5_sheet 54 = .ok (.aload_n 0, 1) := by decide +kernel
theorem dX5_sheet_55 : decode cX5_sheet 55 = .ok (.ldc 44, 2) := by decide +kernel
theorem dX5_sheet_57 : decode cX5_sheet 57 = .ok (.invokevirtual 81, 3) := by decide +kernel
theorem dX5_sheet_60 : decode cX5_sheet 60 = .ok (.ireturn, 1) := by decide +kernel
theorem dX5_sheet_61 : decode cX5_sheet 61 = .ok (.aload_n 0, 1) := by decide +kernel
theorem dX5_sheet_62 : decode cX5_sheet 62 = .ok (.getfield 25, 3) := by decide +kernel
theorem dX5_sheet_65 : decode cX5_sheet 65 = .ok (.iload_n 1, 1) := by decide +kernel
theorem dX5_sheet_66 : decode cX5_sheet 66 = .ok (.iload_n 2, 1) := by decide +kernel
theorem dX5_sheet_67 : decode cX5_sheet 67 = .ok (.iastore, 1) := by decide +kernel
theorem dX5_sheet_68 : decode cX5_sheet 68 = .ok (.aload_n 0, 1) := by decide +kernel
theorem dX5_sheet_69 : decode cX5_sheet 69 = .ok (.getfield 28, 3) := by decide +kernel
theorem dX5_sheet_72 : decode cX5_sheet 72 = .ok (.iload_n 1, 1) := by decide +kernel
theorem dX5_sheet_73 : decode cX5_sheet 73 = .ok (.iload_n 2, 1) := by decide +kernel
theorem dX5_sheet_74 : decode cX5_sheet 74 = .ok (.ifCond .ne 7, 3) := by decide +kernel
theorem dX5_sheet_77 : decode cX5_sheet 77 = .ok (.iconst 0, 1) := by decide +kernel
theorem dX5_sheet_78 : decode cX5_sheet 78 = .ok (.goto 4, 3) := by decide +kernel
theorem dX5_sheet_81 : decode cX5_sheet 81 = .ok (.iload_n 3, 1) := by decide +kernel
theorem dX5_sheet_82 : decode cX5_sheet 82 = .ok (.iastore, 1) := by decide +kernel
theorem dX5_sheet_83 : decode cX5_sheet 83 = .ok (.iconst 0, 1) := by decide +kernel
theorem dX5_sheet_84 : decode cX5_sheet 84 = .ok (.istore 4, 2) := by decide +kernel
theorem dX5_sheet_86 : decode cX5_sheet 86 = .ok (.iload 4, 2) := by decide +kernel
theorem dX5_sheet_88 : decode cX5_sheet 88 = .ok (.bipush 40, 2) := by decide +kernel
theorem dX5_sheet_90 : decode cX5_sheet 90 = .ok (.if_icmp .ge 22, 3) := by decide +kernel
theorem dX5_sheet_93 : decode cX5_sheet 93 = .ok (.aload_n 0, 1) := by decide +kernel
theorem dX5_sheet_94 : decode cX5_sheet 94 = .ok (.getfield 31, 3) := by decide +kernel
theorem dX5_sheet_97 : decode cX5_sheet 97 = .ok (.bipush 40, 2) := by decide +kernel
theorem dX5_sheet_99 : decode cX5_sheet 99 = .ok (.iload_n 1, 1) := by decide +kernel
theorem dX5_sheet_100 : decode cX5_sheet 100 = .ok (.imul, 1) := by decide +kernel
theorem dX5_sheet_101 : decode cX5_sheet 101 = .ok (.iload 4, 2) := by decide +kernel
theorem dX5_sheet_103 : decode cX5_sheet 103 = .ok (.iadd, 1) := by decide +kernel
theorem dX5_sheet_104 : decode cX5_sheet 104 = .ok (.lconst 0, 1) := by decide +kernel
theorem dX5_sheet_105 : decode cX5_sheet 105 = .ok (.lastore, 1) := by decide +kernel
theorem dX5_sheet_106 : decode cX5_sheet 106 = .ok (.iinc 4 1, 3) := by decide +kernel
theorem dX5_sheet_109 : decode cX5_sheet 109 = .ok (.goto (-23), 3) := by decide +kernel
theorem dX5_sheet_112 : decode cX5_sheet 112 = .ok (.aload_n 0, 1) := by decide +kernel
theorem dX5_sheet_113 : decode cX5_sheet 113 = .ok (.getfield 28, 3) := by decide +kernel
theorem dX5_sheet_116 : decode cX5_sheet 116 = .ok (.iload_n 1, 1) := by decide +kernel
theorem dX5_sheet_117 : decode cX5_sheet 117 = .ok (.iaload, 1) := by decide +kernel
theorem dX5_sheet_118 : decode cX5_sheet 118 = .ok (.ireturn, 1) := by decide +kernel
theorem dX5_write_0 : decode cX5_write 0 = .ok (.iload_n 1, 1) := by decide +kernel
theorem dX5_write_1 : decode cX5_write 1 = .ok (.invokestatic 263, 3) := by decide +kernel
theorem dX5_write_4 : decode cX5_write 4 = .ok (.ifCond .ne 11, 3) := by decide +kernel
theorem dX5_write_7 : decode cX5_write 7 = .ok (.aload_n 0, 1) := by decide +kernel
theorem dX5_write_8 : decode cX5_write 8 = .ok (.ldc 44, 2) := by decide +kernel
theorem dX5_write_10 : decode cX5_write 10 = .ok (.invokevirtual 81, 3) := by decide +kernel
theorem dX5_write_13 : decode cX5_write 13 = .ok (.i2l, 1) := by decide +kernel
theorem dX5_write_14 : decode cX5_write 14 = .ok (.lreturn, 1) := by decide +kernel
theorem dX5_write_15 : decode cX5_write 15 = .ok (.aload_n 0, 1) := by decide +kernel
theorem dX5_write_16 : decode cX5_write 16 = .ok (.getfield 25, 3) := by decide +kernel
theorem dX5_write_19 : decode cX5_write 19 = .ok (.iload_n 1, 1) := by decide +kernel
theorem dX5_write_20 : decode cX5_write 20 = .ok (.iaload, 1) := by decide +kernel
theorem dX5_write_21 : decode cX5_write 21 = .ok (.ifCond .ne 12, 3) := by decide +kernel
theorem dX5_write_24 : decode cX5_write 24 = .ok (.aload_n 0, 1) := by decide +kernel
theorem dX5_write_25 : decode cX5_write 25 = .ok (.ldc_w 267, 3) := by decide +kernel
theorem dX5_write_28 : decode cX5_write 28 = .ok (.invokevirtual 81, 3) := by decide +kernel
theorem dX5_write_31 : decode cX5_write 31 = .ok (.i2l, 1) := by decide +kernel
theorem dX5_write_32 : decode cX5_write 32 = .ok (.lreturn, 1) := by decide +kernel
theorem dX5_write_33 : decode cX5_write 33 = .ok (.iload_n 2, 1) := by decide +kernel
theorem dX5_write_34 : decode cX5_write 34 = .ok (.iconst 0, 1) := by decide +kernel
theorem dX5_write_35 : decode cX5_write 35 = .ok (.aload_n 0, 1) := by decide +kernel
theorem dX5_write_36 : decode cX5_write 36 = .ok (.getfield 28, 3) := by decide +kernel
theorem dX5_write_39 : decode cX5_write 39 = .ok (.iload_n 1, 1) := by decide +kernel
theorem dX5_write_40 : decode cX5_write 40 = .ok (.iaload, 1) := by decide +kernel
theorem dX5_write_41 : decode cX5_write 41 = .ok (.iconst 1, 1) := by decide +kernel
theorem dX5_write_42 : decode cX5_write 42 = .ok (.isub, 1) := by decide +kernel
theorem dX5_write_43 : decode cX5_write 43 = .ok (.invokestatic 45, 3) := by decide +kernel
theorem dX5_write_46 : decode cX5_write 46 = .ok (.ifCond .ne 11, 3) := by decide +kernel
theorem dX5_write_49 : decode cX5_write 49 = .ok (.aload_n 0, 1) := by decide +kernel
theorem dX5_write_50 : decode cX5_write 50 = .ok (.ldc 44, 2) := by decide +kernel
theorem dX5_write_52 : decode cX5_write 52 = .ok (.invokevirtual 81, 3) := by decide +kernel
theorem dX5_write_55 : decode cX5_write 55 = .ok (.i2l, 1) := by decide +kernel
theorem dX5_write_56 : decode cX5_write 56 = .ok (.lreturn, 1) := by decide +kernel
theorem dX5_write_57 : decode cX5_write 57 = .ok (.aload_n 0, 1) := by decide +kernel
theorem dX5_write_58 : decode cX5_write 58 = .ok (.getfield 31, 3) := by decide +kernel
theorem dX5_write_61 : decode cX5_write 61 = .ok (.bipush 40, 2) := by decide +kernel
theorem dX5_write_63 : decode cX5_write 63 = .ok (.iload_n 1, 1) := by decide +kernel
theorem dX5_write_64 : decode cX5_write 64 = .ok (.imul, 1) := by decide +kernel
theorem dX5_write_65 : decode cX5_write 65 = .ok (.iload_n 2, 1) := by decide +kernel
theorem dX5_write_66 : decode cX5_write 66 = .ok (.iadd, 1) := by decide +kernel
theorem dX5_write_67 : decode cX5_write 67 = .ok (.laload, 1) := by decide +kernel
theorem dX5_write_68 : decode cX5_write 68 = .ok (.lstore 5, 2) := by decide +kernel
theorem dX5_write_70 : decode cX5_write 70 = .ok (.aload_n 0, 1) := by decide +kernel
theorem dX5_write_71 : decode cX5_write 71 = .ok (.getfield 31, 3) := by decide +kernel
theorem dX5_write_74 : decode cX5_write 74 = .ok (.bipush 40, 2) := by decide +kernel
theorem dX5_write_76 : decode cX5_write 76 = .ok (.iload_n 1, 1) := by decide +kernel
theorem dX5_write_77 : decode cX5_write 77 = .ok (.imul, 1) := by decide +kernel
theorem dX5_write_78 : decode cX5_write 78 = .ok (.iload_n 2, 1) := by decide +kernel
theorem dX5_write_79 : decode cX5_write 79 = .ok (.iadd, 1) := by decide +kernel
theorem dX5_write_80 : decode cX5_write 80 = .ok (.aload_n 0, 1) := by decide +kernel
theorem dX5_write_81 : decode cX5_write 81 = .ok (.getfield 25, 3) := by decide +kernel
theorem dX5_write_84 : decode cX5_write 84 = .ok (.iload_n 1, 1) := by decide +kernel
theorem dX5_write_85 : decode cX5_write 85 = .ok (.iaload, 1) := by decide +kernel
theorem dX5_write_86 : decode cX5_write 86 = .ok (.lload_n 3, 1) := by decide +kernel
theorem dX5_write_87 : decode cX5_write 87 = .ok (.invokestatic 268, 3) := by decide +kernel
theorem dX5_write_90 : decode cX5_write 90 = .ok (.lastore, 1) := by decide +kernel
theorem dX5_write_91 : decode cX5_write 91 = .ok (.lload 5, 2) := by decide +kernel
theorem dX5_write_93 : decode cX5_write 93 = .ok (.lreturn, 1) := by decide +kernel
theorem dX5_isPart__0 : decode cX5_isPart_ 0 = .ok (.iload_n 2, 1) := by decide +kernel
theorem dX5_isPart__1 : decode cX5_isPart_ 1 = .ok (.ifCond .lt 33, 3) := by decide +kernel
theorem dX5_isPart__4 : decode cX5_isPart_ 4 = .ok (.iload_n 3, 1) := by decide +kernel
theorem dX5_isPart__5 : decode cX5_isPart_ 5 = .ok (.ifCond .lt 29, 3) := by decide +kernel
theorem dX5_isPart__8 : decode cX5_isPart_ 8 = .ok (.iload_n 3, 1) := by decide +kernel
theorem dX5_isPart__9 : decode cX5_isPart_ 9 = .ok (.aload_n 0, 1) := by decide +kernel
theorem dX5_isPart__10 : decode cX5_isPart_ 10 = .ok (.getfield 28, 3) := by decide +kernel
theorem dX5_isPart__13 : decode cX5_isPart_ 13 = .ok (.iload_n 1, 1) := by decide +kernel
theorem dX5_isPart__14 : decode cX5_isPart_ 14 = .ok (.iaload, 1) := by decide +kernel
theorem dX5_isPart__15 : decode cX5_isPart_ 15 = .ok (.if_icmp .gt 19, 3) := by decide +kernel
theorem dX5_isPart__18 : decode cX5_isPart_ 18 = .ok (.iload_n 2, 1) := by decide +kernel
theorem dX5_isPart__19 : decode cX5_isPart_ 19 = .ok (.aload_n 0, 1) := by decide +kernel
theorem dX5_isPart__20 : decode cX5_isPart_ 20 = .ok (.getfield 28, 3) := by decide +kernel
theorem dX5_isPart__23 : decode cX5_isPart_ 23 = .ok (.iload_n 1, 1) := by decide +kernel
theorem dX5_isPart__24 : decode cX5_isPart_ 24 = .ok (.iaload, 1) := by decide +kernel
theorem dX5_isPart__25 : decode cX5_isPart_ 25 = .ok (.iload_n 3, 1) := by decide +kernel
theorem dX5_isPart__26 : decode cX5_isPart_ 26 = .ok (.isub, 1) := by decide +kernel
theorem dX5_isPart__27 : decode cX5_isPart_ 27 = .ok (.if_icmp .gt 7, 3) := by decide +kernel
theorem dX5_isPart__30 : decode cX5_isPart_ 30 = .ok (.iconst 1, 1) := by decide +kernel
theorem dX5_isPart__31 : decode cX5_isPart_ 31 = .ok (.goto 4, 3) := by decide +kernel
theorem dX5_isPart__34 : decode cX5_isPart_ 34 = .ok (.iconst 0, 1) := by decide +kernel
theorem dX5_isPart__35 : decode cX5_isPart_ 35 = .ok (.ireturn, 1) := by decide +kernel
theorem dX5_copy_0 : decode cX5_copy 0 = .ok (.iload_n 1, 1) := by decide +kernel
theorem dX5_copy_1 : decode cX5_copy 1 = .ok (.invokestatic 263, 3) := by decide +kernel
theorem dX5_copy_4 : decode cX5_copy 4 = .ok (.ifCond .eq 10, 3) := by decide +kernel
theorem dX5_copy_7 : decode cX5_copy 7 = .ok (.iload_n 3, 1) := by decide +kernel
theorem dX5_copy_8 : decode cX5_copy 8 = .ok (.invokestatic 263, 3) := by decide +kernel
theorem dX5_copy_11 : decode cX5_copy 11 = .ok (.ifCond .ne 10, 3) := by decide +kernel
theorem dX5_copy_14 : decode cX5_copy 14 = .ok (.aload_n 0, 1) := by decide +kernel
theorem dX5_copy_15 : decode cX5_copy 15 = .ok (.ldc 44, 2) := by decide +kernel
theorem dX5_copy_17 : decode cX5_copy 17 = .ok (.invokevirtual 81, 3) := by decide +kernel
theorem dX5_copy_20 : decode cX5_copy 20 = .ok (.ireturn, 1) := by decide +kernel
theorem dX5_copy_21 : decode cX5_copy 21 = .ok (.aload_n 0, 1) := by decide +kernel
theorem dX5_copy_22 : decode cX5_copy 22 = .ok (.getfield 25, 3) := by decide +kernel
theorem dX5_copy_25 : decode cX5_copy 25 = .ok (.iload_n 1, 1) := by decide +kernel
theorem dX5_copy_26 : decode cX5_copy 26 = .ok (.iaload, 1) := by decide +kernel
theorem dX5_copy_27 : decode cX5_copy 27 = .ok (.ifCond .eq 12, 3) := by decide +kernel
theorem dX5_copy_30 : decode cX5_copy 30 = .ok (.aload_n 0, 1) := by decide +kernel
theorem dX5_copy_31 : decode cX5_copy 31 = .ok (.getfield 25, 3) := by decide +kernel
theorem dX5_copy_34 : decode cX5_copy 34 = .ok (.iload_n 3, 1) := by decide +kernel
theorem dX5_copy_35 : decode cX5_copy 35 = .ok (.iaload, 1) := by decide +kernel
theorem dX5_copy_36 : decode cX5_copy 36 = .ok (.ifCond .ne 11, 3) := by decide +kernel
theorem dX5_copy_39 : decode cX5_copy 39 = .ok (.aload_n 0, 1) := by decide +kernel
theorem dX5_copy_40 : decode cX5_copy 40 = .ok (.ldc_w 267, 3) := by decide +kernel
theorem dX5_copy_43 : decode cX5_copy 43 = .ok (.invokevirtual 81, 3) := by decide +kernel
theorem dX5_copy_46 : decode cX5_copy 46 = .ok (.ireturn, 1) := by decide +kernel
theorem dX5_copy_47 : decode cX5_copy 47 = .ok (.aload_n 0, 1) := by decide +kernel
theorem dX5_copy_48 : decode cX5_copy 48 = .ok (.getfield 25, 3) := by decide +kernel
theorem dX5_copy_51 : decode cX5_copy 51 = .ok (.iload_n 1, 1) := by decide +kernel
theorem dX5_copy_52 : decode cX5_copy 52 = .ok (.iaload, 1) := by decide +kernel
theorem dX5_copy_53 : decode cX5_copy 53 = .ok (.aload_n 0, 1) := by decide +kernel
theorem dX5_copy_54 : decode cX5_copy 54 = .ok (.getfield 25, 3) := by decide +kernel
theorem dX5_copy_57 : decode cX5_copy 57 = .ok (.iload_n 3, 1) := by decide +kernel
theorem dX5_copy_58 : decode cX5_copy 58 = .ok (.iaload, 1) := by decide +kernel
theorem dX5_copy_59 : decode cX5_copy 59 = .ok (.if_icmp .eq 10, 3) := by decide +kernel
theorem dX5_copy_62 : decode cX5_copy 62 = .ok (.aload_n 0, 1) := by decide +kernel
theorem dX5_copy_63 : decode cX5_copy 63 = .ok (.ldc 127, 2) := by decide +kernel
theorem dX5_copy_65 : decode cX5_copy 65 = .ok (.invokevirtual 81, 3) := by decide +kernel
theorem dX5_copy_68 : decode cX5_copy 68 = .ok (.ireturn, 1) := by decide +kernel
theorem dX5_copy_69 : decode cX5_copy 69 = .ok (.aload_n 0, 1) := by decide +kernel
theorem dX5_copy_70 : decode cX5_copy 70 = .ok (.iload_n 1, 1) := by decide +kernel
theorem dX5_copy_71 : decode cX5_copy 71 = .ok (.iload_n 2, 1) := by decide +kernel
theorem dX5_copy_72 : decode cX5_copy 72 = .ok (.iload 5, 2) := by decide +kernel
theorem dX5_copy_74 : decode cX5_copy 74 = .ok (.invokevirtual 272, 3) := by decide +kernel
theorem dX5_copy_77 : decode cX5_copy 77 = .ok (.ifCond .eq 15, 3) := by decide +kernel
theorem dX5_copy_80 : decode cX5_copy 80 = .ok (.aload_n 0, 1) := by decide +kernel
theorem dX5_copy_81 : decode cX5_copy 81 = .ok (.iload_n 3, 1) := by decide +kernel
theorem dX5_copy_82 : decode cX5_copy 82 = .ok (.iload 4, 2) := by decide +kernel
theorem dX5_copy_84 : decode cX5_copy 84 = .ok (.iload 5, 2) := by decide +kernel
theorem dX5_copy_86 : decode cX5_copy 86 = .ok (.invokevirtual 272, 3) := by decide +kernel
theorem dX5_copy_89 : decode cX5_copy 89 = .ok (.ifCond .ne 10, 3) := by decide +kernel
theorem dX5_copy_92 : decode cX5_copy 92 = .ok (.aload_n 0, 1) := by decide +kernel
theorem dX5_copy_93 : decode cX5_copy 93 = .ok (.ldc 44, 2) := by decide +kernel
theorem dX5_copy_95 : decode cX5_copy 95 = .ok (.invokevirtual 81, 3) := by decide +kernel
theorem dX5_copy_98 : decode cX5_copy 98 = .ok (.ireturn, 1) := by decide +kernel
theorem dX5_copy_99 : decode cX5_copy 99 = .ok (.iconst 0, 1) := by decide +kernel
theorem dX5_copy_100 : decode cX5_copy 100 = .ok (.istore 6, 2) := by decide +kernel
theorem dX5_copy_102 : decode cX5_copy 102 = .ok (.iload 6, 2) := by decide +kernel
theorem dX5_copy_104 : decode cX5_copy 104 = .ok (.iload 5, 2) := by decide +kernel
theorem dX5_copy_106 : decode cX5_copy 106 = .ok (.if_icmp .ge 30, 3) := by decide +kernel
theorem dX5_copy_109 : decode cX5_copy 109 = .ok (.aload_n 0, 1) := by decide +kernel
theorem dX5_copy_110 : decode cX5_copy 110 = .ok (.getfield 35, 3) := by decide +kernel
theorem dX5_copy_113 : decode cX5_copy 113 = .ok (.iload 6, 2) := by decide +kernel
theorem dX5_copy_115 : decode cX5_copy 115 = .ok (.aload_n 0, 1) := by decide +kernel
theorem dX5_copy_116 : decode cX5_copy 116 = .ok (.getfield 31, 3) := by decide +kernel
theorem dX5_copy_119 : decode cX5_copy 119 = .ok (.bipush 40, 2) := by decide +kernel
theorem dX5_copy_121 : decode cX5_copy 121 = .ok (.iload_n 1, 1) := by decide +kernel
theorem dX5_copy_122 : decode cX5_copy 122 = .ok (.imul, 1) := by decide +kernel
theorem dX5_copy_123 : decode cX5_copy 123 = .ok (.iload_n 2, 1) := by decide +kernel
theorem dX5_copy_124 : decode cX5_copy 124 = .ok (.iadd, 1) := by decide +kernel
theorem dX5_copy_125 : decode cX5_copy 125 = .ok (.iload 6, 2) := by decide +kernel
theorem dX5_copy_127 : decode cX5_copy 127 = .ok (.iadd, 1) := by decide +kernel
theorem dX5_copy_128 : decode cX5_copy 128 = .ok (.laload, 1) := by decide +kernel
theorem dX5_copy_129 : decode cX5_copy 129 = .ok (.lastore, 1) := by decide +kernel
theorem dX5_copy_130 : decode cX5_copy 130 = .ok (.iinc 6 1, 3) := by decide +kernel
theorem dX5_copy_133 : decode cX5_copy 133 = .ok (.goto (-31), 3) := by decide +kernel
theorem dX5_copy_136 : decode cX5_copy 136 = .ok (.iconst 0, 1) := by decide +kernel
theorem dX5_copy_137 : decode cX5_copy 137 = .ok (.istore 6, 2) := by decide +kernel
theorem dX5_copy_139 : decode cX5_copy 139 = .ok (.iload 6, 2) := by decide +kernel
theorem dX5_copy_141 : decode cX5_copy 141 = .ok (.iload 5, 2) := by decide +kernel
theorem dX5_copy_143 : decode cX5_copy 143 = .ok (.if_icmp .ge 31, 3) := by decide +kernel
theorem dX5_copy_146 : decode cX5_copy 146 = .ok (.aload_n 0, 1) := by decide +kernel
theorem dX5_copy_147 : decode cX5_copy 147 = .ok (.getfield 31, 3) := by decide +kernel
theorem dX5_copy_150 : decode cX5_copy 150 = .ok (.bipush 40, 2) := by decide +kernel
theorem dX5_copy_152 : decode cX5_copy 152 = .ok (.iload_n 3, 1) := by decide +kernel
theorem dX5_copy_153 : decode cX5_copy 153 = .ok (.imul, 1) := by decide +kernel
theorem dX5_copy_154 : decode cX5_copy 154 = .ok (.iload 4, 2) := by decide +kernel
theorem dX5_copy_156 : decode cX5_copy 156 = .ok (.iadd, 1) := by decide +kernel
theorem dX5_copy_157 : decode cX5_copy 157 = .ok (.iload 6, 2) := by decide +kernel
theorem dX5_copy_159 : decode cX5_copy 159 = .ok (.iadd, 1) := by decide +kernel
theorem dX5_copy_160 : decode cX5_copy 160 = .ok (.aload_n 0, 1) := by decide +kernel
theorem dX5_copy_161 : decode cX5_copy 161 = .ok (.getfield 35, 3) := by decide +kernel
theorem dX5_copy_164 : decode cX5_copy 164 = .ok (.iload 6, 2) := by decide +kernel
theorem dX5_copy_166 : decode cX5_copy 166 = .ok (.laload, 1) := by decide +kernel
theorem dX5_copy_167 : decode cX5_copy 167 = .ok (.lastore, 1) := by decide +kernel
theorem dX5_copy_168 : decode cX5_copy 168 = .ok (.iinc 6 1, 3) := by decide +kernel
theorem dX5_copy_171 : decode cX5_copy 171 = .ok (.goto (-32), 3) := by decide +kernel
theorem dX5_copy_174 : decode cX5_copy 174 = .ok (.iload 5, 2) := by decide +kernel
theorem dX5_copy_176 : decode cX5_copy 176 = .ok (.ireturn, 1) := by decide +kernel
theorem dX5_badSheet_0 : decode cX5_badSheet 0 = .ok (.iload_n 1, 1) := by decide +kernel
theorem dX5_badSheet_1 : decode cX5_badSheet 1 = .ok (.invokestatic 263, 3) := by decide +kernel
theorem dX5_badSheet_4 : decode cX5_badSheet 4 = .ok (.ifCond .ne 8, 3) := by decide +kernel
theorem dX5_badSheet_7 : decode cX5_badSheet 7 = .ok (.ldc 44, 2) := by decide +kernel
theorem dX5_badSheet_9 : decode cX5_badSheet 9 = .ok (.goto 19, 3) := by decide +kernel
theorem dX5_badSheet_12 : decode cX5_badSheet 12 = .ok (.aload_n 0, 1) := by decide +kernel
theorem dX5_badSheet_13 : decode cX5_badSheet 13 = .ok (.getfield 25, 3) := by decide +kernel
theorem dX5_badSheet_16 : decode cX5_badSheet 16 = .ok (.iload_n 1, 1) := by decide +kernel
theorem dX5_badSheet_17 : decode cX5_badSheet 17 = .ok (.iaload, 1) := by decide +kernel
theorem dX5_badSheet_18 : decode cX5_badSheet 18 = .ok (.ifCond .ne 9, 3) := by decide +kernel
theorem dX5_badSheet_21 : decode cX5_badSheet 21 = .ok (.ldc_w 267, 3) := by decide +kernel
theorem dX5_badSheet_24 : decode cX5_badSheet 24 = .ok (.goto 4, 3) := by decide +kernel
theorem dX5_badSheet_27 : decode cX5_badSheet 27 = .ok (.iconst 0, 1) := by decide +kernel
theorem dX5_badSheet_28 : decode cX5_badSheet 28 = .ok (.ireturn, 1) := by decide +kernel
theorem dX5_lays_0 : decode cX5_lays 0 = .ok (.aload_n 0, 1) := by decide +kernel
theorem dX5_lays_1 : decode cX5_lays 1 = .ok (.iload_n 1, 1) := by decide +kernel
theorem dX5_lays_2 : decode cX5_lays 2 = .ok (.invokevirtual 274, 3) := by decide +kernel
theorem dX5_lays_5 : decode cX5_lays 5 = .ok (.istore_n 2, 1) := by decide +kernel
theorem dX5_lays_6 : decode cX5_lays 6 = .ok (.iload_n 2, 1) := by decide +kernel
theorem dX5_lays_7 : decode cX5_lays 7 = .ok (.ifCond .eq 9, 3) := by decide +kernel
theorem dX5_lays_10 : decode cX5_lays 10 = .ok (.aload_n 0, 1) := by decide +kernel
theorem dX5_lays_11 : decode cX5_lays 11 = .ok (.iload_n 2, 1) := by decide +kernel
theorem dX5_lays_12 : decode cX5_lays 12 = .ok (.invokevirtual 81, 3) := by decide +kernel
theorem dX5_lays_15 : decode cX5_lays 15 = .ok (.ireturn, 1) := by decide +kernel
theorem dX5_lays_16 : decode cX5_lays 16 = .ok (.iconst 0, 1) := by decide +kernel
theorem dX5_lays_17 : decode cX5_lays 17 = .ok (.istore_n 3, 1) := by decide +kernel
theorem dX5_lays_18 : decode cX5_lays 18 = .ok (.iconst 0, 1) := by decide +kernel
theorem dX5_lays_19 : decode cX5_lays 19 = .ok (.istore 4, 2) := by decide +kernel
theorem dX5_lays_21 : decode cX5_lays 21 = .ok (.iload 4, 2) := by decide +kernel
theorem dX5_lays_23 : decode cX5_lays 23 = .ok (.aload_n 0, 1) := by decide +kernel
theorem dX5_lays_24 : decode cX5_lays 24 = .ok (.getfield 28, 3) := by decide +kernel
theorem dX5_lays_27 : decode cX5_lays 27 = .ok (.iload_n 1, 1) := by decide +kernel
theorem dX5_lays_28 : decode cX5_lays 28 = .ok (.iaload, 1) := by decide +kernel
theorem dX5_lays_29 : decode cX5_lays 29 = .ok (.if_icmp .ge 63, 3) := by decide +kernel
theorem dX5_lays_32 : decode cX5_lays 32 = .ok (.iload 4, 2) := by decide +kernel
theorem dX5_lays_34 : decode cX5_lays 34 = .ok (.aload_n 0, 1) := by decide +kernel
theorem dX5_lays_35 : decode cX5_lays 35 = .ok (.getfield 7, 3) := by decide +kernel
theorem dX5_lays_38 : decode cX5_lays 38 = .ok (.iconst 2, 1) := by decide +kernel
theorem dX5_lays_39 : decode cX5_lays 39 = .ok (.iaload, 1) := by decide +kernel
theorem dX5_lays_40 : decode cX5_lays 40 = .ok (.if_icmp .ge 52, 3) := by decide +kernel
theorem dX5_lays_43 : decode cX5_lays 43 = .ok (.aload_n 0, 1) := by decide +kernel
theorem dX5_lays_44 : decode cX5_lays 44 = .ok (.getfield 31, 3) := by decide +kernel
theorem dX5_lays_47 : decode cX5_lays 47 = .ok (.bipush 40, 2) := by decide +kernel
theorem dX5_lays_49 : decode cX5_lays 49 = .ok (.iload_n 1, 1) := by decide +kernel
theorem dX5_lays_50 : decode cX5_lays 50 = .ok (.imul, 1) := by decide +kernel
theorem dX5_lays_51 : decode cX5_lays 51 = .ok (.iload 4, 2) := by decide +kernel
theorem dX5_lays_53 : decode cX5_lays 53 = .ok (.iadd, 1) := by decide +kernel
theorem dX5_lays_54 : decode cX5_lays 54 = .ok (.laload, 1) := by decide +kernel
theorem dX5_lays_55 : decode cX5_lays 55 = .ok (.lstore 5, 2) := by decide +kernel
theorem dX5_lays_57 : decode cX5_lays 57 = .ok (.lload 5, 2) := by decide +kernel
theorem dX5_lays_59 : decode cX5_lays 59 = .ok (.lconst 0, 1) := by decide +kernel
theorem dX5_lays_60 : decode cX5_lays 60 = .ok (.lcmp, 1) := by decide +kernel
theorem dX5_lays_61 : decode cX5_lays 61 = .ok (.ifCond .lt 25, 3) := by decide +kernel
theorem dX5_lays_64 : decode cX5_lays 64 = .ok (.lload 5, 2) := by decide +kernel
theorem dX5_lays_66 : decode cX5_lays 66 = .ok (.ldc2_w 277, 3) := by decide +kernel
theorem dX5_lays_69 : decode cX5_lays 69 = .ok (.lcmp, 1) := by decide +kernel
theorem dX5_lays_70 : decode cX5_lays 70 = .ok (.ifCond .gt 16, 3) := by decide +kernel
theorem dX5_lays_73 : decode cX5_lays 73 = .ok (.aload_n 0, 1) := by decide +kernel
theorem dX5_lays_74 : decode cX5_lays 74 = .ok (.iload 4, 2) := by decide +kernel
theorem dX5_lays_76 : decode cX5_lays 76 = .ok (.iconst 3, 1) := by decide +kernel
theorem dX5_lays_77 : decode cX5_lays 77 = .ok (.lload 5, 2) := by decide +kernel
theorem dX5_lays_79 : decode cX5_lays 79 = .ok (.l2i, 1) := by decide +kernel
theorem dX5_lays_80 : decode cX5_lays 80 = .ok (.invokevirtual 99, 3) := by decide +kernel
theorem dX5_lays_83 : decode cX5_lays 83 = .ok (.iinc 3 1, 3) := by decide +kernel
theorem dX5_lays_86 : decode cX5_lays 86 = .ok (.iinc 4 1, 3) := by decide +kernel
theorem dX5_lays_89 : decode cX5_lays 89 = .ok (.goto (-68), 3) := by decide +kernel
theorem dX5_lays_92 : decode cX5_lays 92 = .ok (.iload_n 3, 1) := by decide +kernel
theorem dX5_lays_93 : decode cX5_lays 93 = .ok (.ireturn, 1) := by decide +kernel
theorem dX5_book_0 : decode cX5_book 0 = .ok (.aload_n 0, 1) := by decide +kernel
theorem dX5_book_1 : decode cX5_book 1 = .ok (.iload_n 1, 1) := by decide +kernel
theorem dX5_book_2 : decode cX5_book 2 = .ok (.invokevirtual 274, 3) := by decide +kernel
theorem dX5_book_5 : decode cX5_book 5 = .ok (.istore_n 3, 1) := by decide +kernel
theorem dX5_book_6 : decode cX5_book 6 = .ok (.iload_n 3, 1) := by decide +kernel
theorem dX5_book_7 : decode cX5_book 7 = .ok (.ifCond .eq 9, 3) := by decide +kernel
theorem dX5_book_10 : decode cX5_book 10 = .ok (.aload_n 0, 1) := by decide +kernel
theorem dX5_book_11 : decode cX5_book 11 = .ok (.iload_n 3, 1) := by decide +kernel
theorem dX5_book_12 : decode cX5_book 12 = .ok (.invokevirtual 81, 3) := by decide +kernel
theorem dX5_book_15 : decode cX5_book 15 = .ok (.ireturn, 1) := by decide +kernel
theorem dX5_book_16 : decode cX5_book 16 = .ok (.aload_n 0, 1) := by decide +kernel
theorem dX5_book_17 : decode cX5_book 17 = .ok (.iload_n 2, 1) := by decide +kernel
theorem dX5_book_18 : decode cX5_book 18 = .ok (.invokevirtual 111, 3) := by decide +kernel
theorem dX5_book_21 : decode cX5_book 21 = .ok (.ifCond .ne 10, 3) := by decide +kernel
theorem dX5_book_24 : decode cX5_book 24 = .ok (.aload_n 0, 1) := by decide +kernel
theorem dX5_book_25 : decode cX5_book 25 = .ok (.ldc 44, 2) := by decide +kernel
theorem dX5_book_27 : decode cX5_book 27 = .ok (.invokevirtual 81, 3) := by decide +kernel
theorem dX5_book_30 : decode cX5_book 30 = .ok (.ireturn, 1) := by decide +kernel
theorem dX5_book_31 : decode cX5_book 31 = .ok (.aload_n 0, 1) := by decide +kernel
theorem dX5_book_32 : decode cX5_book 32 = .ok (.iconst 1, 1) := by decide +kernel
theorem dX5_book_33 : decode cX5_book 33 = .ok (.aload_n 0, 1) := by decide +kernel
theorem dX5_book_34 : decode cX5_book 34 = .ok (.getfield 16, 3) := by decide +kernel
theorem dX5_book_37 : decode cX5_book 37 = .ok (.invokevirtual 156, 3) := by decide +kernel
theorem dX5_book_40 : decode cX5_book 40 = .ok (.iconst 0, 1) := by decide +kernel
theorem dX5_book_41 : decode cX5_book 41 = .ok (.istore 4, 2) := by decide +kernel
theorem dX5_book_43 : decode cX5_book 43 = .ok (.iload 4, 2) := by decide +kernel
theorem dX5_book_45 : decode cX5_book 45 = .ok (.aload_n 0, 1) := by decide +kernel
theorem dX5_book_46 : decode cX5_book 46 = .ok (.getfield 28, 3) := by decide +kernel
theorem dX5_book_49 : decode cX5_book 49 = .ok (.iload_n 1, 1) := by decide +kernel
theorem dX5_book_50 : decode cX5_book 50 = .ok (.iaload, 1) := by decide +kernel
theorem dX5_book_51 : decode cX5_book 51 = .ok (.if_icmp .ge 32, 3) := by decide +kernel
theorem dX5_book_54 : decode cX5_book 54 = .ok (.aload_n 0, 1) := by decide +kernel
theorem dX5_book_55 : decode cX5_book 55 = .ok (.getfield 31, 3) := by decide +kernel
theorem dX5_book_58 : decode cX5_book 58 = .ok (.bipush 40, 2) := by decide +kernel
theorem dX5_book_60 : decode cX5_book 60 = .ok (.iload_n 1, 1) := by decide +kernel
theorem dX5_book_61 : decode cX5_book 61 = .ok (.imul, 1) := by decide +kernel
theorem dX5_book_62 : decode cX5_book 62 = .ok (.iload 4, 2) := by decide +kernel
theorem dX5_book_64 : decode cX5_book 64 = .ok (.iadd, 1) := by decide +kernel
theorem dX5_book_65 : decode cX5_book 65 = .ok (.aload_n 0, 1) := by decide +kernel
theorem dX5_book_66 : decode cX5_book 66 = .ok (.iload_n 2, 1) := by decide +kernel
theorem dX5_book_67 : decode cX5_book 67 = .ok (.iconst 4, 1) := by decide +kernel
theorem dX5_book_68 : decode cX5_book 68 = .ok (.invokevirtual 53, 3) := by decide +kernel
theorem dX5_book_71 : decode cX5_book 71 = .ok (.i2l, 1) := by decide +kernel
theorem dX5_book_72 : decode cX5_book 72 = .ok (.lastore, 1) := by decide +kernel
theorem dX5_book_73 : decode cX5_book 73 = .ok (.aload_n 0, 1) := by decide +kernel
theorem dX5_book_74 : decode cX5_book 74 = .ok (.invokevirtual 148, 3) := by decide +kernel
theorem dX5_book_77 : decode cX5_book 77 = .ok (.iinc 4 1, 3) := by decide +kernel
theorem dX5_book_80 : decode cX5_book 80 = .ok (.goto (-37), 3) := by decide +kernel
theorem dX5_book_83 : decode cX5_book 83 = .ok (.aload_n 0, 1) := by decide +kernel
theorem dX5_book_84 : decode cX5_book 84 = .ok (.iconst 0, 1) := by decide +kernel
theorem dX5_book_85 : decode cX5_book 85 = .ok (.aload_n 0, 1) := by decide +kernel
theorem dX5_book_86 : decode cX5_book 86 = .ok (.getfield 16, 3) := by decide +kernel
theorem dX5_book_89 : decode cX5_book 89 = .ok (.invokevirtual 156, 3) := by decide +kernel
theorem dX5_book_92 : decode cX5_book 92 = .ok (.aload_n 0, 1) := by decide +kernel
theorem dX5_book_93 : decode cX5_book 93 = .ok (.getfield 28, 3) := by decide +kernel
theorem dX5_book_96 : decode cX5_book 96 = .ok (.iload_n 1, 1) := by decide +kernel
theorem dX5_book_97 : decode cX5_book 97 = .ok (.iaload, 1) := by decide +kernel
theorem dX5_book_98 : decode cX5_book 98 = .ok (.ireturn, 1) := by decide +kernel
theorem dX5_isSo_0 : decode cX5_isSo 0 = .ok (.iconst 1, 1) := by decide +kernel
theorem dX5_isSo_1 : decode cX5_isSo 1 = .ok (.istore_n 3, 1) := by decide +kernel
theorem dX5_isSo_2 : decode cX5_isSo 2 = .ok (.iconst 0, 1) := by decide +kernel
theorem dX5_isSo_3 : decode cX5_isSo 3 = .ok (.istore 4, 2) := by decide +kernel
theorem dX5_isSo_5 : decode cX5_isSo 5 = .ok (.iload 4, 2) := by decide +kernel
theorem dX5_isSo_7 : decode cX5_isSo 7 = .ok (.aload_n 0, 1) := by decide +kernel
theorem dX5_isSo_8 : decode cX5_isSo 8 = .ok (.getfield 28, 3) := by decide +kernel
theorem dX5_isSo_11 : decode cX5_isSo 11 = .ok (.iload_n 1, 1) := by decide +kernel
theorem dX5_isSo_12 : decode cX5_isSo 12 = .ok (.iaload, 1) := by decide +kernel
theorem dX5_isSo_13 : decode cX5_isSo 13 = .ok (.if_icmp .ge 46, 3) := by decide +kernel
theorem dX5_isSo_16 : decode cX5_isSo 16 = .ok (.iload_n 3, 1) := by decide +kernel
theorem dX5_isSo_17 : decode cX5_isSo 17 = .ok (.ifCond .eq 42, 3) := by decide +kernel
theorem dX5_isSo_20 : decode cX5_isSo 20 = .ok (.aload_n 0, 1) := by decide +kernel
theorem dX5_isSo_21 : decode cX5_isSo 21 = .ok (.getfield 31, 3) := by decide +kernel
theorem dX5_isSo_24 : decode cX5_isSo 24 = .ok (.bipush 40, 2) := by decide +kernel
theorem dX5_isSo_26 : decode cX5_isSo 26 = .ok (.iload_n 1, 1) := by decide +kernel
theorem dX5_isSo_27 : decode cX5_isSo 27 = .ok (.imul, 1) := by decide +kernel
theorem dX5_isSo_28 : decode cX5_isSo 28 = .ok (.iload 4, 2) := by decide +kernel
theorem dX5_isSo_30 : decode cX5_isSo 30 = .ok (.iadd, 1) := by decide +kernel
theorem dX5_isSo_31 : decode cX5_isSo 31 = .ok (.laload, 1) := by decide +kernel
theorem dX5_isSo_32 : decode cX5_isSo 32 = .ok (.aload_n 0, 1) := by decide +kernel
theorem dX5_isSo_33 : decode cX5_isSo 33 = .ok (.iload_n 2, 1) := by decide +kernel
theorem dX5_isSo_34 : decode cX5_isSo 34 = .ok (.iconst 4, 1) := by decide +kernel
theorem dX5_isSo_35 : decode cX5_isSo 35 = .ok (.invokevirtual 53, 3) := by decide +kernel
theorem dX5_isSo_38 : decode cX5_isSo 38 = .ok (.i2l, 1) := by decide +kernel
theorem dX5_isSo_39 : decode cX5_isSo 39 = .ok (.lcmp, 1) := by decide +kernel
theorem dX5_isSo_40 : decode cX5_isSo 40 = .ok (.ifCond .ne 7, 3) := by decide +kernel
theorem dX5_isSo_43 : decode cX5_isSo 43 = .ok (.iconst 1, 1) := by decide +kernel
theorem dX5_isSo_44 : decode cX5_isSo 44 = .ok (.goto 4, 3) := by decide +kernel
theorem dX5_isSo_47 : decode cX5_isSo 47 = .ok (.iconst 0, 1) := by decide +kernel
theorem dX5_isSo_48 : decode cX5_isSo 48 = .ok (.istore_n 3, 1) := by decide +kernel
theorem dX5_isSo_49 : decode cX5_isSo 49 = .ok (.aload_n 0, 1) := by decide +kernel
theorem dX5_isSo_50 : decode cX5_isSo 50 = .ok (.invokevirtual 148, 3) := by decide +kernel
theorem dX5_isSo_53 : decode cX5_isSo 53 = .ok (.iinc 4 1, 3) := by decide +kernel
theorem dX5_isSo_56 : decode cX5_isSo 56 = .ok (.goto (-51), 3) := by decide +kernel
theorem dX5_isSo_59 : decode cX5_isSo 59 = .ok (.iload_n 3, 1) := by decide +kernel
theorem dX5_isSo_60 : decode cX5_isSo 60 = .ok (.ireturn, 1) := by decide +kernel
theorem dX5_read_0 : decode cX5_read 0 = .ok (.aload_n 0, 1) := by decide +kernel
theorem dX5_read_1 : decode cX5_read 1 = .ok (.iload_n 1, 1) := by decide +kernel
theorem dX5_read_2 : decode cX5_read 2 = .ok (.invokevirtual 274, 3) := by decide +kernel
theorem dX5_read_5 : decode cX5_read 5 = .ok (.istore_n 3, 1) := by decide +kernel
theorem dX5_read_6 : decode cX5_read 6 = .ok (.iload_n 3, 1) := by decide +kernel
theorem dX5_read_7 : decode cX5_read 7 = .ok (.ifCond .eq 9, 3) := by decide +kernel
theorem dX5_read_10 : decode cX5_read 10 = .ok (.aload_n 0, 1) := by decide +kernel
theorem dX5_read_11 : decode cX5_read 11 = .ok (.iload_n 3, 1) := by decide +kernel
theorem dX5_read_12 : decode cX5_read 12 = .ok (.invokevirtual 81, 3) := by decide +kernel
theorem dX5_read_15 : decode cX5_read 15 = .ok (.ireturn, 1) := by decide +kernel
theorem dX5_read_16 : decode cX5_read 16 = .ok (.aload_n 0, 1) := by decide +kernel
theorem dX5_read_17 : decode cX5_read 17 = .ok (.iload_n 2, 1) := by decide +kernel
theorem dX5_read_18 : decode cX5_read 18 = .ok (.invokevirtual 111, 3) := by decide +kernel
theorem dX5_read_21 : decode cX5_read 21 = .ok (.ifCond .ne 10, 3) := by decide +kernel
theorem dX5_read_24 : decode cX5_read 24 = .ok (.aload_n 0, 1) := by decide +kernel
theorem dX5_read_25 : decode cX5_read 25 = .ok (.ldc 44, 2) := by decide +kernel
theorem dX5_read_27 : decode cX5_read 27 = .ok (.invokevirtual 81, 3) := by decide +kernel
theorem dX5_read_30 : decode cX5_read 30 = .ok (.ireturn, 1) := by decide +kernel
theorem dX5_read_31 : decode cX5_read 31 = .ok (.iconst 0, 1) := by decide +kernel
theorem dX5_read_32 : decode cX5_read 32 = .ok (.istore 4, 2) := by decide +kernel
theorem dX5_read_34 : decode cX5_read 34 = .ok (.aload_n 0, 1) := by decide +kernel
theorem dX5_read_35 : decode cX5_read 35 = .ok (.iconst 1, 1) := by decide +kernel
theorem dX5_read_36 : decode cX5_read 36 = .ok (.aload_n 0, 1) := by decide +kernel
theorem dX5_read_37 : decode cX5_read 37 = .ok (.getfield 19, 3) := by decide +kernel
theorem dX5_read_40 : decode cX5_read 40 = .ok (.invokevirtual 156, 3) := by decide +kernel
theorem dX5_read_43 : decode cX5_read 43 = .ok (.iconst 0, 1) := by decide +kernel
theorem dX5_read_44 : decode cX5_read 44 = .ok (.istore 5, 2) := by decide +kernel
theorem dX5_read_46 : decode cX5_read 46 = .ok (.iload 5, 2) := by decide +kernel
theorem dX5_read_48 : decode cX5_read 48 = .ok (.sipush 600, 3) := by decide +kernel
theorem dX5_read_51 : decode cX5_read 51 = .ok (.if_icmp .ge 59, 3) := by decide +kernel
theorem dX5_read_54 : decode cX5_read 54 = .ok (.aload_n 0, 1) := by decide +kernel
theorem dX5_read_55 : decode cX5_read 55 = .ok (.iload_n 2, 1) := by decide +kernel
theorem dX5_read_56 : decode cX5_read 56 = .ok (.iconst 0, 1) := by decide +kernel
theorem dX5_read_57 : decode cX5_read 57 = .ok (.iload 5, 2) := by decide +kernel
theorem dX5_read_59 : decode cX5_read 59 = .ok (.bipush 100, 2) := by decide +kernel
theorem dX5_read_61 : decode cX5_read 61 = .ok (.idiv, 1) := by decide +kernel
theorem dX5_read_62 : decode cX5_read 62 = .ok (.invokevirtual 99, 3) := by decide +kernel
theorem dX5_read_65 : decode cX5_read 65 = .ok (.aload_n 0, 1) := by decide +kernel
theorem dX5_read_66 : decode cX5_read 66 = .ok (.iload_n 2, 1) := by decide +kernel
theorem dX5_read_67 : decode cX5_read 67 = .ok (.iconst 3, 1) := by decide +kernel
theorem dX5_read_68 : decode cX5_read 68 = .ok (.iload 5, 2) := by decide +kernel
theorem dX5_read_70 : decode cX5_read 70 = .ok (.bipush 100, 2) := by decide +kernel
theorem dX5_read_72 : decode cX5_read 72 = .ok (.irem, 1) := by decide +kernel
theorem dX5_read_73 : decode cX5_read 73 = .ok (.invokevirtual 99, 3) := by decide +kernel
theorem dX5_read_76 : decode cX5_read 76 = .ok (.iload 4, 2) := by decide +kernel
theorem dX5_read_78 : decode cX5_read 78 = .ok (.aload_n 0, 1) := by decide +kernel
theorem dX5_read_79 : decode cX5_read 79 = .ok (.iload_n 1, 1) := by decide +kernel
theorem dX5_read_80 : decode cX5_read 80 = .ok (.iload_n 2, 1) := by decide +kernel
theorem dX5_read_81 : decode cX5_read 81 = .ok (.invokevirtual 279, 3) := by decide +kernel
theorem dX5_read_84 : decode cX5_read 84 = .ok (.ifCond .eq 7, 3) := by decide +kernel
theorem dX5_read_87 : decode cX5_read 87 = .ok (.iconst 1, 1) := by decide +kernel
theorem dX5_read_88 : decode cX5_read 88 = .ok (.goto 4, 3) := by decide +kernel
theorem dX5_read_91 : decode cX5_read 91 = .ok (.iconst 0, 1) := by decide +kernel
theorem dX5_read_92 : decode cX5_read 92 = .ok (.iadd, 1) := by decide +kernel
theorem dX5_read_93 : decode cX5_read 93 = .ok (.istore 4, 2) := by decide +kernel
theorem dX5_read_95 : decode cX5_read 95 = .ok (.aload_n 0, 1) := by decide +kernel
theorem dX5_read_96 : decode cX5_read 96 = .ok (.iconst 0, 1) := by decide +kernel
theorem dX5_read_97 : decode cX5_read 97 = .ok (.aload_n 0, 1) := by decide +kernel
theorem dX5_read_98 : decode cX5_read 98 = .ok (.getfield 19, 3) := by decide +kernel
theorem dX5_read_101 : decode cX5_read 101 = .ok (.invokevirtual 156, 3) := by decide +kernel
theorem dX5_read_104 : decode cX5_read 104 = .ok (.iinc 5 1, 3) := by decide +kernel
theorem dX5_read_107 : decode cX5_read 107 = .ok (.goto (-61), 3) := by decide +kernel
theorem dX5_read_110 : decode cX5_read 110 = .ok (.iload 4, 2) := by decide +kernel
theorem dX5_read_112 : decode cX5_read 112 = .ok (.ireturn, 1) := by decide +kernel
theorem dX5_moveAll_0 : decode cX5_moveAll 0 = .ok (.iconst 0, 1) := by decide +kernel
theorem dX5_moveAll_1 : decode cX5_moveAll 1 = .ok (.istore_n 3, 1) := by decide +kernel
theorem dX5_moveAll_2 : decode cX5_moveAll 2 = .ok (.iload_n 3, 1) := by decide +kernel
theorem dX5_moveAll_3 : decode cX5_moveAll 3 = .ok (.bipush 87, 2) := by decide +kernel
theorem dX5_moveAll_5 : decode cX5_moveAll 5 = .ok (.if_icmp .ge 34, 3) := by decide +kernel
theorem dX5_moveAll_8 : decode cX5_moveAll 8 = .ok (.iload_n 1, 1) := by decide +kernel
theorem dX5_moveAll_9 : decode cX5_moveAll 9 = .ok (.ifCond .eq 15, 3) := by decide +kernel
theorem dX5_moveAll_12 : decode cX5_moveAll 12 = .ok (.aload_n 2, 1) := by decide +kernel
theorem dX5_moveAll_13 : decode cX5_moveAll 13 = .ok (.iload_n 3, 1) := by decide +kernel
theorem dX5_moveAll_14 : decode cX5_moveAll 14 = .ok (.aload_n 0, 1) := by decide +kernel
theorem dX5_moveAll_15 : decode cX5_moveAll 15 = .ok (.getfield 7, 3) := by decide +kernel
theorem dX5_moveAll_18 : decode cX5_moveAll 18 = .ok (.iload_n 3, 1) := by decide +kernel
theorem dX5_moveAll_19 : decode cX5_moveAll 19 = .ok (.iaload, 1) := by decide +kernel
theorem dX5_moveAll_20 : decode cX5_moveAll 20 = .ok (.iastore, 1) := by decide +kernel
theorem dX5_moveAll_21 : decode cX5_moveAll 21 = .ok (.goto 12, 3) := by decide +kernel
theorem dX5_moveAll_24 : decode cX5_moveAll 24 = .ok (.aload_n 0, 1) := by decide +kernel
theorem dX5_moveAll_25 : decode cX5_moveAll 25 = .ok (.getfield 7, 3) := by decide +kernel
theorem dX5_moveAll_28 : decode cX5_moveAll 28 = .ok (.iload_n 3, 1) := by decide +kernel
theorem dX5_moveAll_29 : decode cX5_moveAll 29 = .ok (.aload_n 2, 1) := by decide +kernel
theorem dX5_moveAll_30 : decode cX5_moveAll 30 = .ok (.iload_n 3, 1) := by decide +kernel
theorem dX5_moveAll_31 : decode cX5_moveAll 31 = .ok (.iaload, 1) := by decide +kernel
theorem dX5_moveAll_32 : decode cX5_moveAll 32 = .ok (.iastore, 1) := by decide +kernel
theorem dX5_moveAll_33 : decode cX5_moveAll 33 = .ok (.iinc 3 1, 3) := by decide +kernel
theorem dX5_moveAll_36 : decode cX5_moveAll 36 = .ok (.goto (-34), 3) := by decide +kernel
theorem dX5_moveAll_39 : decode cX5_moveAll 39 = .ok (.return_, 1) := by decide +kernel
theorem dX5_image_0 : decode cX5_image 0 = .ok (.aload_n 0, 1) := by decide +kernel
theorem dX5_image_1 : decode cX5_image 1 = .ok (.iconst 1, 1) := by decide +kernel
theorem dX5_image_2 : decode cX5_image 2 = .ok (.aload_n 0, 1) := by decide +kernel
theorem dX5_image_3 : decode cX5_image 3 = .ok (.getfield 38, 3) := by decide +kernel
theorem dX5_image_6 : decode cX5_image 6 = .ok (.invokevirtual 156, 3) := by decide +kernel
theorem dX5_image_9 : decode cX5_image 9 = .ok (.aload_n 0, 1) := by decide +kernel
theorem dX5_image_10 : decode cX5_image 10 = .ok (.iconst 1, 1) := by decide +kernel
theorem dX5_image_11 : decode cX5_image 11 = .ok (.putfield 282, 3) := by decide +kernel
theorem dX5_image_14 : decode cX5_image 14 = .ok (.iconst 1, 1) := by decide +kernel
theorem dX5_image_15 : decode cX5_image 15 = .ok (.ireturn, 1) := by decide +kernel
theorem dX5_undo_0 : decode cX5_undo 0 = .ok (.aload_n 0, 1) := by decide +kernel
theorem dX5_undo_1 : decode cX5_undo 1 = .ok (.getfield 282, 3) := by decide +kernel
theorem dX5_undo_4 : decode cX5_undo 4 = .ok (.ifCond .ne 10, 3) := by decide +kernel
theorem dX5_undo_7 : decode cX5_undo 7 = .ok (.aload_n 0, 1) := by decide +kernel
theorem dX5_undo_8 : decode cX5_undo 8 = .ok (.ldc 166, 2) := by decide +kernel
theorem dX5_undo_10 : decode cX5_undo 10 = .ok (.invokevirtual 81, 3) := by decide +kernel
theorem dX5_undo_13 : decode cX5_undo 13 = .ok (.ireturn, 1) := by decide +kernel
theorem dX5_undo_14 : decode cX5_undo 14 = .ok (.aload_n 0, 1) := by decide +kernel
theorem dX5_undo_15 : decode cX5_undo 15 = .ok (.iconst 0, 1) := by decide +kernel
theorem dX5_undo_16 : decode cX5_undo 16 = .ok (.aload_n 0, 1) := by decide +kernel
theorem dX5_undo_17 : decode cX5_undo 17 = .ok (.getfield 38, 3) := by decide +kernel
theorem dX5_undo_20 : decode cX5_undo 20 = .ok (.invokevirtual 156, 3) := by decide +kernel
theorem dX5_undo_23 : decode cX5_undo 23 = .ok (.aload_n 0, 1) := by decide +kernel
theorem dX5_undo_24 : decode cX5_undo 24 = .ok (.getfield 7, 3) := by decide +kernel
theorem dX5_undo_27 : decode cX5_undo 27 = .ok (.iconst 2, 1) := by decide +kernel
theorem dX5_undo_28 : decode cX5_undo 28 = .ok (.iaload, 1) := by decide +kernel
theorem dX5_undo_29 : decode cX5_undo 29 = .ok (.ireturn, 1) := by decide +kernel
theorem dX5_tear_0 : decode cX5_tear 0 = .ok (.aload_n 0, 1) := by decide +kernel
theorem dX5_tear_1 : decode cX5_tear 1 = .ok (.getfield 282, 3) := by decide +kernel
theorem dX5_tear_4 : decode cX5_tear 4 = .ok (.ifCond .eq 7, 3) := by decide +kernel
theorem dX5_tear_7 : decode cX5_tear 7 = .ok (.iconst 1, 1) := by decide +kernel
theorem dX5_tear_8 : decode cX5_tear 8 = .ok (.goto 4, 3) := by decide +kernel
theorem dX5_tear_11 : decode cX5_tear 11 = .ok (.iconst 0, 1) := by decide +kernel
theorem dX5_tear_12 : decode cX5_tear 12 = .ok (.istore_n 1, 1) := by decide +kernel
theorem dX5_tear_13 : decode cX5_tear 13 = .ok (.aload_n 0, 1) := by decide +kernel
theorem dX5_tear_14 : decode cX5_tear 14 = .ok (.iconst 0, 1) := by decide +kernel
theorem dX5_tear_15 : decode cX5_tear 15 = .ok (.putfield 282, 3) := by decide +kernel
theorem dX5_tear_18 : decode cX5_tear 18 = .ok (.iload_n 1, 1) := by decide +kernel
theorem dX5_tear_19 : decode cX5_tear 19 = .ok (.ireturn, 1) := by decide +kernel
theorem dX5_count_0 : decode cX5_count 0 = .ok (.iload_n 1, 1) := by decide +kernel
theorem dX5_count_1 : decode cX5_count 1 = .ok (.tableswitch 54 0 3 #[31, 38, 43, 48], 31) := by decide +kernel
theorem dX5_count_32 : decode cX5_count 32 = .ok (.aload_n 0, 1) := by decide +kernel
theorem dX5_count_33 : decode cX5_count 33 = .ok (.getfield 7, 3) := by decide +kernel
theorem dX5_count_36 : decode cX5_count 36 = .ok (.iconst 2, 1) := by decide +kernel
theorem dX5_count_37 : decode cX5_count 37 = .ok (.iaload, 1) := by decide +kernel
theorem dX5_count_38 : decode cX5_count 38 = .ok (.ireturn, 1) := by decide +kernel
theorem dX5_count_39 : decode cX5_count 39 = .ok (.aload_n 0, 1) := by decide +kernel
theorem dX5_count_40 : decode cX5_count 40 = .ok (.getfield 170, 3) := by decide +kernel
theorem dX5_count_43 : decode cX5_count 43 = .ok (.ireturn, 1) := by decide +kernel
theorem dX5_count_44 : decode cX5_count 44 = .ok (.aload_n 0, 1) := by decide +kernel
theorem dX5_count_45 : decode cX5_count 45 = .ok (.invokevirtual 60, 3) := by decide +kernel
theorem dX5_count_48 : decode cX5_count 48 = .ok (.ireturn, 1) := by decide +kernel
theorem dX5_count_49 : decode cX5_count 49 = .ok (.aload_n 0, 1) := by decide +kernel
theorem dX5_count_50 : decode cX5_count 50 = .ok (.iconst 5, 1) := by decide +kernel
theorem dX5_count_51 : decode cX5_count 51 = .ok (.invokevirtual 93, 3) := by decide +kernel
theorem dX5_count_54 : decode cX5_count 54 = .ok (.ireturn, 1) := by decide +kernel
theorem dX5_count_55 : decode cX5_count 55 = .ok (.aload_n 0, 1) := by decide +kernel
theorem dX5_count_56 : decode cX5_count 56 = .ok (.ldc 44, 2) := by decide +kernel
theorem dX5_count_58 : decode cX5_count 58 = .ok (.invokevirtual 81, 3) := by decide +kernel
theorem dX5_count_61 : decode cX5_count 61 = .ok (.ireturn, 1) := by decide +kernel
theorem dX5_status_0 : decode cX5_status 0 = .ok (.iload_n 1, 1) := by decide +kernel
theorem dX5_status_1 : decode cX5_status 1 = .ok (.iconst (-1), 1) := by decide +kernel
theorem dX5_status_2 : decode cX5_status 2 = .ok (.bipush 6, 2) := by decide +kernel
theorem dX5_status_4 : decode cX5_status 4 = .ok (.invokestatic 45, 3) := by decide +kernel
theorem dX5_status_7 : decode cX5_status 7 = .ok (.ifCond .ne 10, 3) := by decide +kernel
theorem dX5_status_10 : decode cX5_status 10 = .ok (.aload_n 0, 1) := by decide +kernel
theorem dX5_status_11 : decode cX5_status 11 = .ok (.ldc 44, 2) := by decide +kernel
theorem dX5_status_13 : decode cX5_status 13 = .ok (.invokevirtual 81, 3) := by decide +kernel
theorem dX5_status_16 : decode cX5_status 16 = .ok (.ireturn, 1) := by decide +kernel
theorem dX5_status_17 : decode cX5_status 17 = .ok (.iconst 0, 1) := by decide +kernel
theorem dX5_status_18 : decode cX5_status 18 = .ok (.istore_n 2, 1) := by decide +kernel
theorem dX5_status_19 : decode cX5_status 19 = .ok (.iconst 0, 1) := by decide +kernel
theorem dX5_status_20 : decode cX5_status 20 = .ok (.istore_n 3, 1) := by decide +kernel
theorem dX5_status_21 : decode cX5_status 21 = .ok (.iload_n 3, 1) := by decide +kernel
theorem dX5_status_22 : decode cX5_status 22 = .ok (.bipush 7, 2) := by decide +kernel
theorem dX5_status_24 : decode cX5_status 24 = .ok (.if_icmp .ge 18, 3) := by decide +kernel
theorem dX5_status_27 : decode cX5_status 27 = .ok (.iload_n 2, 1) := by decide +kernel
theorem dX5_status_28 : decode cX5_status 28 = .ok (.aload_n 0, 1) := by decide +kernel
theorem dX5_status_29 : decode cX5_status 29 = .ok (.getfield 13, 3) := by decide +kernel
theorem dX5_status_32 : decode cX5_status 32 = .ok (.iload_n 3, 1) := by decide +kernel
theorem dX5_status_33 : decode cX5_status 33 = .ok (.iaload, 1) := by decide +kernel
theorem dX5_status_34 : decode cX5_status 34 = .ok (.iadd, 1) := by decide +kernel
theorem dX5_status_35 : decode cX5_status 35 = .ok (.istore_n 2, 1) := by decide +kernel
theorem dX5_status_36 : decode cX5_status 36 = .ok (.iinc 3 1, 3) := by decide +kernel
theorem dX5_status_39 : decode cX5_status 39 = .ok (.goto (-18), 3) := by decide +kernel
theorem dX5_status_42 : decode cX5_status 42 = .ok (.iload_n 1, 1) := by decide +kernel
theorem dX5_status_43 : decode cX5_status 43 = .ok (.ifCond .ge 7, 3) := by decide +kernel
theorem dX5_status_46 : decode cX5_status 46 = .ok (.iload_n 2, 1) := by decide +kernel
theorem dX5_status_47 : decode cX5_status 47 = .ok (.goto 17, 3) := by decide +kernel
theorem dX5_status_50 : decode cX5_status 50 = .ok (.aload_n 0, 1) := by decide +kernel
theorem dX5_status_51 : decode cX5_status 51 = .ok (.getfield 13, 3) := by decide +kernel
theorem dX5_status_54 : decode cX5_status 54 = .ok (.iload_n 1, 1) := by decide +kernel
theorem dX5_status_55 : decode cX5_status 55 = .ok (.ifCond .ge 7, 3) := by decide +kernel
theorem dX5_status_58 : decode cX5_status 58 = .ok (.iconst 0, 1) := by decide +kernel
theorem dX5_status_59 : decode cX5_status 59 = .ok (.goto 4, 3) := by decide +kernel
theorem dX5_status_62 : decode cX5_status 62 = .ok (.iload_n 1, 1) := by decide +kernel
theorem dX5_status_63 : decode cX5_status 63 = .ok (.iaload, 1) := by decide +kernel
theorem dX5_status_64 : decode cX5_status 64 = .ok (.ireturn, 1) := by decide +kernel
theorem dJ9_abs_0f7a4_0 : decode cJ9_abs_0f7a4 0 = .ok (.iload_n 0, 1) := by decide +kernel
theorem dJ9_abs_0f7a4_1 : decode cJ9_abs_0f7a4 1 = .ok (.ifCond .ge 8, 3) := by decide +kernel
theorem dJ9_abs_0f7a4_4 : decode cJ9_abs_0f7a4 4 = .ok (.iload_n 0, 1) := by decide +kernel
theorem dJ9_abs_0f7a4_5 : decode cJ9_abs_0f7a4 5 = .ok (.ineg, 1) := by decide +kernel
theorem dJ9_abs_0f7a4_6 : decode cJ9_abs_0f7a4 6 = .ok (.goto 4, 3) := by decide +kernel
theorem dJ9_abs_0f7a4_9 : decode cJ9_abs_0f7a4 9 = .ok (.iload_n 0, 1) := by decide +kernel
theorem dJ9_abs_0f7a4_10 : decode cJ9_abs_0f7a4 10 = .ok (.ireturn, 1) := by decide +kernel
theorem dJ9_max_7cf53_0 : decode cJ9_max_7cf53 0 = .ok (.iload_n 0, 1) := by decide +kernel
theorem dJ9_max_7cf53_1 : decode cJ9_max_7cf53 1 = .ok (.iload_n 1, 1) := by decide +kernel
theorem dJ9_max_7cf53_2 : decode cJ9_max_7cf53 2 = .ok (.if_icmp .lt 7, 3) := by decide +kernel
theorem dJ9_max_7cf53_5 : decode cJ9_max_7cf53 5 = .ok (.iload_n 0, 1) := by decide +kernel
theorem dJ9_max_7cf53_6 : decode cJ9_max_7cf53 6 = .ok (.goto 4, 3) := by decide +kernel
theorem dJ9_max_7cf53_9 : decode cJ9_max_7cf53 9 = .ok (.iload_n 1, 1) := by decide +kernel
theorem dJ9_max_7cf53_10 : decode cJ9_max_7cf53 10 = .ok (.ireturn, 1) := by decide +kernel
theorem dJ9_min_7cf53_0 : decode cJ9_min_7cf53 0 = .ok (.iload_n 0, 1) := by decide +kernel
theorem dJ9_min_7cf53_1 : decode cJ9_min_7cf53 1 = .ok (.iload_n 1, 1) := by decide +kernel
theorem dJ9_min_7cf53_2 : decode cJ9_min_7cf53 2 = .ok (.if_icmp .gt 7, 3) := by decide +kernel
theorem dJ9_min_7cf53_5 : decode cJ9_min_7cf53 5 = .ok (.iload_n 0, 1) := by decide +kernel
theorem dJ9_min_7cf53_6 : decode cJ9_min_7cf53 6 = .ok (.goto 4, 3) := by decide +kernel
theorem dJ9_min_7cf53_9 : decode cJ9_min_7cf53 9 = .ok (.iload_n 1, 1) := by decide +kernel
theorem dJ9_min_7cf53_10 : decode cJ9_min_7cf53 10 = .ok (.ireturn, 1) := by decide +kernel
theorem dJ0_length_8abf5_0 : decode cJ0_length_8abf5 0 = .ok (.aload_n 0, 1) := by decide +kernel
theorem dJ0_length_8abf5_1 : decode cJ0_length_8abf5 1 = .ok (.getfield 9, 3) := by decide +kernel
theorem dJ0_length_8abf5_4 : decode cJ0_length_8abf5 4 = .ok (.arraylength, 1) := by decide +kernel
theorem dJ0_length_8abf5_5 : decode cJ0_length_8abf5 5 = .ok (.aload_n 0, 1) := by decide +kernel
theorem dJ0_length_8abf5_6 : decode cJ0_length_8abf5 6 = .ok (.invokevirtual 335, 3) := by decide +kernel
theorem dJ0_length_8abf5_9 : decode cJ0_length_8abf5 9 = .ok (.ishr, 1) := by decide +kernel
theorem dJ0_length_8abf5_10 : decode cJ0_length_8abf5 10 = .ok (.ireturn, 1) := by decide +kernel
theorem dJ0_charAt_5068e_0 : decode cJ0_charAt_5068e 0 = .ok (.aload_n 0, 1) := by decide +kernel
theorem dJ0_charAt_5068e_1 : decode cJ0_charAt_5068e 1 = .ok (.invokevirtual 492, 3) := by decide +kernel
theorem dJ0_charAt_5068e_4 : decode cJ0_charAt_5068e 4 = .ok (.ifCond .eq 12, 3) := by decide +kernel
theorem dJ0_charAt_5068e_7 : decode cJ0_charAt_5068e 7 = .ok (.aload_n 0, 1) := by decide +kernel
theorem dJ0_charAt_5068e_8 : decode cJ0_charAt_5068e 8 = .ok (.getfield 9, 3) := by decide +kernel
theorem dJ0_charAt_5068e_11 : decode cJ0_charAt_5068e 11 = .ok (.iload_n 1, 1) := by decide +kernel
theorem dJ0_charAt_5068e_12 : decode cJ0_charAt_5068e 12 = .ok (.invokestatic 495, 3) := by decide +kernel
theorem dJ0_charAt_5068e_15 : decode cJ0_charAt_5068e 15 = .ok (.ireturn, 1) := by decide +kernel
theorem dJ0_charAt_5068e_16 : decode cJ0_charAt_5068e 16 = .ok (.aload_n 0, 1) := by decide +kernel
theorem dJ0_charAt_5068e_17 : decode cJ0_charAt_5068e 17 = .ok (.getfield 9, 3) := by decide +kernel
theorem dJ0_charAt_5068e_20 : decode cJ0_charAt_5068e 20 = .ok (.iload_n 1, 1) := by decide +kernel
theorem dJ0_charAt_5068e_21 : decode cJ0_charAt_5068e 21 = .ok (.invokestatic 498, 3) := by decide +kernel
theorem dJ0_charAt_5068e_24 : decode cJ0_charAt_5068e 24 = .ok (.ireturn, 1) := by decide +kernel
theorem dJ0_coder_7d493_0 : decode cJ0_coder_7d493 0 = .ok (.getstatic 38, 3) := by decide +kernel
theorem dJ0_coder_7d493_3 : decode cJ0_coder_7d493 3 = .ok (.ifCond .eq 10, 3) := by decide +kernel
theorem dJ0_coder_7d493_6 : decode cJ0_coder_7d493 6 = .ok (.aload_n 0, 1) := by decide +kernel
theorem dJ0_coder_7d493_7 : decode cJ0_coder_7d493 7 = .ok (.getfield 15, 3) := by decide +kernel
theorem dJ0_coder_7d493_10 : decode cJ0_coder_7d493 10 = .ok (.goto 4, 3) := by decide +kernel
theorem dJ0_coder_7d493_13 : decode cJ0_coder_7d493 13 = .ok (.iconst 1, 1) := by decide +kernel
theorem dJ0_coder_7d493_14 : decode cJ0_coder_7d493 14 = .ok (.ireturn, 1) := by decide +kernel
theorem dJ0_isLatin1_aae02_0 : decode cJ0_isLatin1_aae02 0 = .ok (.getstatic 38, 3) := by decide +kernel
theorem dJ0_isLatin1_aae02_3 : decode cJ0_isLatin1_aae02 3 = .ok (.ifCond .eq 14, 3) := by decide +kernel
theorem dJ0_isLatin1_aae02_6 : decode cJ0_isLatin1_aae02 6 = .ok (.aload_n 0, 1) := by decide +kernel
theorem dJ0_isLatin1_aae02_7 : decode cJ0_isLatin1_aae02 7 = .ok (.getfield 15, 3) := by decide +kernel
theorem dJ0_isLatin1_aae02_10 : decode cJ0_isLatin1_aae02 10 = .ok (.ifCond .ne 7, 3) := by decide +kernel
theorem dJ0_isLatin1_aae02_13 : decode cJ0_isLatin1_aae02 13 = .ok (.iconst 1, 1) := by decide +kernel
theorem dJ0_isLatin1_aae02_14 : decode cJ0_isLatin1_aae02 14 = .ok (.goto 4, 3) := by decide +kernel
theorem dJ0_isLatin1_aae02_17 : decode cJ0_isLatin1_aae02 17 = .ok (.iconst 0, 1) := by decide +kernel
theorem dJ0_isLatin1_aae02_18 : decode cJ0_isLatin1_aae02 18 = .ok (.ireturn, 1) := by decide +kernel
theorem dJ0_checkIndex_df160_0 : decode cJ0_checkIndex_df160 0 = .ok (.iload_n 0, 1) := by decide +kernel
theorem dJ0_checkIndex_df160_1 : decode cJ0_checkIndex_df160 1 = .ok (.iload_n 1, 1) := by decide +kernel
theorem dJ0_checkIndex_df160_2 : decode cJ0_checkIndex_df160 2 = .ok (.getstatic 1053, 3) := by decide +kernel
theorem dJ0_checkIndex_df160_5 : decode cJ0_checkIndex_df160 5 = .ok (.invokestatic 1059, 3) := by decide +kernel
theorem dJ0_checkIndex_df160_8 : decode cJ0_checkIndex_df160 8 = .ok (.pop, 1) := by decide +kernel
theorem dJ0_checkIndex_df160_9 : decode cJ0_checkIndex_df160 9 = .ok (.return_, 1) := by decide +kernel
theorem dJ1_charAt_3b067_0 : decode cJ1_charAt_3b067 0 = .ok (.iload_n 1, 1) := by decide +kernel
theorem dJ1_charAt_3b067_1 : decode cJ1_charAt_3b067 1 = .ok (.aload_n 0, 1) := by decide +kernel
theorem dJ1_charAt_3b067_2 : decode cJ1_charAt_3b067 2 = .ok (.arraylength, 1) := by decide +kernel
theorem dJ1_charAt_3b067_3 : decode cJ1_charAt_3b067 3 = .ok (.invokestatic 9, 3) := by decide +kernel
theorem dJ1_charAt_3b067_6 : decode cJ1_charAt_3b067 6 = .ok (.aload_n 0, 1) := by decide +kernel
theorem dJ1_charAt_3b067_7 : decode cJ1_charAt_3b067 7 = .ok (.iload_n 1, 1) := by decide +kernel
theorem dJ1_charAt_3b067_8 : decode cJ1_charAt_3b067 8 = .ok (.baload, 1) := by decide +kernel
theorem dJ1_charAt_3b067_9 : decode cJ1_charAt_3b067 9 = .ok (.sipush 255, 3) := by decide +kernel
theorem dJ1_charAt_3b067_12 : decode cJ1_charAt_3b067 12 = .ok (.iand, 1) := by decide +kernel
theorem dJ1_charAt_3b067_13 : decode cJ1_charAt_3b067 13 = .ok (.i2c, 1) := by decide +kernel
theorem dJ1_charAt_3b067_14 : decode cJ1_charAt_3b067 14 = .ok (.ireturn, 1) := by decide +kernel
theorem dJ2_getChar_3b067_0 : decode cJ2_getChar_3b067 0 = .ok (.getstatic 44, 3) := by decide +kernel
theorem dJ2_getChar_3b067_3 : decode cJ2_getChar_3b067 3 = .ok (.ifCond .ne 25, 3) := by decide +kernel
theorem dJ2_getChar_3b067_6 : decode cJ2_getChar_3b067 6 = .ok (.iload_n 1, 1) := by decide +kernel
theorem dJ2_getChar_3b067_7 : decode cJ2_getChar_3b067 7 = .ok (.ifCond .lt 11, 3) := by decide +kernel
theorem dJ2_getChar_3b067_10 : decode cJ2_getChar_3b067 10 = .ok (.iload_n 1, 1) := by decide +kernel
theorem dJ2_getChar_3b067_11 : decode cJ2_getChar_3b067 11 = .ok (.aload_n 0, 1) := by decide +kernel
theorem dJ2_getChar_3b067_12 : decode cJ2_getChar_3b067 12 = .ok (.invokestatic 48, 3) := by decide +kernel
theorem dJ2_getChar_3b067_15 : decode cJ2_getChar_3b067 15 = .ok (.if_icmp .lt 13, 3) := by decide +kernel
theorem dJ2_getChar_3b067_18 : decode cJ2_getChar_3b067 18 = .ok (.new 52, 3) := by decide +kernel
theorem dJ2_getChar_3b067_21 : decode cJ2_getChar_3b067 21 = .ok (.dup, 1) := by decide +kernel
theorem dJ2_getChar_3b067_22 : decode cJ2_getChar_3b067 22 = .ok (.ldc 54, 2) := by decide +kernel
theorem dJ2_getChar_3b067_24 : decode cJ2_getChar_3b067 24 = .ok (.invokespecial 56, 3) := by decide +kernel
theorem dJ2_getChar_3b067_27 : decode cJ2_getChar_3b067 27 = .ok (.athrow, 1) := by decide +kernel
theorem dJ2_getChar_3b067_28 : decode cJ2_getChar_3b067 28 = .ok (.iload_n 1, 1) := by decide +kernel
theorem dJ2_getChar_3b067_29 : decode cJ2_getChar_3b067 29 = .ok (.iconst 1, 1) := by decide +kernel
theorem dJ2_getChar_3b067_30 : decode cJ2_getChar_3b067 30 = .ok (.ishl, 1) := by decide +kernel
theorem dJ2_getChar_3b067_31 : decode cJ2_getChar_3b067 31 = .ok (.istore_n 1, 1) := by decide +kernel
theorem dJ2_getChar_3b067_32 : decode cJ2_getChar_3b067 32 = .ok (.aload_n 0, 1) := by decide +kernel
theorem dJ2_getChar_3b067_33 : decode cJ2_getChar_3b067 33 = .ok (.iload_n 1, 1) := by decide +kernel
theorem dJ2_getChar_3b067_34 : decode cJ2_getChar_3b067 34 = .ok (.iinc 1 1, 3) := by decide +kernel
theorem dJ2_getChar_3b067_37 : decode cJ2_getChar_3b067 37 = .ok (.baload, 1) := by decide +kernel
theorem dJ2_getChar_3b067_38 : decode cJ2_getChar_3b067 38 = .ok (.sipush 255, 3) := by decide +kernel
theorem dJ2_getChar_3b067_41 : decode cJ2_getChar_3b067 41 = .ok (.iand, 1) := by decide +kernel
theorem dJ2_getChar_3b067_42 : decode cJ2_getChar_3b067 42 = .ok (.getstatic 59, 3) := by decide +kernel
theorem dJ2_getChar_3b067_45 : decode cJ2_getChar_3b067 45 = .ok (.ishl, 1) := by decide +kernel
theorem dJ2_getChar_3b067_46 : decode cJ2_getChar_3b067 46 = .ok (.aload_n 0, 1) := by decide +kernel
theorem dJ2_getChar_3b067_47 : decode cJ2_getChar_3b067 47 = .ok (.iload_n 1, 1) := by decide +kernel
theorem dJ2_getChar_3b067_48 : decode cJ2_getChar_3b067 48 = .ok (.baload, 1) := by decide +kernel
theorem dJ2_getChar_3b067_49 : decode cJ2_getChar_3b067 49 = .ok (.sipush 255, 3) := by decide +kernel
theorem dJ2_getChar_3b067_52 : decode cJ2_getChar_3b067 52 = .ok (.iand, 1) := by decide +kernel
theorem dJ2_getChar_3b067_53 : decode cJ2_getChar_3b067 53 = .ok (.getstatic 63, 3) := by decide +kernel
theorem dJ2_getChar_3b067_56 : decode cJ2_getChar_3b067 56 = .ok (.ishl, 1) := by decide +kernel
theorem dJ2_getChar_3b067_57 : decode cJ2_getChar_3b067 57 = .ok (.ior, 1) := by decide +kernel
theorem dJ2_getChar_3b067_58 : decode cJ2_getChar_3b067 58 = .ok (.i2c, 1) := by decide +kernel
theorem dJ2_getChar_3b067_59 : decode cJ2_getChar_3b067 59 = .ok (.ireturn, 1) := by decide +kernel
theorem dJ2_length_9d52b_0 : decode cJ2_length_9d52b 0 = .ok (.aload_n 0, 1) := by decide +kernel
theorem dJ2_length_9d52b_1 : decode cJ2_length_9d52b 1 = .ok (.arraylength, 1) := by decide +kernel
theorem dJ2_length_9d52b_2 : decode cJ2_length_9d52b 2 = .ok (.iconst 1, 1) := by decide +kernel
theorem dJ2_length_9d52b_3 : decode cJ2_length_9d52b 3 = .ok (.ishr, 1) := by decide +kernel
theorem dJ2_length_9d52b_4 : decode cJ2_length_9d52b 4 = .ok (.ireturn, 1) := by decide +kernel
theorem dJ2_charAt_3b067_0 : decode cJ2_charAt_3b067 0 = .ok (.iload_n 1, 1) := by decide +kernel
theorem dJ2_charAt_3b067_1 : decode cJ2_charAt_3b067 1 = .ok (.aload_n 0, 1) := by decide +kernel
theorem dJ2_charAt_3b067_2 : decode cJ2_charAt_3b067 2 = .ok (.invokestatic 67, 3) := by decide +kernel
theorem dJ2_charAt_3b067_5 : decode cJ2_charAt_3b067 5 = .ok (.aload_n 0, 1) := by decide +kernel
theorem dJ2_charAt_3b067_6 : decode cJ2_charAt_3b067 6 = .ok (.iload_n 1, 1) := by decide +kernel
theorem dJ2_charAt_3b067_7 : decode cJ2_charAt_3b067 7 = .ok (.invokestatic 71, 3) := by decide +kernel
theorem dJ2_charAt_3b067_10 : decode cJ2_charAt_3b067 10 = .ok (.ireturn, 1) := by decide +kernel
theorem dJ2_checkIndex_2214a_0 : decode cJ2_checkIndex_2214a 0 = .ok (.iload_n 0, 1) := by decide +kernel
theorem dJ2_checkIndex_2214a_1 : decode cJ2_checkIndex_2214a 1 = .ok (.aload_n 1, 1) := by decide +kernel
theorem dJ2_checkIndex_2214a_2 : decode cJ2_checkIndex_2214a 2 = .ok (.invokestatic 48, 3) := by decide +kernel
theorem dJ2_checkIndex_2214a_5 : decode cJ2_checkIndex_2214a 5 = .ok (.invokestatic 414, 3) := by decide +kernel
theorem dJ2_checkIndex_2214a_8 : decode cJ2_checkIndex_2214a 8 = .ok (.return_, 1) := by decide +kernel
theorem dJ3_checkIndex_8e157_0 : decode cJ3_checkIndex_8e157 0 = .ok (.iload_n 0, 1) := by decide +kernel
