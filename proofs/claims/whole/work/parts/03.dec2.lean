theorem dX4_feather_45 : decode cX4_feather 45 = .ok (.invokevirtual 180, 3) := by decide +kernel
theorem dX4_feather_48 : decode cX4_feather 48 = .ok (.ireturn, 1) := by decide +kernel
theorem dX4_seat_0 : decode cX4_seat 0 = .ok (.aload_n 0, 1) := by decide +kernel
theorem dX4_seat_1 : decode cX4_seat 1 = .ok (.iload_n 1, 1) := by decide +kernel
theorem dX4_seat_2 : decode cX4_seat 2 = .ok (.invokevirtual 108, 3) := by decide +kernel
theorem dX4_seat_5 : decode cX4_seat 5 = .ok (.ifCond .eq 13, 3) := by decide +kernel
theorem dX4_seat_8 : decode cX4_seat 8 = .ok (.iload_n 2, 1) := by decide +kernel
theorem dX4_seat_9 : decode cX4_seat 9 = .ok (.iconst 1, 1) := by decide +kernel
theorem dX4_seat_10 : decode cX4_seat 10 = .ok (.bipush 60, 2) := by decide +kernel
theorem dX4_seat_12 : decode cX4_seat 12 = .ok (.invokestatic 55, 3) := by decide +kernel
theorem dX4_seat_15 : decode cX4_seat 15 = .ok (.ifCond .ne 10, 3) := by decide +kernel
theorem dX4_seat_18 : decode cX4_seat 18 = .ok (.aload_n 0, 1) := by decide +kernel
theorem dX4_seat_19 : decode cX4_seat 19 = .ok (.ldc 63, 2) := by decide +kernel
theorem dX4_seat_21 : decode cX4_seat 21 = .ok (.invokevirtual 64, 3) := by decide +kernel
theorem dX4_seat_24 : decode cX4_seat 24 = .ok (.ireturn, 1) := by decide +kernel
theorem dX4_seat_25 : decode cX4_seat 25 = .ok (.aload_n 0, 1) := by decide +kernel
theorem dX4_seat_26 : decode cX4_seat 26 = .ok (.iconst 1, 1) := by decide +kernel
theorem dX4_seat_27 : decode cX4_seat 27 = .ok (.bipush 24, 2) := by decide +kernel
theorem dX4_seat_29 : decode cX4_seat 29 = .ok (.iload_n 1, 1) := by decide +kernel
theorem dX4_seat_30 : decode cX4_seat 30 = .ok (.iload_n 2, 1) := by decide +kernel
theorem dX4_seat_31 : decode cX4_seat 31 = .ok (.invokevirtual 180, 3) := by decide +kernel
theorem dX4_seat_34 : decode cX4_seat 34 = .ok (.ireturn, 1) := by decide +kernel
theorem dX4_kind_0 : decode cX4_kind 0 = .ok (.aload_n 0, 1) := by decide +kernel
theorem dX4_kind_1 : decode cX4_kind 1 = .ok (.iload_n 1, 1) := by decide +kernel
theorem dX4_kind_2 : decode cX4_kind 2 = .ok (.invokevirtual 108, 3) := by decide +kernel
theorem dX4_kind_5 : decode cX4_kind 5 = .ok (.ifCond .eq 13, 3) := by decide +kernel
theorem dX4_kind_8 : decode cX4_kind 8 = .ok (.iload_n 2, 1) := by decide +kernel
theorem dX4_kind_9 : decode cX4_kind 9 = .ok (.iconst 1, 1) := by decide +kernel
theorem dX4_kind_10 : decode cX4_kind 10 = .ok (.bipush 60, 2) := by decide +kernel
theorem dX4_kind_12 : decode cX4_kind 12 = .ok (.invokestatic 55, 3) := by decide +kernel
theorem dX4_kind_15 : decode cX4_kind 15 = .ok (.ifCond .ne 10, 3) := by decide +kernel
theorem dX4_kind_18 : decode cX4_kind 18 = .ok (.aload_n 0, 1) := by decide +kernel
theorem dX4_kind_19 : decode cX4_kind 19 = .ok (.ldc 63, 2) := by decide +kernel
theorem dX4_kind_21 : decode cX4_kind 21 = .ok (.invokevirtual 64, 3) := by decide +kernel
theorem dX4_kind_24 : decode cX4_kind 24 = .ok (.ireturn, 1) := by decide +kernel
theorem dX4_kind_25 : decode cX4_kind 25 = .ok (.aload_n 0, 1) := by decide +kernel
theorem dX4_kind_26 : decode cX4_kind 26 = .ok (.iconst 2, 1) := by decide +kernel
theorem dX4_kind_27 : decode cX4_kind 27 = .ok (.bipush 6, 2) := by decide +kernel
theorem dX4_kind_29 : decode cX4_kind 29 = .ok (.iload_n 1, 1) := by decide +kernel
theorem dX4_kind_30 : decode cX4_kind 30 = .ok (.iload_n 2, 1) := by decide +kernel
theorem dX4_kind_31 : decode cX4_kind 31 = .ok (.invokevirtual 180, 3) := by decide +kernel
theorem dX4_kind_34 : decode cX4_kind 34 = .ok (.ireturn, 1) := by decide +kernel
theorem dX4_driest_0 : decode cX4_driest 0 = .ok (.iload_n 1, 1) := by decide +kernel
theorem dX4_driest_1 : decode cX4_driest 1 = .ok (.iconst 1, 1) := by decide +kernel
theorem dX4_driest_2 : decode cX4_driest 2 = .ok (.bipush 60, 2) := by decide +kernel
theorem dX4_driest_4 : decode cX4_driest 4 = .ok (.invokestatic 55, 3) := by decide +kernel
theorem dX4_driest_7 : decode cX4_driest 7 = .ok (.ifCond .eq 13, 3) := by decide +kernel
theorem dX4_driest_10 : decode cX4_driest 10 = .ok (.iload_n 2, 1) := by decide +kernel
theorem dX4_driest_11 : decode cX4_driest 11 = .ok (.iconst 0, 1) := by decide +kernel
theorem dX4_driest_12 : decode cX4_driest 12 = .ok (.ldc 152, 2) := by decide +kernel
theorem dX4_driest_14 : decode cX4_driest 14 = .ok (.invokestatic 55, 3) := by decide +kernel
theorem dX4_driest_17 : decode cX4_driest 17 = .ok (.ifCond .ne 10, 3) := by decide +kernel
theorem dX4_driest_20 : decode cX4_driest 20 = .ok (.aload_n 0, 1) := by decide +kernel
theorem dX4_driest_21 : decode cX4_driest 21 = .ok (.ldc 63, 2) := by decide +kernel
theorem dX4_driest_23 : decode cX4_driest 23 = .ok (.invokevirtual 64, 3) := by decide +kernel
theorem dX4_driest_26 : decode cX4_driest 26 = .ok (.ireturn, 1) := by decide +kernel
theorem dX4_driest_27 : decode cX4_driest 27 = .ok (.bipush 9, 2) := by decide +kernel
theorem dX4_driest_29 : decode cX4_driest 29 = .ok (.istore_n 3, 1) := by decide +kernel
theorem dX4_driest_30 : decode cX4_driest 30 = .ok (.iload_n 3, 1) := by decide +kernel
theorem dX4_driest_31 : decode cX4_driest 31 = .ok (.ifCond .lt 42, 3) := by decide +kernel
theorem dX4_driest_34 : decode cX4_driest 34 = .ok (.aload_n 0, 1) := by decide +kernel
theorem dX4_driest_35 : decode cX4_driest 35 = .ok (.invokevirtual 158, 3) := by decide +kernel
theorem dX4_driest_38 : decode cX4_driest 38 = .ok (.aload_n 0, 1) := by decide +kernel
theorem dX4_driest_39 : decode cX4_driest 39 = .ok (.getfield 16, 3) := by decide +kernel
theorem dX4_driest_42 : decode cX4_driest 42 = .ok (.iload_n 3, 1) := by decide +kernel
theorem dX4_driest_43 : decode cX4_driest 43 = .ok (.putfield 74, 3) := by decide +kernel
theorem dX4_driest_46 : decode cX4_driest 46 = .ok (.aload_n 0, 1) := by decide +kernel
theorem dX4_driest_47 : decode cX4_driest 47 = .ok (.getfield 16, 3) := by decide +kernel
theorem dX4_driest_50 : decode cX4_driest 50 = .ok (.iload_n 1, 1) := by decide +kernel
theorem dX4_driest_51 : decode cX4_driest 51 = .ok (.invokevirtual 154, 3) := by decide +kernel
theorem dX4_driest_54 : decode cX4_driest 54 = .ok (.aload_n 0, 1) := by decide +kernel
theorem dX4_driest_55 : decode cX4_driest 55 = .ok (.getfield 16, 3) := by decide +kernel
theorem dX4_driest_58 : decode cX4_driest 58 = .ok (.invokevirtual 94, 3) := by decide +kernel
theorem dX4_driest_61 : decode cX4_driest 61 = .ok (.iload_n 2, 1) := by decide +kernel
theorem dX4_driest_62 : decode cX4_driest 62 = .ok (.if_icmp .lt 5, 3) := by decide +kernel
theorem dX4_driest_65 : decode cX4_driest 65 = .ok (.iload_n 3, 1) := by decide +kernel
theorem dX4_driest_66 : decode cX4_driest 66 = .ok (.ireturn, 1) := by decide +kernel
theorem dX4_driest_67 : decode cX4_driest 67 = .ok (.iinc 3 (-1), 3) := by decide +kernel
theorem dX4_driest_70 : decode cX4_driest 70 = .ok (.goto (-40), 3) := by decide +kernel
theorem dX4_driest_73 : decode cX4_driest 73 = .ok (.aload_n 0, 1) := by decide +kernel
theorem dX4_driest_74 : decode cX4_driest 74 = .ok (.ldc 173, 2) := by decide +kernel
theorem dX4_driest_76 : decode cX4_driest 76 = .ok (.invokevirtual 64, 3) := by decide +kernel
theorem dX4_driest_79 : decode cX4_driest 79 = .ok (.ireturn, 1) := by decide +kernel
theorem dX4_needs_0 : decode cX4_needs 0 = .ok (.aload_n 0, 1) := by decide +kernel
theorem dX4_needs_1 : decode cX4_needs 1 = .ok (.iload_n 1, 1) := by decide +kernel
theorem dX4_needs_2 : decode cX4_needs 2 = .ok (.invokevirtual 108, 3) := by decide +kernel
theorem dX4_needs_5 : decode cX4_needs 5 = .ok (.ifCond .eq 20, 3) := by decide +kernel
theorem dX4_needs_8 : decode cX4_needs 8 = .ok (.iload_n 2, 1) := by decide +kernel
theorem dX4_needs_9 : decode cX4_needs 9 = .ok (.invokestatic 51, 3) := by decide +kernel
theorem dX4_needs_12 : decode cX4_needs 12 = .ok (.ifCond .eq 13, 3) := by decide +kernel
theorem dX4_needs_15 : decode cX4_needs 15 = .ok (.iload_n 3, 1) := by decide +kernel
theorem dX4_needs_16 : decode cX4_needs 16 = .ok (.iconst 0, 1) := by decide +kernel
theorem dX4_needs_17 : decode cX4_needs 17 = .ok (.bipush 60, 2) := by decide +kernel
theorem dX4_needs_19 : decode cX4_needs 19 = .ok (.invokestatic 55, 3) := by decide +kernel
theorem dX4_needs_22 : decode cX4_needs 22 = .ok (.ifCond .ne 10, 3) := by decide +kernel
theorem dX4_needs_25 : decode cX4_needs 25 = .ok (.aload_n 0, 1) := by decide +kernel
theorem dX4_needs_26 : decode cX4_needs 26 = .ok (.ldc 63, 2) := by decide +kernel
theorem dX4_needs_28 : decode cX4_needs 28 = .ok (.invokevirtual 64, 3) := by decide +kernel
theorem dX4_needs_31 : decode cX4_needs 31 = .ok (.ireturn, 1) := by decide +kernel
theorem dX4_needs_32 : decode cX4_needs 32 = .ok (.iconst 0, 1) := by decide +kernel
theorem dX4_needs_33 : decode cX4_needs 33 = .ok (.istore 4, 2) := by decide +kernel
theorem dX4_needs_35 : decode cX4_needs 35 = .ok (.iload 4, 2) := by decide +kernel
theorem dX4_needs_37 : decode cX4_needs 37 = .ok (.bipush 99, 2) := by decide +kernel
theorem dX4_needs_39 : decode cX4_needs 39 = .ok (.if_icmp .gt 46, 3) := by decide +kernel
theorem dX4_needs_42 : decode cX4_needs 42 = .ok (.aload_n 0, 1) := by decide +kernel
theorem dX4_needs_43 : decode cX4_needs 43 = .ok (.invokevirtual 158, 3) := by decide +kernel
theorem dX4_needs_46 : decode cX4_needs 46 = .ok (.aload_n 0, 1) := by decide +kernel
theorem dX4_needs_47 : decode cX4_needs 47 = .ok (.getfield 16, 3) := by decide +kernel
theorem dX4_needs_50 : decode cX4_needs 50 = .ok (.getfield 120, 3) := by decide +kernel
theorem dX4_needs_53 : decode cX4_needs 53 = .ok (.iload_n 1, 1) := by decide +kernel
theorem dX4_needs_54 : decode cX4_needs 54 = .ok (.iload 4, 2) := by decide +kernel
theorem dX4_needs_56 : decode cX4_needs 56 = .ok (.iastore, 1) := by decide +kernel
theorem dX4_needs_57 : decode cX4_needs 57 = .ok (.aload_n 0, 1) := by decide +kernel
theorem dX4_needs_58 : decode cX4_needs 58 = .ok (.getfield 16, 3) := by decide +kernel
theorem dX4_needs_61 : decode cX4_needs 61 = .ok (.iload_n 3, 1) := by decide +kernel
theorem dX4_needs_62 : decode cX4_needs 62 = .ok (.invokevirtual 154, 3) := by decide +kernel
theorem dX4_needs_65 : decode cX4_needs 65 = .ok (.aload_n 0, 1) := by decide +kernel
theorem dX4_needs_66 : decode cX4_needs 66 = .ok (.getfield 16, 3) := by decide +kernel
theorem dX4_needs_69 : decode cX4_needs 69 = .ok (.iload_n 2, 1) := by decide +kernel
theorem dX4_needs_70 : decode cX4_needs 70 = .ok (.invokevirtual 167, 3) := by decide +kernel
theorem dX4_needs_73 : decode cX4_needs 73 = .ok (.ifCond .eq 6, 3) := by decide +kernel
theorem dX4_needs_76 : decode cX4_needs 76 = .ok (.iload 4, 2) := by decide +kernel
theorem dX4_needs_78 : decode cX4_needs 78 = .ok (.ireturn, 1) := by decide +kernel
theorem dX4_needs_79 : decode cX4_needs 79 = .ok (.iinc 4 1, 3) := by decide +kernel
theorem dX4_needs_82 : decode cX4_needs 82 = .ok (.goto (-47), 3) := by decide +kernel
theorem dX4_needs_85 : decode cX4_needs 85 = .ok (.aload_n 0, 1) := by decide +kernel
theorem dX4_needs_86 : decode cX4_needs 86 = .ok (.ldc 173, 2) := by decide +kernel
theorem dX4_needs_88 : decode cX4_needs 88 = .ok (.invokevirtual 64, 3) := by decide +kernel
theorem dX4_needs_91 : decode cX4_needs 91 = .ok (.ireturn, 1) := by decide +kernel
theorem dX4_dear_0 : decode cX4_dear 0 = .ok (.iload_n 1, 1) := by decide +kernel
theorem dX4_dear_1 : decode cX4_dear 1 = .ok (.iconst 1, 1) := by decide +kernel
theorem dX4_dear_2 : decode cX4_dear 2 = .ok (.bipush 60, 2) := by decide +kernel
theorem dX4_dear_4 : decode cX4_dear 4 = .ok (.invokestatic 55, 3) := by decide +kernel
theorem dX4_dear_7 : decode cX4_dear 7 = .ok (.ifCond .ne 10, 3) := by decide +kernel
theorem dX4_dear_10 : decode cX4_dear 10 = .ok (.aload_n 0, 1) := by decide +kernel
theorem dX4_dear_11 : decode cX4_dear 11 = .ok (.ldc 63, 2) := by decide +kernel
theorem dX4_dear_13 : decode cX4_dear 13 = .ok (.invokevirtual 64, 3) := by decide +kernel
theorem dX4_dear_16 : decode cX4_dear 16 = .ok (.ireturn, 1) := by decide +kernel
theorem dX4_dear_17 : decode cX4_dear 17 = .ok (.aload_n 0, 1) := by decide +kernel
theorem dX4_dear_18 : decode cX4_dear 18 = .ok (.getfield 10, 3) := by decide +kernel
theorem dX4_dear_21 : decode cX4_dear 21 = .ok (.getfield 100, 3) := by decide +kernel
theorem dX4_dear_24 : decode cX4_dear 24 = .ok (.ifCond .ne 10, 3) := by decide +kernel
theorem dX4_dear_27 : decode cX4_dear 27 = .ok (.aload_n 0, 1) := by decide +kernel
theorem dX4_dear_28 : decode cX4_dear 28 = .ok (.ldc 173, 2) := by decide +kernel
theorem dX4_dear_30 : decode cX4_dear 30 = .ok (.invokevirtual 64, 3) := by decide +kernel
theorem dX4_dear_33 : decode cX4_dear 33 = .ok (.ireturn, 1) := by decide +kernel
theorem dX4_dear_34 : decode cX4_dear 34 = .ok (.iconst 0, 1) := by decide +kernel
theorem dX4_dear_35 : decode cX4_dear 35 = .ok (.istore_n 2, 1) := by decide +kernel
theorem dX4_dear_36 : decode cX4_dear 36 = .ok (.ldc 186, 2) := by decide +kernel
theorem dX4_dear_38 : decode cX4_dear 38 = .ok (.istore_n 3, 1) := by decide +kernel
theorem dX4_dear_39 : decode cX4_dear 39 = .ok (.iconst 0, 1) := by decide +kernel
theorem dX4_dear_40 : decode cX4_dear 40 = .ok (.istore 4, 2) := by decide +kernel
theorem dX4_dear_42 : decode cX4_dear 42 = .ok (.iload 4, 2) := by decide +kernel
theorem dX4_dear_44 : decode cX4_dear 44 = .ok (.aload_n 0, 1) := by decide +kernel
theorem dX4_dear_45 : decode cX4_dear 45 = .ok (.getfield 10, 3) := by decide +kernel
theorem dX4_dear_48 : decode cX4_dear 48 = .ok (.getfield 100, 3) := by decide +kernel
theorem dX4_dear_51 : decode cX4_dear 51 = .ok (.if_icmp .ge 53, 3) := by decide +kernel
theorem dX4_dear_54 : decode cX4_dear 54 = .ok (.aload_n 0, 1) := by decide +kernel
theorem dX4_dear_55 : decode cX4_dear 55 = .ok (.invokevirtual 158, 3) := by decide +kernel
theorem dX4_dear_58 : decode cX4_dear 58 = .ok (.aload_n 0, 1) := by decide +kernel
theorem dX4_dear_59 : decode cX4_dear 59 = .ok (.getfield 16, 3) := by decide +kernel
theorem dX4_dear_62 : decode cX4_dear 62 = .ok (.getfield 120, 3) := by decide +kernel
theorem dX4_dear_65 : decode cX4_dear 65 = .ok (.iload 4, 2) := by decide +kernel
theorem dX4_dear_67 : decode cX4_dear 67 = .ok (.iconst 0, 1) := by decide +kernel
theorem dX4_dear_68 : decode cX4_dear 68 = .ok (.iastore, 1) := by decide +kernel
theorem dX4_dear_69 : decode cX4_dear 69 = .ok (.aload_n 0, 1) := by decide +kernel
theorem dX4_dear_70 : decode cX4_dear 70 = .ok (.getfield 16, 3) := by decide +kernel
theorem dX4_dear_73 : decode cX4_dear 73 = .ok (.iload_n 1, 1) := by decide +kernel
theorem dX4_dear_74 : decode cX4_dear 74 = .ok (.invokevirtual 154, 3) := by decide +kernel
theorem dX4_dear_77 : decode cX4_dear 77 = .ok (.aload_n 0, 1) := by decide +kernel
theorem dX4_dear_78 : decode cX4_dear 78 = .ok (.getfield 16, 3) := by decide +kernel
theorem dX4_dear_81 : decode cX4_dear 81 = .ok (.invokevirtual 94, 3) := by decide +kernel
theorem dX4_dear_84 : decode cX4_dear 84 = .ok (.istore 5, 2) := by decide +kernel
theorem dX4_dear_86 : decode cX4_dear 86 = .ok (.iload 5, 2) := by decide +kernel
theorem dX4_dear_88 : decode cX4_dear 88 = .ok (.iload_n 3, 1) := by decide +kernel
theorem dX4_dear_89 : decode cX4_dear 89 = .ok (.if_icmp .ge 9, 3) := by decide +kernel
theorem dX4_dear_92 : decode cX4_dear 92 = .ok (.iload 5, 2) := by decide +kernel
theorem dX4_dear_94 : decode cX4_dear 94 = .ok (.istore_n 3, 1) := by decide +kernel
theorem dX4_dear_95 : decode cX4_dear 95 = .ok (.iload 4, 2) := by decide +kernel
theorem dX4_dear_97 : decode cX4_dear 97 = .ok (.istore_n 2, 1) := by decide +kernel
theorem dX4_dear_98 : decode cX4_dear 98 = .ok (.iinc 4 1, 3) := by decide +kernel
theorem dX4_dear_101 : decode cX4_dear 101 = .ok (.goto (-59), 3) := by decide +kernel
theorem dX4_dear_104 : decode cX4_dear 104 = .ok (.iload_n 2, 1) := by decide +kernel
theorem dX4_dear_105 : decode cX4_dear 105 = .ok (.ireturn, 1) := by decide +kernel
theorem dX4_open_0 : decode cX4_open 0 = .ok (.iload_n 1, 1) := by decide +kernel
theorem dX4_open_1 : decode cX4_open 1 = .ok (.iconst 1, 1) := by decide +kernel
theorem dX4_open_2 : decode cX4_open 2 = .ok (.bipush 60, 2) := by decide +kernel
theorem dX4_open_4 : decode cX4_open 4 = .ok (.invokestatic 55, 3) := by decide +kernel
theorem dX4_open_7 : decode cX4_open 7 = .ok (.ifCond .ne 10, 3) := by decide +kernel
theorem dX4_open_10 : decode cX4_open 10 = .ok (.aload_n 0, 1) := by decide +kernel
theorem dX4_open_11 : decode cX4_open 11 = .ok (.ldc 63, 2) := by decide +kernel
theorem dX4_open_13 : decode cX4_open 13 = .ok (.invokevirtual 64, 3) := by decide +kernel
theorem dX4_open_16 : decode cX4_open 16 = .ok (.ireturn, 1) := by decide +kernel
theorem dX4_open_17 : decode cX4_open 17 = .ok (.aload_n 0, 1) := by decide +kernel
theorem dX4_open_18 : decode cX4_open 18 = .ok (.iconst 3, 1) := by decide +kernel
theorem dX4_open_19 : decode cX4_open 19 = .ok (.bipush 12, 2) := by decide +kernel
theorem dX4_open_21 : decode cX4_open 21 = .ok (.iconst 0, 1) := by decide +kernel
theorem dX4_open_22 : decode cX4_open 22 = .ok (.iload_n 1, 1) := by decide +kernel
theorem dX4_open_23 : decode cX4_open 23 = .ok (.invokevirtual 180, 3) := by decide +kernel
theorem dX4_open_26 : decode cX4_open 26 = .ok (.ireturn, 1) := by decide +kernel
theorem dX4_feed_0 : decode cX4_feed 0 = .ok (.iload_n 2, 1) := by decide +kernel
theorem dX4_feed_1 : decode cX4_feed 1 = .ok (.iconst 1, 1) := by decide +kernel
theorem dX4_feed_2 : decode cX4_feed 2 = .ok (.iconst 4, 1) := by decide +kernel
theorem dX4_feed_3 : decode cX4_feed 3 = .ok (.invokestatic 55, 3) := by decide +kernel
theorem dX4_feed_6 : decode cX4_feed 6 = .ok (.ifCond .ne 10, 3) := by decide +kernel
theorem dX4_feed_9 : decode cX4_feed 9 = .ok (.aload_n 0, 1) := by decide +kernel
theorem dX4_feed_10 : decode cX4_feed 10 = .ok (.ldc 63, 2) := by decide +kernel
theorem dX4_feed_12 : decode cX4_feed 12 = .ok (.invokevirtual 64, 3) := by decide +kernel
theorem dX4_feed_15 : decode cX4_feed 15 = .ok (.ireturn, 1) := by decide +kernel
theorem dX4_feed_16 : decode cX4_feed 16 = .ok (.aload_n 0, 1) := by decide +kernel
theorem dX4_feed_17 : decode cX4_feed 17 = .ok (.getfield 25, 3) := by decide +kernel
theorem dX4_feed_20 : decode cX4_feed 20 = .ok (.getfield 187, 3) := by decide +kernel
theorem dX4_feed_23 : decode cX4_feed 23 = .ok (.bipush 120, 2) := by decide +kernel
theorem dX4_feed_25 : decode cX4_feed 25 = .ok (.iload_n 2, 1) := by decide +kernel
theorem dX4_feed_26 : decode cX4_feed 26 = .ok (.isub, 1) := by decide +kernel
theorem dX4_feed_27 : decode cX4_feed 27 = .ok (.if_icmp .le 10, 3) := by decide +kernel
theorem dX4_feed_30 : decode cX4_feed 30 = .ok (.aload_n 0, 1) := by decide +kernel
theorem dX4_feed_31 : decode cX4_feed 31 = .ok (.ldc 103, 2) := by decide +kernel
theorem dX4_feed_33 : decode cX4_feed 33 = .ok (.invokevirtual 64, 3) := by decide +kernel
theorem dX4_feed_36 : decode cX4_feed 36 = .ok (.ireturn, 1) := by decide +kernel
theorem dX4_feed_37 : decode cX4_feed 37 = .ok (.iload_n 2, 1) := by decide +kernel
theorem dX4_feed_38 : decode cX4_feed 38 = .ok (.iconst 1, 1) := by decide +kernel
theorem dX4_feed_39 : decode cX4_feed 39 = .ok (.isub, 1) := by decide +kernel
theorem dX4_feed_40 : decode cX4_feed 40 = .ok (.istore_n 3, 1) := by decide +kernel
theorem dX4_feed_41 : decode cX4_feed 41 = .ok (.iload_n 3, 1) := by decide +kernel
theorem dX4_feed_42 : decode cX4_feed 42 = .ok (.ifCond .lt 26, 3) := by decide +kernel
theorem dX4_feed_45 : decode cX4_feed 45 = .ok (.aload_n 0, 1) := by decide +kernel
theorem dX4_feed_46 : decode cX4_feed 46 = .ok (.getfield 25, 3) := by decide +kernel
theorem dX4_feed_49 : decode cX4_feed 49 = .ok (.iload_n 1, 1) := by decide +kernel
theorem dX4_feed_50 : decode cX4_feed 50 = .ok (.bipush 8, 2) := by decide +kernel
theorem dX4_feed_52 : decode cX4_feed 52 = .ok (.iload_n 3, 1) := by decide +kernel
theorem dX4_feed_53 : decode cX4_feed 53 = .ok (.imul, 1) := by decide +kernel
theorem dX4_feed_54 : decode cX4_feed 54 = .ok (.ishr, 1) := by decide +kernel
theorem dX4_feed_55 : decode cX4_feed 55 = .ok (.sipush 255, 3) := by decide +kernel
theorem dX4_feed_58 : decode cX4_feed 58 = .ok (.iand, 1) := by decide +kernel
theorem dX4_feed_59 : decode cX4_feed 59 = .ok (.invokevirtual 190, 3) := by decide +kernel
theorem dX4_feed_62 : decode cX4_feed 62 = .ok (.iinc 3 (-1), 3) := by decide +kernel
theorem dX4_feed_65 : decode cX4_feed 65 = .ok (.goto (-24), 3) := by decide +kernel
theorem dX4_feed_68 : decode cX4_feed 68 = .ok (.aload_n 0, 1) := by decide +kernel
theorem dX4_feed_69 : decode cX4_feed 69 = .ok (.getfield 25, 3) := by decide +kernel
theorem dX4_feed_72 : decode cX4_feed 72 = .ok (.getfield 187, 3) := by decide +kernel
theorem dX4_feed_75 : decode cX4_feed 75 = .ok (.ireturn, 1) := by decide +kernel
theorem dX4_wipe_0 : decode cX4_wipe 0 = .ok (.aload_n 0, 1) := by decide +kernel
theorem dX4_wipe_1 : decode cX4_wipe 1 = .ok (.getfield 25, 3) := by decide +kernel
theorem dX4_wipe_4 : decode cX4_wipe 4 = .ok (.getfield 187, 3) := by decide +kernel
theorem dX4_wipe_7 : decode cX4_wipe 7 = .ok (.istore_n 1, 1) := by decide +kernel
theorem dX4_wipe_8 : decode cX4_wipe 8 = .ok (.aload_n 0, 1) := by decide +kernel
theorem dX4_wipe_9 : decode cX4_wipe 9 = .ok (.getfield 25, 3) := by decide +kernel
theorem dX4_wipe_12 : decode cX4_wipe 12 = .ok (.iconst 0, 1) := by decide +kernel
theorem dX4_wipe_13 : decode cX4_wipe 13 = .ok (.putfield 187, 3) := by decide +kernel
theorem dX4_wipe_16 : decode cX4_wipe 16 = .ok (.iload_n 1, 1) := by decide +kernel
theorem dX4_wipe_17 : decode cX4_wipe 17 = .ok (.ireturn, 1) := by decide +kernel
theorem dX4_winter_0 : decode cX4_winter 0 = .ok (.aload_n 0, 1) := by decide +kernel
theorem dX4_winter_1 : decode cX4_winter 1 = .ok (.invokevirtual 158, 3) := by decide +kernel
theorem dX4_winter_4 : decode cX4_winter 4 = .ok (.aload_n 0, 1) := by decide +kernel
theorem dX4_winter_5 : decode cX4_winter 5 = .ok (.getfield 32, 3) := by decide +kernel
theorem dX4_winter_8 : decode cX4_winter 8 = .ok (.aload_n 0, 1) := by decide +kernel
theorem dX4_winter_9 : decode cX4_winter 9 = .ok (.getfield 25, 3) := by decide +kernel
theorem dX4_winter_12 : decode cX4_winter 12 = .ok (.aload_n 0, 1) := by decide +kernel
theorem dX4_winter_13 : decode cX4_winter 13 = .ok (.getfield 16, 3) := by decide +kernel
theorem dX4_winter_16 : decode cX4_winter 16 = .ok (.invokevirtual 193, 3) := by decide +kernel
theorem dX4_winter_19 : decode cX4_winter 19 = .ok (.istore_n 1, 1) := by decide +kernel
theorem dX4_winter_20 : decode cX4_winter 20 = .ok (.aload_n 0, 1) := by decide +kernel
theorem dX4_winter_21 : decode cX4_winter 21 = .ok (.getfield 25, 3) := by decide +kernel
theorem dX4_winter_24 : decode cX4_winter 24 = .ok (.iconst 0, 1) := by decide +kernel
theorem dX4_winter_25 : decode cX4_winter 25 = .ok (.putfield 187, 3) := by decide +kernel
theorem dX4_winter_28 : decode cX4_winter 28 = .ok (.iload_n 1, 1) := by decide +kernel
theorem dX4_winter_29 : decode cX4_winter 29 = .ok (.ifCond .ne 13, 3) := by decide +kernel
theorem dX4_winter_32 : decode cX4_winter 32 = .ok (.iconst (-1), 1) := by decide +kernel
theorem dX4_winter_33 : decode cX4_winter 33 = .ok (.aload_n 0, 1) := by decide +kernel
theorem dX4_winter_34 : decode cX4_winter 34 = .ok (.getfield 32, 3) := by decide +kernel
theorem dX4_winter_37 : decode cX4_winter 37 = .ok (.getfield 197, 3) := by decide +kernel
theorem dX4_winter_40 : decode cX4_winter 40 = .ok (.isub, 1) := by decide +kernel
theorem dX4_winter_41 : decode cX4_winter 41 = .ok (.ireturn, 1) := by decide +kernel
theorem dX4_winter_42 : decode cX4_winter 42 = .ok (.aload_n 0, 1) := by decide +kernel
theorem dX4_winter_43 : decode cX4_winter 43 = .ok (.getfield 10, 3) := by decide +kernel
theorem dX4_winter_46 : decode cX4_winter 46 = .ok (.aload_n 0, 1) := by decide +kernel
theorem dX4_winter_47 : decode cX4_winter 47 = .ok (.getfield 16, 3) := by decide +kernel
theorem dX4_winter_50 : decode cX4_winter 50 = .ok (.invokevirtual 200, 3) := by decide +kernel
theorem dX4_winter_53 : decode cX4_winter 53 = .ok (.aload_n 0, 1) := by decide +kernel
theorem dX4_winter_54 : decode cX4_winter 54 = .ok (.getfield 32, 3) := by decide +kernel
theorem dX4_winter_57 : decode cX4_winter 57 = .ok (.getfield 204, 3) := by decide +kernel
theorem dX4_winter_60 : decode cX4_winter 60 = .ok (.ireturn, 1) := by decide +kernel
theorem dX4_sheet_0 : decode cX4_sheet 0 = .ok (.iload_n 1, 1) := by decide +kernel
theorem dX4_sheet_1 : decode cX4_sheet 1 = .ok (.invokestatic 207, 3) := by decide +kernel
theorem dX4_sheet_4 : decode cX4_sheet 4 = .ok (.ifCond .eq 10, 3) := by decide +kernel
theorem dX4_sheet_7 : decode cX4_sheet 7 = .ok (.iload_n 2, 1) := by decide +kernel
theorem dX4_sheet_8 : decode cX4_sheet 8 = .ok (.invokestatic 210, 3) := by decide +kernel
theorem dX4_sheet_11 : decode cX4_sheet 11 = .ok (.ifCond .ne 10, 3) := by decide +kernel
theorem dX4_sheet_14 : decode cX4_sheet 14 = .ok (.aload_n 0, 1) := by decide +kernel
theorem dX4_sheet_15 : decode cX4_sheet 15 = .ok (.ldc 63, 2) := by decide +kernel
theorem dX4_sheet_17 : decode cX4_sheet 17 = .ok (.invokevirtual 64, 3) := by decide +kernel
theorem dX4_sheet_20 : decode cX4_sheet 20 = .ok (.ireturn, 1) := by decide +kernel
theorem dX4_sheet_21 : decode cX4_sheet 21 = .ok (.iload_n 3, 1) := by decide +kernel
theorem dX4_sheet_22 : decode cX4_sheet 22 = .ok (.ifCond .ge 10, 3) := by decide +kernel
theorem dX4_sheet_25 : decode cX4_sheet 25 = .ok (.aload_n 0, 1) := by decide +kernel
theorem dX4_sheet_26 : decode cX4_sheet 26 = .ok (.ldc 213, 2) := by decide +kernel
theorem dX4_sheet_28 : decode cX4_sheet 28 = .ok (.invokevirtual 64, 3) := by decide +kernel
theorem dX4_sheet_31 : decode cX4_sheet 31 = .ok (.ireturn, 1) := by decide +kernel
theorem dX4_sheet_32 : decode cX4_sheet 32 = .ok (.iload_n 3, 1) := by decide +kernel
theorem dX4_sheet_33 : decode cX4_sheet 33 = .ok (.bipush 40, 2) := by decide +kernel
theorem dX4_sheet_35 : decode cX4_sheet 35 = .ok (.if_icmp .le 10, 3) := by decide +kernel
theorem dX4_sheet_38 : decode cX4_sheet 38 = .ok (.aload_n 0, 1) := by decide +kernel
theorem dX4_sheet_39 : decode cX4_sheet 39 = .ok (.ldc 63, 2) := by decide +kernel
theorem dX4_sheet_41 : decode cX4_sheet 41 = .ok (.invokevirtual 64, 3) := by decide +kernel
theorem dX4_sheet_44 : decode cX4_sheet 44 = .ok (.ireturn, 1) := by decide +kernel
theorem dX4_sheet_45 : decode cX4_sheet 45 = .ok (.iload_n 2, 1) := by decide +kernel
theorem dX4_sheet_46 : decode cX4_sheet 46 = .ok (.ifCond .ne 7, 3) := by decide +kernel
theorem dX4_sheet_49 : decode cX4_sheet 49 = .ok (.iconst 0, 1) := by decide +kernel
theorem dX4_sheet_50 : decode cX4_sheet 50 = .ok (.goto 4, 3) := by decide +kernel
theorem dX4_sheet_53 : decode cX4_sheet 53 = .ok (.iload_n 3, 1) := by decide +kernel
theorem dX4_sheet_54 : decode cX4_sheet 54 = .ok (.istore 4, 2) := by decide +kernel
theorem dX4_sheet_56 : decode cX4_sheet 56 = .ok (.aload_n 0, 1) := by decide +kernel
theorem dX4_sheet_57 : decode cX4_sheet 57 = .ok (.getfield 39, 3) := by decide +kernel
theorem dX4_sheet_60 : decode cX4_sheet 60 = .ok (.iload_n 1, 1) := by decide +kernel
theorem dX4_sheet_61 : decode cX4_sheet 61 = .ok (.iload_n 2, 1) := by decide +kernel
theorem dX4_sheet_62 : decode cX4_sheet 62 = .ok (.iload 4, 2) := by decide +kernel
theorem dX4_sheet_64 : decode cX4_sheet 64 = .ok (.invokevirtual 214, 3) := by decide +kernel
theorem dX4_sheet_67 : decode cX4_sheet 67 = .ok (.iload 4, 2) := by decide +kernel
theorem dX4_sheet_69 : decode cX4_sheet 69 = .ok (.ireturn, 1) := by decide +kernel
theorem dX4_write_0 : decode cX4_write 0 = .ok (.iload_n 1, 1) := by decide +kernel
theorem dX4_write_1 : decode cX4_write 1 = .ok (.invokestatic 207, 3) := by decide +kernel
theorem dX4_write_4 : decode cX4_write 4 = .ok (.ifCond .ne 11, 3) := by decide +kernel
theorem dX4_write_7 : decode cX4_write 7 = .ok (.aload_n 0, 1) := by decide +kernel
theorem dX4_write_8 : decode cX4_write 8 = .ok (.ldc 63, 2) := by decide +kernel
theorem dX4_write_10 : decode cX4_write 10 = .ok (.invokevirtual 64, 3) := by decide +kernel
theorem dX4_write_13 : decode cX4_write 13 = .ok (.i2l, 1) := by decide +kernel
theorem dX4_write_14 : decode cX4_write 14 = .ok (.lreturn, 1) := by decide +kernel
theorem dX4_write_15 : decode cX4_write 15 = .ok (.aload_n 0, 1) := by decide +kernel
theorem dX4_write_16 : decode cX4_write 16 = .ok (.getfield 39, 3) := by decide +kernel
theorem dX4_write_19 : decode cX4_write 19 = .ok (.iload_n 1, 1) := by decide +kernel
theorem dX4_write_20 : decode cX4_write 20 = .ok (.invokevirtual 218, 3) := by decide +kernel
theorem dX4_write_23 : decode cX4_write 23 = .ok (.ifCond .eq 11, 3) := by decide +kernel
theorem dX4_write_26 : decode cX4_write 26 = .ok (.aload_n 0, 1) := by decide +kernel
theorem dX4_write_27 : decode cX4_write 27 = .ok (.ldc 221, 2) := by decide +kernel
theorem dX4_write_29 : decode cX4_write 29 = .ok (.invokevirtual 64, 3) := by decide +kernel
theorem dX4_write_32 : decode cX4_write 32 = .ok (.i2l, 1) := by decide +kernel
theorem dX4_write_33 : decode cX4_write 33 = .ok (.lreturn, 1) := by decide +kernel
theorem dX4_write_34 : decode cX4_write 34 = .ok (.iload_n 2, 1) := by decide +kernel
theorem dX4_write_35 : decode cX4_write 35 = .ok (.iconst 0, 1) := by decide +kernel
theorem dX4_write_36 : decode cX4_write 36 = .ok (.aload_n 0, 1) := by decide +kernel
theorem dX4_write_37 : decode cX4_write 37 = .ok (.getfield 39, 3) := by decide +kernel
theorem dX4_write_40 : decode cX4_write 40 = .ok (.getfield 222, 3) := by decide +kernel
theorem dX4_write_43 : decode cX4_write 43 = .ok (.iload_n 1, 1) := by decide +kernel
theorem dX4_write_44 : decode cX4_write 44 = .ok (.iaload, 1) := by decide +kernel
theorem dX4_write_45 : decode cX4_write 45 = .ok (.iconst 1, 1) := by decide +kernel
theorem dX4_write_46 : decode cX4_write 46 = .ok (.isub, 1) := by decide +kernel
theorem dX4_write_47 : decode cX4_write 47 = .ok (.invokestatic 55, 3) := by decide +kernel
theorem dX4_write_50 : decode cX4_write 50 = .ok (.ifCond .ne 11, 3) := by decide +kernel
theorem dX4_write_53 : decode cX4_write 53 = .ok (.aload_n 0, 1) := by decide +kernel
theorem dX4_write_54 : decode cX4_write 54 = .ok (.ldc 63, 2) := by decide +kernel
theorem dX4_write_56 : decode cX4_write 56 = .ok (.invokevirtual 64, 3) := by decide +kernel
theorem dX4_write_59 : decode cX4_write 59 = .ok (.i2l, 1) := by decide +kernel
theorem dX4_write_60 : decode cX4_write 60 = .ok (.lreturn, 1) := by decide +kernel
theorem dX4_write_61 : decode cX4_write 61 = .ok (.aload_n 0, 1) := by decide +kernel
theorem dX4_write_62 : decode cX4_write 62 = .ok (.getfield 39, 3) := by decide +kernel
theorem dX4_write_65 : decode cX4_write 65 = .ok (.iload_n 1, 1) := by decide +kernel
theorem dX4_write_66 : decode cX4_write 66 = .ok (.iload_n 2, 1) := by decide +kernel
theorem dX4_write_67 : decode cX4_write 67 = .ok (.invokevirtual 225, 3) := by decide +kernel
theorem dX4_write_70 : decode cX4_write 70 = .ok (.lstore 5, 2) := by decide +kernel
theorem dX4_write_72 : decode cX4_write 72 = .ok (.aload_n 0, 1) := by decide +kernel
theorem dX4_write_73 : decode cX4_write 73 = .ok (.getfield 39, 3) := by decide +kernel
theorem dX4_write_76 : decode cX4_write 76 = .ok (.iload_n 1, 1) := by decide +kernel
theorem dX4_write_77 : decode cX4_write 77 = .ok (.iload_n 2, 1) := by decide +kernel
theorem dX4_write_78 : decode cX4_write 78 = .ok (.lload_n 3, 1) := by decide +kernel
theorem dX4_write_79 : decode cX4_write 79 = .ok (.invokevirtual 229, 3) := by decide +kernel
theorem dX4_write_82 : decode cX4_write 82 = .ok (.lload 5, 2) := by decide +kernel
theorem dX4_write_84 : decode cX4_write 84 = .ok (.lreturn, 1) := by decide +kernel
theorem dX4_copy_0 : decode cX4_copy 0 = .ok (.iload_n 1, 1) := by decide +kernel
theorem dX4_copy_1 : decode cX4_copy 1 = .ok (.invokestatic 207, 3) := by decide +kernel
theorem dX4_copy_4 : decode cX4_copy 4 = .ok (.ifCond .eq 10, 3) := by decide +kernel
theorem dX4_copy_7 : decode cX4_copy 7 = .ok (.iload_n 3, 1) := by decide +kernel
theorem dX4_copy_8 : decode cX4_copy 8 = .ok (.invokestatic 207, 3) := by decide +kernel
theorem dX4_copy_11 : decode cX4_copy 11 = .ok (.ifCond .ne 10, 3) := by decide +kernel
theorem dX4_copy_14 : decode cX4_copy 14 = .ok (.aload_n 0, 1) := by decide +kernel
theorem dX4_copy_15 : decode cX4_copy 15 = .ok (.ldc 63, 2) := by decide +kernel
theorem dX4_copy_17 : decode cX4_copy 17 = .ok (.invokevirtual 64, 3) := by decide +kernel
theorem dX4_copy_20 : decode cX4_copy 20 = .ok (.ireturn, 1) := by decide +kernel
theorem dX4_copy_21 : decode cX4_copy 21 = .ok (.aload_n 0, 1) := by decide +kernel
theorem dX4_copy_22 : decode cX4_copy 22 = .ok (.getfield 39, 3) := by decide +kernel
theorem dX4_copy_25 : decode cX4_copy 25 = .ok (.iload_n 1, 1) := by decide +kernel
theorem dX4_copy_26 : decode cX4_copy 26 = .ok (.invokevirtual 218, 3) := by decide +kernel
theorem dX4_copy_29 : decode cX4_copy 29 = .ok (.ifCond .ne 14, 3) := by decide +kernel
theorem dX4_copy_32 : decode cX4_copy 32 = .ok (.aload_n 0, 1) := by decide +kernel
theorem dX4_copy_33 : decode cX4_copy 33 = .ok (.getfield 39, 3) := by decide +kernel
theorem dX4_copy_36 : decode cX4_copy 36 = .ok (.iload_n 3, 1) := by decide +kernel
theorem dX4_copy_37 : decode cX4_copy 37 = .ok (.invokevirtual 218, 3) := by decide +kernel
theorem dX4_copy_40 : decode cX4_copy 40 = .ok (.ifCond .eq 10, 3) := by decide +kernel
theorem dX4_copy_43 : decode cX4_copy 43 = .ok (.aload_n 0, 1) := by decide +kernel
theorem dX4_copy_44 : decode cX4_copy 44 = .ok (.ldc 221, 2) := by decide +kernel
theorem dX4_copy_46 : decode cX4_copy 46 = .ok (.invokevirtual 64, 3) := by decide +kernel
theorem dX4_copy_49 : decode cX4_copy 49 = .ok (.ireturn, 1) := by decide +kernel
theorem dX4_copy_50 : decode cX4_copy 50 = .ok (.aload_n 0, 1) := by decide +kernel
theorem dX4_copy_51 : decode cX4_copy 51 = .ok (.getfield 39, 3) := by decide +kernel
theorem dX4_copy_54 : decode cX4_copy 54 = .ok (.getfield 233, 3) := by decide +kernel
theorem dX4_copy_57 : decode cX4_copy 57 = .ok (.iload_n 1, 1) := by decide +kernel
theorem dX4_copy_58 : decode cX4_copy 58 = .ok (.iaload, 1) := by decide +kernel
theorem dX4_copy_59 : decode cX4_copy 59 = .ok (.aload_n 0, 1) := by decide +kernel
theorem dX4_copy_60 : decode cX4_copy 60 = .ok (.getfield 39, 3) := by decide +kernel
theorem dX4_copy_63 : decode cX4_copy 63 = .ok (.getfield 233, 3) := by decide +kernel
theorem dX4_copy_66 : decode cX4_copy 66 = .ok (.iload_n 3, 1) := by decide +kernel
theorem dX4_copy_67 : decode cX4_copy 67 = .ok (.iaload, 1) := by decide +kernel
theorem dX4_copy_68 : decode cX4_copy 68 = .ok (.if_icmp .eq 10, 3) := by decide +kernel
theorem dX4_copy_71 : decode cX4_copy 71 = .ok (.aload_n 0, 1) := by decide +kernel
theorem dX4_copy_72 : decode cX4_copy 72 = .ok (.ldc 151, 2) := by decide +kernel
theorem dX4_copy_74 : decode cX4_copy 74 = .ok (.invokevirtual 64, 3) := by decide +kernel
theorem dX4_copy_77 : decode cX4_copy 77 = .ok (.ireturn, 1) := by decide +kernel
theorem dX4_copy_78 : decode cX4_copy 78 = .ok (.aload_n 0, 1) := by decide +kernel
theorem dX4_copy_79 : decode cX4_copy 79 = .ok (.getfield 39, 3) := by decide +kernel
theorem dX4_copy_82 : decode cX4_copy 82 = .ok (.iload_n 1, 1) := by decide +kernel
theorem dX4_copy_83 : decode cX4_copy 83 = .ok (.iload_n 2, 1) := by decide +kernel
theorem dX4_copy_84 : decode cX4_copy 84 = .ok (.iload 5, 2) := by decide +kernel
theorem dX4_copy_86 : decode cX4_copy 86 = .ok (.invokevirtual 236, 3) := by decide +kernel
theorem dX4_copy_89 : decode cX4_copy 89 = .ok (.ifCond .eq 18, 3) := by decide +kernel
theorem dX4_copy_92 : decode cX4_copy 92 = .ok (.aload_n 0, 1) := by decide +kernel
theorem dX4_copy_93 : decode cX4_copy 93 = .ok (.getfield 39, 3) := by decide +kernel
theorem dX4_copy_96 : decode cX4_copy 96 = .ok (.iload_n 3, 1) := by decide +kernel
theorem dX4_copy_97 : decode cX4_copy 97 = .ok (.iload 4, 2) := by decide +kernel
theorem dX4_copy_99 : decode cX4_copy 99 = .ok (.iload 5, 2) := by decide +kernel
theorem dX4_copy_101 : decode cX4_copy 101 = .ok (.invokevirtual 236, 3) := by decide +kernel
theorem dX4_copy_104 : decode cX4_copy 104 = .ok (.ifCond .ne 10, 3) := by decide +kernel
theorem dX4_copy_107 : decode cX4_copy 107 = .ok (.aload_n 0, 1) := by decide +kernel
theorem dX4_copy_108 : decode cX4_copy 108 = .ok (.ldc 63, 2) := by decide +kernel
theorem dX4_copy_110 : decode cX4_copy 110 = .ok (.invokevirtual 64, 3) := by decide +kernel
theorem dX4_copy_113 : decode cX4_copy 113 = .ok (.ireturn, 1) := by decide +kernel
theorem dX4_copy_114 : decode cX4_copy 114 = .ok (.aload_n 0, 1) := by decide +kernel
theorem dX4_copy_115 : decode cX4_copy 115 = .ok (.getfield 39, 3) := by decide +kernel
theorem dX4_copy_118 : decode cX4_copy 118 = .ok (.iload_n 1, 1) := by decide +kernel
theorem dX4_copy_119 : decode cX4_copy 119 = .ok (.iload_n 2, 1) := by decide +kernel
theorem dX4_copy_120 : decode cX4_copy 120 = .ok (.iload_n 3, 1) := by decide +kernel
theorem dX4_copy_121 : decode cX4_copy 121 = .ok (.iload 4, 2) := by decide +kernel
theorem dX4_copy_123 : decode cX4_copy 123 = .ok (.iload 5, 2) := by decide +kernel
theorem dX4_copy_125 : decode cX4_copy 125 = .ok (.invokevirtual 239, 3) := by decide +kernel
theorem dX4_copy_128 : decode cX4_copy 128 = .ok (.iload 5, 2) := by decide +kernel
theorem dX4_copy_130 : decode cX4_copy 130 = .ok (.ireturn, 1) := by decide +kernel
theorem dX4_lays_0 : decode cX4_lays 0 = .ok (.iload_n 1, 1) := by decide +kernel
theorem dX4_lays_1 : decode cX4_lays 1 = .ok (.invokestatic 207, 3) := by decide +kernel
theorem dX4_lays_4 : decode cX4_lays 4 = .ok (.ifCond .ne 10, 3) := by decide +kernel
theorem dX4_lays_7 : decode cX4_lays 7 = .ok (.aload_n 0, 1) := by decide +kernel
theorem dX4_lays_8 : decode cX4_lays 8 = .ok (.ldc 63, 2) := by decide +kernel
theorem dX4_lays_10 : decode cX4_lays 10 = .ok (.invokevirtual 64, 3) := by decide +kernel
theorem dX4_lays_13 : decode cX4_lays 13 = .ok (.ireturn, 1) := by decide +kernel
theorem dX4_lays_14 : decode cX4_lays 14 = .ok (.aload_n 0, 1) := by decide +kernel
theorem dX4_lays_15 : decode cX4_lays 15 = .ok (.getfield 39, 3) := by decide +kernel
theorem dX4_lays_18 : decode cX4_lays 18 = .ok (.iload_n 1, 1) := by decide +kernel
theorem dX4_lays_19 : decode cX4_lays 19 = .ok (.invokevirtual 218, 3) := by decide +kernel
theorem dX4_lays_22 : decode cX4_lays 22 = .ok (.ifCond .eq 10, 3) := by decide +kernel
theorem dX4_lays_25 : decode cX4_lays 25 = .ok (.aload_n 0, 1) := by decide +kernel
theorem dX4_lays_26 : decode cX4_lays 26 = .ok (.ldc 221, 2) := by decide +kernel
theorem dX4_lays_28 : decode cX4_lays 28 = .ok (.invokevirtual 64, 3) := by decide +kernel
theorem dX4_lays_31 : decode cX4_lays 31 = .ok (.ireturn, 1) := by decide +kernel
theorem dX4_lays_32 : decode cX4_lays 32 = .ok (.iconst 0, 1) := by decide +kernel
theorem dX4_lays_33 : decode cX4_lays 33 = .ok (.istore_n 2, 1) := by decide +kernel
theorem dX4_lays_34 : decode cX4_lays 34 = .ok (.aload_n 0, 1) := by decide +kernel
theorem dX4_lays_35 : decode cX4_lays 35 = .ok (.getfield 39, 3) := by decide +kernel
theorem dX4_lays_38 : decode cX4_lays 38 = .ok (.getfield 222, 3) := by decide +kernel
theorem dX4_lays_41 : decode cX4_lays 41 = .ok (.iload_n 1, 1) := by decide +kernel
theorem dX4_lays_42 : decode cX4_lays 42 = .ok (.iaload, 1) := by decide +kernel
theorem dX4_lays_43 : decode cX4_lays 43 = .ok (.aload_n 0, 1) := by decide +kernel
theorem dX4_lays_44 : decode cX4_lays 44 = .ok (.getfield 10, 3) := by decide +kernel
theorem dX4_lays_47 : decode cX4_lays 47 = .ok (.getfield 100, 3) := by decide +kernel
theorem dX4_lays_50 : decode cX4_lays 50 = .ok (.invokestatic 243, 3) := by decide +kernel
theorem dX4_lays_53 : decode cX4_lays 53 = .ok (.istore_n 3, 1) := by decide +kernel
theorem dX4_lays_54 : decode cX4_lays 54 = .ok (.iconst 0, 1) := by decide +kernel
theorem dX4_lays_55 : decode cX4_lays 55 = .ok (.istore 4, 2) := by decide +kernel
theorem dX4_lays_57 : decode cX4_lays 57 = .ok (.iload 4, 2) := by decide +kernel
theorem dX4_lays_59 : decode cX4_lays 59 = .ok (.iload_n 3, 1) := by decide +kernel
theorem dX4_lays_60 : decode cX4_lays 60 = .ok (.if_icmp .ge 53, 3) := by decide +kernel
theorem dX4_lays_63 : decode cX4_lays 63 = .ok (.aload_n 0, 1) := by decide +kernel
theorem dX4_lays_64 : decode cX4_lays 64 = .ok (.getfield 39, 3) := by decide +kernel
theorem dX4_lays_67 : decode cX4_lays 67 = .ok (.iload_n 1, 1) := by decide +kernel
theorem dX4_lays_68 : decode cX4_lays 68 = .ok (.iload 4, 2) := by decide +kernel
theorem dX4_lays_70 : decode cX4_lays 70 = .ok (.invokevirtual 225, 3) := by decide +kernel
theorem dX4_lays_73 : decode cX4_lays 73 = .ok (.lstore 5, 2) := by decide +kernel
theorem dX4_lays_75 : decode cX4_lays 75 = .ok (.lload 5, 2) := by decide +kernel
theorem dX4_lays_77 : decode cX4_lays 77 = .ok (.lconst 0, 1) := by decide +kernel
theorem dX4_lays_78 : decode cX4_lays 78 = .ok (.lcmp, 1) := by decide +kernel
theorem dX4_lays_79 : decode cX4_lays 79 = .ok (.ifCond .lt 28, 3) := by decide +kernel
theorem dX4_lays_82 : decode cX4_lays 82 = .ok (.lload 5, 2) := by decide +kernel
theorem dX4_lays_84 : decode cX4_lays 84 = .ok (.ldc2_w 248, 3) := by decide +kernel
theorem dX4_lays_87 : decode cX4_lays 87 = .ok (.lcmp, 1) := by decide +kernel
theorem dX4_lays_88 : decode cX4_lays 88 = .ok (.ifCond .gt 19, 3) := by decide +kernel
theorem dX4_lays_91 : decode cX4_lays 91 = .ok (.aload_n 0, 1) := by decide +kernel
theorem dX4_lays_92 : decode cX4_lays 92 = .ok (.getfield 10, 3) := by decide +kernel
theorem dX4_lays_95 : decode cX4_lays 95 = .ok (.getfield 120, 3) := by decide +kernel
theorem dX4_lays_98 : decode cX4_lays 98 = .ok (.iload 4, 2) := by decide +kernel
theorem dX4_lays_100 : decode cX4_lays 100 = .ok (.lload 5, 2) := by decide +kernel
theorem dX4_lays_102 : decode cX4_lays 102 = .ok (.l2i, 1) := by decide +kernel
theorem dX4_lays_103 : decode cX4_lays 103 = .ok (.iastore, 1) := by decide +kernel
theorem dX4_lays_104 : decode cX4_lays 104 = .ok (.iinc 2 1, 3) := by decide +kernel
theorem dX4_lays_107 : decode cX4_lays 107 = .ok (.iinc 4 1, 3) := by decide +kernel
theorem dX4_lays_110 : decode cX4_lays 110 = .ok (.goto (-53), 3) := by decide +kernel
theorem dX4_lays_113 : decode cX4_lays 113 = .ok (.iload_n 2, 1) := by decide +kernel
theorem dX4_lays_114 : decode cX4_lays 114 = .ok (.ireturn, 1) := by decide +kernel
theorem dX4_book_0 : decode cX4_book 0 = .ok (.iload_n 1, 1) := by decide +kernel
theorem dX4_book_1 : decode cX4_book 1 = .ok (.invokestatic 207, 3) := by decide +kernel
theorem dX4_book_4 : decode cX4_book 4 = .ok (.ifCond .ne 10, 3) := by decide +kernel
theorem dX4_book_7 : decode cX4_book 7 = .ok (.aload_n 0, 1) := by decide +kernel
theorem dX4_book_8 : decode cX4_book 8 = .ok (.ldc 63, 2) := by decide +kernel
theorem dX4_book_10 : decode cX4_book 10 = .ok (.invokevirtual 64, 3) := by decide +kernel
theorem dX4_book_13 : decode cX4_book 13 = .ok (.ireturn, 1) := by decide +kernel
theorem dX4_book_14 : decode cX4_book 14 = .ok (.aload_n 0, 1) := by decide +kernel
theorem dX4_book_15 : decode cX4_book 15 = .ok (.getfield 39, 3) := by decide +kernel
theorem dX4_book_18 : decode cX4_book 18 = .ok (.iload_n 1, 1) := by decide +kernel
theorem dX4_book_19 : decode cX4_book 19 = .ok (.invokevirtual 218, 3) := by decide +kernel
theorem dX4_book_22 : decode cX4_book 22 = .ok (.ifCond .eq 10, 3) := by decide +kernel
theorem dX4_book_25 : decode cX4_book 25 = .ok (.aload_n 0, 1) := by decide +kernel
theorem dX4_book_26 : decode cX4_book 26 = .ok (.ldc 221, 2) := by decide +kernel
theorem dX4_book_28 : decode cX4_book 28 = .ok (.invokevirtual 64, 3) := by decide +kernel
theorem dX4_book_31 : decode cX4_book 31 = .ok (.ireturn, 1) := by decide +kernel
theorem dX4_book_32 : decode cX4_book 32 = .ok (.aload_n 0, 1) := by decide +kernel
theorem dX4_book_33 : decode cX4_book 33 = .ok (.iload_n 2, 1) := by decide +kernel
theorem dX4_book_34 : decode cX4_book 34 = .ok (.invokevirtual 108, 3) := by decide +kernel
theorem dX4_book_37 : decode cX4_book 37 = .ok (.ifCond .ne 10, 3) := by decide +kernel
theorem dX4_book_40 : decode cX4_book 40 = .ok (.aload_n 0, 1) := by decide +kernel
theorem dX4_book_41 : decode cX4_book 41 = .ok (.ldc 63, 2) := by decide +kernel
theorem dX4_book_43 : decode cX4_book 43 = .ok (.invokevirtual 64, 3) := by decide +kernel
theorem dX4_book_46 : decode cX4_book 46 = .ok (.ireturn, 1) := by decide +kernel
theorem dX4_book_47 : decode cX4_book 47 = .ok (.aload_n 0, 1) := by decide +kernel
theorem dX4_book_48 : decode cX4_book 48 = .ok (.invokevirtual 158, 3) := by decide +kernel
theorem dX4_book_51 : decode cX4_book 51 = .ok (.iconst 0, 1) := by decide +kernel
theorem dX4_book_52 : decode cX4_book 52 = .ok (.istore_n 3, 1) := by decide +kernel
theorem dX4_book_53 : decode cX4_book 53 = .ok (.iload_n 3, 1) := by decide +kernel
theorem dX4_book_54 : decode cX4_book 54 = .ok (.aload_n 0, 1) := by decide +kernel
theorem dX4_book_55 : decode cX4_book 55 = .ok (.getfield 39, 3) := by decide +kernel
theorem dX4_book_58 : decode cX4_book 58 = .ok (.getfield 222, 3) := by decide +kernel
theorem dX4_book_61 : decode cX4_book 61 = .ok (.iload_n 1, 1) := by decide +kernel
theorem dX4_book_62 : decode cX4_book 62 = .ok (.iaload, 1) := by decide +kernel
theorem dX4_book_63 : decode cX4_book 63 = .ok (.if_icmp .ge 35, 3) := by decide +kernel
theorem dX4_book_66 : decode cX4_book 66 = .ok (.aload_n 0, 1) := by decide +kernel
theorem dX4_book_67 : decode cX4_book 67 = .ok (.getfield 39, 3) := by decide +kernel
theorem dX4_book_70 : decode cX4_book 70 = .ok (.iload_n 1, 1) := by decide +kernel
theorem dX4_book_71 : decode cX4_book 71 = .ok (.iload_n 3, 1) := by decide +kernel
theorem dX4_book_72 : decode cX4_book 72 = .ok (.aload_n 0, 1) := by decide +kernel
theorem dX4_book_73 : decode cX4_book 73 = .ok (.getfield 16, 3) := by decide +kernel
theorem dX4_book_76 : decode cX4_book 76 = .ok (.getfield 123, 3) := by decide +kernel
theorem dX4_book_79 : decode cX4_book 79 = .ok (.iload_n 2, 1) := by decide +kernel
theorem dX4_book_80 : decode cX4_book 80 = .ok (.iaload, 1) := by decide +kernel
theorem dX4_book_81 : decode cX4_book 81 = .ok (.i2l, 1) := by decide +kernel
theorem dX4_book_82 : decode cX4_book 82 = .ok (.invokevirtual 229, 3) := by decide +kernel
theorem dX4_book_85 : decode cX4_book 85 = .ok (.aload_n 0, 1) := by decide +kernel
theorem dX4_book_86 : decode cX4_book 86 = .ok (.getfield 16, 3) := by decide +kernel
theorem dX4_book_89 : decode cX4_book 89 = .ok (.invokevirtual 170, 3) := by decide +kernel
theorem dX4_book_92 : decode cX4_book 92 = .ok (.iinc 3 1, 3) := by decide +kernel
theorem dX4_book_95 : decode cX4_book 95 = .ok (.goto (-42), 3) := by decide +kernel
theorem dX4_book_98 : decode cX4_book 98 = .ok (.aload_n 0, 1) := by decide +kernel
theorem dX4_book_99 : decode cX4_book 99 = .ok (.getfield 39, 3) := by decide +kernel
theorem dX4_book_102 : decode cX4_book 102 = .ok (.getfield 222, 3) := by decide +kernel
theorem dX4_book_105 : decode cX4_book 105 = .ok (.iload_n 1, 1) := by decide +kernel
theorem dX4_book_106 : decode cX4_book 106 = .ok (.iaload, 1) := by decide +kernel
theorem dX4_book_107 : decode cX4_book 107 = .ok (.ireturn, 1) := by decide +kernel
theorem dX4_read_0 : decode cX4_read 0 = .ok (.iload_n 1, 1) := by decide +kernel
theorem dX4_read_1 : decode cX4_read 1 = .ok (.invokestatic 207, 3) := by decide +kernel
theorem dX4_read_4 : decode cX4_read 4 = .ok (.ifCond .ne 10, 3) := by decide +kernel
theorem dX4_read_7 : decode cX4_read 7 = .ok (.aload_n 0, 1) := by decide +kernel
theorem dX4_read_8 : decode cX4_read 8 = .ok (.ldc 63, 2) := by decide +kernel
theorem dX4_read_10 : decode cX4_read 10 = .ok (.invokevirtual 64, 3) := by decide +kernel
theorem dX4_read_13 : decode cX4_read 13 = .ok (.ireturn, 1) := by decide +kernel
theorem dX4_read_14 : decode cX4_read 14 = .ok (.aload_n 0, 1) := by decide +kernel
theorem dX4_read_15 : decode cX4_read 15 = .ok (.getfield 39, 3) := by decide +kernel
theorem dX4_read_18 : decode cX4_read 18 = .ok (.iload_n 1, 1) := by decide +kernel
theorem dX4_read_19 : decode cX4_read 19 = .ok (.invokevirtual 218, 3) := by decide +kernel
theorem dX4_read_22 : decode cX4_read 22 = .ok (.ifCond .eq 10, 3) := by decide +kernel
theorem dX4_read_25 : decode cX4_read 25 = .ok (.aload_n 0, 1) := by decide +kernel
theorem dX4_read_26 : decode cX4_read 26 = .ok (.ldc 221, 2) := by decide +kernel
theorem dX4_read_28 : decode cX4_read 28 = .ok (.invokevirtual 64, 3) := by decide +kernel
theorem dX4_read_31 : decode cX4_read 31 = .ok (.ireturn, 1) := by decide +kernel
theorem dX4_read_32 : decode cX4_read 32 = .ok (.aload_n 0, 1) := by decide +kernel
theorem dX4_read_33 : decode cX4_read 33 = .ok (.iload_n 2, 1) := by decide +kernel
theorem dX4_read_34 : decode cX4_read 34 = .ok (.invokevirtual 108, 3) := by decide +kernel
theorem dX4_read_37 : decode cX4_read 37 = .ok (.ifCond .ne 10, 3) := by decide +kernel
theorem dX4_read_40 : decode cX4_read 40 = .ok (.aload_n 0, 1) := by decide +kernel
theorem dX4_read_41 : decode cX4_read 41 = .ok (.ldc 63, 2) := by decide +kernel
theorem dX4_read_43 : decode cX4_read 43 = .ok (.invokevirtual 64, 3) := by decide +kernel
theorem dX4_read_46 : decode cX4_read 46 = .ok (.ireturn, 1) := by decide +kernel
theorem dX4_read_47 : decode cX4_read 47 = .ok (.iconst 0, 1) := by decide +kernel
theorem dX4_read_48 : decode cX4_read 48 = .ok (.istore_n 3, 1) := by decide +kernel
theorem dX4_read_49 : decode cX4_read 49 = .ok (.iconst 0, 1) := by decide +kernel
theorem dX4_read_50 : decode cX4_read 50 = .ok (.istore 4, 2) := by decide +kernel
theorem dX4_read_52 : decode cX4_read 52 = .ok (.iload 4, 2) := by decide +kernel
theorem dX4_read_54 : decode cX4_read 54 = .ok (.bipush 6, 2) := by decide +kernel
theorem dX4_read_56 : decode cX4_read 56 = .ok (.if_icmp .ge 41, 3) := by decide +kernel
theorem dX4_read_59 : decode cX4_read 59 = .ok (.iconst 0, 1) := by decide +kernel
theorem dX4_read_60 : decode cX4_read 60 = .ok (.istore 5, 2) := by decide +kernel
theorem dX4_read_62 : decode cX4_read 62 = .ok (.iload 5, 2) := by decide +kernel
theorem dX4_read_64 : decode cX4_read 64 = .ok (.bipush 99, 2) := by decide +kernel
theorem dX4_read_66 : decode cX4_read 66 = .ok (.if_icmp .gt 25, 3) := by decide +kernel
theorem dX4_read_69 : decode cX4_read 69 = .ok (.aload_n 0, 1) := by decide +kernel
theorem dX4_read_70 : decode cX4_read 70 = .ok (.iload_n 1, 1) := by decide +kernel
theorem dX4_read_71 : decode cX4_read 71 = .ok (.iload_n 2, 1) := by decide +kernel
theorem dX4_read_72 : decode cX4_read 72 = .ok (.iload 4, 2) := by decide +kernel
theorem dX4_read_74 : decode cX4_read 74 = .ok (.iload 5, 2) := by decide +kernel
theorem dX4_read_76 : decode cX4_read 76 = .ok (.invokevirtual 250, 3) := by decide +kernel
theorem dX4_read_79 : decode cX4_read 79 = .ok (.ifCond .eq 6, 3) := by decide +kernel
theorem dX4_read_82 : decode cX4_read 82 = .ok (.iinc 3 1, 3) := by decide +kernel
theorem dX4_read_85 : decode cX4_read 85 = .ok (.iinc 5 1, 3) := by decide +kernel
theorem dX4_read_88 : decode cX4_read 88 = .ok (.goto (-26), 3) := by decide +kernel
theorem dX4_read_91 : decode cX4_read 91 = .ok (.iinc 4 1, 3) := by decide +kernel
theorem dX4_read_94 : decode cX4_read 94 = .ok (.goto (-42), 3) := by decide +kernel
theorem dX4_read_97 : decode cX4_read 97 = .ok (.iload_n 3, 1) := by decide +kernel
theorem dX4_read_98 : decode cX4_read 98 = .ok (.ireturn, 1) := by decide +kernel
theorem dX4_image_0 : decode cX4_image 0 = .ok (.aload_n 0, 1) := by decide +kernel
theorem dX4_image_1 : decode cX4_image 1 = .ok (.getfield 19, 3) := by decide +kernel
theorem dX4_image_4 : decode cX4_image 4 = .ok (.aload_n 0, 1) := by decide +kernel
theorem dX4_image_5 : decode cX4_image 5 = .ok (.getfield 10, 3) := by decide +kernel
theorem dX4_image_8 : decode cX4_image 8 = .ok (.invokevirtual 200, 3) := by decide +kernel
theorem dX4_image_11 : decode cX4_image 11 = .ok (.aload_n 0, 1) := by decide +kernel
theorem dX4_image_12 : decode cX4_image 12 = .ok (.iconst 1, 1) := by decide +kernel
theorem dX4_image_13 : decode cX4_image 13 = .ok (.putfield 47, 3) := by decide +kernel
theorem dX4_image_16 : decode cX4_image 16 = .ok (.iconst 1, 1) := by decide +kernel
theorem dX4_image_17 : decode cX4_image 17 = .ok (.ireturn, 1) := by decide +kernel
theorem dX4_undo_0 : decode cX4_undo 0 = .ok (.aload_n 0, 1) := by decide +kernel
theorem dX4_undo_1 : decode cX4_undo 1 = .ok (.getfield 47, 3) := by decide +kernel
theorem dX4_undo_4 : decode cX4_undo 4 = .ok (.ifCond .ne 10, 3) := by decide +kernel
theorem dX4_undo_7 : decode cX4_undo 7 = .ok (.aload_n 0, 1) := by decide +kernel
theorem dX4_undo_8 : decode cX4_undo 8 = .ok (.ldc 173, 2) := by decide +kernel
theorem dX4_undo_10 : decode cX4_undo 10 = .ok (.invokevirtual 64, 3) := by decide +kernel
theorem dX4_undo_13 : decode cX4_undo 13 = .ok (.ireturn, 1) := by decide +kernel
theorem dX4_undo_14 : decode cX4_undo 14 = .ok (.aload_n 0, 1) := by decide +kernel
theorem dX4_undo_15 : decode cX4_undo 15 = .ok (.getfield 10, 3) := by decide +kernel
theorem dX4_undo_18 : decode cX4_undo 18 = .ok (.aload_n 0, 1) := by decide +kernel
theorem dX4_undo_19 : decode cX4_undo 19 = .ok (.getfield 19, 3) := by decide +kernel
theorem dX4_undo_22 : decode cX4_undo 22 = .ok (.invokevirtual 200, 3) := by decide +kernel
theorem dX4_undo_25 : decode cX4_undo 25 = .ok (.aload_n 0, 1) := by decide +kernel
theorem dX4_undo_26 : decode cX4_undo 26 = .ok (.getfield 10, 3) := by decide +kernel
theorem dX4_undo_29 : decode cX4_undo 29 = .ok (.getfield 100, 3) := by decide +kernel
theorem dX4_undo_32 : decode cX4_undo 32 = .ok (.ireturn, 1) := by decide +kernel
theorem dX4_tear_0 : decode cX4_tear 0 = .ok (.aload_n 0, 1) := by decide +kernel
theorem dX4_tear_1 : decode cX4_tear 1 = .ok (.getfield 47, 3) := by decide +kernel
theorem dX4_tear_4 : decode cX4_tear 4 = .ok (.ifCond .eq 7, 3) := by decide +kernel
theorem dX4_tear_7 : decode cX4_tear 7 = .ok (.iconst 1, 1) := by decide +kernel
theorem dX4_tear_8 : decode cX4_tear 8 = .ok (.goto 4, 3) := by decide +kernel
theorem dX4_tear_11 : decode cX4_tear 11 = .ok (.iconst 0, 1) := by decide +kernel
theorem dX4_tear_12 : decode cX4_tear 12 = .ok (.istore_n 1, 1) := by decide +kernel
theorem dX4_tear_13 : decode cX4_tear 13 = .ok (.aload_n 0, 1) := by decide +kernel
theorem dX4_tear_14 : decode cX4_tear 14 = .ok (.iconst 0, 1) := by decide +kernel
theorem dX4_tear_15 : decode cX4_tear 15 = .ok (.putfield 47, 3) := by decide +kernel
theorem dX4_tear_18 : decode cX4_tear 18 = .ok (.iload_n 1, 1) := by decide +kernel
theorem dX4_tear_19 : decode cX4_tear 19 = .ok (.ireturn, 1) := by decide +kernel
theorem dX4_count_0 : decode cX4_count 0 = .ok (.iload_n 1, 1) := by decide +kernel
theorem dX4_count_1 : decode cX4_count 1 = .ok (.tableswitch 63 0 3 #[31, 39, 47, 55], 31) := by decide +kernel
theorem dX4_count_32 : decode cX4_count 32 = .ok (.aload_n 0, 1) := by decide +kernel
theorem dX4_count_33 : decode cX4_count 33 = .ok (.getfield 10, 3) := by decide +kernel
theorem dX4_count_36 : decode cX4_count 36 = .ok (.getfield 100, 3) := by decide +kernel
theorem dX4_count_39 : decode cX4_count 39 = .ok (.ireturn, 1) := by decide +kernel
theorem dX4_count_40 : decode cX4_count 40 = .ok (.aload_n 0, 1) := by decide +kernel
theorem dX4_count_41 : decode cX4_count 41 = .ok (.getfield 25, 3) := by decide +kernel
theorem dX4_count_44 : decode cX4_count 44 = .ok (.getfield 187, 3) := by decide +kernel
theorem dX4_count_47 : decode cX4_count 47 = .ok (.ireturn, 1) := by decide +kernel
theorem dX4_count_48 : decode cX4_count 48 = .ok (.aload_n 0, 1) := by decide +kernel
theorem dX4_count_49 : decode cX4_count 49 = .ok (.getfield 10, 3) := by decide +kernel
theorem dX4_count_52 : decode cX4_count 52 = .ok (.invokevirtual 254, 3) := by decide +kernel
theorem dX4_count_55 : decode cX4_count 55 = .ok (.ireturn, 1) := by decide +kernel
theorem dX4_count_56 : decode cX4_count 56 = .ok (.aload_n 0, 1) := by decide +kernel
theorem dX4_count_57 : decode cX4_count 57 = .ok (.getfield 10, 3) := by decide +kernel
theorem dX4_count_60 : decode cX4_count 60 = .ok (.invokevirtual 257, 3) := by decide +kernel
theorem dX4_count_63 : decode cX4_count 63 = .ok (.ireturn, 1) := by decide +kernel
theorem dX4_count_64 : decode cX4_count 64 = .ok (.aload_n 0, 1) := by decide +kernel
theorem dX4_count_65 : decode cX4_count 65 = .ok (.ldc 63, 2) := by decide +kernel
theorem dX4_count_67 : decode cX4_count 67 = .ok (.invokevirtual 64, 3) := by decide +kernel
theorem dX4_count_70 : decode cX4_count 70 = .ok (.ireturn, 1) := by decide +kernel
theorem dX4_status_0 : decode cX4_status 0 = .ok (.iload_n 1, 1) := by decide +kernel
theorem dX4_status_1 : decode cX4_status 1 = .ok (.iconst (-1), 1) := by decide +kernel
theorem dX4_status_2 : decode cX4_status 2 = .ok (.bipush 6, 2) := by decide +kernel
theorem dX4_status_4 : decode cX4_status 4 = .ok (.invokestatic 55, 3) := by decide +kernel
theorem dX4_status_7 : decode cX4_status 7 = .ok (.ifCond .ne 10, 3) := by decide +kernel
theorem dX4_status_10 : decode cX4_status 10 = .ok (.aload_n 0, 1) := by decide +kernel
theorem dX4_status_11 : decode cX4_status 11 = .ok (.ldc 63, 2) := by decide +kernel
theorem dX4_status_13 : decode cX4_status 13 = .ok (.invokevirtual 64, 3) := by decide +kernel
theorem dX4_status_16 : decode cX4_status 16 = .ok (.ireturn, 1) := by decide +kernel
theorem dX4_status_17 : decode cX4_status 17 = .ok (.iload_n 1, 1) := by decide +kernel
theorem dX4_status_18 : decode cX4_status 18 = .ok (.ifCond .lt 10, 3) := by decide +kernel
theorem dX4_status_21 : decode cX4_status 21 = .ok (.aload_n 0, 1) := by decide +kernel
theorem dX4_status_22 : decode cX4_status 22 = .ok (.getfield 43, 3) := by decide +kernel
theorem dX4_status_25 : decode cX4_status 25 = .ok (.iload_n 1, 1) := by decide +kernel
theorem dX4_status_26 : decode cX4_status 26 = .ok (.iaload, 1) := by decide +kernel
theorem dX4_status_27 : decode cX4_status 27 = .ok (.ireturn, 1) := by decide +kernel
theorem dX4_status_28 : decode cX4_status 28 = .ok (.iconst 0, 1) := by decide +kernel
theorem dX4_status_29 : decode cX4_status 29 = .ok (.istore_n 2, 1) := by decide +kernel
theorem dX4_status_30 : decode cX4_status 30 = .ok (.iconst 0, 1) := by decide +kernel
theorem dX4_status_31 : decode cX4_status 31 = .ok (.istore_n 3, 1) := by decide +kernel
theorem dX4_status_32 : decode cX4_status 32 = .ok (.iload_n 3, 1) := by decide +kernel
theorem dX4_status_33 : decode cX4_status 33 = .ok (.bipush 7, 2) := by decide +kernel
theorem dX4_status_35 : decode cX4_status 35 = .ok (.if_icmp .ge 18, 3) := by decide +kernel
theorem dX4_status_38 : decode cX4_status 38 = .ok (.iload_n 2, 1) := by decide +kernel
theorem dX4_status_39 : decode cX4_status 39 = .ok (.aload_n 0, 1) := by decide +kernel
theorem dX4_status_40 : decode cX4_status 40 = .ok (.getfield 43, 3) := by decide +kernel
theorem dX4_status_43 : decode cX4_status 43 = .ok (.iload_n 3, 1) := by decide +kernel
theorem dX4_status_44 : decode cX4_status 44 = .ok (.iaload, 1) := by decide +kernel
theorem dX4_status_45 : decode cX4_status 45 = .ok (.iadd, 1) := by decide +kernel
theorem dX4_status_46 : decode cX4_status 46 = .ok (.istore_n 2, 1) := by decide +kernel
theorem dX4_status_47 : decode cX4_status 47 = .ok (.iinc 3 1, 3) := by decide +kernel
theorem dX4_status_50 : decode cX4_status 50 = .ok (.goto (-18), 3) := by decide +kernel
theorem dX4_status_53 : decode cX4_status 53 = .ok (.iload_n 2, 1) := by decide +kernel
theorem dX4_status_54 : decode cX4_status 54 = .ok (.ireturn, 1) := by decide +kernel
theorem dX4_tell_0 : decode cX4_tell 0 = .ok (.ldc 63, 2) := by decide +kernel
theorem dX4_tell_2 : decode cX4_tell 2 = .ok (.iload_n 1, 1) := by decide +kernel
theorem dX4_tell_3 : decode cX4_tell 3 = .ok (.isub, 1) := by decide +kernel
theorem dX4_tell_4 : decode cX4_tell 4 = .ok (.istore_n 2, 1) := by decide +kernel
theorem dX4_tell_5 : decode cX4_tell 5 = .ok (.iload_n 2, 1) := by decide +kernel
theorem dX4_tell_6 : decode cX4_tell 6 = .ok (.iconst 0, 1) := by decide +kernel
theorem dX4_tell_7 : decode cX4_tell 7 = .ok (.bipush 6, 2) := by decide +kernel
theorem dX4_tell_9 : decode cX4_tell 9 = .ok (.invokestatic 55, 3) := by decide +kernel
theorem dX4_tell_12 : decode cX4_tell 12 = .ok (.ifCond .eq 13, 3) := by decide +kernel
theorem dX4_tell_15 : decode cX4_tell 15 = .ok (.aload_n 0, 1) := by decide +kernel
theorem dX4_tell_16 : decode cX4_tell 16 = .ok (.getfield 43, 3) := by decide +kernel
theorem dX4_tell_19 : decode cX4_tell 19 = .ok (.iload_n 2, 1) := by decide +kernel
theorem dX4_tell_20 : decode cX4_tell 20 = .ok (.dup2, 1) := by decide +kernel
theorem dX4_tell_21 : decode cX4_tell 21 = .ok (.iaload, 1) := by decide +kernel
theorem dX4_tell_22 : decode cX4_tell 22 = .ok (.iconst 1, 1) := by decide +kernel
theorem dX4_tell_23 : decode cX4_tell 23 = .ok (.iadd, 1) := by decide +kernel
theorem dX4_tell_24 : decode cX4_tell 24 = .ok (.iastore, 1) := by decide +kernel
theorem dX4_tell_25 : decode cX4_tell 25 = .ok (.iload_n 1, 1) := by decide +kernel
theorem dX4_tell_26 : decode cX4_tell 26 = .ok (.ireturn, 1) := by decide +kernel
theorem dX4_startTrial_0 : decode cX4_startTrial 0 = .ok (.aload_n 0, 1) := by decide +kernel
theorem dX4_startTrial_1 : decode cX4_startTrial 1 = .ok (.getfield 16, 3) := by decide +kernel
theorem dX4_startTrial_4 : decode cX4_startTrial 4 = .ok (.aload_n 0, 1) := by decide +kernel
theorem dX4_startTrial_5 : decode cX4_startTrial 5 = .ok (.getfield 10, 3) := by decide +kernel
theorem dX4_startTrial_8 : decode cX4_startTrial 8 = .ok (.invokevirtual 200, 3) := by decide +kernel
theorem dX4_startTrial_11 : decode cX4_startTrial 11 = .ok (.return_, 1) := by decide +kernel
theorem dX4_brightest_0 : decode cX4_brightest 0 = .ok (.iconst 0, 1) := by decide +kernel
theorem dX4_brightest_1 : decode cX4_brightest 1 = .ok (.istore 5, 2) := by decide +kernel
theorem dX4_brightest_3 : decode cX4_brightest 3 = .ok (.iconst (-1), 1) := by decide +kernel
theorem dX4_brightest_4 : decode cX4_brightest 4 = .ok (.istore 6, 2) := by decide +kernel
theorem dX4_brightest_6 : decode cX4_brightest 6 = .ok (.iconst 0, 1) := by decide +kernel
theorem dX4_brightest_7 : decode cX4_brightest 7 = .ok (.istore 7, 2) := by decide +kernel
theorem dX4_brightest_9 : decode cX4_brightest 9 = .ok (.iload 7, 2) := by decide +kernel
theorem dX4_brightest_11 : decode cX4_brightest 11 = .ok (.iload_n 2, 1) := by decide +kernel
theorem dX4_brightest_12 : decode cX4_brightest 12 = .ok (.if_icmp .ge 54, 3) := by decide +kernel
theorem dX4_brightest_15 : decode cX4_brightest 15 = .ok (.aload_n 0, 1) := by decide +kernel
theorem dX4_brightest_16 : decode cX4_brightest 16 = .ok (.invokevirtual 158, 3) := by decide +kernel
theorem dX4_brightest_19 : decode cX4_brightest 19 = .ok (.aload_n 0, 1) := by decide +kernel
theorem dX4_brightest_20 : decode cX4_brightest 20 = .ok (.iload_n 1, 1) := by decide +kernel
theorem dX4_brightest_21 : decode cX4_brightest 21 = .ok (.iload 7, 2) := by decide +kernel
theorem dX4_brightest_23 : decode cX4_brightest 23 = .ok (.iload_n 3, 1) := by decide +kernel
theorem dX4_brightest_24 : decode cX4_brightest 24 = .ok (.invokevirtual 260, 3) := by decide +kernel
theorem dX4_brightest_27 : decode cX4_brightest 27 = .ok (.aload_n 0, 1) := by decide +kernel
theorem dX4_brightest_28 : decode cX4_brightest 28 = .ok (.getfield 16, 3) := by decide +kernel
theorem dX4_brightest_31 : decode cX4_brightest 31 = .ok (.iload 4, 2) := by decide +kernel
theorem dX4_brightest_33 : decode cX4_brightest 33 = .ok (.invokevirtual 154, 3) := by decide +kernel
theorem dX4_brightest_36 : decode cX4_brightest 36 = .ok (.aload_n 0, 1) := by decide +kernel
theorem dX4_brightest_37 : decode cX4_brightest 37 = .ok (.getfield 16, 3) := by decide +kernel
theorem dX4_brightest_40 : decode cX4_brightest 40 = .ok (.invokevirtual 94, 3) := by decide +kernel
theorem dX4_brightest_43 : decode cX4_brightest 43 = .ok (.istore 8, 2) := by decide +kernel
theorem dX4_brightest_45 : decode cX4_brightest 45 = .ok (.iload 8, 2) := by decide +kernel
theorem dX4_brightest_47 : decode cX4_brightest 47 = .ok (.iload 6, 2) := by decide +kernel
theorem dX4_brightest_49 : decode cX4_brightest 49 = .ok (.if_icmp .le 11, 3) := by decide +kernel
theorem dX4_brightest_52 : decode cX4_brightest 52 = .ok (.iload 8, 2) := by decide +kernel
theorem dX4_brightest_54 : decode cX4_brightest 54 = .ok (.istore 6, 2) := by decide +kernel
theorem dX4_brightest_56 : decode cX4_brightest 56 = .ok (.iload 7, 2) := by decide +kernel
theorem dX4_brightest_58 : decode cX4_brightest 58 = .ok (.istore 5, 2) := by decide +kernel
theorem dX4_brightest_60 : decode cX4_brightest 60 = .ok (.iinc 7 1, 3) := by decide +kernel
theorem dX4_brightest_63 : decode cX4_brightest 63 = .ok (.goto (-54), 3) := by decide +kernel
theorem dX4_brightest_66 : decode cX4_brightest 66 = .ok (.iload 5, 2) := by decide +kernel
theorem dX4_brightest_68 : decode cX4_brightest 68 = .ok (.ireturn, 1) := by decide +kernel
theorem dX4_choose_0 : decode cX4_choose 0 = .ok (.iload_n 1, 1) := by decide +kernel
theorem dX4_choose_1 : decode cX4_choose 1 = .ok (.tableswitch 81 0 2 #[27, 41, 68], 27) := by decide +kernel
theorem dX4_choose_28 : decode cX4_choose 28 = .ok (.aload_n 0, 1) := by decide +kernel
theorem dX4_choose_29 : decode cX4_choose 29 = .ok (.getfield 16, 3) := by decide +kernel
theorem dX4_choose_32 : decode cX4_choose 32 = .ok (.getfield 123, 3) := by decide +kernel
theorem dX4_choose_35 : decode cX4_choose 35 = .ok (.iload_n 2, 1) := by decide +kernel
theorem dX4_choose_36 : decode cX4_choose 36 = .ok (.bipush 99, 2) := by decide +kernel
theorem dX4_choose_38 : decode cX4_choose 38 = .ok (.iastore, 1) := by decide +kernel
theorem dX4_choose_39 : decode cX4_choose 39 = .ok (.goto 63, 3) := by decide +kernel
theorem dX4_choose_42 : decode cX4_choose 42 = .ok (.aload_n 0, 1) := by decide +kernel
theorem dX4_choose_43 : decode cX4_choose 43 = .ok (.getfield 16, 3) := by decide +kernel
theorem dX4_choose_46 : decode cX4_choose 46 = .ok (.getfield 114, 3) := by decide +kernel
theorem dX4_choose_49 : decode cX4_choose 49 = .ok (.iload_n 3, 1) := by decide +kernel
theorem dX4_choose_50 : decode cX4_choose 50 = .ok (.iload_n 2, 1) := by decide +kernel
theorem dX4_choose_51 : decode cX4_choose 51 = .ok (.iconst 2, 1) := by decide +kernel
theorem dX4_choose_52 : decode cX4_choose 52 = .ok (.idiv, 1) := by decide +kernel
theorem dX4_choose_53 : decode cX4_choose 53 = .ok (.iastore, 1) := by decide +kernel
theorem dX4_choose_54 : decode cX4_choose 54 = .ok (.aload_n 0, 1) := by decide +kernel
theorem dX4_choose_55 : decode cX4_choose 55 = .ok (.getfield 16, 3) := by decide +kernel
theorem dX4_choose_58 : decode cX4_choose 58 = .ok (.getfield 117, 3) := by decide +kernel
theorem dX4_choose_61 : decode cX4_choose 61 = .ok (.iload_n 3, 1) := by decide +kernel
theorem dX4_choose_62 : decode cX4_choose 62 = .ok (.iload_n 2, 1) := by decide +kernel
theorem dX4_choose_63 : decode cX4_choose 63 = .ok (.iconst 2, 1) := by decide +kernel
theorem dX4_choose_64 : decode cX4_choose 64 = .ok (.irem, 1) := by decide +kernel
theorem dX4_choose_65 : decode cX4_choose 65 = .ok (.iastore, 1) := by decide +kernel
theorem dX4_choose_66 : decode cX4_choose 66 = .ok (.goto 36, 3) := by decide +kernel
theorem dX4_choose_69 : decode cX4_choose 69 = .ok (.aload_n 0, 1) := by decide +kernel
theorem dX4_choose_70 : decode cX4_choose 70 = .ok (.getfield 16, 3) := by decide +kernel
theorem dX4_choose_73 : decode cX4_choose 73 = .ok (.getfield 111, 3) := by decide +kernel
theorem dX4_choose_76 : decode cX4_choose 76 = .ok (.iload_n 3, 1) := by decide +kernel
theorem dX4_choose_77 : decode cX4_choose 77 = .ok (.iload_n 2, 1) := by decide +kernel
theorem dX4_choose_78 : decode cX4_choose 78 = .ok (.iastore, 1) := by decide +kernel
theorem dX4_choose_79 : decode cX4_choose 79 = .ok (.goto 23, 3) := by decide +kernel
theorem dX4_choose_82 : decode cX4_choose 82 = .ok (.aload_n 0, 1) := by decide +kernel
theorem dX4_choose_83 : decode cX4_choose 83 = .ok (.getfield 16, 3) := by decide +kernel
theorem dX4_choose_86 : decode cX4_choose 86 = .ok (.getfield 263, 3) := by decide +kernel
theorem dX4_choose_89 : decode cX4_choose 89 = .ok (.iload_n 2, 1) := by decide +kernel
theorem dX4_choose_90 : decode cX4_choose 90 = .ok (.iconst 1, 1) := by decide +kernel
theorem dX4_choose_91 : decode cX4_choose 91 = .ok (.aload_n 0, 1) := by decide +kernel
theorem dX4_choose_92 : decode cX4_choose 92 = .ok (.getfield 16, 3) := by decide +kernel
theorem dX4_choose_95 : decode cX4_choose 95 = .ok (.getfield 263, 3) := by decide +kernel
theorem dX4_choose_98 : decode cX4_choose 98 = .ok (.iload_n 2, 1) := by decide +kernel
theorem dX4_choose_99 : decode cX4_choose 99 = .ok (.iaload, 1) := by decide +kernel
theorem dX4_choose_100 : decode cX4_choose 100 = .ok (.isub, 1) := by decide +kernel
theorem dX4_choose_101 : decode cX4_choose 101 = .ok (.iastore, 1) := by decide +kernel
theorem dX4_choose_102 : decode cX4_choose 102 = .ok (.return_, 1) := by decide +kernel
theorem dX4_ticklesJustSo_0 : decode cX4_ticklesJustSo 0 = .ok (.aload_n 0, 1) := by decide +kernel
theorem dX4_ticklesJustSo_1 : decode cX4_ticklesJustSo 1 = .ok (.invokevirtual 158, 3) := by decide +kernel
theorem dX4_ticklesJustSo_4 : decode cX4_ticklesJustSo 4 = .ok (.aload_n 0, 1) := by decide +kernel
theorem dX4_ticklesJustSo_5 : decode cX4_ticklesJustSo 5 = .ok (.getfield 16, 3) := by decide +kernel
theorem dX4_ticklesJustSo_8 : decode cX4_ticklesJustSo 8 = .ok (.getfield 111, 3) := by decide +kernel
theorem dX4_ticklesJustSo_11 : decode cX4_ticklesJustSo 11 = .ok (.iload_n 2, 1) := by decide +kernel
theorem dX4_ticklesJustSo_12 : decode cX4_ticklesJustSo 12 = .ok (.iload_n 3, 1) := by decide +kernel
theorem dX4_ticklesJustSo_13 : decode cX4_ticklesJustSo 13 = .ok (.iastore, 1) := by decide +kernel
theorem dX4_ticklesJustSo_14 : decode cX4_ticklesJustSo 14 = .ok (.aload_n 0, 1) := by decide +kernel
theorem dX4_ticklesJustSo_15 : decode cX4_ticklesJustSo 15 = .ok (.getfield 16, 3) := by decide +kernel
theorem dX4_ticklesJustSo_18 : decode cX4_ticklesJustSo 18 = .ok (.getfield 120, 3) := by decide +kernel
theorem dX4_ticklesJustSo_21 : decode cX4_ticklesJustSo 21 = .ok (.iload_n 2, 1) := by decide +kernel
theorem dX4_ticklesJustSo_22 : decode cX4_ticklesJustSo 22 = .ok (.iload 4, 2) := by decide +kernel
theorem dX4_ticklesJustSo_24 : decode cX4_ticklesJustSo 24 = .ok (.iastore, 1) := by decide +kernel
theorem dX4_ticklesJustSo_25 : decode cX4_ticklesJustSo 25 = .ok (.iconst 0, 1) := by decide +kernel
theorem dX4_ticklesJustSo_26 : decode cX4_ticklesJustSo 26 = .ok (.istore 5, 2) := by decide +kernel
theorem dX4_ticklesJustSo_28 : decode cX4_ticklesJustSo 28 = .ok (.iload 5, 2) := by decide +kernel
theorem dX4_ticklesJustSo_30 : decode cX4_ticklesJustSo 30 = .ok (.aload_n 0, 1) := by decide +kernel
theorem dX4_ticklesJustSo_31 : decode cX4_ticklesJustSo 31 = .ok (.getfield 39, 3) := by decide +kernel
theorem dX4_ticklesJustSo_34 : decode cX4_ticklesJustSo 34 = .ok (.getfield 222, 3) := by decide +kernel
theorem dX4_ticklesJustSo_37 : decode cX4_ticklesJustSo 37 = .ok (.iload_n 1, 1) := by decide +kernel
theorem dX4_ticklesJustSo_38 : decode cX4_ticklesJustSo 38 = .ok (.iaload, 1) := by decide +kernel
theorem dX4_ticklesJustSo_39 : decode cX4_ticklesJustSo 39 = .ok (.if_icmp .ge 42, 3) := by decide +kernel
theorem dX4_ticklesJustSo_42 : decode cX4_ticklesJustSo 42 = .ok (.aload_n 0, 1) := by decide +kernel
theorem dX4_ticklesJustSo_43 : decode cX4_ticklesJustSo 43 = .ok (.getfield 39, 3) := by decide +kernel
theorem dX4_ticklesJustSo_46 : decode cX4_ticklesJustSo 46 = .ok (.iload_n 1, 1) := by decide +kernel
theorem dX4_ticklesJustSo_47 : decode cX4_ticklesJustSo 47 = .ok (.iload 5, 2) := by decide +kernel
theorem dX4_ticklesJustSo_49 : decode cX4_ticklesJustSo 49 = .ok (.invokevirtual 225, 3) := by decide +kernel
theorem dX4_ticklesJustSo_52 : decode cX4_ticklesJustSo 52 = .ok (.aload_n 0, 1) := by decide +kernel
theorem dX4_ticklesJustSo_53 : decode cX4_ticklesJustSo 53 = .ok (.getfield 16, 3) := by decide +kernel
theorem dX4_ticklesJustSo_56 : decode cX4_ticklesJustSo 56 = .ok (.getfield 123, 3) := by decide +kernel
theorem dX4_ticklesJustSo_59 : decode cX4_ticklesJustSo 59 = .ok (.iload_n 2, 1) := by decide +kernel
theorem dX4_ticklesJustSo_60 : decode cX4_ticklesJustSo 60 = .ok (.iaload, 1) := by decide +kernel
theorem dX4_ticklesJustSo_61 : decode cX4_ticklesJustSo 61 = .ok (.i2l, 1) := by decide +kernel
theorem dX4_ticklesJustSo_62 : decode cX4_ticklesJustSo 62 = .ok (.lcmp, 1) := by decide +kernel
theorem dX4_ticklesJustSo_63 : decode cX4_ticklesJustSo 63 = .ok (.ifCond .eq 5, 3) := by decide +kernel
theorem dX4_ticklesJustSo_66 : decode cX4_ticklesJustSo 66 = .ok (.iconst 0, 1) := by decide +kernel
theorem dX4_ticklesJustSo_67 : decode cX4_ticklesJustSo 67 = .ok (.ireturn, 1) := by decide +kernel
theorem dX4_ticklesJustSo_68 : decode cX4_ticklesJustSo 68 = .ok (.aload_n 0, 1) := by decide +kernel
theorem dX4_ticklesJustSo_69 : decode cX4_ticklesJustSo 69 = .ok (.getfield 16, 3) := by decide +kernel
theorem dX4_ticklesJustSo_72 : decode cX4_ticklesJustSo 72 = .ok (.invokevirtual 170, 3) := by decide +kernel
theorem dX4_ticklesJustSo_75 : decode cX4_ticklesJustSo 75 = .ok (.iinc 5 1, 3) := by decide +kernel
theorem dX4_ticklesJustSo_78 : decode cX4_ticklesJustSo 78 = .ok (.goto (-50), 3) := by decide +kernel
theorem dX4_ticklesJustSo_81 : decode cX4_ticklesJustSo 81 = .ok (.iconst 1, 1) := by decide +kernel
theorem dX4_ticklesJustSo_82 : decode cX4_ticklesJustSo 82 = .ok (.ireturn, 1) := by decide +kernel
theorem dX4_isThere_0 : decode cX4_isThere 0 = .ok (.iload_n 1, 1) := by decide +kernel
theorem dX4_isThere_1 : decode cX4_isThere 1 = .ok (.iconst 0, 1) := by decide +kernel
theorem dX4_isThere_2 : decode cX4_isThere 2 = .ok (.aload_n 0, 1) := by decide +kernel
theorem dX4_isThere_3 : decode cX4_isThere 3 = .ok (.getfield 10, 3) := by decide +kernel
theorem dX4_isThere_6 : decode cX4_isThere 6 = .ok (.getfield 100, 3) := by decide +kernel
theorem dX4_isThere_9 : decode cX4_isThere 9 = .ok (.iconst 1, 1) := by decide +kernel
theorem dX4_isThere_10 : decode cX4_isThere 10 = .ok (.isub, 1) := by decide +kernel
theorem dX4_isThere_11 : decode cX4_isThere 11 = .ok (.invokestatic 55, 3) := by decide +kernel
theorem dX4_isThere_14 : decode cX4_isThere 14 = .ok (.ireturn, 1) := by decide +kernel
theorem dX4_within_0 : decode cX4_within 0 = .ok (.iload_n 0, 1) := by decide +kernel
theorem dX4_within_1 : decode cX4_within 1 = .ok (.iload_n 1, 1) := by decide +kernel
theorem dX4_within_2 : decode cX4_within 2 = .ok (.if_icmp .lt 12, 3) := by decide +kernel
theorem dX4_within_5 : decode cX4_within 5 = .ok (.iload_n 0, 1) := by decide +kernel
theorem dX4_within_6 : decode cX4_within 6 = .ok (.iload_n 2, 1) := by decide +kernel
theorem dX4_within_7 : decode cX4_within 7 = .ok (.if_icmp .gt 7, 3) := by decide +kernel
theorem dX4_within_10 : decode cX4_within 10 = .ok (.iconst 1, 1) := by decide +kernel
theorem dX4_within_11 : decode cX4_within 11 = .ok (.goto 4, 3) := by decide +kernel
theorem dX4_within_14 : decode cX4_within 14 = .ok (.iconst 0, 1) := by decide +kernel
theorem dX4_within_15 : decode cX4_within 15 = .ok (.ireturn, 1) := by decide +kernel
theorem dX4_isHouse_0 : decode cX4_isHouse 0 = .ok (.iload_n 0, 1) := by decide +kernel
theorem dX4_isHouse_1 : decode cX4_isHouse 1 = .ok (.ifCond .lt 13, 3) := by decide +kernel
theorem dX4_isHouse_4 : decode cX4_isHouse 4 = .ok (.iload_n 0, 1) := by decide +kernel
theorem dX4_isHouse_5 : decode cX4_isHouse 5 = .ok (.bipush 12, 2) := by decide +kernel
theorem dX4_isHouse_7 : decode cX4_isHouse 7 = .ok (.if_icmp .ge 7, 3) := by decide +kernel
theorem dX4_isHouse_10 : decode cX4_isHouse 10 = .ok (.iconst 1, 1) := by decide +kernel
theorem dX4_isHouse_11 : decode cX4_isHouse 11 = .ok (.goto 4, 3) := by decide +kernel
theorem dX4_isHouse_14 : decode cX4_isHouse 14 = .ok (.iconst 0, 1) := by decide +kernel
theorem dX4_isHouse_15 : decode cX4_isHouse 15 = .ok (.ireturn, 1) := by decide +kernel
theorem dX4_isKind_0 : decode cX4_isKind 0 = .ok (.iload_n 0, 1) := by decide +kernel
theorem dX4_isKind_1 : decode cX4_isKind 1 = .ok (.iconst 0, 1) := by decide +kernel
theorem dX4_isKind_2 : decode cX4_isKind 2 = .ok (.iconst 5, 1) := by decide +kernel
theorem dX4_isKind_3 : decode cX4_isKind 3 = .ok (.invokestatic 55, 3) := by decide +kernel
theorem dX4_isKind_6 : decode cX4_isKind 6 = .ok (.ireturn, 1) := by decide +kernel
theorem dX4_isSheet_0 : decode cX4_isSheet 0 = .ok (.iload_n 0, 1) := by decide +kernel
theorem dX4_isSheet_1 : decode cX4_isSheet 1 = .ok (.iconst 0, 1) := by decide +kernel
theorem dX4_isSheet_2 : decode cX4_isSheet 2 = .ok (.iconst 3, 1) := by decide +kernel
theorem dX4_isSheet_3 : decode cX4_isSheet 3 = .ok (.invokestatic 55, 3) := by decide +kernel
theorem dX4_isSheet_6 : decode cX4_isSheet 6 = .ok (.ireturn, 1) := by decide +kernel
theorem dX4_isWidth_0 : decode cX4_isWidth 0 = .ok (.iload_n 0, 1) := by decide +kernel
theorem dX4_isWidth_1 : decode cX4_isWidth 1 = .ok (.ifCond .eq 21, 3) := by decide +kernel
theorem dX4_isWidth_4 : decode cX4_isWidth 4 = .ok (.iload_n 0, 1) := by decide +kernel
theorem dX4_isWidth_5 : decode cX4_isWidth 5 = .ok (.bipush 8, 2) := by decide +kernel
theorem dX4_isWidth_7 : decode cX4_isWidth 7 = .ok (.if_icmp .eq 15, 3) := by decide +kernel
theorem dX4_isWidth_10 : decode cX4_isWidth 10 = .ok (.iload_n 0, 1) := by decide +kernel
theorem dX4_isWidth_11 : decode cX4_isWidth 11 = .ok (.bipush 16, 2) := by decide +kernel
theorem dX4_isWidth_13 : decode cX4_isWidth 13 = .ok (.if_icmp .eq 9, 3) := by decide +kernel
theorem dX4_isWidth_16 : decode cX4_isWidth 16 = .ok (.iload_n 0, 1) := by decide +kernel
theorem dX4_isWidth_17 : decode cX4_isWidth 17 = .ok (.bipush 64, 2) := by decide +kernel
theorem dX4_isWidth_19 : decode cX4_isWidth 19 = .ok (.if_icmp .ne 7, 3) := by decide +kernel
theorem dX4_isWidth_22 : decode cX4_isWidth 22 = .ok (.iconst 1, 1) := by decide +kernel
theorem dX4_isWidth_23 : decode cX4_isWidth 23 = .ok (.goto 4, 3) := by decide +kernel
theorem dX4_isWidth_26 : decode cX4_isWidth 26 = .ok (.iconst 0, 1) := by decide +kernel
theorem dX4_isWidth_27 : decode cX4_isWidth 27 = .ok (.ireturn, 1) := by decide +kernel
theorem dX4_isIn_0 : decode cX4_isIn 0 = .ok (.iload_n 0, 1) := by decide +kernel
theorem dX4_isIn_1 : decode cX4_isIn 1 = .ok (.iload_n 1, 1) := by decide +kernel
theorem dX4_isIn_2 : decode cX4_isIn 2 = .ok (.ishr, 1) := by decide +kernel
theorem dX4_isIn_3 : decode cX4_isIn 3 = .ok (.iconst 1, 1) := by decide +kernel
theorem dX4_isIn_4 : decode cX4_isIn 4 = .ok (.iand, 1) := by decide +kernel
theorem dX4_isIn_5 : decode cX4_isIn 5 = .ok (.iconst 1, 1) := by decide +kernel
theorem dX4_isIn_6 : decode cX4_isIn 6 = .ok (.if_icmp .ne 7, 3) := by decide +kernel
theorem dX4_isIn_9 : decode cX4_isIn 9 = .ok (.iconst 1, 1) := by decide +kernel
theorem dX4_isIn_10 : decode cX4_isIn 10 = .ok (.goto 4, 3) := by decide +kernel
theorem dX4_isIn_13 : decode cX4_isIn 13 = .ok (.iconst 0, 1) := by decide +kernel
theorem dX4_isIn_14 : decode cX4_isIn 14 = .ok (.ireturn, 1) := by decide +kernel
theorem dX4_isUnder_0 : decode cX4_isUnder 0 = .ok (.iload_n 0, 1) := by decide +kernel
theorem dX4_isUnder_1 : decode cX4_isUnder 1 = .ok (.iload_n 1, 1) := by decide +kernel
theorem dX4_isUnder_2 : decode cX4_isUnder 2 = .ok (.if_icmp .eq 27, 3) := by decide +kernel
theorem dX4_isUnder_5 : decode cX4_isUnder 5 = .ok (.iload_n 1, 1) := by decide +kernel
theorem dX4_isUnder_6 : decode cX4_isUnder 6 = .ok (.ifCond .eq 23, 3) := by decide +kernel
theorem dX4_isUnder_9 : decode cX4_isUnder 9 = .ok (.iload_n 0, 1) := by decide +kernel
theorem dX4_isUnder_10 : decode cX4_isUnder 10 = .ok (.iconst 4, 1) := by decide +kernel
theorem dX4_isUnder_11 : decode cX4_isUnder 11 = .ok (.if_icmp .ne 8, 3) := by decide +kernel
theorem dX4_isUnder_14 : decode cX4_isUnder 14 = .ok (.iload_n 1, 1) := by decide +kernel
theorem dX4_isUnder_15 : decode cX4_isUnder 15 = .ok (.iconst 1, 1) := by decide +kernel
theorem dX4_isUnder_16 : decode cX4_isUnder 16 = .ok (.if_icmp .eq 13, 3) := by decide +kernel
theorem dX4_isUnder_19 : decode cX4_isUnder 19 = .ok (.iload_n 0, 1) := by decide +kernel
theorem dX4_isUnder_20 : decode cX4_isUnder 20 = .ok (.iconst 5, 1) := by decide +kernel
theorem dX4_isUnder_21 : decode cX4_isUnder 21 = .ok (.if_icmp .ne 12, 3) := by decide +kernel
theorem dX4_isUnder_24 : decode cX4_isUnder 24 = .ok (.iload_n 1, 1) := by decide +kernel
theorem dX4_isUnder_25 : decode cX4_isUnder 25 = .ok (.iconst 2, 1) := by decide +kernel
theorem dX4_isUnder_26 : decode cX4_isUnder 26 = .ok (.if_icmp .ne 7, 3) := by decide +kernel
theorem dX4_isUnder_29 : decode cX4_isUnder 29 = .ok (.iconst 1, 1) := by decide +kernel
theorem dX4_isUnder_30 : decode cX4_isUnder 30 = .ok (.goto 4, 3) := by decide +kernel
theorem dX4_isUnder_33 : decode cX4_isUnder 33 = .ok (.iconst 0, 1) := by decide +kernel
theorem dX4_isUnder_34 : decode cX4_isUnder 34 = .ok (.ireturn, 1) := by decide +kernel
theorem dX4_mostOfHouse_0 : decode cX4_mostOfHouse 0 = .ok (.iload_n 0, 1) := by decide +kernel
theorem dX4_mostOfHouse_1 : decode cX4_mostOfHouse 1 = .ok (.lookupswitch 32 #[(0, 27), (1, 30)], 27) := by decide +kernel
theorem dX4_mostOfHouse_28 : decode cX4_mostOfHouse 28 = .ok (.bipush 99, 2) := by decide +kernel
theorem dX4_mostOfHouse_30 : decode cX4_mostOfHouse 30 = .ok (.ireturn, 1) := by decide +kernel
theorem dX4_mostOfHouse_31 : decode cX4_mostOfHouse 31 = .ok (.iconst 1, 1) := by decide +kernel
theorem dX4_mostOfHouse_32 : decode cX4_mostOfHouse 32 = .ok (.ireturn, 1) := by decide +kernel
theorem dX4_mostOfHouse_33 : decode cX4_mostOfHouse 33 = .ok (.sipush 9999, 3) := by decide +kernel
theorem dX4_mostOfHouse_36 : decode cX4_mostOfHouse 36 = .ok (.ireturn, 1) := by decide +kernel
theorem dX4_mostOfSneezer_0 : decode cX4_mostOfSneezer 0 = .ok (.iload_n 0, 1) := by decide +kernel
theorem dX4_mostOfSneezer_1 : decode cX4_mostOfSneezer 1 = .ok (.tableswitch 44 1 5 #[35, 38, 44, 44, 40], 35) := by decide +kernel
theorem dX4_mostOfSneezer_36 : decode cX4_mostOfSneezer 36 = .ok (.bipush 11, 2) := by decide +kernel
theorem dX4_mostOfSneezer_38 : decode cX4_mostOfSneezer 38 = .ok (.ireturn, 1) := by decide +kernel
theorem dX4_mostOfSneezer_39 : decode cX4_mostOfSneezer 39 = .ok (.iconst 1, 1) := by decide +kernel
theorem dX4_mostOfSneezer_40 : decode cX4_mostOfSneezer 40 = .ok (.ireturn, 1) := by decide +kernel
theorem dX4_mostOfSneezer_41 : decode cX4_mostOfSneezer 41 = .ok (.sipush 9999, 3) := by decide +kernel
theorem dX4_mostOfSneezer_44 : decode cX4_mostOfSneezer 44 = .ok (.ireturn, 1) := by decide +kernel
theorem dX4_mostOfSneezer_45 : decode cX4_mostOfSneezer 45 = .ok (.bipush 99, 2) := by decide +kernel
theorem dX4_mostOfSneezer_47 : decode cX4_mostOfSneezer 47 = .ok (.ireturn, 1) := by decide +kernel
theorem dX5_init_0 : decode cX5_init 0 = .ok (.aload_n 0, 1) := by decide +kernel
theorem dX5_init_1 : decode cX5_init 1 = .ok (.invokespecial 1, 3) := by decide +kernel
theorem dX5_init_4 : decode cX5_init 4 = .ok (.aload_n 0, 1) := by decide +kernel
theorem dX5_init_5 : decode cX5_init 5 = .ok (.bipush 87, 2) := by decide +kernel
theorem dX5_init_7 : decode cX5_init 7 = .ok (.newarray .int, 2) := by decide +kernel
theorem dX5_init_9 : decode cX5_init 9 = .ok (.putfield 7, 3) := by decide +kernel
theorem dX5_init_12 : decode cX5_init 12 = .ok (.aload_n 0, 1) := by decide +kernel
theorem dX5_init_13 : decode cX5_init 13 = .ok (.bipush 7, 2) := by decide +kernel
theorem dX5_init_15 : decode cX5_init 15 = .ok (.newarray .int, 2) := by decide +kernel
theorem dX5_init_17 : decode cX5_init 17 = .ok (.putfield 13, 3) := by decide +kernel
theorem dX5_init_20 : decode cX5_init 20 = .ok (.aload_n 0, 1) := by decide +kernel
theorem dX5_init_21 : decode cX5_init 21 = .ok (.bipush 87, 2) := by decide +kernel
theorem dX5_init_23 : decode cX5_init 23 = .ok (.newarray .int, 2) := by decide +kernel
theorem dX5_init_25 : decode cX5_init 25 = .ok (.putfield 16, 3) := by decide +kernel
theorem dX5_init_28 : decode cX5_init 28 = .ok (.aload_n 0, 1) := by decide +kernel
theorem dX5_init_29 : decode cX5_init 29 = .ok (.bipush 87, 2) := by decide +kernel
theorem dX5_init_31 : decode cX5_init 31 = .ok (.newarray .int, 2) := by decide +kernel
theorem dX5_init_33 : decode cX5_init 33 = .ok (.putfield 19, 3) := by decide +kernel
theorem dX5_init_36 : decode cX5_init 36 = .ok (.aload_n 0, 1) := by decide +kernel
theorem dX5_init_37 : decode cX5_init 37 = .ok (.bipush 120, 2) := by decide +kernel
theorem dX5_init_39 : decode cX5_init 39 = .ok (.newarray .int, 2) := by decide +kernel
theorem dX5_init_41 : decode cX5_init 41 = .ok (.putfield 22, 3) := by decide +kernel
theorem dX5_init_44 : decode cX5_init 44 = .ok (.aload_n 0, 1) := by decide +kernel
theorem dX5_init_45 : decode cX5_init 45 = .ok (.iconst 4, 1) := by decide +kernel
theorem dX5_init_46 : decode cX5_init 46 = .ok (.newarray .int, 2) := by decide +kernel
theorem dX5_init_48 : decode cX5_init 48 = .ok (.putfield 25, 3) := by decide +kernel
theorem dX5_init_51 : decode cX5_init 51 = .ok (.aload_n 0, 1) := by decide +kernel
theorem dX5_init_52 : decode cX5_init 52 = .ok (.iconst 4, 1) := by decide +kernel
theorem dX5_init_53 : decode cX5_init 53 = .ok (.newarray .int, 2) := by decide +kernel
theorem dX5_init_55 : decode cX5_init 55 = .ok (.putfield 28, 3) := by decide +kernel
theorem dX5_init_58 : decode cX5_init 58 = .ok (.aload_n 0, 1) := by decide +kernel
theorem dX5_init_59 : decode cX5_init 59 = .ok (.sipush 160, 3) := by decide +kernel
theorem dX5_init_62 : decode cX5_init 62 = .ok (.newarray .long, 2) := by decide +kernel
theorem dX5_init_64 : decode cX5_init 64 = .ok (.putfield 31, 3) := by decide +kernel
theorem dX5_init_67 : decode cX5_init 67 = .ok (.aload_n 0, 1) := by decide +kernel
theorem dX5_init_68 : decode cX5_init 68 = .ok (.bipush 40, 2) := by decide +kernel
theorem dX5_init_70 : decode cX5_init 70 = .ok (.newarray .long, 2) := by decide +kernel
theorem dX5_init_72 : decode cX5_init 72 = .ok (.putfield 35, 3) := by decide +kernel
theorem dX5_init_75 : decode cX5_init 75 = .ok (.aload_n 0, 1) := by decide +kernel
theorem dX5_init_76 : decode cX5_init 76 = .ok (.bipush 87, 2) := by decide +kernel
theorem dX5_init_78 : decode cX5_init 78 = .ok (.newarray .int, 2) := by decide +kernel
theorem dX5_init_80 : decode cX5_init 80 = .ok (.putfield 38, 3) := by decide +kernel
theorem dX5_init_83 : decode cX5_init 83 = .ok (.aload_n 0, 1) := by decide +kernel
theorem dX5_init_84 : decode cX5_init 84 = .ok (.bipush 87, 2) := by decide +kernel
theorem dX5_init_86 : decode cX5_init 86 = .ok (.newarray .int, 2) := by decide +kernel
theorem dX5_init_88 : decode cX5_init 88 = .ok (.putfield 41, 3) := by decide +kernel
theorem dX5_init_91 : decode cX5_init 91 = .ok (.aload_n 0, 1) := by decide +kernel
theorem dX5_init_92 : decode cX5_init 92 = .ok (.getfield 7, 3) := by decide +kernel
theorem dX5_init_95 : decode cX5_init 95 = .ok (.iconst 1, 1) := by decide +kernel
theorem dX5_init_96 : decode cX5_init 96 = .ok (.iconst 2, 1) := by decide +kernel
theorem dX5_init_97 : decode cX5_init 97 = .ok (.iastore, 1) := by decide +kernel
