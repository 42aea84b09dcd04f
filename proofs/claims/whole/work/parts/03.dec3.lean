theorem dX5_init_98 : decode cX5_init 98 = .ok (.iconst 0, 1) := by decide +kernel
theorem dX5_init_99 : decode cX5_init 99 = .ok (.istore_n 1, 1) := by decide +kernel
theorem dX5_init_100 : decode cX5_init 100 = .ok (.iload_n 1, 1) := by decide +kernel
theorem dX5_init_101 : decode cX5_init 101 = .ok (.bipush 12, 2) := by decide +kernel
theorem dX5_init_103 : decode cX5_init 103 = .ok (.if_icmp .ge 22, 3) := by decide +kernel
theorem dX5_init_106 : decode cX5_init 106 = .ok (.aload_n 0, 1) := by decide +kernel
theorem dX5_init_107 : decode cX5_init 107 = .ok (.getfield 7, 3) := by decide +kernel
theorem dX5_init_110 : decode cX5_init 110 = .ok (.iconst 3, 1) := by decide +kernel
theorem dX5_init_111 : decode cX5_init 111 = .ok (.iconst 3, 1) := by decide +kernel
theorem dX5_init_112 : decode cX5_init 112 = .ok (.iload_n 1, 1) := by decide +kernel
theorem dX5_init_113 : decode cX5_init 113 = .ok (.imul, 1) := by decide +kernel
theorem dX5_init_114 : decode cX5_init 114 = .ok (.iadd, 1) := by decide +kernel
theorem dX5_init_115 : decode cX5_init 115 = .ok (.iconst 1, 1) := by decide +kernel
theorem dX5_init_116 : decode cX5_init 116 = .ok (.iadd, 1) := by decide +kernel
theorem dX5_init_117 : decode cX5_init 117 = .ok (.iconst 1, 1) := by decide +kernel
theorem dX5_init_118 : decode cX5_init 118 = .ok (.iastore, 1) := by decide +kernel
theorem dX5_init_119 : decode cX5_init 119 = .ok (.iinc 1 1, 3) := by decide +kernel
theorem dX5_init_122 : decode cX5_init 122 = .ok (.goto (-22), 3) := by decide +kernel
theorem dX5_init_125 : decode cX5_init 125 = .ok (.return_, 1) := by decide +kernel
theorem dX5_in_0 : decode cX5_in 0 = .ok (.iload_n 0, 1) := by decide +kernel
theorem dX5_in_1 : decode cX5_in 1 = .ok (.iload_n 1, 1) := by decide +kernel
theorem dX5_in_2 : decode cX5_in 2 = .ok (.if_icmp .lt 12, 3) := by decide +kernel
theorem dX5_in_5 : decode cX5_in 5 = .ok (.iload_n 0, 1) := by decide +kernel
theorem dX5_in_6 : decode cX5_in 6 = .ok (.iload_n 2, 1) := by decide +kernel
theorem dX5_in_7 : decode cX5_in 7 = .ok (.if_icmp .gt 7, 3) := by decide +kernel
theorem dX5_in_10 : decode cX5_in 10 = .ok (.iconst 1, 1) := by decide +kernel
theorem dX5_in_11 : decode cX5_in 11 = .ok (.goto 4, 3) := by decide +kernel
theorem dX5_in_14 : decode cX5_in 14 = .ok (.iconst 0, 1) := by decide +kernel
theorem dX5_in_15 : decode cX5_in 15 = .ok (.ireturn, 1) := by decide +kernel
theorem dX5_finds_0 : decode cX5_finds 0 = .ok (.aload_n 0, 1) := by decide +kernel
theorem dX5_finds_1 : decode cX5_finds 1 = .ok (.getfield 13, 3) := by decide +kernel
theorem dX5_finds_4 : decode cX5_finds 4 = .ok (.ldc 44, 2) := by decide +kernel
theorem dX5_finds_6 : decode cX5_finds 6 = .ok (.iload_n 1, 1) := by decide +kernel
theorem dX5_finds_7 : decode cX5_finds 7 = .ok (.isub, 1) := by decide +kernel
theorem dX5_finds_8 : decode cX5_finds 8 = .ok (.dup2, 1) := by decide +kernel
theorem dX5_finds_9 : decode cX5_finds 9 = .ok (.iaload, 1) := by decide +kernel
theorem dX5_finds_10 : decode cX5_finds 10 = .ok (.iconst 1, 1) := by decide +kernel
theorem dX5_finds_11 : decode cX5_finds 11 = .ok (.iadd, 1) := by decide +kernel
theorem dX5_finds_12 : decode cX5_finds 12 = .ok (.iastore, 1) := by decide +kernel
theorem dX5_finds_13 : decode cX5_finds 13 = .ok (.iload_n 1, 1) := by decide +kernel
theorem dX5_finds_14 : decode cX5_finds 14 = .ok (.ireturn, 1) := by decide +kernel
theorem dX5_held_0 : decode cX5_held 0 = .ok (.iload_n 0, 1) := by decide +kernel
theorem dX5_held_1 : decode cX5_held 1 = .ok (.iload_n 1, 1) := by decide +kernel
theorem dX5_held_2 : decode cX5_held 2 = .ok (.if_icmp .ge 7, 3) := by decide +kernel
theorem dX5_held_5 : decode cX5_held 5 = .ok (.iload_n 1, 1) := by decide +kernel
theorem dX5_held_6 : decode cX5_held 6 = .ok (.goto 13, 3) := by decide +kernel
theorem dX5_held_9 : decode cX5_held 9 = .ok (.iload_n 0, 1) := by decide +kernel
theorem dX5_held_10 : decode cX5_held 10 = .ok (.iload_n 2, 1) := by decide +kernel
theorem dX5_held_11 : decode cX5_held 11 = .ok (.if_icmp .le 7, 3) := by decide +kernel
theorem dX5_held_14 : decode cX5_held 14 = .ok (.iload_n 2, 1) := by decide +kernel
theorem dX5_held_15 : decode cX5_held 15 = .ok (.goto 4, 3) := by decide +kernel
theorem dX5_held_18 : decode cX5_held 18 = .ok (.iload_n 0, 1) := by decide +kernel
theorem dX5_held_19 : decode cX5_held 19 = .ok (.ireturn, 1) := by decide +kernel
theorem dX5_its_0 : decode cX5_its 0 = .ok (.aload_n 0, 1) := by decide +kernel
theorem dX5_its_1 : decode cX5_its 1 = .ok (.getfield 7, 3) := by decide +kernel
theorem dX5_its_4 : decode cX5_its 4 = .ok (.bipush 39, 2) := by decide +kernel
theorem dX5_its_6 : decode cX5_its 6 = .ok (.bipush 6, 2) := by decide +kernel
theorem dX5_its_8 : decode cX5_its 8 = .ok (.iload_n 1, 1) := by decide +kernel
theorem dX5_its_9 : decode cX5_its 9 = .ok (.imul, 1) := by decide +kernel
theorem dX5_its_10 : decode cX5_its 10 = .ok (.iadd, 1) := by decide +kernel
theorem dX5_its_11 : decode cX5_its 11 = .ok (.iload_n 2, 1) := by decide +kernel
theorem dX5_its_12 : decode cX5_its 12 = .ok (.iadd, 1) := by decide +kernel
theorem dX5_its_13 : decode cX5_its 13 = .ok (.iaload, 1) := by decide +kernel
theorem dX5_its_14 : decode cX5_its 14 = .ok (.ireturn, 1) := by decide +kernel
theorem dX5_puts_0 : decode cX5_puts 0 = .ok (.aload_n 0, 1) := by decide +kernel
theorem dX5_puts_1 : decode cX5_puts 1 = .ok (.getfield 7, 3) := by decide +kernel
theorem dX5_puts_4 : decode cX5_puts 4 = .ok (.bipush 39, 2) := by decide +kernel
theorem dX5_puts_6 : decode cX5_puts 6 = .ok (.bipush 6, 2) := by decide +kernel
theorem dX5_puts_8 : decode cX5_puts 8 = .ok (.iload_n 1, 1) := by decide +kernel
theorem dX5_puts_9 : decode cX5_puts 9 = .ok (.imul, 1) := by decide +kernel
theorem dX5_puts_10 : decode cX5_puts 10 = .ok (.iadd, 1) := by decide +kernel
theorem dX5_puts_11 : decode cX5_puts 11 = .ok (.iload_n 2, 1) := by decide +kernel
theorem dX5_puts_12 : decode cX5_puts 12 = .ok (.iadd, 1) := by decide +kernel
theorem dX5_puts_13 : decode cX5_puts 13 = .ok (.iload_n 3, 1) := by decide +kernel
theorem dX5_puts_14 : decode cX5_puts 14 = .ok (.iastore, 1) := by decide +kernel
theorem dX5_puts_15 : decode cX5_puts 15 = .ok (.return_, 1) := by decide +kernel
theorem dX5_stands_0 : decode cX5_stands 0 = .ok (.aload_n 0, 1) := by decide +kernel
theorem dX5_stands_1 : decode cX5_stands 1 = .ok (.getfield 7, 3) := by decide +kernel
theorem dX5_stands_4 : decode cX5_stands 4 = .ok (.iconst 3, 1) := by decide +kernel
theorem dX5_stands_5 : decode cX5_stands 5 = .ok (.iconst 3, 1) := by decide +kernel
theorem dX5_stands_6 : decode cX5_stands 6 = .ok (.iload_n 1, 1) := by decide +kernel
theorem dX5_stands_7 : decode cX5_stands 7 = .ok (.imul, 1) := by decide +kernel
theorem dX5_stands_8 : decode cX5_stands 8 = .ok (.iadd, 1) := by decide +kernel
theorem dX5_stands_9 : decode cX5_stands 9 = .ok (.iload_n 2, 1) := by decide +kernel
theorem dX5_stands_10 : decode cX5_stands 10 = .ok (.iadd, 1) := by decide +kernel
theorem dX5_stands_11 : decode cX5_stands 11 = .ok (.iaload, 1) := by decide +kernel
theorem dX5_stands_12 : decode cX5_stands 12 = .ok (.ireturn, 1) := by decide +kernel
theorem dX5_rests_0 : decode cX5_rests 0 = .ok (.aload_n 0, 1) := by decide +kernel
theorem dX5_rests_1 : decode cX5_rests 1 = .ok (.getfield 7, 3) := by decide +kernel
theorem dX5_rests_4 : decode cX5_rests 4 = .ok (.iconst 3, 1) := by decide +kernel
theorem dX5_rests_5 : decode cX5_rests 5 = .ok (.iconst 3, 1) := by decide +kernel
theorem dX5_rests_6 : decode cX5_rests 6 = .ok (.iload_n 1, 1) := by decide +kernel
theorem dX5_rests_7 : decode cX5_rests 7 = .ok (.imul, 1) := by decide +kernel
theorem dX5_rests_8 : decode cX5_rests 8 = .ok (.iadd, 1) := by decide +kernel
theorem dX5_rests_9 : decode cX5_rests 9 = .ok (.iload_n 2, 1) := by decide +kernel
theorem dX5_rests_10 : decode cX5_rests 10 = .ok (.iadd, 1) := by decide +kernel
theorem dX5_rests_11 : decode cX5_rests 11 = .ok (.iload_n 3, 1) := by decide +kernel
theorem dX5_rests_12 : decode cX5_rests 12 = .ok (.iastore, 1) := by decide +kernel
theorem dX5_rests_13 : decode cX5_rests 13 = .ok (.return_, 1) := by decide +kernel
theorem dX5_becomes_0 : decode cX5_becomes 0 = .ok (.aload_n 0, 1) := by decide +kernel
theorem dX5_becomes_1 : decode cX5_becomes 1 = .ok (.getfield 7, 3) := by decide +kernel
theorem dX5_becomes_4 : decode cX5_becomes 4 = .ok (.iload_n 1, 1) := by decide +kernel
theorem dX5_becomes_5 : decode cX5_becomes 5 = .ok (.iaload, 1) := by decide +kernel
theorem dX5_becomes_6 : decode cX5_becomes 6 = .ok (.istore_n 3, 1) := by decide +kernel
theorem dX5_becomes_7 : decode cX5_becomes 7 = .ok (.aload_n 0, 1) := by decide +kernel
theorem dX5_becomes_8 : decode cX5_becomes 8 = .ok (.getfield 7, 3) := by decide +kernel
theorem dX5_becomes_11 : decode cX5_becomes 11 = .ok (.iload_n 1, 1) := by decide +kernel
theorem dX5_becomes_12 : decode cX5_becomes 12 = .ok (.iload_n 2, 1) := by decide +kernel
theorem dX5_becomes_13 : decode cX5_becomes 13 = .ok (.iastore, 1) := by decide +kernel
theorem dX5_becomes_14 : decode cX5_becomes 14 = .ok (.iload_n 3, 1) := by decide +kernel
theorem dX5_becomes_15 : decode cX5_becomes 15 = .ok (.ireturn, 1) := by decide +kernel
theorem dX5_isOne_0 : decode cX5_isOne 0 = .ok (.iload_n 1, 1) := by decide +kernel
theorem dX5_isOne_1 : decode cX5_isOne 1 = .ok (.iconst 0, 1) := by decide +kernel
theorem dX5_isOne_2 : decode cX5_isOne 2 = .ok (.aload_n 0, 1) := by decide +kernel
theorem dX5_isOne_3 : decode cX5_isOne 3 = .ok (.getfield 7, 3) := by decide +kernel
theorem dX5_isOne_6 : decode cX5_isOne 6 = .ok (.iconst 2, 1) := by decide +kernel
theorem dX5_isOne_7 : decode cX5_isOne 7 = .ok (.iaload, 1) := by decide +kernel
theorem dX5_isOne_8 : decode cX5_isOne 8 = .ok (.iconst 1, 1) := by decide +kernel
theorem dX5_isOne_9 : decode cX5_isOne 9 = .ok (.isub, 1) := by decide +kernel
theorem dX5_isOne_10 : decode cX5_isOne 10 = .ok (.invokestatic 45, 3) := by decide +kernel
theorem dX5_isOne_13 : decode cX5_isOne 13 = .ok (.ireturn, 1) := by decide +kernel
theorem dX5_isHouse_0 : decode cX5_isHouse 0 = .ok (.iload_n 0, 1) := by decide +kernel
theorem dX5_isHouse_1 : decode cX5_isHouse 1 = .ok (.iconst 0, 1) := by decide +kernel
theorem dX5_isHouse_2 : decode cX5_isHouse 2 = .ok (.bipush 11, 2) := by decide +kernel
theorem dX5_isHouse_4 : decode cX5_isHouse 4 = .ok (.invokestatic 45, 3) := by decide +kernel
theorem dX5_isHouse_7 : decode cX5_isHouse 7 = .ok (.ireturn, 1) := by decide +kernel
theorem dX5_isKind_0 : decode cX5_isKind 0 = .ok (.iload_n 0, 1) := by decide +kernel
theorem dX5_isKind_1 : decode cX5_isKind 1 = .ok (.iconst 0, 1) := by decide +kernel
theorem dX5_isKind_2 : decode cX5_isKind 2 = .ok (.iconst 5, 1) := by decide +kernel
theorem dX5_isKind_3 : decode cX5_isKind 3 = .ok (.invokestatic 45, 3) := by decide +kernel
theorem dX5_isKind_6 : decode cX5_isKind 6 = .ok (.ireturn, 1) := by decide +kernel
theorem dX5_setOf_0 : decode cX5_setOf 0 = .ok (.iconst 0, 1) := by decide +kernel
theorem dX5_setOf_1 : decode cX5_setOf 1 = .ok (.istore_n 2, 1) := by decide +kernel
theorem dX5_setOf_2 : decode cX5_setOf 2 = .ok (.iconst 0, 1) := by decide +kernel
theorem dX5_setOf_3 : decode cX5_setOf 3 = .ok (.istore_n 3, 1) := by decide +kernel
theorem dX5_setOf_4 : decode cX5_setOf 4 = .ok (.iload_n 3, 1) := by decide +kernel
theorem dX5_setOf_5 : decode cX5_setOf 5 = .ok (.bipush 12, 2) := by decide +kernel
theorem dX5_setOf_7 : decode cX5_setOf 7 = .ok (.if_icmp .ge 28, 3) := by decide +kernel
theorem dX5_setOf_10 : decode cX5_setOf 10 = .ok (.iload_n 2, 1) := by decide +kernel
theorem dX5_setOf_11 : decode cX5_setOf 11 = .ok (.aload_n 0, 1) := by decide +kernel
theorem dX5_setOf_12 : decode cX5_setOf 12 = .ok (.iload_n 3, 1) := by decide +kernel
theorem dX5_setOf_13 : decode cX5_setOf 13 = .ok (.iload_n 1, 1) := by decide +kernel
theorem dX5_setOf_14 : decode cX5_setOf 14 = .ok (.invokevirtual 49, 3) := by decide +kernel
theorem dX5_setOf_17 : decode cX5_setOf 17 = .ok (.ifCond .le 9, 3) := by decide +kernel
theorem dX5_setOf_20 : decode cX5_setOf 20 = .ok (.iconst 1, 1) := by decide +kernel
theorem dX5_setOf_21 : decode cX5_setOf 21 = .ok (.iload_n 3, 1) := by decide +kernel
theorem dX5_setOf_22 : decode cX5_setOf 22 = .ok (.ishl, 1) := by decide +kernel
theorem dX5_setOf_23 : decode cX5_setOf 23 = .ok (.goto 4, 3) := by decide +kernel
theorem dX5_setOf_26 : decode cX5_setOf 26 = .ok (.iconst 0, 1) := by decide +kernel
theorem dX5_setOf_27 : decode cX5_setOf 27 = .ok (.ior, 1) := by decide +kernel
theorem dX5_setOf_28 : decode cX5_setOf 28 = .ok (.istore_n 2, 1) := by decide +kernel
theorem dX5_setOf_29 : decode cX5_setOf 29 = .ok (.iinc 3 1, 3) := by decide +kernel
theorem dX5_setOf_32 : decode cX5_setOf 32 = .ok (.goto (-28), 3) := by decide +kernel
theorem dX5_setOf_35 : decode cX5_setOf 35 = .ok (.iload_n 2, 1) := by decide +kernel
theorem dX5_setOf_36 : decode cX5_setOf 36 = .ok (.ireturn, 1) := by decide +kernel
theorem dX5_lampsMany_0 : decode cX5_lampsMany 0 = .ok (.iconst 0, 1) := by decide +kernel
theorem dX5_lampsMany_1 : decode cX5_lampsMany 1 = .ok (.istore_n 1, 1) := by decide +kernel
theorem dX5_lampsMany_2 : decode cX5_lampsMany 2 = .ok (.iconst 0, 1) := by decide +kernel
theorem dX5_lampsMany_3 : decode cX5_lampsMany 3 = .ok (.istore_n 2, 1) := by decide +kernel
theorem dX5_lampsMany_4 : decode cX5_lampsMany 4 = .ok (.iload_n 2, 1) := by decide +kernel
theorem dX5_lampsMany_5 : decode cX5_lampsMany 5 = .ok (.bipush 12, 2) := by decide +kernel
theorem dX5_lampsMany_7 : decode cX5_lampsMany 7 = .ok (.if_icmp .ge 26, 3) := by decide +kernel
theorem dX5_lampsMany_10 : decode cX5_lampsMany 10 = .ok (.iload_n 1, 1) := by decide +kernel
theorem dX5_lampsMany_11 : decode cX5_lampsMany 11 = .ok (.aload_n 0, 1) := by decide +kernel
theorem dX5_lampsMany_12 : decode cX5_lampsMany 12 = .ok (.iload_n 2, 1) := by decide +kernel
theorem dX5_lampsMany_13 : decode cX5_lampsMany 13 = .ok (.iconst 0, 1) := by decide +kernel
theorem dX5_lampsMany_14 : decode cX5_lampsMany 14 = .ok (.invokevirtual 49, 3) := by decide +kernel
theorem dX5_lampsMany_17 : decode cX5_lampsMany 17 = .ok (.ifCond .le 7, 3) := by decide +kernel
theorem dX5_lampsMany_20 : decode cX5_lampsMany 20 = .ok (.iconst 1, 1) := by decide +kernel
theorem dX5_lampsMany_21 : decode cX5_lampsMany 21 = .ok (.goto 4, 3) := by decide +kernel
theorem dX5_lampsMany_24 : decode cX5_lampsMany 24 = .ok (.iconst 0, 1) := by decide +kernel
theorem dX5_lampsMany_25 : decode cX5_lampsMany 25 = .ok (.iadd, 1) := by decide +kernel
theorem dX5_lampsMany_26 : decode cX5_lampsMany 26 = .ok (.istore_n 1, 1) := by decide +kernel
theorem dX5_lampsMany_27 : decode cX5_lampsMany 27 = .ok (.iinc 2 1, 3) := by decide +kernel
theorem dX5_lampsMany_30 : decode cX5_lampsMany 30 = .ok (.goto (-26), 3) := by decide +kernel
theorem dX5_lampsMany_33 : decode cX5_lampsMany 33 = .ok (.iload_n 1, 1) := by decide +kernel
theorem dX5_lampsMany_34 : decode cX5_lampsMany 34 = .ok (.ireturn, 1) := by decide +kernel
theorem dX5_readOfAll_0 : decode cX5_readOfAll 0 = .ok (.iconst 0, 1) := by decide +kernel
theorem dX5_readOfAll_1 : decode cX5_readOfAll 1 = .ok (.istore_n 1, 1) := by decide +kernel
theorem dX5_readOfAll_2 : decode cX5_readOfAll 2 = .ok (.iconst 0, 1) := by decide +kernel
theorem dX5_readOfAll_3 : decode cX5_readOfAll 3 = .ok (.istore_n 2, 1) := by decide +kernel
theorem dX5_readOfAll_4 : decode cX5_readOfAll 4 = .ok (.iload_n 2, 1) := by decide +kernel
theorem dX5_readOfAll_5 : decode cX5_readOfAll 5 = .ok (.bipush 12, 2) := by decide +kernel
theorem dX5_readOfAll_7 : decode cX5_readOfAll 7 = .ok (.if_icmp .ge 18, 3) := by decide +kernel
theorem dX5_readOfAll_10 : decode cX5_readOfAll 10 = .ok (.iload_n 1, 1) := by decide +kernel
theorem dX5_readOfAll_11 : decode cX5_readOfAll 11 = .ok (.aload_n 0, 1) := by decide +kernel
theorem dX5_readOfAll_12 : decode cX5_readOfAll 12 = .ok (.iload_n 2, 1) := by decide +kernel
theorem dX5_readOfAll_13 : decode cX5_readOfAll 13 = .ok (.iconst 2, 1) := by decide +kernel
theorem dX5_readOfAll_14 : decode cX5_readOfAll 14 = .ok (.invokevirtual 49, 3) := by decide +kernel
theorem dX5_readOfAll_17 : decode cX5_readOfAll 17 = .ok (.iadd, 1) := by decide +kernel
theorem dX5_readOfAll_18 : decode cX5_readOfAll 18 = .ok (.istore_n 1, 1) := by decide +kernel
theorem dX5_readOfAll_19 : decode cX5_readOfAll 19 = .ok (.iinc 2 1, 3) := by decide +kernel
theorem dX5_readOfAll_22 : decode cX5_readOfAll 22 = .ok (.goto (-18), 3) := by decide +kernel
theorem dX5_readOfAll_25 : decode cX5_readOfAll 25 = .ok (.iload_n 1, 1) := by decide +kernel
theorem dX5_readOfAll_26 : decode cX5_readOfAll 26 = .ok (.ireturn, 1) := by decide +kernel
theorem dX5_tickles_0 : decode cX5_tickles 0 = .ok (.aload_n 0, 1) := by decide +kernel
theorem dX5_tickles_1 : decode cX5_tickles 1 = .ok (.iload_n 1, 1) := by decide +kernel
theorem dX5_tickles_2 : decode cX5_tickles 2 = .ok (.iconst 3, 1) := by decide +kernel
theorem dX5_tickles_3 : decode cX5_tickles 3 = .ok (.invokevirtual 53, 3) := by decide +kernel
theorem dX5_tickles_6 : decode cX5_tickles 6 = .ok (.iconst 4, 1) := by decide +kernel
theorem dX5_tickles_7 : decode cX5_tickles 7 = .ok (.idiv, 1) := by decide +kernel
theorem dX5_tickles_8 : decode cX5_tickles 8 = .ok (.aload_n 0, 1) := by decide +kernel
theorem dX5_tickles_9 : decode cX5_tickles 9 = .ok (.getfield 7, 3) := by decide +kernel
theorem dX5_tickles_12 : decode cX5_tickles 12 = .ok (.iconst 1, 1) := by decide +kernel
theorem dX5_tickles_13 : decode cX5_tickles 13 = .ok (.iaload, 1) := by decide +kernel
theorem dX5_tickles_14 : decode cX5_tickles 14 = .ok (.isub, 1) := by decide +kernel
theorem dX5_tickles_15 : decode cX5_tickles 15 = .ok (.iconst 0, 1) := by decide +kernel
theorem dX5_tickles_16 : decode cX5_tickles 16 = .ok (.bipush 99, 2) := by decide +kernel
theorem dX5_tickles_18 : decode cX5_tickles 18 = .ok (.invokestatic 56, 3) := by decide +kernel
theorem dX5_tickles_21 : decode cX5_tickles 21 = .ok (.istore_n 2, 1) := by decide +kernel
theorem dX5_tickles_22 : decode cX5_tickles 22 = .ok (.aload_n 0, 1) := by decide +kernel
theorem dX5_tickles_23 : decode cX5_tickles 23 = .ok (.iload_n 1, 1) := by decide +kernel
theorem dX5_tickles_24 : decode cX5_tickles 24 = .ok (.iconst 0, 1) := by decide +kernel
theorem dX5_tickles_25 : decode cX5_tickles 25 = .ok (.invokevirtual 53, 3) := by decide +kernel
theorem dX5_tickles_28 : decode cX5_tickles 28 = .ok (.tableswitch 78 1 5 #[36, 46, 76, 40, 50], 36) := by decide +kernel
theorem dX5_tickles_64 : decode cX5_tickles 64 = .ok (.iload_n 2, 1) := by decide +kernel
theorem dX5_tickles_65 : decode cX5_tickles 65 = .ok (.iconst 2, 1) := by decide +kernel
theorem dX5_tickles_66 : decode cX5_tickles 66 = .ok (.idiv, 1) := by decide +kernel
theorem dX5_tickles_67 : decode cX5_tickles 67 = .ok (.ireturn, 1) := by decide +kernel
theorem dX5_tickles_68 : decode cX5_tickles 68 = .ok (.iload_n 2, 1) := by decide +kernel
theorem dX5_tickles_69 : decode cX5_tickles 69 = .ok (.iconst 2, 1) := by decide +kernel
theorem dX5_tickles_70 : decode cX5_tickles 70 = .ok (.idiv, 1) := by decide +kernel
theorem dX5_tickles_71 : decode cX5_tickles 71 = .ok (.iconst 1, 1) := by decide +kernel
theorem dX5_tickles_72 : decode cX5_tickles 72 = .ok (.iadd, 1) := by decide +kernel
theorem dX5_tickles_73 : decode cX5_tickles 73 = .ok (.ireturn, 1) := by decide +kernel
theorem dX5_tickles_74 : decode cX5_tickles 74 = .ok (.iload_n 2, 1) := by decide +kernel
theorem dX5_tickles_75 : decode cX5_tickles 75 = .ok (.iconst 3, 1) := by decide +kernel
theorem dX5_tickles_76 : decode cX5_tickles 76 = .ok (.iadd, 1) := by decide +kernel
theorem dX5_tickles_77 : decode cX5_tickles 77 = .ok (.ireturn, 1) := by decide +kernel
theorem dX5_tickles_78 : decode cX5_tickles 78 = .ok (.aload_n 0, 1) := by decide +kernel
theorem dX5_tickles_79 : decode cX5_tickles 79 = .ok (.aload_n 0, 1) := by decide +kernel
theorem dX5_tickles_80 : decode cX5_tickles 80 = .ok (.iload_n 1, 1) := by decide +kernel
theorem dX5_tickles_81 : decode cX5_tickles 81 = .ok (.iconst 1, 1) := by decide +kernel
theorem dX5_tickles_82 : decode cX5_tickles 82 = .ok (.invokevirtual 53, 3) := by decide +kernel
theorem dX5_tickles_85 : decode cX5_tickles 85 = .ok (.iconst 0, 1) := by decide +kernel
theorem dX5_tickles_86 : decode cX5_tickles 86 = .ok (.invokevirtual 49, 3) := by decide +kernel
theorem dX5_tickles_89 : decode cX5_tickles 89 = .ok (.ifCond .le 11, 3) := by decide +kernel
theorem dX5_tickles_92 : decode cX5_tickles 92 = .ok (.iconst 2, 1) := by decide +kernel
theorem dX5_tickles_93 : decode cX5_tickles 93 = .ok (.iload_n 2, 1) := by decide +kernel
theorem dX5_tickles_94 : decode cX5_tickles 94 = .ok (.iconst 3, 1) := by decide +kernel
theorem dX5_tickles_95 : decode cX5_tickles 95 = .ok (.iadd, 1) := by decide +kernel
theorem dX5_tickles_96 : decode cX5_tickles 96 = .ok (.imul, 1) := by decide +kernel
theorem dX5_tickles_97 : decode cX5_tickles 97 = .ok (.goto 6, 3) := by decide +kernel
theorem dX5_tickles_100 : decode cX5_tickles 100 = .ok (.iload_n 2, 1) := by decide +kernel
theorem dX5_tickles_101 : decode cX5_tickles 101 = .ok (.iconst 3, 1) := by decide +kernel
theorem dX5_tickles_102 : decode cX5_tickles 102 = .ok (.iadd, 1) := by decide +kernel
theorem dX5_tickles_103 : decode cX5_tickles 103 = .ok (.ireturn, 1) := by decide +kernel
theorem dX5_tickles_104 : decode cX5_tickles 104 = .ok (.iconst 0, 1) := by decide +kernel
theorem dX5_tickles_105 : decode cX5_tickles 105 = .ok (.ireturn, 1) := by decide +kernel
theorem dX5_tickles_106 : decode cX5_tickles 106 = .ok (.iload_n 2, 1) := by decide +kernel
theorem dX5_tickles_107 : decode cX5_tickles 107 = .ok (.ireturn, 1) := by decide +kernel
theorem dX5_holds_0 : decode cX5_holds 0 = .ok (.aload_n 0, 1) := by decide +kernel
theorem dX5_holds_1 : decode cX5_holds 1 = .ok (.iload_n 1, 1) := by decide +kernel
theorem dX5_holds_2 : decode cX5_holds 2 = .ok (.iconst 0, 1) := by decide +kernel
theorem dX5_holds_3 : decode cX5_holds 3 = .ok (.invokevirtual 53, 3) := by decide +kernel
theorem dX5_holds_6 : decode cX5_holds 6 = .ok (.tableswitch 53 1 5 #[34, 47, 50, 37, 47], 34) := by decide +kernel
theorem dX5_holds_40 : decode cX5_holds 40 = .ok (.bipush 90, 2) := by decide +kernel
theorem dX5_holds_42 : decode cX5_holds 42 = .ok (.ireturn, 1) := by decide +kernel
theorem dX5_holds_43 : decode cX5_holds 43 = .ok (.bipush 90, 2) := by decide +kernel
theorem dX5_holds_45 : decode cX5_holds 45 = .ok (.iconst 5, 1) := by decide +kernel
theorem dX5_holds_46 : decode cX5_holds 46 = .ok (.aload_n 0, 1) := by decide +kernel
theorem dX5_holds_47 : decode cX5_holds 47 = .ok (.invokevirtual 60, 3) := by decide +kernel
theorem dX5_holds_50 : decode cX5_holds 50 = .ok (.imul, 1) := by decide +kernel
theorem dX5_holds_51 : decode cX5_holds 51 = .ok (.isub, 1) := by decide +kernel
theorem dX5_holds_52 : decode cX5_holds 52 = .ok (.ireturn, 1) := by decide +kernel
theorem dX5_holds_53 : decode cX5_holds 53 = .ok (.bipush 20, 2) := by decide +kernel
theorem dX5_holds_55 : decode cX5_holds 55 = .ok (.ireturn, 1) := by decide +kernel
theorem dX5_holds_56 : decode cX5_holds 56 = .ok (.bipush 99, 2) := by decide +kernel
theorem dX5_holds_58 : decode cX5_holds 58 = .ok (.ireturn, 1) := by decide +kernel
theorem dX5_holds_59 : decode cX5_holds 59 = .ok (.bipush 30, 2) := by decide +kernel
theorem dX5_holds_61 : decode cX5_holds 61 = .ok (.ireturn, 1) := by decide +kernel
theorem dX5_blows_0 : decode cX5_blows 0 = .ok (.aload_n 0, 1) := by decide +kernel
theorem dX5_blows_1 : decode cX5_blows 1 = .ok (.iload_n 1, 1) := by decide +kernel
theorem dX5_blows_2 : decode cX5_blows 2 = .ok (.iconst 3, 1) := by decide +kernel
theorem dX5_blows_3 : decode cX5_blows 3 = .ok (.invokevirtual 53, 3) := by decide +kernel
theorem dX5_blows_6 : decode cX5_blows 6 = .ok (.istore_n 2, 1) := by decide +kernel
theorem dX5_blows_7 : decode cX5_blows 7 = .ok (.aload_n 0, 1) := by decide +kernel
theorem dX5_blows_8 : decode cX5_blows 8 = .ok (.iload_n 1, 1) := by decide +kernel
theorem dX5_blows_9 : decode cX5_blows 9 = .ok (.iconst 0, 1) := by decide +kernel
theorem dX5_blows_10 : decode cX5_blows 10 = .ok (.invokevirtual 53, 3) := by decide +kernel
theorem dX5_blows_13 : decode cX5_blows 13 = .ok (.tableswitch 66 1 5 #[35, 55, 64, 44, 57], 35) := by decide +kernel
theorem dX5_blows_48 : decode cX5_blows 48 = .ok (.iconst 2, 1) := by decide +kernel
theorem dX5_blows_49 : decode cX5_blows 49 = .ok (.iconst 1, 1) := by decide +kernel
theorem dX5_blows_50 : decode cX5_blows 50 = .ok (.iload_n 2, 1) := by decide +kernel
theorem dX5_blows_51 : decode cX5_blows 51 = .ok (.bipush 25, 2) := by decide +kernel
theorem dX5_blows_53 : decode cX5_blows 53 = .ok (.idiv, 1) := by decide +kernel
theorem dX5_blows_54 : decode cX5_blows 54 = .ok (.iadd, 1) := by decide +kernel
theorem dX5_blows_55 : decode cX5_blows 55 = .ok (.imul, 1) := by decide +kernel
theorem dX5_blows_56 : decode cX5_blows 56 = .ok (.ireturn, 1) := by decide +kernel
theorem dX5_blows_57 : decode cX5_blows 57 = .ok (.iconst 2, 1) := by decide +kernel
theorem dX5_blows_58 : decode cX5_blows 58 = .ok (.iconst 1, 1) := by decide +kernel
theorem dX5_blows_59 : decode cX5_blows 59 = .ok (.iload_n 2, 1) := by decide +kernel
theorem dX5_blows_60 : decode cX5_blows 60 = .ok (.bipush 25, 2) := by decide +kernel
theorem dX5_blows_62 : decode cX5_blows 62 = .ok (.idiv, 1) := by decide +kernel
theorem dX5_blows_63 : decode cX5_blows 63 = .ok (.iadd, 1) := by decide +kernel
theorem dX5_blows_64 : decode cX5_blows 64 = .ok (.imul, 1) := by decide +kernel
theorem dX5_blows_65 : decode cX5_blows 65 = .ok (.iconst 1, 1) := by decide +kernel
theorem dX5_blows_66 : decode cX5_blows 66 = .ok (.iadd, 1) := by decide +kernel
theorem dX5_blows_67 : decode cX5_blows 67 = .ok (.ireturn, 1) := by decide +kernel
theorem dX5_blows_68 : decode cX5_blows 68 = .ok (.iconst 1, 1) := by decide +kernel
theorem dX5_blows_69 : decode cX5_blows 69 = .ok (.ireturn, 1) := by decide +kernel
theorem dX5_blows_70 : decode cX5_blows 70 = .ok (.iconst 1, 1) := by decide +kernel
theorem dX5_blows_71 : decode cX5_blows 71 = .ok (.iload_n 2, 1) := by decide +kernel
theorem dX5_blows_72 : decode cX5_blows 72 = .ok (.bipush 50, 2) := by decide +kernel
theorem dX5_blows_74 : decode cX5_blows 74 = .ok (.idiv, 1) := by decide +kernel
theorem dX5_blows_75 : decode cX5_blows 75 = .ok (.iadd, 1) := by decide +kernel
theorem dX5_blows_76 : decode cX5_blows 76 = .ok (.ireturn, 1) := by decide +kernel
theorem dX5_blows_77 : decode cX5_blows 77 = .ok (.iconst 0, 1) := by decide +kernel
theorem dX5_blows_78 : decode cX5_blows 78 = .ok (.ireturn, 1) := by decide +kernel
theorem dX5_blows_79 : decode cX5_blows 79 = .ok (.iconst 1, 1) := by decide +kernel
theorem dX5_blows_80 : decode cX5_blows 80 = .ok (.iload_n 2, 1) := by decide +kernel
theorem dX5_blows_81 : decode cX5_blows 81 = .ok (.bipush 25, 2) := by decide +kernel
theorem dX5_blows_83 : decode cX5_blows 83 = .ok (.idiv, 1) := by decide +kernel
theorem dX5_blows_84 : decode cX5_blows 84 = .ok (.iadd, 1) := by decide +kernel
theorem dX5_blows_85 : decode cX5_blows 85 = .ok (.ireturn, 1) := by decide +kernel
theorem dX5_heals_0 : decode cX5_heals 0 = .ok (.aload_n 0, 1) := by decide +kernel
theorem dX5_heals_1 : decode cX5_heals 1 = .ok (.iload_n 1, 1) := by decide +kernel
theorem dX5_heals_2 : decode cX5_heals 2 = .ok (.iconst 0, 1) := by decide +kernel
theorem dX5_heals_3 : decode cX5_heals 3 = .ok (.invokevirtual 53, 3) := by decide +kernel
theorem dX5_heals_6 : decode cX5_heals 6 = .ok (.tableswitch 46 1 4 #[30, 41, 43, 32], 30) := by decide +kernel
theorem dX5_heals_36 : decode cX5_heals 36 = .ok (.iconst 0, 1) := by decide +kernel
theorem dX5_heals_37 : decode cX5_heals 37 = .ok (.ireturn, 1) := by decide +kernel
theorem dX5_heals_38 : decode cX5_heals 38 = .ok (.aload_n 0, 1) := by decide +kernel
theorem dX5_heals_39 : decode cX5_heals 39 = .ok (.getfield 7, 3) := by decide +kernel
theorem dX5_heals_42 : decode cX5_heals 42 = .ok (.iconst 1, 1) := by decide +kernel
theorem dX5_heals_43 : decode cX5_heals 43 = .ok (.iaload, 1) := by decide +kernel
theorem dX5_heals_44 : decode cX5_heals 44 = .ok (.iconst 3, 1) := by decide +kernel
theorem dX5_heals_45 : decode cX5_heals 45 = .ok (.idiv, 1) := by decide +kernel
theorem dX5_heals_46 : decode cX5_heals 46 = .ok (.ireturn, 1) := by decide +kernel
theorem dX5_heals_47 : decode cX5_heals 47 = .ok (.iconst 2, 1) := by decide +kernel
theorem dX5_heals_48 : decode cX5_heals 48 = .ok (.ireturn, 1) := by decide +kernel
theorem dX5_heals_49 : decode cX5_heals 49 = .ok (.bipush 9, 2) := by decide +kernel
theorem dX5_heals_51 : decode cX5_heals 51 = .ok (.ireturn, 1) := by decide +kernel
theorem dX5_heals_52 : decode cX5_heals 52 = .ok (.iconst 1, 1) := by decide +kernel
theorem dX5_heals_53 : decode cX5_heals 53 = .ok (.ireturn, 1) := by decide +kernel
theorem dX5_isDue_0 : decode cX5_isDue 0 = .ok (.aload_n 0, 1) := by decide +kernel
theorem dX5_isDue_1 : decode cX5_isDue 1 = .ok (.iload_n 1, 1) := by decide +kernel
theorem dX5_isDue_2 : decode cX5_isDue 2 = .ok (.iconst 4, 1) := by decide +kernel
theorem dX5_isDue_3 : decode cX5_isDue 3 = .ok (.invokevirtual 53, 3) := by decide +kernel
theorem dX5_isDue_6 : decode cX5_isDue 6 = .ok (.aload_n 0, 1) := by decide +kernel
theorem dX5_isDue_7 : decode cX5_isDue 7 = .ok (.iload_n 1, 1) := by decide +kernel
theorem dX5_isDue_8 : decode cX5_isDue 8 = .ok (.invokevirtual 64, 3) := by decide +kernel
theorem dX5_isDue_11 : decode cX5_isDue 11 = .ok (.if_icmp .lt 7, 3) := by decide +kernel
theorem dX5_isDue_14 : decode cX5_isDue 14 = .ok (.iconst 1, 1) := by decide +kernel
theorem dX5_isDue_15 : decode cX5_isDue 15 = .ok (.goto 4, 3) := by decide +kernel
theorem dX5_isDue_18 : decode cX5_isDue 18 = .ok (.iconst 0, 1) := by decide +kernel
theorem dX5_isDue_19 : decode cX5_isDue 19 = .ok (.ireturn, 1) := by decide +kernel
theorem dX5_dueSet_0 : decode cX5_dueSet 0 = .ok (.iconst 0, 1) := by decide +kernel
theorem dX5_dueSet_1 : decode cX5_dueSet 1 = .ok (.istore_n 1, 1) := by decide +kernel
theorem dX5_dueSet_2 : decode cX5_dueSet 2 = .ok (.iconst 0, 1) := by decide +kernel
theorem dX5_dueSet_3 : decode cX5_dueSet 3 = .ok (.istore_n 2, 1) := by decide +kernel
theorem dX5_dueSet_4 : decode cX5_dueSet 4 = .ok (.iload_n 2, 1) := by decide +kernel
theorem dX5_dueSet_5 : decode cX5_dueSet 5 = .ok (.aload_n 0, 1) := by decide +kernel
theorem dX5_dueSet_6 : decode cX5_dueSet 6 = .ok (.getfield 7, 3) := by decide +kernel
theorem dX5_dueSet_9 : decode cX5_dueSet 9 = .ok (.iconst 2, 1) := by decide +kernel
theorem dX5_dueSet_10 : decode cX5_dueSet 10 = .ok (.iaload, 1) := by decide +kernel
theorem dX5_dueSet_11 : decode cX5_dueSet 11 = .ok (.if_icmp .ge 27, 3) := by decide +kernel
theorem dX5_dueSet_14 : decode cX5_dueSet 14 = .ok (.iload_n 1, 1) := by decide +kernel
theorem dX5_dueSet_15 : decode cX5_dueSet 15 = .ok (.aload_n 0, 1) := by decide +kernel
theorem dX5_dueSet_16 : decode cX5_dueSet 16 = .ok (.iload_n 2, 1) := by decide +kernel
theorem dX5_dueSet_17 : decode cX5_dueSet 17 = .ok (.invokevirtual 68, 3) := by decide +kernel
theorem dX5_dueSet_20 : decode cX5_dueSet 20 = .ok (.ifCond .eq 9, 3) := by decide +kernel
theorem dX5_dueSet_23 : decode cX5_dueSet 23 = .ok (.iconst 1, 1) := by decide +kernel
theorem dX5_dueSet_24 : decode cX5_dueSet 24 = .ok (.iload_n 2, 1) := by decide +kernel
theorem dX5_dueSet_25 : decode cX5_dueSet 25 = .ok (.ishl, 1) := by decide +kernel
theorem dX5_dueSet_26 : decode cX5_dueSet 26 = .ok (.goto 4, 3) := by decide +kernel
theorem dX5_dueSet_29 : decode cX5_dueSet 29 = .ok (.iconst 0, 1) := by decide +kernel
theorem dX5_dueSet_30 : decode cX5_dueSet 30 = .ok (.ior, 1) := by decide +kernel
theorem dX5_dueSet_31 : decode cX5_dueSet 31 = .ok (.istore_n 1, 1) := by decide +kernel
theorem dX5_dueSet_32 : decode cX5_dueSet 32 = .ok (.iinc 2 1, 3) := by decide +kernel
theorem dX5_dueSet_35 : decode cX5_dueSet 35 = .ok (.goto (-31), 3) := by decide +kernel
theorem dX5_dueSet_38 : decode cX5_dueSet 38 = .ok (.iload_n 1, 1) := by decide +kernel
theorem dX5_dueSet_39 : decode cX5_dueSet 39 = .ok (.ireturn, 1) := by decide +kernel
theorem dX5_sumOf_0 : decode cX5_sumOf 0 = .ok (.iconst 0, 1) := by decide +kernel
theorem dX5_sumOf_1 : decode cX5_sumOf 1 = .ok (.istore_n 2, 1) := by decide +kernel
theorem dX5_sumOf_2 : decode cX5_sumOf 2 = .ok (.iconst 0, 1) := by decide +kernel
theorem dX5_sumOf_3 : decode cX5_sumOf 3 = .ok (.istore_n 3, 1) := by decide +kernel
theorem dX5_sumOf_4 : decode cX5_sumOf 4 = .ok (.iload_n 3, 1) := by decide +kernel
theorem dX5_sumOf_5 : decode cX5_sumOf 5 = .ok (.aload_n 0, 1) := by decide +kernel
theorem dX5_sumOf_6 : decode cX5_sumOf 6 = .ok (.getfield 7, 3) := by decide +kernel
theorem dX5_sumOf_9 : decode cX5_sumOf 9 = .ok (.iconst 2, 1) := by decide +kernel
theorem dX5_sumOf_10 : decode cX5_sumOf 10 = .ok (.iaload, 1) := by decide +kernel
theorem dX5_sumOf_11 : decode cX5_sumOf 11 = .ok (.if_icmp .ge 18, 3) := by decide +kernel
theorem dX5_sumOf_14 : decode cX5_sumOf 14 = .ok (.iload_n 2, 1) := by decide +kernel
theorem dX5_sumOf_15 : decode cX5_sumOf 15 = .ok (.aload_n 0, 1) := by decide +kernel
theorem dX5_sumOf_16 : decode cX5_sumOf 16 = .ok (.iload_n 3, 1) := by decide +kernel
theorem dX5_sumOf_17 : decode cX5_sumOf 17 = .ok (.iload_n 1, 1) := by decide +kernel
theorem dX5_sumOf_18 : decode cX5_sumOf 18 = .ok (.invokevirtual 53, 3) := by decide +kernel
theorem dX5_sumOf_21 : decode cX5_sumOf 21 = .ok (.iadd, 1) := by decide +kernel
theorem dX5_sumOf_22 : decode cX5_sumOf 22 = .ok (.istore_n 2, 1) := by decide +kernel
theorem dX5_sumOf_23 : decode cX5_sumOf 23 = .ok (.iinc 3 1, 3) := by decide +kernel
theorem dX5_sumOf_26 : decode cX5_sumOf 26 = .ok (.goto (-22), 3) := by decide +kernel
theorem dX5_sumOf_29 : decode cX5_sumOf 29 = .ok (.iload_n 2, 1) := by decide +kernel
theorem dX5_sumOf_30 : decode cX5_sumOf 30 = .ok (.ireturn, 1) := by decide +kernel
theorem dX5_mostOf_0 : decode cX5_mostOf 0 = .ok (.iload_n 0, 1) := by decide +kernel
theorem dX5_mostOf_1 : decode cX5_mostOf 1 = .ok (.ifCond .ne 8, 3) := by decide +kernel
theorem dX5_mostOf_4 : decode cX5_mostOf 4 = .ok (.bipush 99, 2) := by decide +kernel
theorem dX5_mostOf_6 : decode cX5_mostOf 6 = .ok (.goto 15, 3) := by decide +kernel
theorem dX5_mostOf_9 : decode cX5_mostOf 9 = .ok (.iload_n 0, 1) := by decide +kernel
theorem dX5_mostOf_10 : decode cX5_mostOf 10 = .ok (.iconst 1, 1) := by decide +kernel
theorem dX5_mostOf_11 : decode cX5_mostOf 11 = .ok (.if_icmp .ne 7, 3) := by decide +kernel
theorem dX5_mostOf_14 : decode cX5_mostOf 14 = .ok (.iconst 1, 1) := by decide +kernel
theorem dX5_mostOf_15 : decode cX5_mostOf 15 = .ok (.goto 6, 3) := by decide +kernel
theorem dX5_mostOf_18 : decode cX5_mostOf 18 = .ok (.sipush 9999, 3) := by decide +kernel
theorem dX5_mostOf_21 : decode cX5_mostOf 21 = .ok (.ireturn, 1) := by decide +kernel
theorem dX5_house_0 : decode cX5_house 0 = .ok (.iload_n 1, 1) := by decide +kernel
theorem dX5_house_1 : decode cX5_house 1 = .ok (.invokestatic 72, 3) := by decide +kernel
theorem dX5_house_4 : decode cX5_house 4 = .ok (.ifCond .eq 39, 3) := by decide +kernel
theorem dX5_house_7 : decode cX5_house 7 = .ok (.iload_n 2, 1) := by decide +kernel
theorem dX5_house_8 : decode cX5_house 8 = .ok (.iconst 0, 1) := by decide +kernel
theorem dX5_house_9 : decode cX5_house 9 = .ok (.iconst 2, 1) := by decide +kernel
theorem dX5_house_10 : decode cX5_house 10 = .ok (.invokestatic 45, 3) := by decide +kernel
theorem dX5_house_13 : decode cX5_house 13 = .ok (.ifCond .eq 30, 3) := by decide +kernel
theorem dX5_house_16 : decode cX5_house 16 = .ok (.iload_n 3, 1) := by decide +kernel
theorem dX5_house_17 : decode cX5_house 17 = .ok (.iconst 0, 1) := by decide +kernel
theorem dX5_house_18 : decode cX5_house 18 = .ok (.iload_n 2, 1) := by decide +kernel
theorem dX5_house_19 : decode cX5_house 19 = .ok (.invokestatic 75, 3) := by decide +kernel
theorem dX5_house_22 : decode cX5_house 22 = .ok (.invokestatic 45, 3) := by decide +kernel
theorem dX5_house_25 : decode cX5_house 25 = .ok (.ifCond .eq 18, 3) := by decide +kernel
theorem dX5_house_28 : decode cX5_house 28 = .ok (.aload_n 0, 1) := by decide +kernel
theorem dX5_house_29 : decode cX5_house 29 = .ok (.iconst 3, 1) := by decide +kernel
theorem dX5_house_30 : decode cX5_house 30 = .ok (.iconst 3, 1) := by decide +kernel
theorem dX5_house_31 : decode cX5_house 31 = .ok (.iload_n 1, 1) := by decide +kernel
theorem dX5_house_32 : decode cX5_house 32 = .ok (.imul, 1) := by decide +kernel
theorem dX5_house_33 : decode cX5_house 33 = .ok (.iadd, 1) := by decide +kernel
theorem dX5_house_34 : decode cX5_house 34 = .ok (.iload_n 2, 1) := by decide +kernel
theorem dX5_house_35 : decode cX5_house 35 = .ok (.iadd, 1) := by decide +kernel
theorem dX5_house_36 : decode cX5_house 36 = .ok (.iload_n 3, 1) := by decide +kernel
theorem dX5_house_37 : decode cX5_house 37 = .ok (.invokevirtual 78, 3) := by decide +kernel
theorem dX5_house_40 : decode cX5_house 40 = .ok (.goto 9, 3) := by decide +kernel
theorem dX5_house_43 : decode cX5_house 43 = .ok (.aload_n 0, 1) := by decide +kernel
theorem dX5_house_44 : decode cX5_house 44 = .ok (.ldc 44, 2) := by decide +kernel
theorem dX5_house_46 : decode cX5_house 46 = .ok (.invokevirtual 81, 3) := by decide +kernel
theorem dX5_house_49 : decode cX5_house 49 = .ok (.ireturn, 1) := by decide +kernel
theorem dX5_peopleAt_0 : decode cX5_peopleAt 0 = .ok (.iconst 0, 1) := by decide +kernel
theorem dX5_peopleAt_1 : decode cX5_peopleAt 1 = .ok (.istore_n 2, 1) := by decide +kernel
theorem dX5_peopleAt_2 : decode cX5_peopleAt 2 = .ok (.iconst 0, 1) := by decide +kernel
theorem dX5_peopleAt_3 : decode cX5_peopleAt 3 = .ok (.istore_n 3, 1) := by decide +kernel
theorem dX5_peopleAt_4 : decode cX5_peopleAt 4 = .ok (.iload_n 3, 1) := by decide +kernel
theorem dX5_peopleAt_5 : decode cX5_peopleAt 5 = .ok (.aload_n 0, 1) := by decide +kernel
theorem dX5_peopleAt_6 : decode cX5_peopleAt 6 = .ok (.getfield 7, 3) := by decide +kernel
theorem dX5_peopleAt_9 : decode cX5_peopleAt 9 = .ok (.iconst 2, 1) := by decide +kernel
theorem dX5_peopleAt_10 : decode cX5_peopleAt 10 = .ok (.iaload, 1) := by decide +kernel
theorem dX5_peopleAt_11 : decode cX5_peopleAt 11 = .ok (.if_icmp .ge 29, 3) := by decide +kernel
theorem dX5_peopleAt_14 : decode cX5_peopleAt 14 = .ok (.iload_n 2, 1) := by decide +kernel
theorem dX5_peopleAt_15 : decode cX5_peopleAt 15 = .ok (.aload_n 0, 1) := by decide +kernel
theorem dX5_peopleAt_16 : decode cX5_peopleAt 16 = .ok (.iload_n 3, 1) := by decide +kernel
theorem dX5_peopleAt_17 : decode cX5_peopleAt 17 = .ok (.iconst 1, 1) := by decide +kernel
theorem dX5_peopleAt_18 : decode cX5_peopleAt 18 = .ok (.invokevirtual 53, 3) := by decide +kernel
theorem dX5_peopleAt_21 : decode cX5_peopleAt 21 = .ok (.iload_n 1, 1) := by decide +kernel
theorem dX5_peopleAt_22 : decode cX5_peopleAt 22 = .ok (.if_icmp .ne 9, 3) := by decide +kernel
theorem dX5_peopleAt_25 : decode cX5_peopleAt 25 = .ok (.iconst 1, 1) := by decide +kernel
theorem dX5_peopleAt_26 : decode cX5_peopleAt 26 = .ok (.iload_n 3, 1) := by decide +kernel
theorem dX5_peopleAt_27 : decode cX5_peopleAt 27 = .ok (.ishl, 1) := by decide +kernel
theorem dX5_peopleAt_28 : decode cX5_peopleAt 28 = .ok (.goto 4, 3) := by decide +kernel
theorem dX5_peopleAt_31 : decode cX5_peopleAt 31 = .ok (.iconst 0, 1) := by decide +kernel
theorem dX5_peopleAt_32 : decode cX5_peopleAt 32 = .ok (.ior, 1) := by decide +kernel
theorem dX5_peopleAt_33 : decode cX5_peopleAt 33 = .ok (.istore_n 2, 1) := by decide +kernel
theorem dX5_peopleAt_34 : decode cX5_peopleAt 34 = .ok (.iinc 3 1, 3) := by decide +kernel
theorem dX5_peopleAt_37 : decode cX5_peopleAt 37 = .ok (.goto (-33), 3) := by decide +kernel
theorem dX5_peopleAt_40 : decode cX5_peopleAt 40 = .ok (.iload_n 2, 1) := by decide +kernel
theorem dX5_peopleAt_41 : decode cX5_peopleAt 41 = .ok (.ireturn, 1) := by decide +kernel
theorem dX5_houseOf_0 : decode cX5_houseOf 0 = .ok (.iload_n 1, 1) := by decide +kernel
theorem dX5_houseOf_1 : decode cX5_houseOf 1 = .ok (.invokestatic 72, 3) := by decide +kernel
theorem dX5_houseOf_4 : decode cX5_houseOf 4 = .ok (.ifCond .eq 12, 3) := by decide +kernel
theorem dX5_houseOf_7 : decode cX5_houseOf 7 = .ok (.iload_n 2, 1) := by decide +kernel
theorem dX5_houseOf_8 : decode cX5_houseOf 8 = .ok (.iconst 0, 1) := by decide +kernel
theorem dX5_houseOf_9 : decode cX5_houseOf 9 = .ok (.iconst 3, 1) := by decide +kernel
theorem dX5_houseOf_10 : decode cX5_houseOf 10 = .ok (.invokestatic 45, 3) := by decide +kernel
theorem dX5_houseOf_13 : decode cX5_houseOf 13 = .ok (.ifCond .ne 10, 3) := by decide +kernel
theorem dX5_houseOf_16 : decode cX5_houseOf 16 = .ok (.aload_n 0, 1) := by decide +kernel
theorem dX5_houseOf_17 : decode cX5_houseOf 17 = .ok (.ldc 44, 2) := by decide +kernel
theorem dX5_houseOf_19 : decode cX5_houseOf 19 = .ok (.invokevirtual 81, 3) := by decide +kernel
theorem dX5_houseOf_22 : decode cX5_houseOf 22 = .ok (.ireturn, 1) := by decide +kernel
theorem dX5_houseOf_23 : decode cX5_houseOf 23 = .ok (.iload_n 2, 1) := by decide +kernel
theorem dX5_houseOf_24 : decode cX5_houseOf 24 = .ok (.iconst 3, 1) := by decide +kernel
theorem dX5_houseOf_25 : decode cX5_houseOf 25 = .ok (.if_icmp .ge 12, 3) := by decide +kernel
theorem dX5_houseOf_28 : decode cX5_houseOf 28 = .ok (.aload_n 0, 1) := by decide +kernel
theorem dX5_houseOf_29 : decode cX5_houseOf 29 = .ok (.iload_n 1, 1) := by decide +kernel
theorem dX5_houseOf_30 : decode cX5_houseOf 30 = .ok (.iload_n 2, 1) := by decide +kernel
theorem dX5_houseOf_31 : decode cX5_houseOf 31 = .ok (.invokevirtual 49, 3) := by decide +kernel
theorem dX5_houseOf_34 : decode cX5_houseOf 34 = .ok (.goto 8, 3) := by decide +kernel
theorem dX5_houseOf_37 : decode cX5_houseOf 37 = .ok (.aload_n 0, 1) := by decide +kernel
theorem dX5_houseOf_38 : decode cX5_houseOf 38 = .ok (.iload_n 1, 1) := by decide +kernel
theorem dX5_houseOf_39 : decode cX5_houseOf 39 = .ok (.invokevirtual 84, 3) := by decide +kernel
theorem dX5_houseOf_42 : decode cX5_houseOf 42 = .ok (.ireturn, 1) := by decide +kernel
theorem dX5_dry_0 : decode cX5_dry 0 = .ok (.iload_n 1, 1) := by decide +kernel
theorem dX5_dry_1 : decode cX5_dry 1 = .ok (.iconst 0, 1) := by decide +kernel
theorem dX5_dry_2 : decode cX5_dry 2 = .ok (.bipush 9, 2) := by decide +kernel
theorem dX5_dry_4 : decode cX5_dry 4 = .ok (.invokestatic 45, 3) := by decide +kernel
theorem dX5_dry_7 : decode cX5_dry 7 = .ok (.ifCond .eq 12, 3) := by decide +kernel
theorem dX5_dry_10 : decode cX5_dry 10 = .ok (.aload_n 0, 1) := by decide +kernel
theorem dX5_dry_11 : decode cX5_dry 11 = .ok (.iconst 1, 1) := by decide +kernel
theorem dX5_dry_12 : decode cX5_dry 12 = .ok (.iload_n 1, 1) := by decide +kernel
theorem dX5_dry_13 : decode cX5_dry 13 = .ok (.invokevirtual 78, 3) := by decide +kernel
theorem dX5_dry_16 : decode cX5_dry 16 = .ok (.goto 9, 3) := by decide +kernel
theorem dX5_dry_19 : decode cX5_dry 19 = .ok (.aload_n 0, 1) := by decide +kernel
theorem dX5_dry_20 : decode cX5_dry 20 = .ok (.ldc 44, 2) := by decide +kernel
theorem dX5_dry_22 : decode cX5_dry 22 = .ok (.invokevirtual 81, 3) := by decide +kernel
theorem dX5_dry_25 : decode cX5_dry 25 = .ok (.ireturn, 1) := by decide +kernel
theorem dX5_now_0 : decode cX5_now 0 = .ok (.iload_n 1, 1) := by decide +kernel
theorem dX5_now_1 : decode cX5_now 1 = .ok (.tableswitch 85 0 6 #[43, 50, 57, 63, 69, 74, 80], 43) := by decide +kernel
theorem dX5_now_44 : decode cX5_now 44 = .ok (.aload_n 0, 1) := by decide +kernel
theorem dX5_now_45 : decode cX5_now 45 = .ok (.getfield 7, 3) := by decide +kernel
theorem dX5_now_48 : decode cX5_now 48 = .ok (.iconst 0, 1) := by decide +kernel
theorem dX5_now_49 : decode cX5_now 49 = .ok (.iaload, 1) := by decide +kernel
theorem dX5_now_50 : decode cX5_now 50 = .ok (.ireturn, 1) := by decide +kernel
theorem dX5_now_51 : decode cX5_now 51 = .ok (.aload_n 0, 1) := by decide +kernel
theorem dX5_now_52 : decode cX5_now 52 = .ok (.getfield 7, 3) := by decide +kernel
theorem dX5_now_55 : decode cX5_now 55 = .ok (.iconst 1, 1) := by decide +kernel
theorem dX5_now_56 : decode cX5_now 56 = .ok (.iaload, 1) := by decide +kernel
theorem dX5_now_57 : decode cX5_now 57 = .ok (.ireturn, 1) := by decide +kernel
theorem dX5_now_58 : decode cX5_now 58 = .ok (.aload_n 0, 1) := by decide +kernel
theorem dX5_now_59 : decode cX5_now 59 = .ok (.iconst 0, 1) := by decide +kernel
theorem dX5_now_60 : decode cX5_now 60 = .ok (.invokevirtual 87, 3) := by decide +kernel
theorem dX5_now_63 : decode cX5_now 63 = .ok (.ireturn, 1) := by decide +kernel
theorem dX5_now_64 : decode cX5_now 64 = .ok (.aload_n 0, 1) := by decide +kernel
theorem dX5_now_65 : decode cX5_now 65 = .ok (.iconst 1, 1) := by decide +kernel
theorem dX5_now_66 : decode cX5_now 66 = .ok (.invokevirtual 87, 3) := by decide +kernel
theorem dX5_now_69 : decode cX5_now 69 = .ok (.ireturn, 1) := by decide +kernel
theorem dX5_now_70 : decode cX5_now 70 = .ok (.aload_n 0, 1) := by decide +kernel
theorem dX5_now_71 : decode cX5_now 71 = .ok (.invokevirtual 90, 3) := by decide +kernel
theorem dX5_now_74 : decode cX5_now 74 = .ok (.ireturn, 1) := by decide +kernel
theorem dX5_now_75 : decode cX5_now 75 = .ok (.aload_n 0, 1) := by decide +kernel
theorem dX5_now_76 : decode cX5_now 76 = .ok (.iconst 3, 1) := by decide +kernel
theorem dX5_now_77 : decode cX5_now 77 = .ok (.invokevirtual 93, 3) := by decide +kernel
theorem dX5_now_80 : decode cX5_now 80 = .ok (.ireturn, 1) := by decide +kernel
theorem dX5_now_81 : decode cX5_now 81 = .ok (.aload_n 0, 1) := by decide +kernel
theorem dX5_now_82 : decode cX5_now 82 = .ok (.invokevirtual 96, 3) := by decide +kernel
theorem dX5_now_85 : decode cX5_now 85 = .ok (.ireturn, 1) := by decide +kernel
theorem dX5_now_86 : decode cX5_now 86 = .ok (.aload_n 0, 1) := by decide +kernel
theorem dX5_now_87 : decode cX5_now 87 = .ok (.ldc 44, 2) := by decide +kernel
theorem dX5_now_89 : decode cX5_now 89 = .ok (.invokevirtual 81, 3) := by decide +kernel
theorem dX5_now_92 : decode cX5_now 92 = .ok (.ireturn, 1) := by decide +kernel
theorem dX5_adds_0 : decode cX5_adds 0 = .ok (.aload_n 0, 1) := by decide +kernel
theorem dX5_adds_1 : decode cX5_adds 1 = .ok (.getfield 7, 3) := by decide +kernel
theorem dX5_adds_4 : decode cX5_adds 4 = .ok (.iconst 2, 1) := by decide +kernel
theorem dX5_adds_5 : decode cX5_adds 5 = .ok (.iaload, 1) := by decide +kernel
theorem dX5_adds_6 : decode cX5_adds 6 = .ok (.istore 6, 2) := by decide +kernel
theorem dX5_adds_8 : decode cX5_adds 8 = .ok (.aload_n 0, 1) := by decide +kernel
theorem dX5_adds_9 : decode cX5_adds 9 = .ok (.iload 6, 2) := by decide +kernel
theorem dX5_adds_11 : decode cX5_adds 11 = .ok (.iconst 0, 1) := by decide +kernel
theorem dX5_adds_12 : decode cX5_adds 12 = .ok (.iload_n 1, 1) := by decide +kernel
theorem dX5_adds_13 : decode cX5_adds 13 = .ok (.invokevirtual 99, 3) := by decide +kernel
theorem dX5_adds_16 : decode cX5_adds 16 = .ok (.aload_n 0, 1) := by decide +kernel
theorem dX5_adds_17 : decode cX5_adds 17 = .ok (.iload 6, 2) := by decide +kernel
theorem dX5_adds_19 : decode cX5_adds 19 = .ok (.iconst 1, 1) := by decide +kernel
theorem dX5_adds_20 : decode cX5_adds 20 = .ok (.iload_n 2, 1) := by decide +kernel
theorem dX5_adds_21 : decode cX5_adds 21 = .ok (.invokevirtual 99, 3) := by decide +kernel
theorem dX5_adds_24 : decode cX5_adds 24 = .ok (.aload_n 0, 1) := by decide +kernel
theorem dX5_adds_25 : decode cX5_adds 25 = .ok (.iload 6, 2) := by decide +kernel
theorem dX5_adds_27 : decode cX5_adds 27 = .ok (.iconst 2, 1) := by decide +kernel
theorem dX5_adds_28 : decode cX5_adds 28 = .ok (.iload_n 3, 1) := by decide +kernel
theorem dX5_adds_29 : decode cX5_adds 29 = .ok (.invokevirtual 99, 3) := by decide +kernel
theorem dX5_adds_32 : decode cX5_adds 32 = .ok (.aload_n 0, 1) := by decide +kernel
theorem dX5_adds_33 : decode cX5_adds 33 = .ok (.iload 6, 2) := by decide +kernel
theorem dX5_adds_35 : decode cX5_adds 35 = .ok (.iconst 3, 1) := by decide +kernel
theorem dX5_adds_36 : decode cX5_adds 36 = .ok (.iload 4, 2) := by decide +kernel
theorem dX5_adds_38 : decode cX5_adds 38 = .ok (.invokevirtual 99, 3) := by decide +kernel
theorem dX5_adds_41 : decode cX5_adds 41 = .ok (.aload_n 0, 1) := by decide +kernel
theorem dX5_adds_42 : decode cX5_adds 42 = .ok (.iload 6, 2) := by decide +kernel
theorem dX5_adds_44 : decode cX5_adds 44 = .ok (.iconst 4, 1) := by decide +kernel
theorem dX5_adds_45 : decode cX5_adds 45 = .ok (.iload 5, 2) := by decide +kernel
theorem dX5_adds_47 : decode cX5_adds 47 = .ok (.invokevirtual 99, 3) := by decide +kernel
theorem dX5_adds_50 : decode cX5_adds 50 = .ok (.aload_n 0, 1) := by decide +kernel
theorem dX5_adds_51 : decode cX5_adds 51 = .ok (.iload 6, 2) := by decide +kernel
theorem dX5_adds_53 : decode cX5_adds 53 = .ok (.iconst 5, 1) := by decide +kernel
theorem dX5_adds_54 : decode cX5_adds 54 = .ok (.iconst 0, 1) := by decide +kernel
theorem dX5_adds_55 : decode cX5_adds 55 = .ok (.invokevirtual 99, 3) := by decide +kernel
theorem dX5_adds_58 : decode cX5_adds 58 = .ok (.aload_n 0, 1) := by decide +kernel
theorem dX5_adds_59 : decode cX5_adds 59 = .ok (.getfield 7, 3) := by decide +kernel
theorem dX5_adds_62 : decode cX5_adds 62 = .ok (.iconst 2, 1) := by decide +kernel
theorem dX5_adds_63 : decode cX5_adds 63 = .ok (.dup2, 1) := by decide +kernel
theorem dX5_adds_64 : decode cX5_adds 64 = .ok (.iaload, 1) := by decide +kernel
theorem dX5_adds_65 : decode cX5_adds 65 = .ok (.iconst 1, 1) := by decide +kernel
theorem dX5_adds_66 : decode cX5_adds 66 = .ok (.iadd, 1) := by decide +kernel
theorem dX5_adds_67 : decode cX5_adds 67 = .ok (.iastore, 1) := by decide +kernel
theorem dX5_adds_68 : decode cX5_adds 68 = .ok (.return_, 1) := by decide +kernel
theorem dX5_sneezer_0 : decode cX5_sneezer 0 = .ok (.iload_n 1, 1) := by decide +kernel
theorem dX5_sneezer_1 : decode cX5_sneezer 1 = .ok (.invokestatic 103, 3) := by decide +kernel
theorem dX5_sneezer_4 : decode cX5_sneezer 4 = .ok (.ifCond .eq 10, 3) := by decide +kernel
theorem dX5_sneezer_7 : decode cX5_sneezer 7 = .ok (.iload_n 2, 1) := by decide +kernel
theorem dX5_sneezer_8 : decode cX5_sneezer 8 = .ok (.invokestatic 72, 3) := by decide +kernel
theorem dX5_sneezer_11 : decode cX5_sneezer 11 = .ok (.ifCond .ne 10, 3) := by decide +kernel
theorem dX5_sneezer_14 : decode cX5_sneezer 14 = .ok (.aload_n 0, 1) := by decide +kernel
theorem dX5_sneezer_15 : decode cX5_sneezer 15 = .ok (.ldc 44, 2) := by decide +kernel
theorem dX5_sneezer_17 : decode cX5_sneezer 17 = .ok (.invokevirtual 81, 3) := by decide +kernel
theorem dX5_sneezer_20 : decode cX5_sneezer 20 = .ok (.ireturn, 1) := by decide +kernel
theorem dX5_sneezer_21 : decode cX5_sneezer 21 = .ok (.aload_n 0, 1) := by decide +kernel
theorem dX5_sneezer_22 : decode cX5_sneezer 22 = .ok (.getfield 7, 3) := by decide +kernel
theorem dX5_sneezer_25 : decode cX5_sneezer 25 = .ok (.iconst 2, 1) := by decide +kernel
theorem dX5_sneezer_26 : decode cX5_sneezer 26 = .ok (.iaload, 1) := by decide +kernel
theorem dX5_sneezer_27 : decode cX5_sneezer 27 = .ok (.bipush 8, 2) := by decide +kernel
theorem dX5_sneezer_29 : decode cX5_sneezer 29 = .ok (.if_icmp .ne 10, 3) := by decide +kernel
theorem dX5_sneezer_32 : decode cX5_sneezer 32 = .ok (.aload_n 0, 1) := by decide +kernel
theorem dX5_sneezer_33 : decode cX5_sneezer 33 = .ok (.ldc 106, 2) := by decide +kernel
theorem dX5_sneezer_35 : decode cX5_sneezer 35 = .ok (.invokevirtual 81, 3) := by decide +kernel
theorem dX5_sneezer_38 : decode cX5_sneezer 38 = .ok (.ireturn, 1) := by decide +kernel
theorem dX5_sneezer_39 : decode cX5_sneezer 39 = .ok (.aload_n 0, 1) := by decide +kernel
theorem dX5_sneezer_40 : decode cX5_sneezer 40 = .ok (.iload_n 1, 1) := by decide +kernel
theorem dX5_sneezer_41 : decode cX5_sneezer 41 = .ok (.iload_n 2, 1) := by decide +kernel
theorem dX5_sneezer_42 : decode cX5_sneezer 42 = .ok (.iconst 1, 1) := by decide +kernel
theorem dX5_sneezer_43 : decode cX5_sneezer 43 = .ok (.bipush 20, 2) := by decide +kernel
theorem dX5_sneezer_45 : decode cX5_sneezer 45 = .ok (.iconst 0, 1) := by decide +kernel
theorem dX5_sneezer_46 : decode cX5_sneezer 46 = .ok (.invokevirtual 107, 3) := by decide +kernel
theorem dX5_sneezer_49 : decode cX5_sneezer 49 = .ok (.aload_n 0, 1) := by decide +kernel
theorem dX5_sneezer_50 : decode cX5_sneezer 50 = .ok (.getfield 7, 3) := by decide +kernel
theorem dX5_sneezer_53 : decode cX5_sneezer 53 = .ok (.iconst 2, 1) := by decide +kernel
theorem dX5_sneezer_54 : decode cX5_sneezer 54 = .ok (.iaload, 1) := by decide +kernel
theorem dX5_sneezer_55 : decode cX5_sneezer 55 = .ok (.iconst 1, 1) := by decide +kernel
theorem dX5_sneezer_56 : decode cX5_sneezer 56 = .ok (.isub, 1) := by decide +kernel
theorem dX5_sneezer_57 : decode cX5_sneezer 57 = .ok (.ireturn, 1) := by decide +kernel
theorem dX5_of_0 : decode cX5_of 0 = .ok (.aload_n 0, 1) := by decide +kernel
theorem dX5_of_1 : decode cX5_of 1 = .ok (.iload_n 1, 1) := by decide +kernel
theorem dX5_of_2 : decode cX5_of 2 = .ok (.invokevirtual 111, 3) := by decide +kernel
theorem dX5_of_5 : decode cX5_of 5 = .ok (.ifCond .eq 13, 3) := by decide +kernel
theorem dX5_of_8 : decode cX5_of 8 = .ok (.iload_n 2, 1) := by decide +kernel
theorem dX5_of_9 : decode cX5_of 9 = .ok (.iconst 0, 1) := by decide +kernel
theorem dX5_of_10 : decode cX5_of 10 = .ok (.bipush 9, 2) := by decide +kernel
theorem dX5_of_12 : decode cX5_of 12 = .ok (.invokestatic 45, 3) := by decide +kernel
theorem dX5_of_15 : decode cX5_of 15 = .ok (.ifCond .ne 10, 3) := by decide +kernel
theorem dX5_of_18 : decode cX5_of 18 = .ok (.aload_n 0, 1) := by decide +kernel
theorem dX5_of_19 : decode cX5_of 19 = .ok (.ldc 44, 2) := by decide +kernel
theorem dX5_of_21 : decode cX5_of 21 = .ok (.invokevirtual 81, 3) := by decide +kernel
theorem dX5_of_24 : decode cX5_of 24 = .ok (.ireturn, 1) := by decide +kernel
theorem dX5_of_25 : decode cX5_of 25 = .ok (.iload_n 2, 1) := by decide +kernel
theorem dX5_of_26 : decode cX5_of 26 = .ok (.tableswitch 54 6 9 #[30, 36, 42, 48], 30) := by decide +kernel
theorem dX5_of_56 : decode cX5_of 56 = .ok (.aload_n 0, 1) := by decide +kernel
theorem dX5_of_57 : decode cX5_of 57 = .ok (.iload_n 1, 1) := by decide +kernel
theorem dX5_of_58 : decode cX5_of 58 = .ok (.invokevirtual 114, 3) := by decide +kernel
theorem dX5_of_61 : decode cX5_of 61 = .ok (.ireturn, 1) := by decide +kernel
theorem dX5_of_62 : decode cX5_of 62 = .ok (.aload_n 0, 1) := by decide +kernel
theorem dX5_of_63 : decode cX5_of 63 = .ok (.iload_n 1, 1) := by decide +kernel
theorem dX5_of_64 : decode cX5_of 64 = .ok (.invokevirtual 64, 3) := by decide +kernel
theorem dX5_of_67 : decode cX5_of 67 = .ok (.ireturn, 1) := by decide +kernel
theorem dX5_of_68 : decode cX5_of 68 = .ok (.aload_n 0, 1) := by decide +kernel
theorem dX5_of_69 : decode cX5_of 69 = .ok (.iload_n 1, 1) := by decide +kernel
theorem dX5_of_70 : decode cX5_of 70 = .ok (.invokevirtual 117, 3) := by decide +kernel
theorem dX5_of_73 : decode cX5_of 73 = .ok (.ireturn, 1) := by decide +kernel
theorem dX5_of_74 : decode cX5_of 74 = .ok (.aload_n 0, 1) := by decide +kernel
theorem dX5_of_75 : decode cX5_of 75 = .ok (.iload_n 1, 1) := by decide +kernel
theorem dX5_of_76 : decode cX5_of 76 = .ok (.invokevirtual 120, 3) := by decide +kernel
theorem dX5_of_79 : decode cX5_of 79 = .ok (.ireturn, 1) := by decide +kernel
theorem dX5_of_80 : decode cX5_of 80 = .ok (.aload_n 0, 1) := by decide +kernel
theorem dX5_of_81 : decode cX5_of 81 = .ok (.iload_n 1, 1) := by decide +kernel
theorem dX5_of_82 : decode cX5_of 82 = .ok (.iload_n 2, 1) := by decide +kernel
theorem dX5_of_83 : decode cX5_of 83 = .ok (.invokevirtual 53, 3) := by decide +kernel
theorem dX5_of_86 : decode cX5_of 86 = .ok (.ireturn, 1) := by decide +kernel
theorem dX5_isPart_0 : decode cX5_isPart 0 = .ok (.iload_n 0, 1) := by decide +kernel
theorem dX5_isPart_1 : decode cX5_isPart 1 = .ok (.tableswitch 51 1 4 #[31, 36, 43, 43], 31) := by decide +kernel
theorem dX5_isPart_32 : decode cX5_isPart 32 = .ok (.iload_n 1, 1) := by decide +kernel
theorem dX5_isPart_33 : decode cX5_isPart 33 = .ok (.invokestatic 72, 3) := by decide +kernel
theorem dX5_isPart_36 : decode cX5_isPart 36 = .ok (.ireturn, 1) := by decide +kernel
theorem dX5_isPart_37 : decode cX5_isPart 37 = .ok (.iload_n 1, 1) := by decide +kernel
theorem dX5_isPart_38 : decode cX5_isPart 38 = .ok (.iconst 0, 1) := by decide +kernel
theorem dX5_isPart_39 : decode cX5_isPart 39 = .ok (.iconst 1, 1) := by decide +kernel
theorem dX5_isPart_40 : decode cX5_isPart 40 = .ok (.invokestatic 45, 3) := by decide +kernel
theorem dX5_isPart_43 : decode cX5_isPart 43 = .ok (.ireturn, 1) := by decide +kernel
theorem dX5_isPart_44 : decode cX5_isPart 44 = .ok (.iload_n 1, 1) := by decide +kernel
theorem dX5_isPart_45 : decode cX5_isPart 45 = .ok (.iconst 0, 1) := by decide +kernel
theorem dX5_isPart_46 : decode cX5_isPart 46 = .ok (.bipush 99, 2) := by decide +kernel
theorem dX5_isPart_48 : decode cX5_isPart 48 = .ok (.invokestatic 45, 3) := by decide +kernel
theorem dX5_isPart_51 : decode cX5_isPart 51 = .ok (.ireturn, 1) := by decide +kernel
theorem dX5_isPart_52 : decode cX5_isPart 52 = .ok (.iload_n 0, 1) := by decide +kernel
theorem dX5_isPart_53 : decode cX5_isPart 53 = .ok (.iconst 5, 1) := by decide +kernel
theorem dX5_isPart_54 : decode cX5_isPart 54 = .ok (.if_icmp .ne 18, 3) := by decide +kernel
theorem dX5_isPart_57 : decode cX5_isPart 57 = .ok (.iload_n 1, 1) := by decide +kernel
theorem dX5_isPart_58 : decode cX5_isPart 58 = .ok (.iconst 0, 1) := by decide +kernel
theorem dX5_isPart_59 : decode cX5_isPart 59 = .ok (.sipush 9999, 3) := by decide +kernel
theorem dX5_isPart_62 : decode cX5_isPart 62 = .ok (.invokestatic 45, 3) := by decide +kernel
theorem dX5_isPart_65 : decode cX5_isPart 65 = .ok (.ifCond .eq 7, 3) := by decide +kernel
theorem dX5_isPart_68 : decode cX5_isPart 68 = .ok (.iconst 1, 1) := by decide +kernel
theorem dX5_isPart_69 : decode cX5_isPart 69 = .ok (.goto 4, 3) := by decide +kernel
theorem dX5_isPart_72 : decode cX5_isPart 72 = .ok (.iconst 0, 1) := by decide +kernel
theorem dX5_isPart_73 : decode cX5_isPart 73 = .ok (.ireturn, 1) := by decide +kernel
theorem dX5_set_0 : decode cX5_set 0 = .ok (.aload_n 0, 1) := by decide +kernel
theorem dX5_set_1 : decode cX5_set 1 = .ok (.iload_n 1, 1) := by decide +kernel
theorem dX5_set_2 : decode cX5_set 2 = .ok (.invokevirtual 111, 3) := by decide +kernel
theorem dX5_set_5 : decode cX5_set 5 = .ok (.ifCond .eq 28, 3) := by decide +kernel
theorem dX5_set_8 : decode cX5_set 8 = .ok (.iload_n 2, 1) := by decide +kernel
theorem dX5_set_9 : decode cX5_set 9 = .ok (.iload_n 3, 1) := by decide +kernel
theorem dX5_set_10 : decode cX5_set 10 = .ok (.invokestatic 123, 3) := by decide +kernel
theorem dX5_set_13 : decode cX5_set 13 = .ok (.ifCond .eq 20, 3) := by decide +kernel
theorem dX5_set_16 : decode cX5_set 16 = .ok (.aload_n 0, 1) := by decide +kernel
theorem dX5_set_17 : decode cX5_set 17 = .ok (.bipush 39, 2) := by decide +kernel
theorem dX5_set_19 : decode cX5_set 19 = .ok (.bipush 6, 2) := by decide +kernel
theorem dX5_set_21 : decode cX5_set 21 = .ok (.iload_n 1, 1) := by decide +kernel
theorem dX5_set_22 : decode cX5_set 22 = .ok (.imul, 1) := by decide +kernel
theorem dX5_set_23 : decode cX5_set 23 = .ok (.iadd, 1) := by decide +kernel
theorem dX5_set_24 : decode cX5_set 24 = .ok (.iload_n 2, 1) := by decide +kernel
theorem dX5_set_25 : decode cX5_set 25 = .ok (.iadd, 1) := by decide +kernel
theorem dX5_set_26 : decode cX5_set 26 = .ok (.iload_n 3, 1) := by decide +kernel
theorem dX5_set_27 : decode cX5_set 27 = .ok (.invokevirtual 78, 3) := by decide +kernel
theorem dX5_set_30 : decode cX5_set 30 = .ok (.goto 9, 3) := by decide +kernel
theorem dX5_set_33 : decode cX5_set 33 = .ok (.aload_n 0, 1) := by decide +kernel
theorem dX5_set_34 : decode cX5_set 34 = .ok (.ldc 44, 2) := by decide +kernel
theorem dX5_set_36 : decode cX5_set 36 = .ok (.invokevirtual 81, 3) := by decide +kernel
theorem dX5_set_39 : decode cX5_set 39 = .ok (.ireturn, 1) := by decide +kernel
theorem dX5_turn_0 : decode cX5_turn 0 = .ok (.aload_n 0, 1) := by decide +kernel
theorem dX5_turn_1 : decode cX5_turn 1 = .ok (.iload_n 1, 1) := by decide +kernel
theorem dX5_turn_2 : decode cX5_turn 2 = .ok (.invokevirtual 111, 3) := by decide +kernel
theorem dX5_turn_5 : decode cX5_turn 5 = .ok (.ifCond .eq 25, 3) := by decide +kernel
theorem dX5_turn_8 : decode cX5_turn 8 = .ok (.iload_n 2, 1) := by decide +kernel
theorem dX5_turn_9 : decode cX5_turn 9 = .ok (.invokestatic 103, 3) := by decide +kernel
theorem dX5_turn_12 : decode cX5_turn 12 = .ok (.ifCond .eq 18, 3) := by decide +kernel
theorem dX5_turn_15 : decode cX5_turn 15 = .ok (.aload_n 0, 1) := by decide +kernel
theorem dX5_turn_16 : decode cX5_turn 16 = .ok (.bipush 39, 2) := by decide +kernel
theorem dX5_turn_18 : decode cX5_turn 18 = .ok (.bipush 6, 2) := by decide +kernel
theorem dX5_turn_20 : decode cX5_turn 20 = .ok (.iload_n 1, 1) := by decide +kernel
theorem dX5_turn_21 : decode cX5_turn 21 = .ok (.imul, 1) := by decide +kernel
theorem dX5_turn_22 : decode cX5_turn 22 = .ok (.iadd, 1) := by decide +kernel
theorem dX5_turn_23 : decode cX5_turn 23 = .ok (.iload_n 2, 1) := by decide +kernel
theorem dX5_turn_24 : decode cX5_turn 24 = .ok (.invokevirtual 78, 3) := by decide +kernel
theorem dX5_turn_27 : decode cX5_turn 27 = .ok (.goto 9, 3) := by decide +kernel
theorem dX5_turn_30 : decode cX5_turn 30 = .ok (.aload_n 0, 1) := by decide +kernel
theorem dX5_turn_31 : decode cX5_turn 31 = .ok (.ldc 44, 2) := by decide +kernel
theorem dX5_turn_33 : decode cX5_turn 33 = .ok (.invokevirtual 81, 3) := by decide +kernel
theorem dX5_turn_36 : decode cX5_turn 36 = .ok (.ireturn, 1) := by decide +kernel
theorem dX5_as_0 : decode cX5_as 0 = .ok (.aload_n 0, 1) := by decide +kernel
theorem dX5_as_1 : decode cX5_as 1 = .ok (.iload_n 1, 1) := by decide +kernel
theorem dX5_as_2 : decode cX5_as 2 = .ok (.invokevirtual 111, 3) := by decide +kernel
theorem dX5_as_5 : decode cX5_as 5 = .ok (.ifCond .eq 10, 3) := by decide +kernel
theorem dX5_as_8 : decode cX5_as 8 = .ok (.iload_n 2, 1) := by decide +kernel
theorem dX5_as_9 : decode cX5_as 9 = .ok (.invokestatic 103, 3) := by decide +kernel
theorem dX5_as_12 : decode cX5_as 12 = .ok (.ifCond .ne 10, 3) := by decide +kernel
theorem dX5_as_15 : decode cX5_as 15 = .ok (.aload_n 0, 1) := by decide +kernel
theorem dX5_as_16 : decode cX5_as 16 = .ok (.ldc 44, 2) := by decide +kernel
theorem dX5_as_18 : decode cX5_as 18 = .ok (.invokevirtual 81, 3) := by decide +kernel
theorem dX5_as_21 : decode cX5_as 21 = .ok (.ireturn, 1) := by decide +kernel
theorem dX5_as_22 : decode cX5_as 22 = .ok (.aload_n 0, 1) := by decide +kernel
theorem dX5_as_23 : decode cX5_as 23 = .ok (.iload_n 1, 1) := by decide +kernel
theorem dX5_as_24 : decode cX5_as 24 = .ok (.iconst 0, 1) := by decide +kernel
theorem dX5_as_25 : decode cX5_as 25 = .ok (.invokevirtual 53, 3) := by decide +kernel
theorem dX5_as_28 : decode cX5_as 28 = .ok (.istore_n 3, 1) := by decide +kernel
theorem dX5_as_29 : decode cX5_as 29 = .ok (.iload_n 2, 1) := by decide +kernel
theorem dX5_as_30 : decode cX5_as 30 = .ok (.ifCond .eq 28, 3) := by decide +kernel
theorem dX5_as_33 : decode cX5_as 33 = .ok (.iload_n 2, 1) := by decide +kernel
theorem dX5_as_34 : decode cX5_as 34 = .ok (.iload_n 3, 1) := by decide +kernel
theorem dX5_as_35 : decode cX5_as 35 = .ok (.if_icmp .eq 23, 3) := by decide +kernel
theorem dX5_as_38 : decode cX5_as 38 = .ok (.iload_n 2, 1) := by decide +kernel
theorem dX5_as_39 : decode cX5_as 39 = .ok (.iconst 1, 1) := by decide +kernel
theorem dX5_as_40 : decode cX5_as 40 = .ok (.if_icmp .ne 8, 3) := by decide +kernel
theorem dX5_as_43 : decode cX5_as 43 = .ok (.iload_n 3, 1) := by decide +kernel
theorem dX5_as_44 : decode cX5_as 44 = .ok (.iconst 4, 1) := by decide +kernel
theorem dX5_as_45 : decode cX5_as 45 = .ok (.if_icmp .eq 13, 3) := by decide +kernel
theorem dX5_as_48 : decode cX5_as 48 = .ok (.iload_n 2, 1) := by decide +kernel
theorem dX5_as_49 : decode cX5_as 49 = .ok (.iconst 2, 1) := by decide +kernel
theorem dX5_as_50 : decode cX5_as 50 = .ok (.if_icmp .ne 12, 3) := by decide +kernel
theorem dX5_as_53 : decode cX5_as 53 = .ok (.iload_n 3, 1) := by decide +kernel
theorem dX5_as_54 : decode cX5_as 54 = .ok (.iconst 5, 1) := by decide +kernel
theorem dX5_as_55 : decode cX5_as 55 = .ok (.if_icmp .ne 7, 3) := by decide +kernel
theorem dX5_as_58 : decode cX5_as 58 = .ok (.iconst 1, 1) := by decide +kernel
theorem dX5_as_59 : decode cX5_as 59 = .ok (.goto 4, 3) := by decide +kernel
theorem dX5_as_62 : decode cX5_as 62 = .ok (.iconst 0, 1) := by decide +kernel
theorem dX5_as_63 : decode cX5_as 63 = .ok (.istore 4, 2) := by decide +kernel
theorem dX5_as_65 : decode cX5_as 65 = .ok (.iload 4, 2) := by decide +kernel
theorem dX5_as_67 : decode cX5_as 67 = .ok (.ifCond .eq 12, 3) := by decide +kernel
theorem dX5_as_70 : decode cX5_as 70 = .ok (.aload_n 0, 1) := by decide +kernel
theorem dX5_as_71 : decode cX5_as 71 = .ok (.iload_n 1, 1) := by decide +kernel
theorem dX5_as_72 : decode cX5_as 72 = .ok (.iconst 3, 1) := by decide +kernel
theorem dX5_as_73 : decode cX5_as 73 = .ok (.invokevirtual 53, 3) := by decide +kernel
theorem dX5_as_76 : decode cX5_as 76 = .ok (.goto 9, 3) := by decide +kernel
theorem dX5_as_79 : decode cX5_as 79 = .ok (.aload_n 0, 1) := by decide +kernel
theorem dX5_as_80 : decode cX5_as 80 = .ok (.ldc 127, 2) := by decide +kernel
theorem dX5_as_82 : decode cX5_as 82 = .ok (.invokevirtual 81, 3) := by decide +kernel
theorem dX5_as_85 : decode cX5_as 85 = .ok (.ireturn, 1) := by decide +kernel
theorem dX5_burns_0 : decode cX5_burns 0 = .ok (.aload_n 0, 1) := by decide +kernel
theorem dX5_burns_1 : decode cX5_burns 1 = .ok (.iload_n 1, 1) := by decide +kernel
theorem dX5_burns_2 : decode cX5_burns 2 = .ok (.iconst 0, 1) := by decide +kernel
theorem dX5_burns_3 : decode cX5_burns 3 = .ok (.invokevirtual 49, 3) := by decide +kernel
theorem dX5_burns_6 : decode cX5_burns 6 = .ok (.ifCond .le 38, 3) := by decide +kernel
theorem dX5_burns_9 : decode cX5_burns 9 = .ok (.aload_n 0, 1) := by decide +kernel
theorem dX5_burns_10 : decode cX5_burns 10 = .ok (.iload_n 1, 1) := by decide +kernel
theorem dX5_burns_11 : decode cX5_burns 11 = .ok (.iconst 2, 1) := by decide +kernel
theorem dX5_burns_12 : decode cX5_burns 12 = .ok (.aload_n 0, 1) := by decide +kernel
theorem dX5_burns_13 : decode cX5_burns 13 = .ok (.iload_n 1, 1) := by decide +kernel
theorem dX5_burns_14 : decode cX5_burns 14 = .ok (.iconst 2, 1) := by decide +kernel
theorem dX5_burns_15 : decode cX5_burns 15 = .ok (.invokevirtual 49, 3) := by decide +kernel
theorem dX5_burns_18 : decode cX5_burns 18 = .ok (.iconst 1, 1) := by decide +kernel
theorem dX5_burns_19 : decode cX5_burns 19 = .ok (.iadd, 1) := by decide +kernel
theorem dX5_burns_20 : decode cX5_burns 20 = .ok (.iconst 0, 1) := by decide +kernel
theorem dX5_burns_21 : decode cX5_burns 21 = .ok (.sipush 9999, 3) := by decide +kernel
theorem dX5_burns_24 : decode cX5_burns 24 = .ok (.invokestatic 56, 3) := by decide +kernel
theorem dX5_burns_27 : decode cX5_burns 27 = .ok (.invokevirtual 128, 3) := by decide +kernel
theorem dX5_burns_30 : decode cX5_burns 30 = .ok (.aload_n 0, 1) := by decide +kernel
theorem dX5_burns_31 : decode cX5_burns 31 = .ok (.iload_n 1, 1) := by decide +kernel
theorem dX5_burns_32 : decode cX5_burns 32 = .ok (.iconst 0, 1) := by decide +kernel
theorem dX5_burns_33 : decode cX5_burns 33 = .ok (.aload_n 0, 1) := by decide +kernel
theorem dX5_burns_34 : decode cX5_burns 34 = .ok (.iload_n 1, 1) := by decide +kernel
theorem dX5_burns_35 : decode cX5_burns 35 = .ok (.iconst 0, 1) := by decide +kernel
theorem dX5_burns_36 : decode cX5_burns 36 = .ok (.invokevirtual 49, 3) := by decide +kernel
theorem dX5_burns_39 : decode cX5_burns 39 = .ok (.iconst 1, 1) := by decide +kernel
theorem dX5_burns_40 : decode cX5_burns 40 = .ok (.isub, 1) := by decide +kernel
theorem dX5_burns_41 : decode cX5_burns 41 = .ok (.invokevirtual 128, 3) := by decide +kernel
theorem dX5_burns_44 : decode cX5_burns 44 = .ok (.return_, 1) := by decide +kernel
theorem dX5_lights_0 : decode cX5_lights 0 = .ok (.aload_n 0, 1) := by decide +kernel
theorem dX5_lights_1 : decode cX5_lights 1 = .ok (.iload_n 1, 1) := by decide +kernel
theorem dX5_lights_2 : decode cX5_lights 2 = .ok (.iconst 2, 1) := by decide +kernel
theorem dX5_lights_3 : decode cX5_lights 3 = .ok (.invokevirtual 53, 3) := by decide +kernel
theorem dX5_lights_6 : decode cX5_lights 6 = .ok (.iconst 1, 1) := by decide +kernel
theorem dX5_lights_7 : decode cX5_lights 7 = .ok (.if_icmp .ne 7, 3) := by decide +kernel
theorem dX5_lights_10 : decode cX5_lights 10 = .ok (.iconst 1, 1) := by decide +kernel
theorem dX5_lights_11 : decode cX5_lights 11 = .ok (.goto 4, 3) := by decide +kernel
theorem dX5_lights_14 : decode cX5_lights 14 = .ok (.iconst (-1), 1) := by decide +kernel
theorem dX5_lights_15 : decode cX5_lights 15 = .ok (.istore_n 2, 1) := by decide +kernel
theorem dX5_lights_16 : decode cX5_lights 16 = .ok (.iconst 5, 1) := by decide +kernel
theorem dX5_lights_17 : decode cX5_lights 17 = .ok (.aload_n 0, 1) := by decide +kernel
theorem dX5_lights_18 : decode cX5_lights 18 = .ok (.iload_n 1, 1) := by decide +kernel
theorem dX5_lights_19 : decode cX5_lights 19 = .ok (.iconst 3, 1) := by decide +kernel
theorem dX5_lights_20 : decode cX5_lights 20 = .ok (.invokevirtual 53, 3) := by decide +kernel
theorem dX5_lights_23 : decode cX5_lights 23 = .ok (.bipush 10, 2) := by decide +kernel
theorem dX5_lights_25 : decode cX5_lights 25 = .ok (.idiv, 1) := by decide +kernel
theorem dX5_lights_26 : decode cX5_lights 26 = .ok (.iadd, 1) := by decide +kernel
theorem dX5_lights_27 : decode cX5_lights 27 = .ok (.istore_n 3, 1) := by decide +kernel
theorem dX5_lights_28 : decode cX5_lights 28 = .ok (.aload_n 0, 1) := by decide +kernel
theorem dX5_lights_29 : decode cX5_lights 29 = .ok (.iload_n 1, 1) := by decide +kernel
theorem dX5_lights_30 : decode cX5_lights 30 = .ok (.iconst 1, 1) := by decide +kernel
theorem dX5_lights_31 : decode cX5_lights 31 = .ok (.invokevirtual 53, 3) := by decide +kernel
theorem dX5_lights_34 : decode cX5_lights 34 = .ok (.istore 4, 2) := by decide +kernel
theorem dX5_lights_36 : decode cX5_lights 36 = .ok (.aload_n 0, 1) := by decide +kernel
theorem dX5_lights_37 : decode cX5_lights 37 = .ok (.iload_n 1, 1) := by decide +kernel
theorem dX5_lights_38 : decode cX5_lights 38 = .ok (.invokevirtual 117, 3) := by decide +kernel
theorem dX5_lights_41 : decode cX5_lights 41 = .ok (.istore 5, 2) := by decide +kernel
theorem dX5_lights_43 : decode cX5_lights 43 = .ok (.iload 5, 2) := by decide +kernel
theorem dX5_lights_45 : decode cX5_lights 45 = .ok (.ifCond .le 53, 3) := by decide +kernel
theorem dX5_lights_48 : decode cX5_lights 48 = .ok (.iload 4, 2) := by decide +kernel
theorem dX5_lights_50 : decode cX5_lights 50 = .ok (.iload_n 2, 1) := by decide +kernel
theorem dX5_lights_51 : decode cX5_lights 51 = .ok (.iadd, 1) := by decide +kernel
theorem dX5_lights_52 : decode cX5_lights 52 = .ok (.istore 4, 2) := by decide +kernel
theorem dX5_lights_54 : decode cX5_lights 54 = .ok (.iload 4, 2) := by decide +kernel
theorem dX5_lights_56 : decode cX5_lights 56 = .ok (.invokestatic 72, 3) := by decide +kernel
theorem dX5_lights_59 : decode cX5_lights 59 = .ok (.ifCond .eq 33, 3) := by decide +kernel
theorem dX5_lights_62 : decode cX5_lights 62 = .ok (.aload_n 0, 1) := by decide +kernel
theorem dX5_lights_63 : decode cX5_lights 63 = .ok (.iload 4, 2) := by decide +kernel
theorem dX5_lights_65 : decode cX5_lights 65 = .ok (.iconst 1, 1) := by decide +kernel
theorem dX5_lights_66 : decode cX5_lights 66 = .ok (.invokevirtual 49, 3) := by decide +kernel
theorem dX5_lights_69 : decode cX5_lights 69 = .ok (.iconst 1, 1) := by decide +kernel
theorem dX5_lights_70 : decode cX5_lights 70 = .ok (.if_icmp .ne 22, 3) := by decide +kernel
theorem dX5_lights_73 : decode cX5_lights 73 = .ok (.iload_n 3, 1) := by decide +kernel
theorem dX5_lights_74 : decode cX5_lights 74 = .ok (.aload_n 0, 1) := by decide +kernel
theorem dX5_lights_75 : decode cX5_lights 75 = .ok (.iload 4, 2) := by decide +kernel
theorem dX5_lights_77 : decode cX5_lights 77 = .ok (.iconst 0, 1) := by decide +kernel
theorem dX5_lights_78 : decode cX5_lights 78 = .ok (.invokevirtual 49, 3) := by decide +kernel
theorem dX5_lights_81 : decode cX5_lights 81 = .ok (.if_icmp .le 11, 3) := by decide +kernel
theorem dX5_lights_84 : decode cX5_lights 84 = .ok (.aload_n 0, 1) := by decide +kernel
theorem dX5_lights_85 : decode cX5_lights 85 = .ok (.iload 4, 2) := by decide +kernel
theorem dX5_lights_87 : decode cX5_lights 87 = .ok (.iconst 0, 1) := by decide +kernel
theorem dX5_lights_88 : decode cX5_lights 88 = .ok (.iload_n 3, 1) := by decide +kernel
theorem dX5_lights_89 : decode cX5_lights 89 = .ok (.invokevirtual 128, 3) := by decide +kernel
theorem dX5_lights_92 : decode cX5_lights 92 = .ok (.iinc 5 (-1), 3) := by decide +kernel
theorem dX5_lights_95 : decode cX5_lights 95 = .ok (.goto (-52), 3) := by decide +kernel
theorem dX5_lights_98 : decode cX5_lights 98 = .ok (.return_, 1) := by decide +kernel
theorem dX5_catches_0 : decode cX5_catches 0 = .ok (.iconst 0, 1) := by decide +kernel
theorem dX5_catches_1 : decode cX5_catches 1 = .ok (.istore_n 2, 1) := by decide +kernel
theorem dX5_catches_2 : decode cX5_catches 2 = .ok (.iload_n 2, 1) := by decide +kernel
theorem dX5_catches_3 : decode cX5_catches 3 = .ok (.aload_n 0, 1) := by decide +kernel
theorem dX5_catches_4 : decode cX5_catches 4 = .ok (.getfield 7, 3) := by decide +kernel
theorem dX5_catches_7 : decode cX5_catches 7 = .ok (.iconst 2, 1) := by decide +kernel
theorem dX5_catches_8 : decode cX5_catches 8 = .ok (.iaload, 1) := by decide +kernel
theorem dX5_catches_9 : decode cX5_catches 9 = .ok (.if_icmp .ge 68, 3) := by decide +kernel
theorem dX5_catches_12 : decode cX5_catches 12 = .ok (.aload_n 0, 1) := by decide +kernel
theorem dX5_catches_13 : decode cX5_catches 13 = .ok (.iload_n 2, 1) := by decide +kernel
theorem dX5_catches_14 : decode cX5_catches 14 = .ok (.iconst 1, 1) := by decide +kernel
theorem dX5_catches_15 : decode cX5_catches 15 = .ok (.invokevirtual 53, 3) := by decide +kernel
theorem dX5_catches_18 : decode cX5_catches 18 = .ok (.aload_n 0, 1) := by decide +kernel
theorem dX5_catches_19 : decode cX5_catches 19 = .ok (.iload_n 1, 1) := by decide +kernel
theorem dX5_catches_20 : decode cX5_catches 20 = .ok (.iconst 1, 1) := by decide +kernel
theorem dX5_catches_21 : decode cX5_catches 21 = .ok (.invokevirtual 53, 3) := by decide +kernel
theorem dX5_catches_24 : decode cX5_catches 24 = .ok (.isub, 1) := by decide +kernel
theorem dX5_catches_25 : decode cX5_catches 25 = .ok (.istore_n 3, 1) := by decide +kernel
theorem dX5_catches_26 : decode cX5_catches 26 = .ok (.iload_n 2, 1) := by decide +kernel
theorem dX5_catches_27 : decode cX5_catches 27 = .ok (.iload_n 1, 1) := by decide +kernel
theorem dX5_catches_28 : decode cX5_catches 28 = .ok (.if_icmp .eq 43, 3) := by decide +kernel
theorem dX5_catches_31 : decode cX5_catches 31 = .ok (.iload_n 3, 1) := by decide +kernel
theorem dX5_catches_32 : decode cX5_catches 32 = .ok (.iconst (-1), 1) := by decide +kernel
theorem dX5_catches_33 : decode cX5_catches 33 = .ok (.iconst 1, 1) := by decide +kernel
theorem dX5_catches_34 : decode cX5_catches 34 = .ok (.invokestatic 45, 3) := by decide +kernel
theorem dX5_catches_37 : decode cX5_catches 37 = .ok (.ifCond .eq 34, 3) := by decide +kernel
theorem dX5_catches_40 : decode cX5_catches 40 = .ok (.aload_n 0, 1) := by decide +kernel
theorem dX5_catches_41 : decode cX5_catches 41 = .ok (.iload_n 2, 1) := by decide +kernel
theorem dX5_catches_42 : decode cX5_catches 42 = .ok (.iconst 0, 1) := by decide +kernel
theorem dX5_catches_43 : decode cX5_catches 43 = .ok (.invokevirtual 53, 3) := by decide +kernel
theorem dX5_catches_46 : decode cX5_catches 46 = .ok (.iconst 3, 1) := by decide +kernel
theorem dX5_catches_47 : decode cX5_catches 47 = .ok (.if_icmp .eq 24, 3) := by decide +kernel
theorem dX5_catches_50 : decode cX5_catches 50 = .ok (.aload_n 0, 1) := by decide +kernel
theorem dX5_catches_51 : decode cX5_catches 51 = .ok (.iload_n 2, 1) := by decide +kernel
theorem dX5_catches_52 : decode cX5_catches 52 = .ok (.iconst 3, 1) := by decide +kernel
theorem dX5_catches_53 : decode cX5_catches 53 = .ok (.aload_n 0, 1) := by decide +kernel
theorem dX5_catches_54 : decode cX5_catches 54 = .ok (.iload_n 2, 1) := by decide +kernel
theorem dX5_catches_55 : decode cX5_catches 55 = .ok (.iconst 3, 1) := by decide +kernel
theorem dX5_catches_56 : decode cX5_catches 56 = .ok (.invokevirtual 53, 3) := by decide +kernel
theorem dX5_catches_59 : decode cX5_catches 59 = .ok (.bipush 6, 2) := by decide +kernel
theorem dX5_catches_61 : decode cX5_catches 61 = .ok (.iadd, 1) := by decide +kernel
theorem dX5_catches_62 : decode cX5_catches 62 = .ok (.iconst 0, 1) := by decide +kernel
theorem dX5_catches_63 : decode cX5_catches 63 = .ok (.bipush 99, 2) := by decide +kernel
theorem dX5_catches_65 : decode cX5_catches 65 = .ok (.invokestatic 56, 3) := by decide +kernel
theorem dX5_catches_68 : decode cX5_catches 68 = .ok (.invokevirtual 99, 3) := by decide +kernel
theorem dX5_catches_71 : decode cX5_catches 71 = .ok (.iinc 2 1, 3) := by decide +kernel
theorem dX5_catches_74 : decode cX5_catches 74 = .ok (.goto (-72), 3) := by decide +kernel
theorem dX5_catches_77 : decode cX5_catches 77 = .ok (.return_, 1) := by decide +kernel
theorem dX5_goesOff_0 : decode cX5_goesOff 0 = .ok (.aload_n 0, 1) := by decide +kernel
theorem dX5_goesOff_1 : decode cX5_goesOff 1 = .ok (.iload_n 1, 1) := by decide +kernel
theorem dX5_goesOff_2 : decode cX5_goesOff 2 = .ok (.iconst 4, 1) := by decide +kernel
theorem dX5_goesOff_3 : decode cX5_goesOff 3 = .ok (.iconst 0, 1) := by decide +kernel
theorem dX5_goesOff_4 : decode cX5_goesOff 4 = .ok (.invokevirtual 99, 3) := by decide +kernel
theorem dX5_goesOff_7 : decode cX5_goesOff 7 = .ok (.aload_n 0, 1) := by decide +kernel
theorem dX5_goesOff_8 : decode cX5_goesOff 8 = .ok (.iload_n 1, 1) := by decide +kernel
theorem dX5_goesOff_9 : decode cX5_goesOff 9 = .ok (.iconst 5, 1) := by decide +kernel
theorem dX5_goesOff_10 : decode cX5_goesOff 10 = .ok (.aload_n 0, 1) := by decide +kernel
theorem dX5_goesOff_11 : decode cX5_goesOff 11 = .ok (.iload_n 1, 1) := by decide +kernel
theorem dX5_goesOff_12 : decode cX5_goesOff 12 = .ok (.iconst 5, 1) := by decide +kernel
theorem dX5_goesOff_13 : decode cX5_goesOff 13 = .ok (.invokevirtual 53, 3) := by decide +kernel
theorem dX5_goesOff_16 : decode cX5_goesOff 16 = .ok (.iconst 1, 1) := by decide +kernel
theorem dX5_goesOff_17 : decode cX5_goesOff 17 = .ok (.iadd, 1) := by decide +kernel
theorem dX5_goesOff_18 : decode cX5_goesOff 18 = .ok (.iconst 0, 1) := by decide +kernel
theorem dX5_goesOff_19 : decode cX5_goesOff 19 = .ok (.sipush 9999, 3) := by decide +kernel
theorem dX5_goesOff_22 : decode cX5_goesOff 22 = .ok (.invokestatic 56, 3) := by decide +kernel
theorem dX5_goesOff_25 : decode cX5_goesOff 25 = .ok (.invokevirtual 99, 3) := by decide +kernel
theorem dX5_goesOff_28 : decode cX5_goesOff 28 = .ok (.aload_n 0, 1) := by decide +kernel
theorem dX5_goesOff_29 : decode cX5_goesOff 29 = .ok (.iload_n 1, 1) := by decide +kernel
theorem dX5_goesOff_30 : decode cX5_goesOff 30 = .ok (.invokevirtual 131, 3) := by decide +kernel
theorem dX5_goesOff_33 : decode cX5_goesOff 33 = .ok (.aload_n 0, 1) := by decide +kernel
theorem dX5_goesOff_34 : decode cX5_goesOff 34 = .ok (.iload_n 1, 1) := by decide +kernel
theorem dX5_goesOff_35 : decode cX5_goesOff 35 = .ok (.invokevirtual 135, 3) := by decide +kernel
theorem dX5_goesOff_38 : decode cX5_goesOff 38 = .ok (.return_, 1) := by decide +kernel
theorem dX5_oneMinute_0 : decode cX5_oneMinute 0 = .ok (.iconst 0, 1) := by decide +kernel
theorem dX5_oneMinute_1 : decode cX5_oneMinute 1 = .ok (.istore_n 1, 1) := by decide +kernel
theorem dX5_oneMinute_2 : decode cX5_oneMinute 2 = .ok (.iload_n 1, 1) := by decide +kernel
theorem dX5_oneMinute_3 : decode cX5_oneMinute 3 = .ok (.bipush 12, 2) := by decide +kernel
theorem dX5_oneMinute_5 : decode cX5_oneMinute 5 = .ok (.if_icmp .ge 14, 3) := by decide +kernel
theorem dX5_oneMinute_8 : decode cX5_oneMinute 8 = .ok (.aload_n 0, 1) := by decide +kernel
theorem dX5_oneMinute_9 : decode cX5_oneMinute 9 = .ok (.iload_n 1, 1) := by decide +kernel
theorem dX5_oneMinute_10 : decode cX5_oneMinute 10 = .ok (.invokevirtual 138, 3) := by decide +kernel
theorem dX5_oneMinute_13 : decode cX5_oneMinute 13 = .ok (.iinc 1 1, 3) := by decide +kernel
theorem dX5_oneMinute_16 : decode cX5_oneMinute 16 = .ok (.goto (-14), 3) := by decide +kernel
theorem dX5_oneMinute_19 : decode cX5_oneMinute 19 = .ok (.iconst 0, 1) := by decide +kernel
theorem dX5_oneMinute_20 : decode cX5_oneMinute 20 = .ok (.istore_n 1, 1) := by decide +kernel
theorem dX5_oneMinute_21 : decode cX5_oneMinute 21 = .ok (.iload_n 1, 1) := by decide +kernel
theorem dX5_oneMinute_22 : decode cX5_oneMinute 22 = .ok (.aload_n 0, 1) := by decide +kernel
theorem dX5_oneMinute_23 : decode cX5_oneMinute 23 = .ok (.getfield 7, 3) := by decide +kernel
theorem dX5_oneMinute_26 : decode cX5_oneMinute 26 = .ok (.iconst 2, 1) := by decide +kernel
theorem dX5_oneMinute_27 : decode cX5_oneMinute 27 = .ok (.iaload, 1) := by decide +kernel
theorem dX5_oneMinute_28 : decode cX5_oneMinute 28 = .ok (.if_icmp .ge 33, 3) := by decide +kernel
theorem dX5_oneMinute_31 : decode cX5_oneMinute 31 = .ok (.aload_n 0, 1) := by decide +kernel
theorem dX5_oneMinute_32 : decode cX5_oneMinute 32 = .ok (.iload_n 1, 1) := by decide +kernel
theorem dX5_oneMinute_33 : decode cX5_oneMinute 33 = .ok (.iconst 4, 1) := by decide +kernel
theorem dX5_oneMinute_34 : decode cX5_oneMinute 34 = .ok (.aload_n 0, 1) := by decide +kernel
theorem dX5_oneMinute_35 : decode cX5_oneMinute 35 = .ok (.iload_n 1, 1) := by decide +kernel
theorem dX5_oneMinute_36 : decode cX5_oneMinute 36 = .ok (.iconst 4, 1) := by decide +kernel
theorem dX5_oneMinute_37 : decode cX5_oneMinute 37 = .ok (.invokevirtual 53, 3) := by decide +kernel
theorem dX5_oneMinute_40 : decode cX5_oneMinute 40 = .ok (.aload_n 0, 1) := by decide +kernel
theorem dX5_oneMinute_41 : decode cX5_oneMinute 41 = .ok (.iload_n 1, 1) := by decide +kernel
theorem dX5_oneMinute_42 : decode cX5_oneMinute 42 = .ok (.invokevirtual 114, 3) := by decide +kernel
theorem dX5_oneMinute_45 : decode cX5_oneMinute 45 = .ok (.iadd, 1) := by decide +kernel
theorem dX5_oneMinute_46 : decode cX5_oneMinute 46 = .ok (.iconst 0, 1) := by decide +kernel
theorem dX5_oneMinute_47 : decode cX5_oneMinute 47 = .ok (.bipush 99, 2) := by decide +kernel
theorem dX5_oneMinute_49 : decode cX5_oneMinute 49 = .ok (.invokestatic 56, 3) := by decide +kernel
theorem dX5_oneMinute_52 : decode cX5_oneMinute 52 = .ok (.invokevirtual 99, 3) := by decide +kernel
theorem dX5_oneMinute_55 : decode cX5_oneMinute 55 = .ok (.iinc 1 1, 3) := by decide +kernel
theorem dX5_oneMinute_58 : decode cX5_oneMinute 58 = .ok (.goto (-37), 3) := by decide +kernel
theorem dX5_oneMinute_61 : decode cX5_oneMinute 61 = .ok (.aload_n 0, 1) := by decide +kernel
theorem dX5_oneMinute_62 : decode cX5_oneMinute 62 = .ok (.invokevirtual 90, 3) := by decide +kernel
theorem dX5_oneMinute_65 : decode cX5_oneMinute 65 = .ok (.istore_n 1, 1) := by decide +kernel
theorem dX5_oneMinute_66 : decode cX5_oneMinute 66 = .ok (.aload_n 0, 1) := by decide +kernel
theorem dX5_oneMinute_67 : decode cX5_oneMinute 67 = .ok (.iload_n 1, 1) := by decide +kernel
theorem dX5_oneMinute_68 : decode cX5_oneMinute 68 = .ok (.putfield 141, 3) := by decide +kernel
theorem dX5_oneMinute_71 : decode cX5_oneMinute 71 = .ok (.iconst 0, 1) := by decide +kernel
theorem dX5_oneMinute_72 : decode cX5_oneMinute 72 = .ok (.istore_n 2, 1) := by decide +kernel
theorem dX5_oneMinute_73 : decode cX5_oneMinute 73 = .ok (.iload_n 2, 1) := by decide +kernel
theorem dX5_oneMinute_74 : decode cX5_oneMinute 74 = .ok (.aload_n 0, 1) := by decide +kernel
theorem dX5_oneMinute_75 : decode cX5_oneMinute 75 = .ok (.getfield 7, 3) := by decide +kernel
theorem dX5_oneMinute_78 : decode cX5_oneMinute 78 = .ok (.iconst 2, 1) := by decide +kernel
theorem dX5_oneMinute_79 : decode cX5_oneMinute 79 = .ok (.iaload, 1) := by decide +kernel
theorem dX5_oneMinute_80 : decode cX5_oneMinute 80 = .ok (.if_icmp .ge 23, 3) := by decide +kernel
theorem dX5_oneMinute_83 : decode cX5_oneMinute 83 = .ok (.iload_n 1, 1) := by decide +kernel
theorem dX5_oneMinute_84 : decode cX5_oneMinute 84 = .ok (.iload_n 2, 1) := by decide +kernel
theorem dX5_oneMinute_85 : decode cX5_oneMinute 85 = .ok (.ishr, 1) := by decide +kernel
theorem dX5_oneMinute_86 : decode cX5_oneMinute 86 = .ok (.iconst 1, 1) := by decide +kernel
theorem dX5_oneMinute_87 : decode cX5_oneMinute 87 = .ok (.iand, 1) := by decide +kernel
theorem dX5_oneMinute_88 : decode cX5_oneMinute 88 = .ok (.iconst 1, 1) := by decide +kernel
theorem dX5_oneMinute_89 : decode cX5_oneMinute 89 = .ok (.if_icmp .ne 8, 3) := by decide +kernel
theorem dX5_oneMinute_92 : decode cX5_oneMinute 92 = .ok (.aload_n 0, 1) := by decide +kernel
theorem dX5_oneMinute_93 : decode cX5_oneMinute 93 = .ok (.iload_n 2, 1) := by decide +kernel
theorem dX5_oneMinute_94 : decode cX5_oneMinute 94 = .ok (.invokevirtual 145, 3) := by decide +kernel
theorem dX5_oneMinute_97 : decode cX5_oneMinute 97 = .ok (.iinc 2 1, 3) := by decide +kernel
theorem dX5_oneMinute_100 : decode cX5_oneMinute 100 = .ok (.goto (-27), 3) := by decide +kernel
theorem dX5_oneMinute_103 : decode cX5_oneMinute 103 = .ok (.iconst 0, 1) := by decide +kernel
theorem dX5_oneMinute_104 : decode cX5_oneMinute 104 = .ok (.istore_n 2, 1) := by decide +kernel
theorem dX5_oneMinute_105 : decode cX5_oneMinute 105 = .ok (.iload_n 2, 1) := by decide +kernel
theorem dX5_oneMinute_106 : decode cX5_oneMinute 106 = .ok (.aload_n 0, 1) := by decide +kernel
theorem dX5_oneMinute_107 : decode cX5_oneMinute 107 = .ok (.getfield 7, 3) := by decide +kernel
theorem dX5_oneMinute_110 : decode cX5_oneMinute 110 = .ok (.iconst 2, 1) := by decide +kernel
theorem dX5_oneMinute_111 : decode cX5_oneMinute 111 = .ok (.iaload, 1) := by decide +kernel
theorem dX5_oneMinute_112 : decode cX5_oneMinute 112 = .ok (.if_icmp .ge 33, 3) := by decide +kernel
theorem dX5_oneMinute_115 : decode cX5_oneMinute 115 = .ok (.aload_n 0, 1) := by decide +kernel
theorem dX5_oneMinute_116 : decode cX5_oneMinute 116 = .ok (.iload_n 2, 1) := by decide +kernel
theorem dX5_oneMinute_117 : decode cX5_oneMinute 117 = .ok (.iconst 3, 1) := by decide +kernel
theorem dX5_oneMinute_118 : decode cX5_oneMinute 118 = .ok (.aload_n 0, 1) := by decide +kernel
theorem dX5_oneMinute_119 : decode cX5_oneMinute 119 = .ok (.iload_n 2, 1) := by decide +kernel
theorem dX5_oneMinute_120 : decode cX5_oneMinute 120 = .ok (.iconst 3, 1) := by decide +kernel
