theorem dX6_init_41 : decode cX6_init 41 = .ok (.putfield 22, 3) := by decide +kernel
theorem dX6_init_44 : decode cX6_init 44 = .ok (.aload_n 0, 1) := by decide +kernel
theorem dX6_init_45 : decode cX6_init 45 = .ok (.iconst 4, 1) := by decide +kernel
theorem dX6_init_46 : decode cX6_init 46 = .ok (.newarray .int, 2) := by decide +kernel
theorem dX6_init_48 : decode cX6_init 48 = .ok (.putfield 25, 3) := by decide +kernel
theorem dX6_init_51 : decode cX6_init 51 = .ok (.aload_n 0, 1) := by decide +kernel
theorem dX6_init_52 : decode cX6_init 52 = .ok (.iconst 4, 1) := by decide +kernel
theorem dX6_init_53 : decode cX6_init 53 = .ok (.newarray .int, 2) := by decide +kernel
theorem dX6_init_55 : decode cX6_init 55 = .ok (.putfield 28, 3) := by decide +kernel
theorem dX6_init_58 : decode cX6_init 58 = .ok (.aload_n 0, 1) := by decide +kernel
theorem dX6_init_59 : decode cX6_init 59 = .ok (.sipush 160, 3) := by decide +kernel
theorem dX6_init_62 : decode cX6_init 62 = .ok (.newarray .long, 2) := by decide +kernel
theorem dX6_init_64 : decode cX6_init 64 = .ok (.putfield 31, 3) := by decide +kernel
theorem dX6_init_67 : decode cX6_init 67 = .ok (.aload_n 0, 1) := by decide +kernel
theorem dX6_init_68 : decode cX6_init 68 = .ok (.getfield 9, 3) := by decide +kernel
theorem dX6_init_71 : decode cX6_init 71 = .ok (.iconst 1, 1) := by decide +kernel
theorem dX6_init_72 : decode cX6_init 72 = .ok (.sipush 500, 3) := by decide +kernel
theorem dX6_init_75 : decode cX6_init 75 = .ok (.iastore, 1) := by decide +kernel
theorem dX6_init_76 : decode cX6_init 76 = .ok (.aload_n 0, 1) := by decide +kernel
theorem dX6_init_77 : decode cX6_init 77 = .ok (.getfield 9, 3) := by decide +kernel
theorem dX6_init_80 : decode cX6_init 80 = .ok (.iconst 2, 1) := by decide +kernel
theorem dX6_init_81 : decode cX6_init 81 = .ok (.sipush 200, 3) := by decide +kernel
theorem dX6_init_84 : decode cX6_init 84 = .ok (.iastore, 1) := by decide +kernel
theorem dX6_init_85 : decode cX6_init 85 = .ok (.aload_n 0, 1) := by decide +kernel
theorem dX6_init_86 : decode cX6_init 86 = .ok (.getfield 9, 3) := by decide +kernel
theorem dX6_init_89 : decode cX6_init 89 = .ok (.iconst 3, 1) := by decide +kernel
theorem dX6_init_90 : decode cX6_init 90 = .ok (.sipush 600, 3) := by decide +kernel
theorem dX6_init_93 : decode cX6_init 93 = .ok (.iastore, 1) := by decide +kernel
theorem dX6_init_94 : decode cX6_init 94 = .ok (.iconst 0, 1) := by decide +kernel
theorem dX6_init_95 : decode cX6_init 95 = .ok (.istore_n 1, 1) := by decide +kernel
theorem dX6_init_96 : decode cX6_init 96 = .ok (.iload_n 1, 1) := by decide +kernel
theorem dX6_init_97 : decode cX6_init 97 = .ok (.bipush 8, 2) := by decide +kernel
theorem dX6_init_99 : decode cX6_init 99 = .ok (.if_icmp .ge 25, 3) := by decide +kernel
theorem dX6_init_102 : decode cX6_init 102 = .ok (.aload_n 0, 1) := by decide +kernel
theorem dX6_init_103 : decode cX6_init 103 = .ok (.getfield 9, 3) := by decide +kernel
theorem dX6_init_106 : decode cX6_init 106 = .ok (.iconst 5, 1) := by decide +kernel
theorem dX6_init_107 : decode cX6_init 107 = .ok (.iload_n 1, 1) := by decide +kernel
theorem dX6_init_108 : decode cX6_init 108 = .ok (.iadd, 1) := by decide +kernel
theorem dX6_init_109 : decode cX6_init 109 = .ok (.iconst 5, 1) := by decide +kernel
theorem dX6_init_110 : decode cX6_init 110 = .ok (.iload_n 1, 1) := by decide +kernel
theorem dX6_init_111 : decode cX6_init 111 = .ok (.imul, 1) := by decide +kernel
theorem dX6_init_112 : decode cX6_init 112 = .ok (.bipush 13, 2) := by decide +kernel
theorem dX6_init_114 : decode cX6_init 114 = .ok (.irem, 1) := by decide +kernel
theorem dX6_init_115 : decode cX6_init 115 = .ok (.iconst 3, 1) := by decide +kernel
theorem dX6_init_116 : decode cX6_init 116 = .ok (.iadd, 1) := by decide +kernel
theorem dX6_init_117 : decode cX6_init 117 = .ok (.iastore, 1) := by decide +kernel
theorem dX6_init_118 : decode cX6_init 118 = .ok (.iinc 1 1, 3) := by decide +kernel
theorem dX6_init_121 : decode cX6_init 121 = .ok (.goto (-25), 3) := by decide +kernel
theorem dX6_init_124 : decode cX6_init 124 = .ok (.return_, 1) := by decide +kernel
theorem dX6_finds_0 : decode cX6_finds 0 = .ok (.aload_n 0, 1) := by decide +kernel
theorem dX6_finds_1 : decode cX6_finds 1 = .ok (.getfield 19, 3) := by decide +kernel
theorem dX6_finds_4 : decode cX6_finds 4 = .ok (.ldc 35, 2) := by decide +kernel
theorem dX6_finds_6 : decode cX6_finds 6 = .ok (.iload_n 1, 1) := by decide +kernel
theorem dX6_finds_7 : decode cX6_finds 7 = .ok (.isub, 1) := by decide +kernel
theorem dX6_finds_8 : decode cX6_finds 8 = .ok (.dup2, 1) := by decide +kernel
theorem dX6_finds_9 : decode cX6_finds 9 = .ok (.iaload, 1) := by decide +kernel
theorem dX6_finds_10 : decode cX6_finds 10 = .ok (.iconst 1, 1) := by decide +kernel
theorem dX6_finds_11 : decode cX6_finds 11 = .ok (.iadd, 1) := by decide +kernel
theorem dX6_finds_12 : decode cX6_finds 12 = .ok (.iastore, 1) := by decide +kernel
theorem dX6_finds_13 : decode cX6_finds 13 = .ok (.iload_n 1, 1) := by decide +kernel
theorem dX6_finds_14 : decode cX6_finds 14 = .ok (.ireturn, 1) := by decide +kernel
theorem dX6_orNone_0 : decode cX6_orNone 0 = .ok (.iload_n 1, 1) := by decide +kernel
theorem dX6_orNone_1 : decode cX6_orNone 1 = .ok (.ifCond .ge 12, 3) := by decide +kernel
theorem dX6_orNone_4 : decode cX6_orNone 4 = .ok (.aload_n 0, 1) := by decide +kernel
theorem dX6_orNone_5 : decode cX6_orNone 5 = .ok (.ldc 36, 2) := by decide +kernel
theorem dX6_orNone_7 : decode cX6_orNone 7 = .ok (.invokevirtual 37, 3) := by decide +kernel
theorem dX6_orNone_10 : decode cX6_orNone 10 = .ok (.goto 4, 3) := by decide +kernel
theorem dX6_orNone_13 : decode cX6_orNone 13 = .ok (.iload_n 1, 1) := by decide +kernel
theorem dX6_orNone_14 : decode cX6_orNone 14 = .ok (.ireturn, 1) := by decide +kernel
theorem dX6_in_0 : decode cX6_in 0 = .ok (.lload_n 0, 1) := by decide +kernel
theorem dX6_in_1 : decode cX6_in 1 = .ok (.iload_n 2, 1) := by decide +kernel
theorem dX6_in_2 : decode cX6_in 2 = .ok (.i2l, 1) := by decide +kernel
theorem dX6_in_3 : decode cX6_in 3 = .ok (.lcmp, 1) := by decide +kernel
theorem dX6_in_4 : decode cX6_in 4 = .ok (.ifCond .lt 14, 3) := by decide +kernel
theorem dX6_in_7 : decode cX6_in 7 = .ok (.lload_n 0, 1) := by decide +kernel
theorem dX6_in_8 : decode cX6_in 8 = .ok (.iload_n 3, 1) := by decide +kernel
theorem dX6_in_9 : decode cX6_in 9 = .ok (.i2l, 1) := by decide +kernel
theorem dX6_in_10 : decode cX6_in 10 = .ok (.lcmp, 1) := by decide +kernel
theorem dX6_in_11 : decode cX6_in 11 = .ok (.ifCond .gt 7, 3) := by decide +kernel
theorem dX6_in_14 : decode cX6_in 14 = .ok (.iconst 1, 1) := by decide +kernel
theorem dX6_in_15 : decode cX6_in 15 = .ok (.goto 4, 3) := by decide +kernel
theorem dX6_in_18 : decode cX6_in 18 = .ok (.iconst 0, 1) := by decide +kernel
theorem dX6_in_19 : decode cX6_in 19 = .ok (.ireturn, 1) := by decide +kernel
theorem dX6_held_0 : decode cX6_held 0 = .ok (.iload_n 0, 1) := by decide +kernel
theorem dX6_held_1 : decode cX6_held 1 = .ok (.iload_n 1, 1) := by decide +kernel
theorem dX6_held_2 : decode cX6_held 2 = .ok (.if_icmp .ge 7, 3) := by decide +kernel
theorem dX6_held_5 : decode cX6_held 5 = .ok (.iload_n 1, 1) := by decide +kernel
theorem dX6_held_6 : decode cX6_held 6 = .ok (.goto 13, 3) := by decide +kernel
theorem dX6_held_9 : decode cX6_held 9 = .ok (.iload_n 0, 1) := by decide +kernel
theorem dX6_held_10 : decode cX6_held 10 = .ok (.iload_n 2, 1) := by decide +kernel
theorem dX6_held_11 : decode cX6_held 11 = .ok (.if_icmp .le 7, 3) := by decide +kernel
theorem dX6_held_14 : decode cX6_held 14 = .ok (.iload_n 2, 1) := by decide +kernel
theorem dX6_held_15 : decode cX6_held 15 = .ok (.goto 4, 3) := by decide +kernel
theorem dX6_held_18 : decode cX6_held 18 = .ok (.iload_n 0, 1) := by decide +kernel
theorem dX6_held_19 : decode cX6_held 19 = .ok (.ireturn, 1) := by decide +kernel
theorem dX6_copyAll_0 : decode cX6_copyAll 0 = .ok (.iconst 0, 1) := by decide +kernel
theorem dX6_copyAll_1 : decode cX6_copyAll 1 = .ok (.istore_n 2, 1) := by decide +kernel
theorem dX6_copyAll_2 : decode cX6_copyAll 2 = .ok (.iload_n 2, 1) := by decide +kernel
theorem dX6_copyAll_3 : decode cX6_copyAll 3 = .ok (.bipush 61, 2) := by decide +kernel
theorem dX6_copyAll_5 : decode cX6_copyAll 5 = .ok (.if_icmp .ge 15, 3) := by decide +kernel
theorem dX6_copyAll_8 : decode cX6_copyAll 8 = .ok (.aload_n 1, 1) := by decide +kernel
theorem dX6_copyAll_9 : decode cX6_copyAll 9 = .ok (.iload_n 2, 1) := by decide +kernel
theorem dX6_copyAll_10 : decode cX6_copyAll 10 = .ok (.aload_n 0, 1) := by decide +kernel
theorem dX6_copyAll_11 : decode cX6_copyAll 11 = .ok (.iload_n 2, 1) := by decide +kernel
theorem dX6_copyAll_12 : decode cX6_copyAll 12 = .ok (.iaload, 1) := by decide +kernel
theorem dX6_copyAll_13 : decode cX6_copyAll 13 = .ok (.iastore, 1) := by decide +kernel
theorem dX6_copyAll_14 : decode cX6_copyAll 14 = .ok (.iinc 2 1, 3) := by decide +kernel
theorem dX6_copyAll_17 : decode cX6_copyAll 17 = .ok (.goto (-15), 3) := by decide +kernel
theorem dX6_copyAll_20 : decode cX6_copyAll 20 = .ok (.return_, 1) := by decide +kernel
theorem dX6_bits_0 : decode cX6_bits 0 = .ok (.iconst 0, 1) := by decide +kernel
theorem dX6_bits_1 : decode cX6_bits 1 = .ok (.istore_n 1, 1) := by decide +kernel
theorem dX6_bits_2 : decode cX6_bits 2 = .ok (.iload_n 0, 1) := by decide +kernel
theorem dX6_bits_3 : decode cX6_bits 3 = .ok (.istore_n 2, 1) := by decide +kernel
theorem dX6_bits_4 : decode cX6_bits 4 = .ok (.iload_n 2, 1) := by decide +kernel
theorem dX6_bits_5 : decode cX6_bits 5 = .ok (.ifCond .eq 15, 3) := by decide +kernel
theorem dX6_bits_8 : decode cX6_bits 8 = .ok (.iinc 1 1, 3) := by decide +kernel
theorem dX6_bits_11 : decode cX6_bits 11 = .ok (.iload_n 2, 1) := by decide +kernel
theorem dX6_bits_12 : decode cX6_bits 12 = .ok (.iload_n 2, 1) := by decide +kernel
theorem dX6_bits_13 : decode cX6_bits 13 = .ok (.iconst 1, 1) := by decide +kernel
theorem dX6_bits_14 : decode cX6_bits 14 = .ok (.isub, 1) := by decide +kernel
theorem dX6_bits_15 : decode cX6_bits 15 = .ok (.iand, 1) := by decide +kernel
theorem dX6_bits_16 : decode cX6_bits 16 = .ok (.istore_n 2, 1) := by decide +kernel
theorem dX6_bits_17 : decode cX6_bits 17 = .ok (.goto (-13), 3) := by decide +kernel
theorem dX6_bits_20 : decode cX6_bits 20 = .ok (.iload_n 1, 1) := by decide +kernel
theorem dX6_bits_21 : decode cX6_bits 21 = .ok (.ireturn, 1) := by decide +kernel
theorem dX6_becomes_0 : decode cX6_becomes 0 = .ok (.aload_n 0, 1) := by decide +kernel
theorem dX6_becomes_1 : decode cX6_becomes 1 = .ok (.getfield 9, 3) := by decide +kernel
theorem dX6_becomes_4 : decode cX6_becomes 4 = .ok (.iload_n 1, 1) := by decide +kernel
theorem dX6_becomes_5 : decode cX6_becomes 5 = .ok (.iaload, 1) := by decide +kernel
theorem dX6_becomes_6 : decode cX6_becomes 6 = .ok (.istore_n 3, 1) := by decide +kernel
theorem dX6_becomes_7 : decode cX6_becomes 7 = .ok (.aload_n 0, 1) := by decide +kernel
theorem dX6_becomes_8 : decode cX6_becomes 8 = .ok (.getfield 9, 3) := by decide +kernel
theorem dX6_becomes_11 : decode cX6_becomes 11 = .ok (.iload_n 1, 1) := by decide +kernel
theorem dX6_becomes_12 : decode cX6_becomes 12 = .ok (.iload_n 2, 1) := by decide +kernel
theorem dX6_becomes_13 : decode cX6_becomes 13 = .ok (.iastore, 1) := by decide +kernel
theorem dX6_becomes_14 : decode cX6_becomes 14 = .ok (.iload_n 3, 1) := by decide +kernel
theorem dX6_becomes_15 : decode cX6_becomes 15 = .ok (.ireturn, 1) := by decide +kernel
theorem dX6_isFountain_0 : decode cX6_isFountain 0 = .ok (.iload_n 1, 1) := by decide +kernel
theorem dX6_isFountain_1 : decode cX6_isFountain 1 = .ok (.i2l, 1) := by decide +kernel
theorem dX6_isFountain_2 : decode cX6_isFountain 2 = .ok (.iconst 0, 1) := by decide +kernel
theorem dX6_isFountain_3 : decode cX6_isFountain 3 = .ok (.aload_n 0, 1) := by decide +kernel
theorem dX6_isFountain_4 : decode cX6_isFountain 4 = .ok (.getfield 9, 3) := by decide +kernel
theorem dX6_isFountain_7 : decode cX6_isFountain 7 = .ok (.iconst 4, 1) := by decide +kernel
theorem dX6_isFountain_8 : decode cX6_isFountain 8 = .ok (.iaload, 1) := by decide +kernel
theorem dX6_isFountain_9 : decode cX6_isFountain 9 = .ok (.iconst 1, 1) := by decide +kernel
theorem dX6_isFountain_10 : decode cX6_isFountain 10 = .ok (.isub, 1) := by decide +kernel
theorem dX6_isFountain_11 : decode cX6_isFountain 11 = .ok (.invokestatic 41, 3) := by decide +kernel
theorem dX6_isFountain_14 : decode cX6_isFountain 14 = .ok (.ireturn, 1) := by decide +kernel
theorem dX6_it_0 : decode cX6_it 0 = .ok (.aload_n 0, 1) := by decide +kernel
theorem dX6_it_1 : decode cX6_it 1 = .ok (.getfield 9, 3) := by decide +kernel
theorem dX6_it_4 : decode cX6_it 4 = .ok (.bipush 21, 2) := by decide +kernel
theorem dX6_it_6 : decode cX6_it 6 = .ok (.iconst 5, 1) := by decide +kernel
theorem dX6_it_7 : decode cX6_it 7 = .ok (.iload_n 1, 1) := by decide +kernel
theorem dX6_it_8 : decode cX6_it 8 = .ok (.imul, 1) := by decide +kernel
theorem dX6_it_9 : decode cX6_it 9 = .ok (.iadd, 1) := by decide +kernel
theorem dX6_it_10 : decode cX6_it 10 = .ok (.iload_n 2, 1) := by decide +kernel
theorem dX6_it_11 : decode cX6_it 11 = .ok (.iadd, 1) := by decide +kernel
theorem dX6_it_12 : decode cX6_it 12 = .ok (.iaload, 1) := by decide +kernel
theorem dX6_it_13 : decode cX6_it 13 = .ok (.ireturn, 1) := by decide +kernel
theorem dX6_put_0 : decode cX6_put 0 = .ok (.aload_n 0, 1) := by decide +kernel
theorem dX6_put_1 : decode cX6_put 1 = .ok (.getfield 9, 3) := by decide +kernel
theorem dX6_put_4 : decode cX6_put 4 = .ok (.bipush 21, 2) := by decide +kernel
theorem dX6_put_6 : decode cX6_put 6 = .ok (.iconst 5, 1) := by decide +kernel
theorem dX6_put_7 : decode cX6_put 7 = .ok (.iload_n 1, 1) := by decide +kernel
theorem dX6_put_8 : decode cX6_put 8 = .ok (.imul, 1) := by decide +kernel
theorem dX6_put_9 : decode cX6_put 9 = .ok (.iadd, 1) := by decide +kernel
theorem dX6_put_10 : decode cX6_put 10 = .ok (.iload_n 2, 1) := by decide +kernel
theorem dX6_put_11 : decode cX6_put 11 = .ok (.iadd, 1) := by decide +kernel
theorem dX6_put_12 : decode cX6_put 12 = .ok (.iload_n 3, 1) := by decide +kernel
theorem dX6_put_13 : decode cX6_put 13 = .ok (.iastore, 1) := by decide +kernel
theorem dX6_put_14 : decode cX6_put 14 = .ok (.return_, 1) := by decide +kernel
theorem dX6_weekNow_0 : decode cX6_weekNow 0 = .ok (.aload_n 0, 1) := by decide +kernel
theorem dX6_weekNow_1 : decode cX6_weekNow 1 = .ok (.getfield 9, 3) := by decide +kernel
theorem dX6_weekNow_4 : decode cX6_weekNow 4 = .ok (.iconst 0, 1) := by decide +kernel
theorem dX6_weekNow_5 : decode cX6_weekNow 5 = .ok (.iaload, 1) := by decide +kernel
theorem dX6_weekNow_6 : decode cX6_weekNow 6 = .ok (.bipush 7, 2) := by decide +kernel
theorem dX6_weekNow_8 : decode cX6_weekNow 8 = .ok (.idiv, 1) := by decide +kernel
theorem dX6_weekNow_9 : decode cX6_weekNow 9 = .ok (.bipush 8, 2) := by decide +kernel
theorem dX6_weekNow_11 : decode cX6_weekNow 11 = .ok (.irem, 1) := by decide +kernel
theorem dX6_weekNow_12 : decode cX6_weekNow 12 = .ok (.ireturn, 1) := by decide +kernel
theorem dX6_isCold_0 : decode cX6_isCold 0 = .ok (.aload_n 0, 1) := by decide +kernel
theorem dX6_isCold_1 : decode cX6_isCold 1 = .ok (.getfield 9, 3) := by decide +kernel
theorem dX6_isCold_4 : decode cX6_isCold 4 = .ok (.bipush 13, 2) := by decide +kernel
theorem dX6_isCold_6 : decode cX6_isCold 6 = .ok (.aload_n 0, 1) := by decide +kernel
theorem dX6_isCold_7 : decode cX6_isCold 7 = .ok (.invokevirtual 45, 3) := by decide +kernel
theorem dX6_isCold_10 : decode cX6_isCold 10 = .ok (.iadd, 1) := by decide +kernel
theorem dX6_isCold_11 : decode cX6_isCold 11 = .ok (.iaload, 1) := by decide +kernel
theorem dX6_isCold_12 : decode cX6_isCold 12 = .ok (.iconst 1, 1) := by decide +kernel
theorem dX6_isCold_13 : decode cX6_isCold 13 = .ok (.if_icmp .ne 7, 3) := by decide +kernel
theorem dX6_isCold_16 : decode cX6_isCold 16 = .ok (.iconst 1, 1) := by decide +kernel
theorem dX6_isCold_17 : decode cX6_isCold 17 = .ok (.goto 4, 3) := by decide +kernel
theorem dX6_isCold_20 : decode cX6_isCold 20 = .ok (.iconst 0, 1) := by decide +kernel
theorem dX6_isCold_21 : decode cX6_isCold 21 = .ok (.ireturn, 1) := by decide +kernel
theorem dX6_isOff_0 : decode cX6_isOff 0 = .ok (.aload_n 0, 1) := by decide +kernel
theorem dX6_isOff_1 : decode cX6_isOff 1 = .ok (.iload_n 1, 1) := by decide +kernel
theorem dX6_isOff_2 : decode cX6_isOff 2 = .ok (.iconst 2, 1) := by decide +kernel
theorem dX6_isOff_3 : decode cX6_isOff 3 = .ok (.invokevirtual 49, 3) := by decide +kernel
theorem dX6_isOff_6 : decode cX6_isOff 6 = .ok (.iconst 1, 1) := by decide +kernel
theorem dX6_isOff_7 : decode cX6_isOff 7 = .ok (.if_icmp .ne 7, 3) := by decide +kernel
theorem dX6_isOff_10 : decode cX6_isOff 10 = .ok (.iconst 1, 1) := by decide +kernel
theorem dX6_isOff_11 : decode cX6_isOff 11 = .ok (.goto 4, 3) := by decide +kernel
theorem dX6_isOff_14 : decode cX6_isOff 14 = .ok (.iconst 0, 1) := by decide +kernel
theorem dX6_isOff_15 : decode cX6_isOff 15 = .ok (.ireturn, 1) := by decide +kernel
theorem dX6_uses_0 : decode cX6_uses 0 = .ok (.aload_n 0, 1) := by decide +kernel
theorem dX6_uses_1 : decode cX6_uses 1 = .ok (.iload_n 1, 1) := by decide +kernel
theorem dX6_uses_2 : decode cX6_uses 2 = .ok (.iconst 1, 1) := by decide +kernel
theorem dX6_uses_3 : decode cX6_uses 3 = .ok (.invokevirtual 49, 3) := by decide +kernel
theorem dX6_uses_6 : decode cX6_uses 6 = .ok (.istore_n 2, 1) := by decide +kernel
theorem dX6_uses_7 : decode cX6_uses 7 = .ok (.iload_n 2, 1) := by decide +kernel
theorem dX6_uses_8 : decode cX6_uses 8 = .ok (.istore_n 3, 1) := by decide +kernel
theorem dX6_uses_9 : decode cX6_uses 9 = .ok (.aload_n 0, 1) := by decide +kernel
theorem dX6_uses_10 : decode cX6_uses 10 = .ok (.iload_n 1, 1) := by decide +kernel
theorem dX6_uses_11 : decode cX6_uses 11 = .ok (.iconst 0, 1) := by decide +kernel
theorem dX6_uses_12 : decode cX6_uses 12 = .ok (.invokevirtual 49, 3) := by decide +kernel
theorem dX6_uses_15 : decode cX6_uses 15 = .ok (.tableswitch 89 1 5 #[33, 40, 56, 61, 84], 33) := by decide +kernel
theorem dX6_uses_48 : decode cX6_uses 48 = .ok (.iconst 2, 1) := by decide +kernel
theorem dX6_uses_49 : decode cX6_uses 49 = .ok (.iload_n 2, 1) := by decide +kernel
theorem dX6_uses_50 : decode cX6_uses 50 = .ok (.imul, 1) := by decide +kernel
theorem dX6_uses_51 : decode cX6_uses 51 = .ok (.istore_n 3, 1) := by decide +kernel
theorem dX6_uses_52 : decode cX6_uses 52 = .ok (.goto 52, 3) := by decide +kernel
theorem dX6_uses_55 : decode cX6_uses 55 = .ok (.iload_n 2, 1) := by decide +kernel
theorem dX6_uses_56 : decode cX6_uses 56 = .ok (.iconst 2, 1) := by decide +kernel
theorem dX6_uses_57 : decode cX6_uses 57 = .ok (.if_icmp .le 9, 3) := by decide +kernel
theorem dX6_uses_60 : decode cX6_uses 60 = .ok (.iload_n 2, 1) := by decide +kernel
theorem dX6_uses_61 : decode cX6_uses 61 = .ok (.iconst 2, 1) := by decide +kernel
theorem dX6_uses_62 : decode cX6_uses 62 = .ok (.idiv, 1) := by decide +kernel
theorem dX6_uses_63 : decode cX6_uses 63 = .ok (.goto 4, 3) := by decide +kernel
theorem dX6_uses_66 : decode cX6_uses 66 = .ok (.iconst 1, 1) := by decide +kernel
theorem dX6_uses_67 : decode cX6_uses 67 = .ok (.istore_n 3, 1) := by decide +kernel
theorem dX6_uses_68 : decode cX6_uses 68 = .ok (.goto 36, 3) := by decide +kernel
theorem dX6_uses_71 : decode cX6_uses 71 = .ok (.iconst 2, 1) := by decide +kernel
theorem dX6_uses_72 : decode cX6_uses 72 = .ok (.istore_n 3, 1) := by decide +kernel
theorem dX6_uses_73 : decode cX6_uses 73 = .ok (.goto 31, 3) := by decide +kernel
theorem dX6_uses_76 : decode cX6_uses 76 = .ok (.iconst 2, 1) := by decide +kernel
theorem dX6_uses_77 : decode cX6_uses 77 = .ok (.iload_n 2, 1) := by decide +kernel
theorem dX6_uses_78 : decode cX6_uses 78 = .ok (.imul, 1) := by decide +kernel
theorem dX6_uses_79 : decode cX6_uses 79 = .ok (.aload_n 0, 1) := by decide +kernel
theorem dX6_uses_80 : decode cX6_uses 80 = .ok (.iload_n 1, 1) := by decide +kernel
theorem dX6_uses_81 : decode cX6_uses 81 = .ok (.iconst 3, 1) := by decide +kernel
theorem dX6_uses_82 : decode cX6_uses 82 = .ok (.invokevirtual 49, 3) := by decide +kernel
theorem dX6_uses_85 : decode cX6_uses 85 = .ok (.bipush 20, 2) := by decide +kernel
theorem dX6_uses_87 : decode cX6_uses 87 = .ok (.idiv, 1) := by decide +kernel
theorem dX6_uses_88 : decode cX6_uses 88 = .ok (.isub, 1) := by decide +kernel
theorem dX6_uses_89 : decode cX6_uses 89 = .ok (.iconst 0, 1) := by decide +kernel
theorem dX6_uses_90 : decode cX6_uses 90 = .ok (.bipush 80, 2) := by decide +kernel
theorem dX6_uses_92 : decode cX6_uses 92 = .ok (.invokestatic 53, 3) := by decide +kernel
theorem dX6_uses_95 : decode cX6_uses 95 = .ok (.istore_n 3, 1) := by decide +kernel
theorem dX6_uses_96 : decode cX6_uses 96 = .ok (.goto 8, 3) := by decide +kernel
theorem dX6_uses_99 : decode cX6_uses 99 = .ok (.iconst 1, 1) := by decide +kernel
theorem dX6_uses_100 : decode cX6_uses 100 = .ok (.istore_n 3, 1) := by decide +kernel
theorem dX6_uses_101 : decode cX6_uses 101 = .ok (.goto 3, 3) := by decide +kernel
theorem dX6_uses_104 : decode cX6_uses 104 = .ok (.aload_n 0, 1) := by decide +kernel
theorem dX6_uses_105 : decode cX6_uses 105 = .ok (.iload_n 1, 1) := by decide +kernel
theorem dX6_uses_106 : decode cX6_uses 106 = .ok (.invokevirtual 57, 3) := by decide +kernel
theorem dX6_uses_109 : decode cX6_uses 109 = .ok (.ifCond .eq 17, 3) := by decide +kernel
theorem dX6_uses_112 : decode cX6_uses 112 = .ok (.aload_n 0, 1) := by decide +kernel
theorem dX6_uses_113 : decode cX6_uses 113 = .ok (.iload_n 1, 1) := by decide +kernel
theorem dX6_uses_114 : decode cX6_uses 114 = .ok (.iconst 0, 1) := by decide +kernel
theorem dX6_uses_115 : decode cX6_uses 115 = .ok (.invokevirtual 49, 3) := by decide +kernel
theorem dX6_uses_118 : decode cX6_uses 118 = .ok (.iconst 5, 1) := by decide +kernel
theorem dX6_uses_119 : decode cX6_uses 119 = .ok (.if_icmp .eq 7, 3) := by decide +kernel
theorem dX6_uses_122 : decode cX6_uses 122 = .ok (.iconst 0, 1) := by decide +kernel
theorem dX6_uses_123 : decode cX6_uses 123 = .ok (.goto 4, 3) := by decide +kernel
theorem dX6_uses_126 : decode cX6_uses 126 = .ok (.iload_n 3, 1) := by decide +kernel
theorem dX6_uses_127 : decode cX6_uses 127 = .ok (.istore_n 3, 1) := by decide +kernel
theorem dX6_uses_128 : decode cX6_uses 128 = .ok (.aload_n 0, 1) := by decide +kernel
theorem dX6_uses_129 : decode cX6_uses 129 = .ok (.invokevirtual 61, 3) := by decide +kernel
theorem dX6_uses_132 : decode cX6_uses 132 = .ok (.ifCond .eq 9, 3) := by decide +kernel
theorem dX6_uses_135 : decode cX6_uses 135 = .ok (.iload_n 3, 1) := by decide +kernel
theorem dX6_uses_136 : decode cX6_uses 136 = .ok (.iconst 2, 1) := by decide +kernel
theorem dX6_uses_137 : decode cX6_uses 137 = .ok (.idiv, 1) := by decide +kernel
theorem dX6_uses_138 : decode cX6_uses 138 = .ok (.goto 4, 3) := by decide +kernel
theorem dX6_uses_141 : decode cX6_uses 141 = .ok (.iload_n 3, 1) := by decide +kernel
theorem dX6_uses_142 : decode cX6_uses 142 = .ok (.ireturn, 1) := by decide +kernel
theorem dX6_heard_0 : decode cX6_heard 0 = .ok (.aload_n 0, 1) := by decide +kernel
theorem dX6_heard_1 : decode cX6_heard 1 = .ok (.iload_n 1, 1) := by decide +kernel
theorem dX6_heard_2 : decode cX6_heard 2 = .ok (.iconst 1, 1) := by decide +kernel
theorem dX6_heard_3 : decode cX6_heard 3 = .ok (.invokevirtual 49, 3) := by decide +kernel
theorem dX6_heard_6 : decode cX6_heard 6 = .ok (.istore_n 2, 1) := by decide +kernel
theorem dX6_heard_7 : decode cX6_heard 7 = .ok (.aload_n 0, 1) := by decide +kernel
theorem dX6_heard_8 : decode cX6_heard 8 = .ok (.iload_n 1, 1) := by decide +kernel
theorem dX6_heard_9 : decode cX6_heard 9 = .ok (.iconst 0, 1) := by decide +kernel
theorem dX6_heard_10 : decode cX6_heard 10 = .ok (.invokevirtual 49, 3) := by decide +kernel
theorem dX6_heard_13 : decode cX6_heard 13 = .ok (.iconst 5, 1) := by decide +kernel
theorem dX6_heard_14 : decode cX6_heard 14 = .ok (.if_icmp .ne 15, 3) := by decide +kernel
theorem dX6_heard_17 : decode cX6_heard 17 = .ok (.iconst 1, 1) := by decide +kernel
theorem dX6_heard_18 : decode cX6_heard 18 = .ok (.aload_n 0, 1) := by decide +kernel
theorem dX6_heard_19 : decode cX6_heard 19 = .ok (.iload_n 1, 1) := by decide +kernel
theorem dX6_heard_20 : decode cX6_heard 20 = .ok (.iconst 3, 1) := by decide +kernel
theorem dX6_heard_21 : decode cX6_heard 21 = .ok (.invokevirtual 49, 3) := by decide +kernel
theorem dX6_heard_24 : decode cX6_heard 24 = .ok (.bipush 10, 2) := by decide +kernel
theorem dX6_heard_26 : decode cX6_heard 26 = .ok (.idiv, 1) := by decide +kernel
theorem dX6_heard_27 : decode cX6_heard 27 = .ok (.iadd, 1) := by decide +kernel
theorem dX6_heard_28 : decode cX6_heard 28 = .ok (.ireturn, 1) := by decide +kernel
theorem dX6_heard_29 : decode cX6_heard 29 = .ok (.aload_n 0, 1) := by decide +kernel
theorem dX6_heard_30 : decode cX6_heard 30 = .ok (.iload_n 1, 1) := by decide +kernel
theorem dX6_heard_31 : decode cX6_heard 31 = .ok (.invokevirtual 57, 3) := by decide +kernel
theorem dX6_heard_34 : decode cX6_heard 34 = .ok (.ifCond .eq 5, 3) := by decide +kernel
theorem dX6_heard_37 : decode cX6_heard 37 = .ok (.iconst 0, 1) := by decide +kernel
theorem dX6_heard_38 : decode cX6_heard 38 = .ok (.ireturn, 1) := by decide +kernel
theorem dX6_heard_39 : decode cX6_heard 39 = .ok (.aload_n 0, 1) := by decide +kernel
theorem dX6_heard_40 : decode cX6_heard 40 = .ok (.iload_n 1, 1) := by decide +kernel
theorem dX6_heard_41 : decode cX6_heard 41 = .ok (.iconst 0, 1) := by decide +kernel
theorem dX6_heard_42 : decode cX6_heard 42 = .ok (.invokevirtual 49, 3) := by decide +kernel
theorem dX6_heard_45 : decode cX6_heard 45 = .ok (.tableswitch 44 1 4 #[31, 36, 42, 31], 31) := by decide +kernel
theorem dX6_heard_76 : decode cX6_heard 76 = .ok (.iload_n 2, 1) := by decide +kernel
theorem dX6_heard_77 : decode cX6_heard 77 = .ok (.bipush 10, 2) := by decide +kernel
theorem dX6_heard_79 : decode cX6_heard 79 = .ok (.iadd, 1) := by decide +kernel
theorem dX6_heard_80 : decode cX6_heard 80 = .ok (.ireturn, 1) := by decide +kernel
theorem dX6_heard_81 : decode cX6_heard 81 = .ok (.iload_n 2, 1) := by decide +kernel
theorem dX6_heard_82 : decode cX6_heard 82 = .ok (.iconst 2, 1) := by decide +kernel
theorem dX6_heard_83 : decode cX6_heard 83 = .ok (.idiv, 1) := by decide +kernel
theorem dX6_heard_84 : decode cX6_heard 84 = .ok (.iconst 5, 1) := by decide +kernel
theorem dX6_heard_85 : decode cX6_heard 85 = .ok (.iadd, 1) := by decide +kernel
theorem dX6_heard_86 : decode cX6_heard 86 = .ok (.ireturn, 1) := by decide +kernel
theorem dX6_heard_87 : decode cX6_heard 87 = .ok (.iconst 1, 1) := by decide +kernel
theorem dX6_heard_88 : decode cX6_heard 88 = .ok (.ireturn, 1) := by decide +kernel
theorem dX6_heard_89 : decode cX6_heard 89 = .ok (.iload_n 2, 1) := by decide +kernel
theorem dX6_heard_90 : decode cX6_heard 90 = .ok (.ireturn, 1) := by decide +kernel
theorem dX6_gains_0 : decode cX6_gains 0 = .ok (.aload_n 0, 1) := by decide +kernel
theorem dX6_gains_1 : decode cX6_gains 1 = .ok (.iload_n 1, 1) := by decide +kernel
theorem dX6_gains_2 : decode cX6_gains 2 = .ok (.invokevirtual 57, 3) := by decide +kernel
theorem dX6_gains_5 : decode cX6_gains 5 = .ok (.ifCond .eq 7, 3) := by decide +kernel
theorem dX6_gains_8 : decode cX6_gains 8 = .ok (.iconst (-1), 1) := by decide +kernel
theorem dX6_gains_9 : decode cX6_gains 9 = .ok (.goto 4, 3) := by decide +kernel
theorem dX6_gains_12 : decode cX6_gains 12 = .ok (.iconst 1, 1) := by decide +kernel
theorem dX6_gains_13 : decode cX6_gains 13 = .ok (.istore_n 2, 1) := by decide +kernel
theorem dX6_gains_14 : decode cX6_gains 14 = .ok (.aload_n 0, 1) := by decide +kernel
theorem dX6_gains_15 : decode cX6_gains 15 = .ok (.iload_n 1, 1) := by decide +kernel
theorem dX6_gains_16 : decode cX6_gains 16 = .ok (.iconst 1, 1) := by decide +kernel
theorem dX6_gains_17 : decode cX6_gains 17 = .ok (.invokevirtual 49, 3) := by decide +kernel
theorem dX6_gains_20 : decode cX6_gains 20 = .ok (.bipush 30, 2) := by decide +kernel
theorem dX6_gains_22 : decode cX6_gains 22 = .ok (.if_icmp .le 7, 3) := by decide +kernel
theorem dX6_gains_25 : decode cX6_gains 25 = .ok (.iconst 0, 1) := by decide +kernel
theorem dX6_gains_26 : decode cX6_gains 26 = .ok (.goto 4, 3) := by decide +kernel
theorem dX6_gains_29 : decode cX6_gains 29 = .ok (.iload_n 2, 1) := by decide +kernel
theorem dX6_gains_30 : decode cX6_gains 30 = .ok (.istore_n 3, 1) := by decide +kernel
theorem dX6_gains_31 : decode cX6_gains 31 = .ok (.aload_n 0, 1) := by decide +kernel
theorem dX6_gains_32 : decode cX6_gains 32 = .ok (.invokevirtual 61, 3) := by decide +kernel
theorem dX6_gains_35 : decode cX6_gains 35 = .ok (.ifCond .eq 7, 3) := by decide +kernel
theorem dX6_gains_38 : decode cX6_gains 38 = .ok (.iload_n 2, 1) := by decide +kernel
theorem dX6_gains_39 : decode cX6_gains 39 = .ok (.goto 6, 3) := by decide +kernel
theorem dX6_gains_42 : decode cX6_gains 42 = .ok (.iload_n 2, 1) := by decide +kernel
theorem dX6_gains_43 : decode cX6_gains 43 = .ok (.iconst 1, 1) := by decide +kernel
theorem dX6_gains_44 : decode cX6_gains 44 = .ok (.iadd, 1) := by decide +kernel
theorem dX6_gains_45 : decode cX6_gains 45 = .ok (.istore 4, 2) := by decide +kernel
theorem dX6_gains_47 : decode cX6_gains 47 = .ok (.aload_n 0, 1) := by decide +kernel
theorem dX6_gains_48 : decode cX6_gains 48 = .ok (.iload_n 1, 1) := by decide +kernel
theorem dX6_gains_49 : decode cX6_gains 49 = .ok (.iconst 0, 1) := by decide +kernel
theorem dX6_gains_50 : decode cX6_gains 50 = .ok (.invokevirtual 49, 3) := by decide +kernel
theorem dX6_gains_53 : decode cX6_gains 53 = .ok (.tableswitch 58 1 5 #[35, 37, 39, 42, 46], 35) := by decide +kernel
theorem dX6_gains_88 : decode cX6_gains 88 = .ok (.iload_n 3, 1) := by decide +kernel
theorem dX6_gains_89 : decode cX6_gains 89 = .ok (.ireturn, 1) := by decide +kernel
theorem dX6_gains_90 : decode cX6_gains 90 = .ok (.iconst 1, 1) := by decide +kernel
theorem dX6_gains_91 : decode cX6_gains 91 = .ok (.ireturn, 1) := by decide +kernel
theorem dX6_gains_92 : decode cX6_gains 92 = .ok (.iload 4, 2) := by decide +kernel
theorem dX6_gains_94 : decode cX6_gains 94 = .ok (.ireturn, 1) := by decide +kernel
theorem dX6_gains_95 : decode cX6_gains 95 = .ok (.iload_n 3, 1) := by decide +kernel
theorem dX6_gains_96 : decode cX6_gains 96 = .ok (.iconst 1, 1) := by decide +kernel
theorem dX6_gains_97 : decode cX6_gains 97 = .ok (.isub, 1) := by decide +kernel
theorem dX6_gains_98 : decode cX6_gains 98 = .ok (.ireturn, 1) := by decide +kernel
theorem dX6_gains_99 : decode cX6_gains 99 = .ok (.iload 4, 2) := by decide +kernel
theorem dX6_gains_101 : decode cX6_gains 101 = .ok (.ifCond .ge 7, 3) := by decide +kernel
theorem dX6_gains_104 : decode cX6_gains 104 = .ok (.iconst 0, 1) := by decide +kernel
theorem dX6_gains_105 : decode cX6_gains 105 = .ok (.goto 5, 3) := by decide +kernel
theorem dX6_gains_108 : decode cX6_gains 108 = .ok (.iload 4, 2) := by decide +kernel
theorem dX6_gains_110 : decode cX6_gains 110 = .ok (.ireturn, 1) := by decide +kernel
theorem dX6_gains_111 : decode cX6_gains 111 = .ok (.iload_n 2, 1) := by decide +kernel
theorem dX6_gains_112 : decode cX6_gains 112 = .ok (.ireturn, 1) := by decide +kernel
theorem dX6_givesWay_0 : decode cX6_givesWay 0 = .ok (.aload_n 0, 1) := by decide +kernel
theorem dX6_givesWay_1 : decode cX6_givesWay 1 = .ok (.iload_n 1, 1) := by decide +kernel
theorem dX6_givesWay_2 : decode cX6_givesWay 2 = .ok (.iconst 1, 1) := by decide +kernel
theorem dX6_givesWay_3 : decode cX6_givesWay 3 = .ok (.invokevirtual 49, 3) := by decide +kernel
theorem dX6_givesWay_6 : decode cX6_givesWay 6 = .ok (.aload_n 0, 1) := by decide +kernel
theorem dX6_givesWay_7 : decode cX6_givesWay 7 = .ok (.iload_n 1, 1) := by decide +kernel
theorem dX6_givesWay_8 : decode cX6_givesWay 8 = .ok (.iconst 3, 1) := by decide +kernel
theorem dX6_givesWay_9 : decode cX6_givesWay 9 = .ok (.invokevirtual 49, 3) := by decide +kernel
theorem dX6_givesWay_12 : decode cX6_givesWay 12 = .ok (.isub, 1) := by decide +kernel
theorem dX6_givesWay_13 : decode cX6_givesWay 13 = .ok (.istore_n 2, 1) := by decide +kernel
theorem dX6_givesWay_14 : decode cX6_givesWay 14 = .ok (.aload_n 0, 1) := by decide +kernel
theorem dX6_givesWay_15 : decode cX6_givesWay 15 = .ok (.iload_n 1, 1) := by decide +kernel
theorem dX6_givesWay_16 : decode cX6_givesWay 16 = .ok (.iconst 0, 1) := by decide +kernel
theorem dX6_givesWay_17 : decode cX6_givesWay 17 = .ok (.invokevirtual 49, 3) := by decide +kernel
theorem dX6_givesWay_20 : decode cX6_givesWay 20 = .ok (.tableswitch 68 1 5 #[36, 68, 41, 52, 57], 36) := by decide +kernel
theorem dX6_givesWay_56 : decode cX6_givesWay 56 = .ok (.iload_n 2, 1) := by decide +kernel
theorem dX6_givesWay_57 : decode cX6_givesWay 57 = .ok (.bipush 20, 2) := by decide +kernel
theorem dX6_givesWay_59 : decode cX6_givesWay 59 = .ok (.isub, 1) := by decide +kernel
theorem dX6_givesWay_60 : decode cX6_givesWay 60 = .ok (.ireturn, 1) := by decide +kernel
theorem dX6_givesWay_61 : decode cX6_givesWay 61 = .ok (.sipush (-200), 3) := by decide +kernel
theorem dX6_givesWay_64 : decode cX6_givesWay 64 = .ok (.aload_n 0, 1) := by decide +kernel
theorem dX6_givesWay_65 : decode cX6_givesWay 65 = .ok (.iload_n 1, 1) := by decide +kernel
theorem dX6_givesWay_66 : decode cX6_givesWay 66 = .ok (.iconst 3, 1) := by decide +kernel
theorem dX6_givesWay_67 : decode cX6_givesWay 67 = .ok (.invokevirtual 49, 3) := by decide +kernel
theorem dX6_givesWay_70 : decode cX6_givesWay 70 = .ok (.isub, 1) := by decide +kernel
theorem dX6_givesWay_71 : decode cX6_givesWay 71 = .ok (.ireturn, 1) := by decide +kernel
theorem dX6_givesWay_72 : decode cX6_givesWay 72 = .ok (.iload_n 2, 1) := by decide +kernel
theorem dX6_givesWay_73 : decode cX6_givesWay 73 = .ok (.bipush 15, 2) := by decide +kernel
theorem dX6_givesWay_75 : decode cX6_givesWay 75 = .ok (.isub, 1) := by decide +kernel
theorem dX6_givesWay_76 : decode cX6_givesWay 76 = .ok (.ireturn, 1) := by decide +kernel
theorem dX6_givesWay_77 : decode cX6_givesWay 77 = .ok (.sipush (-400), 3) := by decide +kernel
theorem dX6_givesWay_80 : decode cX6_givesWay 80 = .ok (.aload_n 0, 1) := by decide +kernel
theorem dX6_givesWay_81 : decode cX6_givesWay 81 = .ok (.iload_n 1, 1) := by decide +kernel
theorem dX6_givesWay_82 : decode cX6_givesWay 82 = .ok (.iconst 3, 1) := by decide +kernel
theorem dX6_givesWay_83 : decode cX6_givesWay 83 = .ok (.invokevirtual 49, 3) := by decide +kernel
theorem dX6_givesWay_86 : decode cX6_givesWay 86 = .ok (.isub, 1) := by decide +kernel
theorem dX6_givesWay_87 : decode cX6_givesWay 87 = .ok (.ireturn, 1) := by decide +kernel
theorem dX6_givesWay_88 : decode cX6_givesWay 88 = .ok (.iload_n 2, 1) := by decide +kernel
theorem dX6_givesWay_89 : decode cX6_givesWay 89 = .ok (.ireturn, 1) := by decide +kernel
theorem dX6_first_0 : decode cX6_first 0 = .ok (.iconst (-1), 1) := by decide +kernel
theorem dX6_first_1 : decode cX6_first 1 = .ok (.istore_n 3, 1) := by decide +kernel
theorem dX6_first_2 : decode cX6_first 2 = .ok (.iconst 0, 1) := by decide +kernel
theorem dX6_first_3 : decode cX6_first 3 = .ok (.istore 4, 2) := by decide +kernel
theorem dX6_first_5 : decode cX6_first 5 = .ok (.iload 4, 2) := by decide +kernel
theorem dX6_first_7 : decode cX6_first 7 = .ok (.aload_n 0, 1) := by decide +kernel
theorem dX6_first_8 : decode cX6_first 8 = .ok (.getfield 9, 3) := by decide +kernel
theorem dX6_first_11 : decode cX6_first 11 = .ok (.iconst 4, 1) := by decide +kernel
theorem dX6_first_12 : decode cX6_first 12 = .ok (.iaload, 1) := by decide +kernel
theorem dX6_first_13 : decode cX6_first 13 = .ok (.if_icmp .ge 90, 3) := by decide +kernel
theorem dX6_first_16 : decode cX6_first 16 = .ok (.aload_n 0, 1) := by decide +kernel
theorem dX6_first_17 : decode cX6_first 17 = .ok (.iload 4, 2) := by decide +kernel
theorem dX6_first_19 : decode cX6_first 19 = .ok (.iconst 2, 1) := by decide +kernel
theorem dX6_first_20 : decode cX6_first 20 = .ok (.invokevirtual 49, 3) := by decide +kernel
theorem dX6_first_23 : decode cX6_first 23 = .ok (.iload_n 1, 1) := by decide +kernel
theorem dX6_first_24 : decode cX6_first 24 = .ok (.if_icmp .ne 7, 3) := by decide +kernel
theorem dX6_first_27 : decode cX6_first 27 = .ok (.iconst 1, 1) := by decide +kernel
theorem dX6_first_28 : decode cX6_first 28 = .ok (.goto 4, 3) := by decide +kernel
theorem dX6_first_31 : decode cX6_first 31 = .ok (.iconst 0, 1) := by decide +kernel
theorem dX6_first_32 : decode cX6_first 32 = .ok (.istore 5, 2) := by decide +kernel
theorem dX6_first_34 : decode cX6_first 34 = .ok (.iload_n 3, 1) := by decide +kernel
theorem dX6_first_35 : decode cX6_first 35 = .ok (.ifCond .lt 38, 3) := by decide +kernel
theorem dX6_first_38 : decode cX6_first 38 = .ok (.iload_n 2, 1) := by decide +kernel
theorem dX6_first_39 : decode cX6_first 39 = .ok (.ifCond .eq 20, 3) := by decide +kernel
theorem dX6_first_42 : decode cX6_first 42 = .ok (.aload_n 0, 1) := by decide +kernel
theorem dX6_first_43 : decode cX6_first 43 = .ok (.iload 4, 2) := by decide +kernel
theorem dX6_first_45 : decode cX6_first 45 = .ok (.invokevirtual 65, 3) := by decide +kernel
theorem dX6_first_48 : decode cX6_first 48 = .ok (.aload_n 0, 1) := by decide +kernel
theorem dX6_first_49 : decode cX6_first 49 = .ok (.iload_n 3, 1) := by decide +kernel
theorem dX6_first_50 : decode cX6_first 50 = .ok (.invokevirtual 65, 3) := by decide +kernel
theorem dX6_first_53 : decode cX6_first 53 = .ok (.if_icmp .le 24, 3) := by decide +kernel
theorem dX6_first_56 : decode cX6_first 56 = .ok (.goto 17, 3) := by decide +kernel
theorem dX6_first_59 : decode cX6_first 59 = .ok (.aload_n 0, 1) := by decide +kernel
theorem dX6_first_60 : decode cX6_first 60 = .ok (.iload 4, 2) := by decide +kernel
theorem dX6_first_62 : decode cX6_first 62 = .ok (.invokevirtual 65, 3) := by decide +kernel
theorem dX6_first_65 : decode cX6_first 65 = .ok (.aload_n 0, 1) := by decide +kernel
theorem dX6_first_66 : decode cX6_first 66 = .ok (.iload_n 3, 1) := by decide +kernel
theorem dX6_first_67 : decode cX6_first 67 = .ok (.invokevirtual 65, 3) := by decide +kernel
theorem dX6_first_70 : decode cX6_first 70 = .ok (.if_icmp .ge 7, 3) := by decide +kernel
theorem dX6_first_73 : decode cX6_first 73 = .ok (.iconst 1, 1) := by decide +kernel
theorem dX6_first_74 : decode cX6_first 74 = .ok (.goto 4, 3) := by decide +kernel
theorem dX6_first_77 : decode cX6_first 77 = .ok (.iconst 0, 1) := by decide +kernel
theorem dX6_first_78 : decode cX6_first 78 = .ok (.istore 6, 2) := by decide +kernel
theorem dX6_first_80 : decode cX6_first 80 = .ok (.iload 5, 2) := by decide +kernel
theorem dX6_first_82 : decode cX6_first 82 = .ok (.ifCond .eq 13, 3) := by decide +kernel
theorem dX6_first_85 : decode cX6_first 85 = .ok (.iload 6, 2) := by decide +kernel
theorem dX6_first_87 : decode cX6_first 87 = .ok (.ifCond .eq 8, 3) := by decide +kernel
theorem dX6_first_90 : decode cX6_first 90 = .ok (.iload 4, 2) := by decide +kernel
theorem dX6_first_92 : decode cX6_first 92 = .ok (.goto 4, 3) := by decide +kernel
theorem dX6_first_95 : decode cX6_first 95 = .ok (.iload_n 3, 1) := by decide +kernel
theorem dX6_first_96 : decode cX6_first 96 = .ok (.istore_n 3, 1) := by decide +kernel
theorem dX6_first_97 : decode cX6_first 97 = .ok (.iinc 4 1, 3) := by decide +kernel
theorem dX6_first_100 : decode cX6_first 100 = .ok (.goto (-95), 3) := by decide +kernel
theorem dX6_first_103 : decode cX6_first 103 = .ok (.iload_n 3, 1) := by decide +kernel
theorem dX6_first_104 : decode cX6_first 104 = .ok (.ireturn, 1) := by decide +kernel
theorem dX6_water_0 : decode cX6_water 0 = .ok (.iload_n 1, 1) := by decide +kernel
theorem dX6_water_1 : decode cX6_water 1 = .ok (.i2l, 1) := by decide +kernel
theorem dX6_water_2 : decode cX6_water 2 = .ok (.iconst 0, 1) := by decide +kernel
theorem dX6_water_3 : decode cX6_water 3 = .ok (.iconst 2, 1) := by decide +kernel
theorem dX6_water_4 : decode cX6_water 4 = .ok (.invokestatic 41, 3) := by decide +kernel
theorem dX6_water_7 : decode cX6_water 7 = .ok (.ifCond .eq 26, 3) := by decide +kernel
theorem dX6_water_10 : decode cX6_water 10 = .ok (.iload_n 2, 1) := by decide +kernel
theorem dX6_water_11 : decode cX6_water 11 = .ok (.i2l, 1) := by decide +kernel
theorem dX6_water_12 : decode cX6_water 12 = .ok (.iconst 0, 1) := by decide +kernel
theorem dX6_water_13 : decode cX6_water 13 = .ok (.sipush 9999, 3) := by decide +kernel
theorem dX6_water_16 : decode cX6_water 16 = .ok (.invokestatic 41, 3) := by decide +kernel
theorem dX6_water_19 : decode cX6_water 19 = .ok (.ifCond .eq 14, 3) := by decide +kernel
theorem dX6_water_22 : decode cX6_water 22 = .ok (.aload_n 0, 1) := by decide +kernel
theorem dX6_water_23 : decode cX6_water 23 = .ok (.iconst 1, 1) := by decide +kernel
theorem dX6_water_24 : decode cX6_water 24 = .ok (.iload_n 1, 1) := by decide +kernel
theorem dX6_water_25 : decode cX6_water 25 = .ok (.iadd, 1) := by decide +kernel
theorem dX6_water_26 : decode cX6_water 26 = .ok (.iload_n 2, 1) := by decide +kernel
theorem dX6_water_27 : decode cX6_water 27 = .ok (.invokevirtual 68, 3) := by decide +kernel
theorem dX6_water_30 : decode cX6_water 30 = .ok (.goto 9, 3) := by decide +kernel
theorem dX6_water_33 : decode cX6_water 33 = .ok (.aload_n 0, 1) := by decide +kernel
theorem dX6_water_34 : decode cX6_water 34 = .ok (.ldc 35, 2) := by decide +kernel
theorem dX6_water_36 : decode cX6_water 36 = .ok (.invokevirtual 37, 3) := by decide +kernel
theorem dX6_water_39 : decode cX6_water 39 = .ok (.ireturn, 1) := by decide +kernel
theorem dX6_week_0 : decode cX6_week 0 = .ok (.iload_n 1, 1) := by decide +kernel
theorem dX6_week_1 : decode cX6_week 1 = .ok (.i2l, 1) := by decide +kernel
theorem dX6_week_2 : decode cX6_week 2 = .ok (.iconst 0, 1) := by decide +kernel
theorem dX6_week_3 : decode cX6_week 3 = .ok (.bipush 7, 2) := by decide +kernel
theorem dX6_week_5 : decode cX6_week 5 = .ok (.invokestatic 41, 3) := by decide +kernel
theorem dX6_week_8 : decode cX6_week 8 = .ok (.ifCond .eq 36, 3) := by decide +kernel
theorem dX6_week_11 : decode cX6_week 11 = .ok (.iload_n 2, 1) := by decide +kernel
theorem dX6_week_12 : decode cX6_week 12 = .ok (.i2l, 1) := by decide +kernel
theorem dX6_week_13 : decode cX6_week 13 = .ok (.iconst 0, 1) := by decide +kernel
theorem dX6_week_14 : decode cX6_week 14 = .ok (.iconst 1, 1) := by decide +kernel
theorem dX6_week_15 : decode cX6_week 15 = .ok (.invokestatic 41, 3) := by decide +kernel
theorem dX6_week_18 : decode cX6_week 18 = .ok (.ifCond .eq 26, 3) := by decide +kernel
theorem dX6_week_21 : decode cX6_week 21 = .ok (.iload_n 3, 1) := by decide +kernel
theorem dX6_week_22 : decode cX6_week 22 = .ok (.i2l, 1) := by decide +kernel
theorem dX6_week_23 : decode cX6_week 23 = .ok (.iconst 0, 1) := by decide +kernel
theorem dX6_week_24 : decode cX6_week 24 = .ok (.iload_n 2, 1) := by decide +kernel
theorem dX6_week_25 : decode cX6_week 25 = .ok (.ifCond .ne 8, 3) := by decide +kernel
theorem dX6_week_28 : decode cX6_week 28 = .ok (.bipush 99, 2) := by decide +kernel
theorem dX6_week_30 : decode cX6_week 30 = .ok (.goto 4, 3) := by decide +kernel
theorem dX6_week_33 : decode cX6_week 33 = .ok (.iconst 1, 1) := by decide +kernel
theorem dX6_week_34 : decode cX6_week 34 = .ok (.invokestatic 41, 3) := by decide +kernel
theorem dX6_week_37 : decode cX6_week 37 = .ok (.ifCond .eq 7, 3) := by decide +kernel
theorem dX6_week_40 : decode cX6_week 40 = .ok (.iconst 1, 1) := by decide +kernel
theorem dX6_week_41 : decode cX6_week 41 = .ok (.goto 4, 3) := by decide +kernel
theorem dX6_week_44 : decode cX6_week 44 = .ok (.iconst 0, 1) := by decide +kernel
theorem dX6_week_45 : decode cX6_week 45 = .ok (.istore 4, 2) := by decide +kernel
theorem dX6_week_47 : decode cX6_week 47 = .ok (.iload 4, 2) := by decide +kernel
theorem dX6_week_49 : decode cX6_week 49 = .ok (.ifCond .eq 19, 3) := by decide +kernel
theorem dX6_week_52 : decode cX6_week 52 = .ok (.aload_n 0, 1) := by decide +kernel
theorem dX6_week_53 : decode cX6_week 53 = .ok (.iconst 5, 1) := by decide +kernel
theorem dX6_week_54 : decode cX6_week 54 = .ok (.bipush 8, 2) := by decide +kernel
theorem dX6_week_56 : decode cX6_week 56 = .ok (.iload_n 2, 1) := by decide +kernel
theorem dX6_week_57 : decode cX6_week 57 = .ok (.imul, 1) := by decide +kernel
theorem dX6_week_58 : decode cX6_week 58 = .ok (.iadd, 1) := by decide +kernel
theorem dX6_week_59 : decode cX6_week 59 = .ok (.iload_n 1, 1) := by decide +kernel
theorem dX6_week_60 : decode cX6_week 60 = .ok (.iadd, 1) := by decide +kernel
theorem dX6_week_61 : decode cX6_week 61 = .ok (.iload_n 3, 1) := by decide +kernel
theorem dX6_week_62 : decode cX6_week 62 = .ok (.invokevirtual 68, 3) := by decide +kernel
theorem dX6_week_65 : decode cX6_week 65 = .ok (.goto 9, 3) := by decide +kernel
theorem dX6_week_68 : decode cX6_week 68 = .ok (.aload_n 0, 1) := by decide +kernel
theorem dX6_week_69 : decode cX6_week 69 = .ok (.ldc 35, 2) := by decide +kernel
theorem dX6_week_71 : decode cX6_week 71 = .ok (.invokevirtual 37, 3) := by decide +kernel
theorem dX6_week_74 : decode cX6_week 74 = .ok (.ireturn, 1) := by decide +kernel
theorem dX6_offOnes_0 : decode cX6_offOnes 0 = .ok (.iconst 0, 1) := by decide +kernel
theorem dX6_offOnes_1 : decode cX6_offOnes 1 = .ok (.istore_n 1, 1) := by decide +kernel
theorem dX6_offOnes_2 : decode cX6_offOnes 2 = .ok (.iconst 0, 1) := by decide +kernel
theorem dX6_offOnes_3 : decode cX6_offOnes 3 = .ok (.istore_n 2, 1) := by decide +kernel
theorem dX6_offOnes_4 : decode cX6_offOnes 4 = .ok (.iload_n 2, 1) := by decide +kernel
theorem dX6_offOnes_5 : decode cX6_offOnes 5 = .ok (.aload_n 0, 1) := by decide +kernel
theorem dX6_offOnes_6 : decode cX6_offOnes 6 = .ok (.getfield 9, 3) := by decide +kernel
theorem dX6_offOnes_9 : decode cX6_offOnes 9 = .ok (.iconst 4, 1) := by decide +kernel
theorem dX6_offOnes_10 : decode cX6_offOnes 10 = .ok (.iaload, 1) := by decide +kernel
theorem dX6_offOnes_11 : decode cX6_offOnes 11 = .ok (.if_icmp .ge 20, 3) := by decide +kernel
theorem dX6_offOnes_14 : decode cX6_offOnes 14 = .ok (.iload_n 1, 1) := by decide +kernel
theorem dX6_offOnes_15 : decode cX6_offOnes 15 = .ok (.aload_n 0, 1) := by decide +kernel
theorem dX6_offOnes_16 : decode cX6_offOnes 16 = .ok (.iload_n 2, 1) := by decide +kernel
theorem dX6_offOnes_17 : decode cX6_offOnes 17 = .ok (.iconst 2, 1) := by decide +kernel
theorem dX6_offOnes_18 : decode cX6_offOnes 18 = .ok (.invokevirtual 49, 3) := by decide +kernel
theorem dX6_offOnes_21 : decode cX6_offOnes 21 = .ok (.iload_n 2, 1) := by decide +kernel
theorem dX6_offOnes_22 : decode cX6_offOnes 22 = .ok (.ishl, 1) := by decide +kernel
theorem dX6_offOnes_23 : decode cX6_offOnes 23 = .ok (.ior, 1) := by decide +kernel
theorem dX6_offOnes_24 : decode cX6_offOnes 24 = .ok (.istore_n 1, 1) := by decide +kernel
theorem dX6_offOnes_25 : decode cX6_offOnes 25 = .ok (.iinc 2 1, 3) := by decide +kernel
theorem dX6_offOnes_28 : decode cX6_offOnes 28 = .ok (.goto (-24), 3) := by decide +kernel
theorem dX6_offOnes_31 : decode cX6_offOnes 31 = .ok (.iload_n 1, 1) := by decide +kernel
theorem dX6_offOnes_32 : decode cX6_offOnes 32 = .ok (.ireturn, 1) := by decide +kernel
theorem dX6_noise_0 : decode cX6_noise 0 = .ok (.iconst 0, 1) := by decide +kernel
theorem dX6_noise_1 : decode cX6_noise 1 = .ok (.istore_n 1, 1) := by decide +kernel
theorem dX6_noise_2 : decode cX6_noise 2 = .ok (.iconst 0, 1) := by decide +kernel
theorem dX6_noise_3 : decode cX6_noise 3 = .ok (.istore_n 2, 1) := by decide +kernel
theorem dX6_noise_4 : decode cX6_noise 4 = .ok (.iload_n 2, 1) := by decide +kernel
theorem dX6_noise_5 : decode cX6_noise 5 = .ok (.aload_n 0, 1) := by decide +kernel
theorem dX6_noise_6 : decode cX6_noise 6 = .ok (.getfield 9, 3) := by decide +kernel
theorem dX6_noise_9 : decode cX6_noise 9 = .ok (.iconst 4, 1) := by decide +kernel
theorem dX6_noise_10 : decode cX6_noise 10 = .ok (.iaload, 1) := by decide +kernel
theorem dX6_noise_11 : decode cX6_noise 11 = .ok (.if_icmp .ge 17, 3) := by decide +kernel
theorem dX6_noise_14 : decode cX6_noise 14 = .ok (.iload_n 1, 1) := by decide +kernel
theorem dX6_noise_15 : decode cX6_noise 15 = .ok (.aload_n 0, 1) := by decide +kernel
theorem dX6_noise_16 : decode cX6_noise 16 = .ok (.iload_n 2, 1) := by decide +kernel
theorem dX6_noise_17 : decode cX6_noise 17 = .ok (.invokevirtual 71, 3) := by decide +kernel
theorem dX6_noise_20 : decode cX6_noise 20 = .ok (.iadd, 1) := by decide +kernel
theorem dX6_noise_21 : decode cX6_noise 21 = .ok (.istore_n 1, 1) := by decide +kernel
theorem dX6_noise_22 : decode cX6_noise 22 = .ok (.iinc 2 1, 3) := by decide +kernel
theorem dX6_noise_25 : decode cX6_noise 25 = .ok (.goto (-21), 3) := by decide +kernel
theorem dX6_noise_28 : decode cX6_noise 28 = .ok (.iload_n 1, 1) := by decide +kernel
theorem dX6_noise_29 : decode cX6_noise 29 = .ok (.ireturn, 1) := by decide +kernel
theorem dX6_allUses_0 : decode cX6_allUses 0 = .ok (.iconst 0, 1) := by decide +kernel
theorem dX6_allUses_1 : decode cX6_allUses 1 = .ok (.istore_n 1, 1) := by decide +kernel
theorem dX6_allUses_2 : decode cX6_allUses 2 = .ok (.iconst 0, 1) := by decide +kernel
theorem dX6_allUses_3 : decode cX6_allUses 3 = .ok (.istore_n 2, 1) := by decide +kernel
theorem dX6_allUses_4 : decode cX6_allUses 4 = .ok (.iload_n 2, 1) := by decide +kernel
theorem dX6_allUses_5 : decode cX6_allUses 5 = .ok (.aload_n 0, 1) := by decide +kernel
theorem dX6_allUses_6 : decode cX6_allUses 6 = .ok (.getfield 9, 3) := by decide +kernel
theorem dX6_allUses_9 : decode cX6_allUses 9 = .ok (.iconst 4, 1) := by decide +kernel
theorem dX6_allUses_10 : decode cX6_allUses 10 = .ok (.iaload, 1) := by decide +kernel
theorem dX6_allUses_11 : decode cX6_allUses 11 = .ok (.if_icmp .ge 17, 3) := by decide +kernel
theorem dX6_allUses_14 : decode cX6_allUses 14 = .ok (.iload_n 1, 1) := by decide +kernel
theorem dX6_allUses_15 : decode cX6_allUses 15 = .ok (.aload_n 0, 1) := by decide +kernel
theorem dX6_allUses_16 : decode cX6_allUses 16 = .ok (.iload_n 2, 1) := by decide +kernel
theorem dX6_allUses_17 : decode cX6_allUses 17 = .ok (.invokevirtual 74, 3) := by decide +kernel
theorem dX6_allUses_20 : decode cX6_allUses 20 = .ok (.iadd, 1) := by decide +kernel
theorem dX6_allUses_21 : decode cX6_allUses 21 = .ok (.istore_n 1, 1) := by decide +kernel
theorem dX6_allUses_22 : decode cX6_allUses 22 = .ok (.iinc 2 1, 3) := by decide +kernel
theorem dX6_allUses_25 : decode cX6_allUses 25 = .ok (.goto (-21), 3) := by decide +kernel
theorem dX6_allUses_28 : decode cX6_allUses 28 = .ok (.iload_n 1, 1) := by decide +kernel
theorem dX6_allUses_29 : decode cX6_allUses 29 = .ok (.ireturn, 1) := by decide +kernel
theorem dX6_now_0 : decode cX6_now 0 = .ok (.iload_n 1, 1) := by decide +kernel
theorem dX6_now_1 : decode cX6_now 1 = .ok (.tableswitch 118 0 9 #[55, 62, 67, 67, 67, 78, 90, 103, 108, 113], 55) := by decide +kernel
theorem dX6_now_56 : decode cX6_now 56 = .ok (.aload_n 0, 1) := by decide +kernel
theorem dX6_now_57 : decode cX6_now 57 = .ok (.getfield 9, 3) := by decide +kernel
theorem dX6_now_60 : decode cX6_now 60 = .ok (.iconst 0, 1) := by decide +kernel
theorem dX6_now_61 : decode cX6_now 61 = .ok (.iaload, 1) := by decide +kernel
theorem dX6_now_62 : decode cX6_now 62 = .ok (.ireturn, 1) := by decide +kernel
theorem dX6_now_63 : decode cX6_now 63 = .ok (.aload_n 0, 1) := by decide +kernel
theorem dX6_now_64 : decode cX6_now 64 = .ok (.invokevirtual 45, 3) := by decide +kernel
theorem dX6_now_67 : decode cX6_now 67 = .ok (.ireturn, 1) := by decide +kernel
theorem dX6_now_68 : decode cX6_now 68 = .ok (.aload_n 0, 1) := by decide +kernel
theorem dX6_now_69 : decode cX6_now 69 = .ok (.getfield 9, 3) := by decide +kernel
theorem dX6_now_72 : decode cX6_now 72 = .ok (.iconst 1, 1) := by decide +kernel
theorem dX6_now_73 : decode cX6_now 73 = .ok (.iload_n 1, 1) := by decide +kernel
theorem dX6_now_74 : decode cX6_now 74 = .ok (.iadd, 1) := by decide +kernel
theorem dX6_now_75 : decode cX6_now 75 = .ok (.iconst 2, 1) := by decide +kernel
theorem dX6_now_76 : decode cX6_now 76 = .ok (.isub, 1) := by decide +kernel
theorem dX6_now_77 : decode cX6_now 77 = .ok (.iaload, 1) := by decide +kernel
theorem dX6_now_78 : decode cX6_now 78 = .ok (.ireturn, 1) := by decide +kernel
theorem dX6_now_79 : decode cX6_now 79 = .ok (.aload_n 0, 1) := by decide +kernel
theorem dX6_now_80 : decode cX6_now 80 = .ok (.getfield 9, 3) := by decide +kernel
theorem dX6_now_83 : decode cX6_now 83 = .ok (.iconst 5, 1) := by decide +kernel
theorem dX6_now_84 : decode cX6_now 84 = .ok (.aload_n 0, 1) := by decide +kernel
theorem dX6_now_85 : decode cX6_now 85 = .ok (.invokevirtual 45, 3) := by decide +kernel
theorem dX6_now_88 : decode cX6_now 88 = .ok (.iadd, 1) := by decide +kernel
theorem dX6_now_89 : decode cX6_now 89 = .ok (.iaload, 1) := by decide +kernel
theorem dX6_now_90 : decode cX6_now 90 = .ok (.ireturn, 1) := by decide +kernel
theorem dX6_now_91 : decode cX6_now 91 = .ok (.aload_n 0, 1) := by decide +kernel
theorem dX6_now_92 : decode cX6_now 92 = .ok (.getfield 9, 3) := by decide +kernel
theorem dX6_now_95 : decode cX6_now 95 = .ok (.bipush 13, 2) := by decide +kernel
theorem dX6_now_97 : decode cX6_now 97 = .ok (.aload_n 0, 1) := by decide +kernel
theorem dX6_now_98 : decode cX6_now 98 = .ok (.invokevirtual 45, 3) := by decide +kernel
theorem dX6_now_101 : decode cX6_now 101 = .ok (.iadd, 1) := by decide +kernel
theorem dX6_now_102 : decode cX6_now 102 = .ok (.iaload, 1) := by decide +kernel
theorem dX6_now_103 : decode cX6_now 103 = .ok (.ireturn, 1) := by decide +kernel
theorem dX6_now_104 : decode cX6_now 104 = .ok (.aload_n 0, 1) := by decide +kernel
theorem dX6_now_105 : decode cX6_now 105 = .ok (.invokevirtual 77, 3) := by decide +kernel
theorem dX6_now_108 : decode cX6_now 108 = .ok (.ireturn, 1) := by decide +kernel
theorem dX6_now_109 : decode cX6_now 109 = .ok (.aload_n 0, 1) := by decide +kernel
theorem dX6_now_110 : decode cX6_now 110 = .ok (.invokevirtual 80, 3) := by decide +kernel
theorem dX6_now_113 : decode cX6_now 113 = .ok (.ireturn, 1) := by decide +kernel
theorem dX6_now_114 : decode cX6_now 114 = .ok (.aload_n 0, 1) := by decide +kernel
theorem dX6_now_115 : decode cX6_now 115 = .ok (.invokevirtual 83, 3) := by decide +kernel
theorem dX6_now_118 : decode cX6_now 118 = .ok (.ireturn, 1) := by decide +kernel
theorem dX6_now_119 : decode cX6_now 119 = .ok (.aload_n 0, 1) := by decide +kernel
theorem dX6_now_120 : decode cX6_now 120 = .ok (.ldc 35, 2) := by decide +kernel
theorem dX6_now_122 : decode cX6_now 122 = .ok (.invokevirtual 37, 3) := by decide +kernel
theorem dX6_now_125 : decode cX6_now 125 = .ok (.ireturn, 1) := by decide +kernel
theorem dX6_comesAs_0 : decode cX6_comesAs 0 = .ok (.aload_n 0, 1) := by decide +kernel
theorem dX6_comesAs_1 : decode cX6_comesAs 1 = .ok (.getfield 9, 3) := by decide +kernel
theorem dX6_comesAs_4 : decode cX6_comesAs 4 = .ok (.iconst 4, 1) := by decide +kernel
theorem dX6_comesAs_5 : decode cX6_comesAs 5 = .ok (.iaload, 1) := by decide +kernel
theorem dX6_comesAs_6 : decode cX6_comesAs 6 = .ok (.istore 5, 2) := by decide +kernel
theorem dX6_comesAs_8 : decode cX6_comesAs 8 = .ok (.aload_n 0, 1) := by decide +kernel
theorem dX6_comesAs_9 : decode cX6_comesAs 9 = .ok (.getfield 9, 3) := by decide +kernel
theorem dX6_comesAs_12 : decode cX6_comesAs 12 = .ok (.iconst 4, 1) := by decide +kernel
theorem dX6_comesAs_13 : decode cX6_comesAs 13 = .ok (.dup2, 1) := by decide +kernel
theorem dX6_comesAs_14 : decode cX6_comesAs 14 = .ok (.iaload, 1) := by decide +kernel
theorem dX6_comesAs_15 : decode cX6_comesAs 15 = .ok (.iconst 1, 1) := by decide +kernel
theorem dX6_comesAs_16 : decode cX6_comesAs 16 = .ok (.iadd, 1) := by decide +kernel
theorem dX6_comesAs_17 : decode cX6_comesAs 17 = .ok (.iastore, 1) := by decide +kernel
theorem dX6_comesAs_18 : decode cX6_comesAs 18 = .ok (.aload_n 0, 1) := by decide +kernel
theorem dX6_comesAs_19 : decode cX6_comesAs 19 = .ok (.iload 5, 2) := by decide +kernel
theorem dX6_comesAs_21 : decode cX6_comesAs 21 = .ok (.iconst 0, 1) := by decide +kernel
theorem dX6_comesAs_22 : decode cX6_comesAs 22 = .ok (.iload_n 1, 1) := by decide +kernel
theorem dX6_comesAs_23 : decode cX6_comesAs 23 = .ok (.invokevirtual 86, 3) := by decide +kernel
theorem dX6_comesAs_26 : decode cX6_comesAs 26 = .ok (.aload_n 0, 1) := by decide +kernel
theorem dX6_comesAs_27 : decode cX6_comesAs 27 = .ok (.iload 5, 2) := by decide +kernel
theorem dX6_comesAs_29 : decode cX6_comesAs 29 = .ok (.iconst 1, 1) := by decide +kernel
theorem dX6_comesAs_30 : decode cX6_comesAs 30 = .ok (.iload_n 2, 1) := by decide +kernel
theorem dX6_comesAs_31 : decode cX6_comesAs 31 = .ok (.invokevirtual 86, 3) := by decide +kernel
theorem dX6_comesAs_34 : decode cX6_comesAs 34 = .ok (.aload_n 0, 1) := by decide +kernel
theorem dX6_comesAs_35 : decode cX6_comesAs 35 = .ok (.iload 5, 2) := by decide +kernel
theorem dX6_comesAs_37 : decode cX6_comesAs 37 = .ok (.iconst 2, 1) := by decide +kernel
theorem dX6_comesAs_38 : decode cX6_comesAs 38 = .ok (.iload 4, 2) := by decide +kernel
theorem dX6_comesAs_40 : decode cX6_comesAs 40 = .ok (.invokevirtual 86, 3) := by decide +kernel
theorem dX6_comesAs_43 : decode cX6_comesAs 43 = .ok (.aload_n 0, 1) := by decide +kernel
theorem dX6_comesAs_44 : decode cX6_comesAs 44 = .ok (.iload 5, 2) := by decide +kernel
theorem dX6_comesAs_46 : decode cX6_comesAs 46 = .ok (.iconst 3, 1) := by decide +kernel
theorem dX6_comesAs_47 : decode cX6_comesAs 47 = .ok (.iload_n 3, 1) := by decide +kernel
theorem dX6_comesAs_48 : decode cX6_comesAs 48 = .ok (.invokevirtual 86, 3) := by decide +kernel
theorem dX6_comesAs_51 : decode cX6_comesAs 51 = .ok (.aload_n 0, 1) := by decide +kernel
theorem dX6_comesAs_52 : decode cX6_comesAs 52 = .ok (.iload 5, 2) := by decide +kernel
theorem dX6_comesAs_54 : decode cX6_comesAs 54 = .ok (.iconst 4, 1) := by decide +kernel
theorem dX6_comesAs_55 : decode cX6_comesAs 55 = .ok (.iconst 0, 1) := by decide +kernel
theorem dX6_comesAs_56 : decode cX6_comesAs 56 = .ok (.invokevirtual 86, 3) := by decide +kernel
theorem dX6_comesAs_59 : decode cX6_comesAs 59 = .ok (.iload 5, 2) := by decide +kernel
theorem dX6_comesAs_61 : decode cX6_comesAs 61 = .ok (.ireturn, 1) := by decide +kernel
theorem dX6_fountain_0 : decode cX6_fountain 0 = .ok (.iload_n 1, 1) := by decide +kernel
theorem dX6_fountain_1 : decode cX6_fountain 1 = .ok (.i2l, 1) := by decide +kernel
theorem dX6_fountain_2 : decode cX6_fountain 2 = .ok (.iconst 0, 1) := by decide +kernel
theorem dX6_fountain_3 : decode cX6_fountain 3 = .ok (.iconst 5, 1) := by decide +kernel
theorem dX6_fountain_4 : decode cX6_fountain 4 = .ok (.invokestatic 41, 3) := by decide +kernel
theorem dX6_fountain_7 : decode cX6_fountain 7 = .ok (.ifCond .ne 10, 3) := by decide +kernel
theorem dX6_fountain_10 : decode cX6_fountain 10 = .ok (.aload_n 0, 1) := by decide +kernel
theorem dX6_fountain_11 : decode cX6_fountain 11 = .ok (.ldc 35, 2) := by decide +kernel
theorem dX6_fountain_13 : decode cX6_fountain 13 = .ok (.invokevirtual 37, 3) := by decide +kernel
theorem dX6_fountain_16 : decode cX6_fountain 16 = .ok (.ireturn, 1) := by decide +kernel
theorem dX6_fountain_17 : decode cX6_fountain 17 = .ok (.aload_n 0, 1) := by decide +kernel
theorem dX6_fountain_18 : decode cX6_fountain 18 = .ok (.getfield 9, 3) := by decide +kernel
theorem dX6_fountain_21 : decode cX6_fountain 21 = .ok (.iconst 4, 1) := by decide +kernel
theorem dX6_fountain_22 : decode cX6_fountain 22 = .ok (.iaload, 1) := by decide +kernel
theorem dX6_fountain_23 : decode cX6_fountain 23 = .ok (.bipush 8, 2) := by decide +kernel
theorem dX6_fountain_25 : decode cX6_fountain 25 = .ok (.if_icmp .ne 12, 3) := by decide +kernel
theorem dX6_fountain_28 : decode cX6_fountain 28 = .ok (.aload_n 0, 1) := by decide +kernel
theorem dX6_fountain_29 : decode cX6_fountain 29 = .ok (.ldc 90, 2) := by decide +kernel
theorem dX6_fountain_31 : decode cX6_fountain 31 = .ok (.invokevirtual 37, 3) := by decide +kernel
theorem dX6_fountain_34 : decode cX6_fountain 34 = .ok (.goto 13, 3) := by decide +kernel
theorem dX6_fountain_37 : decode cX6_fountain 37 = .ok (.aload_n 0, 1) := by decide +kernel
theorem dX6_fountain_38 : decode cX6_fountain 38 = .ok (.iload_n 1, 1) := by decide +kernel
theorem dX6_fountain_39 : decode cX6_fountain 39 = .ok (.bipush 10, 2) := by decide +kernel
theorem dX6_fountain_41 : decode cX6_fountain 41 = .ok (.bipush 20, 2) := by decide +kernel
theorem dX6_fountain_43 : decode cX6_fountain 43 = .ok (.iconst 0, 1) := by decide +kernel
theorem dX6_fountain_44 : decode cX6_fountain 44 = .ok (.invokevirtual 91, 3) := by decide +kernel
theorem dX6_fountain_47 : decode cX6_fountain 47 = .ok (.ireturn, 1) := by decide +kernel
theorem dX6_of_0 : decode cX6_of 0 = .ok (.aload_n 0, 1) := by decide +kernel
theorem dX6_of_1 : decode cX6_of 1 = .ok (.iload_n 1, 1) := by decide +kernel
theorem dX6_of_2 : decode cX6_of 2 = .ok (.invokevirtual 95, 3) := by decide +kernel
theorem dX6_of_5 : decode cX6_of 5 = .ok (.ifCond .eq 14, 3) := by decide +kernel
theorem dX6_of_8 : decode cX6_of 8 = .ok (.iload_n 2, 1) := by decide +kernel
theorem dX6_of_9 : decode cX6_of 9 = .ok (.i2l, 1) := by decide +kernel
theorem dX6_of_10 : decode cX6_of 10 = .ok (.iconst 0, 1) := by decide +kernel
theorem dX6_of_11 : decode cX6_of 11 = .ok (.bipush 8, 2) := by decide +kernel
theorem dX6_of_13 : decode cX6_of 13 = .ok (.invokestatic 41, 3) := by decide +kernel
theorem dX6_of_16 : decode cX6_of 16 = .ok (.ifCond .ne 10, 3) := by decide +kernel
theorem dX6_of_19 : decode cX6_of 19 = .ok (.aload_n 0, 1) := by decide +kernel
theorem dX6_of_20 : decode cX6_of 20 = .ok (.ldc 35, 2) := by decide +kernel
theorem dX6_of_22 : decode cX6_of 22 = .ok (.invokevirtual 37, 3) := by decide +kernel
theorem dX6_of_25 : decode cX6_of 25 = .ok (.ireturn, 1) := by decide +kernel
theorem dX6_of_26 : decode cX6_of 26 = .ok (.iload_n 2, 1) := by decide +kernel
theorem dX6_of_27 : decode cX6_of 27 = .ok (.tableswitch 60 5 8 #[29, 35, 41, 50], 29) := by decide +kernel
theorem dX6_of_56 : decode cX6_of 56 = .ok (.aload_n 0, 1) := by decide +kernel
theorem dX6_of_57 : decode cX6_of 57 = .ok (.iload_n 1, 1) := by decide +kernel
theorem dX6_of_58 : decode cX6_of 58 = .ok (.invokevirtual 74, 3) := by decide +kernel
theorem dX6_of_61 : decode cX6_of 61 = .ok (.ireturn, 1) := by decide +kernel
theorem dX6_of_62 : decode cX6_of 62 = .ok (.aload_n 0, 1) := by decide +kernel
theorem dX6_of_63 : decode cX6_of 63 = .ok (.iload_n 1, 1) := by decide +kernel
theorem dX6_of_64 : decode cX6_of 64 = .ok (.invokevirtual 71, 3) := by decide +kernel
theorem dX6_of_67 : decode cX6_of 67 = .ok (.ireturn, 1) := by decide +kernel
theorem dX6_of_68 : decode cX6_of 68 = .ok (.bipush 100, 2) := by decide +kernel
theorem dX6_of_70 : decode cX6_of 70 = .ok (.aload_n 0, 1) := by decide +kernel
theorem dX6_of_71 : decode cX6_of 71 = .ok (.iload_n 1, 1) := by decide +kernel
theorem dX6_of_72 : decode cX6_of 72 = .ok (.invokevirtual 98, 3) := by decide +kernel
theorem dX6_of_75 : decode cX6_of 75 = .ok (.iadd, 1) := by decide +kernel
theorem dX6_of_76 : decode cX6_of 76 = .ok (.ireturn, 1) := by decide +kernel
theorem dX6_of_77 : decode cX6_of 77 = .ok (.sipush 1000, 3) := by decide +kernel
theorem dX6_of_80 : decode cX6_of 80 = .ok (.aload_n 0, 1) := by decide +kernel
theorem dX6_of_81 : decode cX6_of 81 = .ok (.iload_n 1, 1) := by decide +kernel
theorem dX6_of_82 : decode cX6_of 82 = .ok (.invokevirtual 65, 3) := by decide +kernel
theorem dX6_of_85 : decode cX6_of 85 = .ok (.iadd, 1) := by decide +kernel
theorem dX6_of_86 : decode cX6_of 86 = .ok (.ireturn, 1) := by decide +kernel
theorem dX6_of_87 : decode cX6_of 87 = .ok (.aload_n 0, 1) := by decide +kernel
theorem dX6_of_88 : decode cX6_of 88 = .ok (.iload_n 1, 1) := by decide +kernel
theorem dX6_of_89 : decode cX6_of 89 = .ok (.iload_n 2, 1) := by decide +kernel
theorem dX6_of_90 : decode cX6_of 90 = .ok (.invokevirtual 49, 3) := by decide +kernel
theorem dX6_of_93 : decode cX6_of 93 = .ok (.ireturn, 1) := by decide +kernel
theorem dX6_mostOf_0 : decode cX6_mostOf 0 = .ok (.iload_n 0, 1) := by decide +kernel
theorem dX6_mostOf_1 : decode cX6_mostOf 1 = .ok (.iconst 1, 1) := by decide +kernel
theorem dX6_mostOf_2 : decode cX6_mostOf 2 = .ok (.if_icmp .ne 8, 3) := by decide +kernel
theorem dX6_mostOf_5 : decode cX6_mostOf 5 = .ok (.bipush 40, 2) := by decide +kernel
theorem dX6_mostOf_7 : decode cX6_mostOf 7 = .ok (.goto 25, 3) := by decide +kernel
theorem dX6_mostOf_10 : decode cX6_mostOf 10 = .ok (.iload_n 0, 1) := by decide +kernel
theorem dX6_mostOf_11 : decode cX6_mostOf 11 = .ok (.iconst 2, 1) := by decide +kernel
theorem dX6_mostOf_12 : decode cX6_mostOf 12 = .ok (.if_icmp .ne 7, 3) := by decide +kernel
theorem dX6_mostOf_15 : decode cX6_mostOf 15 = .ok (.iconst 1, 1) := by decide +kernel
theorem dX6_mostOf_16 : decode cX6_mostOf 16 = .ok (.goto 16, 3) := by decide +kernel
theorem dX6_mostOf_19 : decode cX6_mostOf 19 = .ok (.iload_n 0, 1) := by decide +kernel
theorem dX6_mostOf_20 : decode cX6_mostOf 20 = .ok (.iconst 3, 1) := by decide +kernel
theorem dX6_mostOf_21 : decode cX6_mostOf 21 = .ok (.if_icmp .ne 8, 3) := by decide +kernel
theorem dX6_mostOf_24 : decode cX6_mostOf 24 = .ok (.bipush 99, 2) := by decide +kernel
theorem dX6_mostOf_26 : decode cX6_mostOf 26 = .ok (.goto 6, 3) := by decide +kernel
theorem dX6_mostOf_29 : decode cX6_mostOf 29 = .ok (.sipush 9999, 3) := by decide +kernel
theorem dX6_mostOf_32 : decode cX6_mostOf 32 = .ok (.ireturn, 1) := by decide +kernel
theorem dX6_set_0 : decode cX6_set 0 = .ok (.aload_n 0, 1) := by decide +kernel
theorem dX6_set_1 : decode cX6_set 1 = .ok (.iload_n 1, 1) := by decide +kernel
theorem dX6_set_2 : decode cX6_set 2 = .ok (.invokevirtual 95, 3) := by decide +kernel
theorem dX6_set_5 : decode cX6_set 5 = .ok (.ifCond .eq 39, 3) := by decide +kernel
theorem dX6_set_8 : decode cX6_set 8 = .ok (.iload_n 2, 1) := by decide +kernel
theorem dX6_set_9 : decode cX6_set 9 = .ok (.i2l, 1) := by decide +kernel
theorem dX6_set_10 : decode cX6_set 10 = .ok (.iconst 1, 1) := by decide +kernel
theorem dX6_set_11 : decode cX6_set 11 = .ok (.iconst 4, 1) := by decide +kernel
theorem dX6_set_12 : decode cX6_set 12 = .ok (.invokestatic 41, 3) := by decide +kernel
theorem dX6_set_15 : decode cX6_set 15 = .ok (.ifCond .eq 29, 3) := by decide +kernel
theorem dX6_set_18 : decode cX6_set 18 = .ok (.iload_n 3, 1) := by decide +kernel
theorem dX6_set_19 : decode cX6_set 19 = .ok (.i2l, 1) := by decide +kernel
theorem dX6_set_20 : decode cX6_set 20 = .ok (.iload_n 2, 1) := by decide +kernel
theorem dX6_set_21 : decode cX6_set 21 = .ok (.iconst 1, 1) := by decide +kernel
theorem dX6_set_22 : decode cX6_set 22 = .ok (.if_icmp .ne 7, 3) := by decide +kernel
theorem dX6_set_25 : decode cX6_set 25 = .ok (.iconst 1, 1) := by decide +kernel
theorem dX6_set_26 : decode cX6_set 26 = .ok (.goto 4, 3) := by decide +kernel
theorem dX6_set_29 : decode cX6_set 29 = .ok (.iconst 0, 1) := by decide +kernel
theorem dX6_set_30 : decode cX6_set 30 = .ok (.iload_n 2, 1) := by decide +kernel
theorem dX6_set_31 : decode cX6_set 31 = .ok (.invokestatic 101, 3) := by decide +kernel
theorem dX6_set_34 : decode cX6_set 34 = .ok (.invokestatic 41, 3) := by decide +kernel
theorem dX6_set_37 : decode cX6_set 37 = .ok (.ifCond .eq 7, 3) := by decide +kernel
theorem dX6_set_40 : decode cX6_set 40 = .ok (.iconst 1, 1) := by decide +kernel
theorem dX6_set_41 : decode cX6_set 41 = .ok (.goto 4, 3) := by decide +kernel
theorem dX6_set_44 : decode cX6_set 44 = .ok (.iconst 0, 1) := by decide +kernel
theorem dX6_set_45 : decode cX6_set 45 = .ok (.istore 4, 2) := by decide +kernel
theorem dX6_set_47 : decode cX6_set 47 = .ok (.iload 4, 2) := by decide +kernel
theorem dX6_set_49 : decode cX6_set 49 = .ok (.ifCond .eq 19, 3) := by decide +kernel
theorem dX6_set_52 : decode cX6_set 52 = .ok (.aload_n 0, 1) := by decide +kernel
theorem dX6_set_53 : decode cX6_set 53 = .ok (.bipush 21, 2) := by decide +kernel
theorem dX6_set_55 : decode cX6_set 55 = .ok (.iconst 5, 1) := by decide +kernel
theorem dX6_set_56 : decode cX6_set 56 = .ok (.iload_n 1, 1) := by decide +kernel
theorem dX6_set_57 : decode cX6_set 57 = .ok (.imul, 1) := by decide +kernel
theorem dX6_set_58 : decode cX6_set 58 = .ok (.iadd, 1) := by decide +kernel
theorem dX6_set_59 : decode cX6_set 59 = .ok (.iload_n 2, 1) := by decide +kernel
theorem dX6_set_60 : decode cX6_set 60 = .ok (.iadd, 1) := by decide +kernel
theorem dX6_set_61 : decode cX6_set 61 = .ok (.iload_n 3, 1) := by decide +kernel
theorem dX6_set_62 : decode cX6_set 62 = .ok (.invokevirtual 68, 3) := by decide +kernel
theorem dX6_set_65 : decode cX6_set 65 = .ok (.goto 9, 3) := by decide +kernel
theorem dX6_set_68 : decode cX6_set 68 = .ok (.aload_n 0, 1) := by decide +kernel
theorem dX6_set_69 : decode cX6_set 69 = .ok (.ldc 35, 2) := by decide +kernel
theorem dX6_set_71 : decode cX6_set 71 = .ok (.invokevirtual 37, 3) := by decide +kernel
theorem dX6_set_74 : decode cX6_set 74 = .ok (.ireturn, 1) := by decide +kernel
theorem dX6_turn_0 : decode cX6_turn 0 = .ok (.aload_n 0, 1) := by decide +kernel
theorem dX6_turn_1 : decode cX6_turn 1 = .ok (.iload_n 1, 1) := by decide +kernel
theorem dX6_turn_2 : decode cX6_turn 2 = .ok (.invokevirtual 95, 3) := by decide +kernel
theorem dX6_turn_5 : decode cX6_turn 5 = .ok (.ifCond .eq 27, 3) := by decide +kernel
theorem dX6_turn_8 : decode cX6_turn 8 = .ok (.iload_n 2, 1) := by decide +kernel
theorem dX6_turn_9 : decode cX6_turn 9 = .ok (.i2l, 1) := by decide +kernel
theorem dX6_turn_10 : decode cX6_turn 10 = .ok (.iconst 0, 1) := by decide +kernel
theorem dX6_turn_11 : decode cX6_turn 11 = .ok (.iconst 5, 1) := by decide +kernel
theorem dX6_turn_12 : decode cX6_turn 12 = .ok (.invokestatic 41, 3) := by decide +kernel
theorem dX6_turn_15 : decode cX6_turn 15 = .ok (.ifCond .eq 17, 3) := by decide +kernel
theorem dX6_turn_18 : decode cX6_turn 18 = .ok (.aload_n 0, 1) := by decide +kernel
theorem dX6_turn_19 : decode cX6_turn 19 = .ok (.bipush 21, 2) := by decide +kernel
theorem dX6_turn_21 : decode cX6_turn 21 = .ok (.iconst 5, 1) := by decide +kernel
theorem dX6_turn_22 : decode cX6_turn 22 = .ok (.iload_n 1, 1) := by decide +kernel
theorem dX6_turn_23 : decode cX6_turn 23 = .ok (.imul, 1) := by decide +kernel
theorem dX6_turn_24 : decode cX6_turn 24 = .ok (.iadd, 1) := by decide +kernel
theorem dX6_turn_25 : decode cX6_turn 25 = .ok (.iload_n 2, 1) := by decide +kernel
theorem dX6_turn_26 : decode cX6_turn 26 = .ok (.invokevirtual 68, 3) := by decide +kernel
theorem dX6_turn_29 : decode cX6_turn 29 = .ok (.goto 9, 3) := by decide +kernel
theorem dX6_turn_32 : decode cX6_turn 32 = .ok (.aload_n 0, 1) := by decide +kernel
theorem dX6_turn_33 : decode cX6_turn 33 = .ok (.ldc 35, 2) := by decide +kernel
theorem dX6_turn_35 : decode cX6_turn 35 = .ok (.invokevirtual 37, 3) := by decide +kernel
theorem dX6_turn_38 : decode cX6_turn 38 = .ok (.ireturn, 1) := by decide +kernel
theorem dX6_as_0 : decode cX6_as 0 = .ok (.aload_n 0, 1) := by decide +kernel
theorem dX6_as_1 : decode cX6_as 1 = .ok (.iload_n 1, 1) := by decide +kernel
theorem dX6_as_2 : decode cX6_as 2 = .ok (.invokevirtual 95, 3) := by decide +kernel
theorem dX6_as_5 : decode cX6_as 5 = .ok (.ifCond .eq 13, 3) := by decide +kernel
theorem dX6_as_8 : decode cX6_as 8 = .ok (.iload_n 2, 1) := by decide +kernel
theorem dX6_as_9 : decode cX6_as 9 = .ok (.i2l, 1) := by decide +kernel
theorem dX6_as_10 : decode cX6_as 10 = .ok (.iconst 0, 1) := by decide +kernel
theorem dX6_as_11 : decode cX6_as 11 = .ok (.iconst 5, 1) := by decide +kernel
theorem dX6_as_12 : decode cX6_as 12 = .ok (.invokestatic 41, 3) := by decide +kernel
theorem dX6_as_15 : decode cX6_as 15 = .ok (.ifCond .ne 10, 3) := by decide +kernel
theorem dX6_as_18 : decode cX6_as 18 = .ok (.aload_n 0, 1) := by decide +kernel
theorem dX6_as_19 : decode cX6_as 19 = .ok (.ldc 35, 2) := by decide +kernel
theorem dX6_as_21 : decode cX6_as 21 = .ok (.invokevirtual 37, 3) := by decide +kernel
theorem dX6_as_24 : decode cX6_as 24 = .ok (.ireturn, 1) := by decide +kernel
theorem dX6_as_25 : decode cX6_as 25 = .ok (.aload_n 0, 1) := by decide +kernel
theorem dX6_as_26 : decode cX6_as 26 = .ok (.iload_n 1, 1) := by decide +kernel
theorem dX6_as_27 : decode cX6_as 27 = .ok (.iconst 0, 1) := by decide +kernel
theorem dX6_as_28 : decode cX6_as 28 = .ok (.invokevirtual 49, 3) := by decide +kernel
theorem dX6_as_31 : decode cX6_as 31 = .ok (.istore_n 3, 1) := by decide +kernel
theorem dX6_as_32 : decode cX6_as 32 = .ok (.iload_n 2, 1) := by decide +kernel
theorem dX6_as_33 : decode cX6_as 33 = .ok (.ifCond .eq 28, 3) := by decide +kernel
theorem dX6_as_36 : decode cX6_as 36 = .ok (.iload_n 2, 1) := by decide +kernel
theorem dX6_as_37 : decode cX6_as 37 = .ok (.iload_n 3, 1) := by decide +kernel
theorem dX6_as_38 : decode cX6_as 38 = .ok (.if_icmp .eq 23, 3) := by decide +kernel
theorem dX6_as_41 : decode cX6_as 41 = .ok (.iload_n 2, 1) := by decide +kernel
theorem dX6_as_42 : decode cX6_as 42 = .ok (.iconst 1, 1) := by decide +kernel
theorem dX6_as_43 : decode cX6_as 43 = .ok (.if_icmp .ne 8, 3) := by decide +kernel
theorem dX6_as_46 : decode cX6_as 46 = .ok (.iload_n 3, 1) := by decide +kernel
theorem dX6_as_47 : decode cX6_as 47 = .ok (.iconst 4, 1) := by decide +kernel
theorem dX6_as_48 : decode cX6_as 48 = .ok (.if_icmp .eq 13, 3) := by decide +kernel
theorem dX6_as_51 : decode cX6_as 51 = .ok (.iload_n 2, 1) := by decide +kernel
theorem dX6_as_52 : decode cX6_as 52 = .ok (.iconst 3, 1) := by decide +kernel
theorem dX6_as_53 : decode cX6_as 53 = .ok (.if_icmp .ne 12, 3) := by decide +kernel
theorem dX6_as_56 : decode cX6_as 56 = .ok (.iload_n 3, 1) := by decide +kernel
theorem dX6_as_57 : decode cX6_as 57 = .ok (.iconst 5, 1) := by decide +kernel
theorem dX6_as_58 : decode cX6_as 58 = .ok (.if_icmp .ne 7, 3) := by decide +kernel
theorem dX6_as_61 : decode cX6_as 61 = .ok (.iconst 1, 1) := by decide +kernel
theorem dX6_as_62 : decode cX6_as 62 = .ok (.goto 4, 3) := by decide +kernel
theorem dX6_as_65 : decode cX6_as 65 = .ok (.iconst 0, 1) := by decide +kernel
theorem dX6_as_66 : decode cX6_as 66 = .ok (.istore 4, 2) := by decide +kernel
theorem dX6_as_68 : decode cX6_as 68 = .ok (.iload 4, 2) := by decide +kernel
theorem dX6_as_70 : decode cX6_as 70 = .ok (.ifCond .eq 12, 3) := by decide +kernel
theorem dX6_as_73 : decode cX6_as 73 = .ok (.aload_n 0, 1) := by decide +kernel
theorem dX6_as_74 : decode cX6_as 74 = .ok (.iload_n 1, 1) := by decide +kernel
theorem dX6_as_75 : decode cX6_as 75 = .ok (.iconst 3, 1) := by decide +kernel
theorem dX6_as_76 : decode cX6_as 76 = .ok (.invokevirtual 49, 3) := by decide +kernel
theorem dX6_as_79 : decode cX6_as 79 = .ok (.goto 9, 3) := by decide +kernel
theorem dX6_as_82 : decode cX6_as 82 = .ok (.aload_n 0, 1) := by decide +kernel
theorem dX6_as_83 : decode cX6_as 83 = .ok (.ldc 104, 2) := by decide +kernel
theorem dX6_as_85 : decode cX6_as 85 = .ok (.invokevirtual 37, 3) := by decide +kernel
theorem dX6_as_88 : decode cX6_as 88 = .ok (.ireturn, 1) := by decide +kernel
theorem dX6_next_0 : decode cX6_next 0 = .ok (.aload_n 0, 1) := by decide +kernel
theorem dX6_next_1 : decode cX6_next 1 = .ok (.aload_n 0, 1) := by decide +kernel
theorem dX6_next_2 : decode cX6_next 2 = .ok (.iconst 0, 1) := by decide +kernel
theorem dX6_next_3 : decode cX6_next 3 = .ok (.iconst 1, 1) := by decide +kernel
theorem dX6_next_4 : decode cX6_next 4 = .ok (.invokevirtual 105, 3) := by decide +kernel
theorem dX6_next_7 : decode cX6_next 7 = .ok (.invokevirtual 109, 3) := by decide +kernel
theorem dX6_next_10 : decode cX6_next 10 = .ok (.ireturn, 1) := by decide +kernel
theorem dX6_turnsOff_0 : decode cX6_turnsOff 0 = .ok (.aload_n 0, 1) := by decide +kernel
theorem dX6_turnsOff_1 : decode cX6_turnsOff 1 = .ok (.iload_n 1, 1) := by decide +kernel
theorem dX6_turnsOff_2 : decode cX6_turnsOff 2 = .ok (.iconst 2, 1) := by decide +kernel
theorem dX6_turnsOff_3 : decode cX6_turnsOff 3 = .ok (.iconst 1, 1) := by decide +kernel
theorem dX6_turnsOff_4 : decode cX6_turnsOff 4 = .ok (.invokevirtual 86, 3) := by decide +kernel
theorem dX6_turnsOff_7 : decode cX6_turnsOff 7 = .ok (.aload_n 0, 1) := by decide +kernel
theorem dX6_turnsOff_8 : decode cX6_turnsOff 8 = .ok (.iload_n 1, 1) := by decide +kernel
theorem dX6_turnsOff_9 : decode cX6_turnsOff 9 = .ok (.iconst 4, 1) := by decide +kernel
theorem dX6_turnsOff_10 : decode cX6_turnsOff 10 = .ok (.aload_n 0, 1) := by decide +kernel
theorem dX6_turnsOff_11 : decode cX6_turnsOff 11 = .ok (.iload_n 1, 1) := by decide +kernel
theorem dX6_turnsOff_12 : decode cX6_turnsOff 12 = .ok (.iconst 4, 1) := by decide +kernel
theorem dX6_turnsOff_13 : decode cX6_turnsOff 13 = .ok (.invokevirtual 49, 3) := by decide +kernel
theorem dX6_turnsOff_16 : decode cX6_turnsOff 16 = .ok (.iconst 1, 1) := by decide +kernel
theorem dX6_turnsOff_17 : decode cX6_turnsOff 17 = .ok (.iadd, 1) := by decide +kernel
theorem dX6_turnsOff_18 : decode cX6_turnsOff 18 = .ok (.iconst 0, 1) := by decide +kernel
theorem dX6_turnsOff_19 : decode cX6_turnsOff 19 = .ok (.sipush 9999, 3) := by decide +kernel
theorem dX6_turnsOff_22 : decode cX6_turnsOff 22 = .ok (.invokestatic 53, 3) := by decide +kernel
theorem dX6_turnsOff_25 : decode cX6_turnsOff 25 = .ok (.invokevirtual 86, 3) := by decide +kernel
theorem dX6_turnsOff_28 : decode cX6_turnsOff 28 = .ok (.return_, 1) := by decide +kernel
theorem dX6_committee_0 : decode cX6_committee 0 = .ok (.aload_n 0, 1) := by decide +kernel
theorem dX6_committee_1 : decode cX6_committee 1 = .ok (.getfield 9, 3) := by decide +kernel
theorem dX6_committee_4 : decode cX6_committee 4 = .ok (.iconst 1, 1) := by decide +kernel
theorem dX6_committee_5 : decode cX6_committee 5 = .ok (.iaload, 1) := by decide +kernel
theorem dX6_committee_6 : decode cX6_committee 6 = .ok (.aload_n 0, 1) := by decide +kernel
theorem dX6_committee_7 : decode cX6_committee 7 = .ok (.getfield 9, 3) := by decide +kernel
theorem dX6_committee_10 : decode cX6_committee 10 = .ok (.iconst 2, 1) := by decide +kernel
theorem dX6_committee_11 : decode cX6_committee 11 = .ok (.iaload, 1) := by decide +kernel
theorem dX6_committee_12 : decode cX6_committee 12 = .ok (.if_icmp .ge 12, 3) := by decide +kernel
theorem dX6_committee_15 : decode cX6_committee 15 = .ok (.aload_n 0, 1) := by decide +kernel
theorem dX6_committee_16 : decode cX6_committee 16 = .ok (.iconst 0, 1) := by decide +kernel
theorem dX6_committee_17 : decode cX6_committee 17 = .ok (.iconst 1, 1) := by decide +kernel
theorem dX6_committee_18 : decode cX6_committee 18 = .ok (.invokevirtual 105, 3) := by decide +kernel
theorem dX6_committee_21 : decode cX6_committee 21 = .ok (.goto 28, 3) := by decide +kernel
theorem dX6_committee_24 : decode cX6_committee 24 = .ok (.aload_n 0, 1) := by decide +kernel
theorem dX6_committee_25 : decode cX6_committee 25 = .ok (.getfield 9, 3) := by decide +kernel
theorem dX6_committee_28 : decode cX6_committee 28 = .ok (.iconst 1, 1) := by decide +kernel
theorem dX6_committee_29 : decode cX6_committee 29 = .ok (.iaload, 1) := by decide +kernel
theorem dX6_committee_30 : decode cX6_committee 30 = .ok (.aload_n 0, 1) := by decide +kernel
theorem dX6_committee_31 : decode cX6_committee 31 = .ok (.getfield 9, 3) := by decide +kernel
theorem dX6_committee_34 : decode cX6_committee 34 = .ok (.iconst 3, 1) := by decide +kernel
theorem dX6_committee_35 : decode cX6_committee 35 = .ok (.iaload, 1) := by decide +kernel
theorem dX6_committee_36 : decode cX6_committee 36 = .ok (.if_icmp .lt 12, 3) := by decide +kernel
theorem dX6_committee_39 : decode cX6_committee 39 = .ok (.aload_n 0, 1) := by decide +kernel
theorem dX6_committee_40 : decode cX6_committee 40 = .ok (.iconst 1, 1) := by decide +kernel
theorem dX6_committee_41 : decode cX6_committee 41 = .ok (.iconst 0, 1) := by decide +kernel
theorem dX6_committee_42 : decode cX6_committee 42 = .ok (.invokevirtual 105, 3) := by decide +kernel
theorem dX6_committee_45 : decode cX6_committee 45 = .ok (.goto 4, 3) := by decide +kernel
theorem dX6_committee_48 : decode cX6_committee 48 = .ok (.iconst (-1), 1) := by decide +kernel
theorem dX6_committee_49 : decode cX6_committee 49 = .ok (.istore_n 1, 1) := by decide +kernel
theorem dX6_committee_50 : decode cX6_committee 50 = .ok (.iload_n 1, 1) := by decide +kernel
theorem dX6_committee_51 : decode cX6_committee 51 = .ok (.ifCond .lt 26, 3) := by decide +kernel
theorem dX6_committee_54 : decode cX6_committee 54 = .ok (.aload_n 0, 1) := by decide +kernel
theorem dX6_committee_55 : decode cX6_committee 55 = .ok (.getfield 9, 3) := by decide +kernel
theorem dX6_committee_58 : decode cX6_committee 58 = .ok (.iconst 1, 1) := by decide +kernel
theorem dX6_committee_59 : decode cX6_committee 59 = .ok (.iaload, 1) := by decide +kernel
theorem dX6_committee_60 : decode cX6_committee 60 = .ok (.aload_n 0, 1) := by decide +kernel
theorem dX6_committee_61 : decode cX6_committee 61 = .ok (.getfield 9, 3) := by decide +kernel
theorem dX6_committee_64 : decode cX6_committee 64 = .ok (.iconst 2, 1) := by decide +kernel
theorem dX6_committee_65 : decode cX6_committee 65 = .ok (.iaload, 1) := by decide +kernel
theorem dX6_committee_66 : decode cX6_committee 66 = .ok (.if_icmp .ge 11, 3) := by decide +kernel
theorem dX6_committee_69 : decode cX6_committee 69 = .ok (.aload_n 0, 1) := by decide +kernel
theorem dX6_committee_70 : decode cX6_committee 70 = .ok (.iload_n 1, 1) := by decide +kernel
theorem dX6_committee_71 : decode cX6_committee 71 = .ok (.invokevirtual 112, 3) := by decide +kernel
theorem dX6_committee_74 : decode cX6_committee 74 = .ok (.goto 14, 3) := by decide +kernel
theorem dX6_committee_77 : decode cX6_committee 77 = .ok (.iload_n 1, 1) := by decide +kernel
theorem dX6_committee_78 : decode cX6_committee 78 = .ok (.ifCond .lt 10, 3) := by decide +kernel
theorem dX6_committee_81 : decode cX6_committee 81 = .ok (.aload_n 0, 1) := by decide +kernel
theorem dX6_committee_82 : decode cX6_committee 82 = .ok (.iload_n 1, 1) := by decide +kernel
theorem dX6_committee_83 : decode cX6_committee 83 = .ok (.iconst 2, 1) := by decide +kernel
theorem dX6_committee_84 : decode cX6_committee 84 = .ok (.iconst 0, 1) := by decide +kernel
theorem dX6_committee_85 : decode cX6_committee 85 = .ok (.invokevirtual 86, 3) := by decide +kernel
theorem dX6_committee_88 : decode cX6_committee 88 = .ok (.return_, 1) := by decide +kernel
theorem dX6_flows_0 : decode cX6_flows 0 = .ok (.aload_n 0, 1) := by decide +kernel
theorem dX6_flows_1 : decode cX6_flows 1 = .ok (.getfield 9, 3) := by decide +kernel
theorem dX6_flows_4 : decode cX6_flows 4 = .ok (.iconst 1, 1) := by decide +kernel
theorem dX6_flows_5 : decode cX6_flows 5 = .ok (.iaload, 1) := by decide +kernel
theorem dX6_flows_6 : decode cX6_flows 6 = .ok (.aload_n 0, 1) := by decide +kernel
theorem dX6_flows_7 : decode cX6_flows 7 = .ok (.iload_n 1, 1) := by decide +kernel
theorem dX6_flows_8 : decode cX6_flows 8 = .ok (.invokevirtual 74, 3) := by decide +kernel
theorem dX6_flows_11 : decode cX6_flows 11 = .ok (.if_icmp .lt 20, 3) := by decide +kernel
theorem dX6_flows_14 : decode cX6_flows 14 = .ok (.aload_n 0, 1) := by decide +kernel
theorem dX6_flows_15 : decode cX6_flows 15 = .ok (.getfield 9, 3) := by decide +kernel
theorem dX6_flows_18 : decode cX6_flows 18 = .ok (.iconst 1, 1) := by decide +kernel
theorem dX6_flows_19 : decode cX6_flows 19 = .ok (.dup2, 1) := by decide +kernel
theorem dX6_flows_20 : decode cX6_flows 20 = .ok (.iaload, 1) := by decide +kernel
theorem dX6_flows_21 : decode cX6_flows 21 = .ok (.aload_n 0, 1) := by decide +kernel
theorem dX6_flows_22 : decode cX6_flows 22 = .ok (.iload_n 1, 1) := by decide +kernel
theorem dX6_flows_23 : decode cX6_flows 23 = .ok (.invokevirtual 74, 3) := by decide +kernel
theorem dX6_flows_26 : decode cX6_flows 26 = .ok (.isub, 1) := by decide +kernel
theorem dX6_flows_27 : decode cX6_flows 27 = .ok (.iastore, 1) := by decide +kernel
theorem dX6_flows_28 : decode cX6_flows 28 = .ok (.goto 18, 3) := by decide +kernel
theorem dX6_flows_31 : decode cX6_flows 31 = .ok (.aload_n 0, 1) := by decide +kernel
theorem dX6_flows_32 : decode cX6_flows 32 = .ok (.iload_n 1, 1) := by decide +kernel
theorem dX6_flows_33 : decode cX6_flows 33 = .ok (.iconst 0, 1) := by decide +kernel
theorem dX6_flows_34 : decode cX6_flows 34 = .ok (.invokevirtual 49, 3) := by decide +kernel
theorem dX6_flows_37 : decode cX6_flows 37 = .ok (.iconst 5, 1) := by decide +kernel
theorem dX6_flows_38 : decode cX6_flows 38 = .ok (.if_icmp .eq 8, 3) := by decide +kernel
theorem dX6_flows_41 : decode cX6_flows 41 = .ok (.aload_n 0, 1) := by decide +kernel
theorem dX6_flows_42 : decode cX6_flows 42 = .ok (.iload_n 1, 1) := by decide +kernel
theorem dX6_flows_43 : decode cX6_flows 43 = .ok (.invokevirtual 112, 3) := by decide +kernel
theorem dX6_flows_46 : decode cX6_flows 46 = .ok (.return_, 1) := by decide +kernel
theorem dX6_goes_0 : decode cX6_goes 0 = .ok (.aload_n 0, 1) := by decide +kernel
theorem dX6_goes_1 : decode cX6_goes 1 = .ok (.getfield 9, 3) := by decide +kernel
theorem dX6_goes_4 : decode cX6_goes 4 = .ok (.iconst 1, 1) := by decide +kernel
theorem dX6_goes_5 : decode cX6_goes 5 = .ok (.aload_n 0, 1) := by decide +kernel
theorem dX6_goes_6 : decode cX6_goes 6 = .ok (.getfield 9, 3) := by decide +kernel
theorem dX6_goes_9 : decode cX6_goes 9 = .ok (.iconst 1, 1) := by decide +kernel
theorem dX6_goes_10 : decode cX6_goes 10 = .ok (.iaload, 1) := by decide +kernel
theorem dX6_goes_11 : decode cX6_goes 11 = .ok (.aload_n 0, 1) := by decide +kernel
theorem dX6_goes_12 : decode cX6_goes 12 = .ok (.getfield 9, 3) := by decide +kernel
theorem dX6_goes_15 : decode cX6_goes 15 = .ok (.iconst 5, 1) := by decide +kernel
