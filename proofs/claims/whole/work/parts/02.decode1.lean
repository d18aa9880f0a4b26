theorem dL_law_1178 : decode cL_law 1178 = .ok (.iadd, 1) := by decide +kernel
theorem dL_law_1179 : decode cL_law 1179 = .ok (.iaload, 1) := by decide +kernel
theorem dL_law_1180 : decode cL_law 1180 = .ok (.invokevirtual 160, 3) := by decide +kernel
theorem dL_law_1183 : decode cL_law 1183 = .ok (.if_icmp .eq 28, 3) := by decide +kernel
theorem dL_law_1186 : decode cL_law 1186 = .ok (.iconst 0, 1) := by decide +kernel
theorem dL_law_1187 : decode cL_law 1187 = .ok (.ireturn, 1) := by decide +kernel
theorem dL_law_1188 : decode cL_law 1188 = .ok (.aload_n 1, 1) := by decide +kernel
theorem dL_law_1189 : decode cL_law 1189 = .ok (.aload_n 0, 1) := by decide +kernel
theorem dL_law_1190 : decode cL_law 1190 = .ok (.iload_n 3, 1) := by decide +kernel
theorem dL_law_1191 : decode cL_law 1191 = .ok (.iconst 1, 1) := by decide +kernel
theorem dL_law_1192 : decode cL_law 1192 = .ok (.iadd, 1) := by decide +kernel
theorem dL_law_1193 : decode cL_law 1193 = .ok (.iaload, 1) := by decide +kernel
theorem dL_law_1194 : decode cL_law 1194 = .ok (.invokevirtual 161, 3) := by decide +kernel
theorem dL_law_1197 : decode cL_law 1197 = .ok (.aload_n 2, 1) := by decide +kernel
theorem dL_law_1198 : decode cL_law 1198 = .ok (.aload_n 0, 1) := by decide +kernel
theorem dL_law_1199 : decode cL_law 1199 = .ok (.iload_n 3, 1) := by decide +kernel
theorem dL_law_1200 : decode cL_law 1200 = .ok (.iconst 1, 1) := by decide +kernel
theorem dL_law_1201 : decode cL_law 1201 = .ok (.iadd, 1) := by decide +kernel
theorem dL_law_1202 : decode cL_law 1202 = .ok (.iaload, 1) := by decide +kernel
theorem dL_law_1203 : decode cL_law 1203 = .ok (.invokevirtual 164, 3) := by decide +kernel
theorem dL_law_1206 : decode cL_law 1206 = .ok (.if_icmp .eq 5, 3) := by decide +kernel
theorem dL_law_1209 : decode cL_law 1209 = .ok (.iconst 0, 1) := by decide +kernel
theorem dL_law_1210 : decode cL_law 1210 = .ok (.ireturn, 1) := by decide +kernel
theorem dL_law_1211 : decode cL_law 1211 = .ok (.iinc 3 6, 3) := by decide +kernel
theorem dL_law_1214 : decode cL_law 1214 = .ok (.goto (-1196), 3) := by decide +kernel
theorem dL_law_1217 : decode cL_law 1217 = .ok (.iconst 1, 1) := by decide +kernel
theorem dL_law_1218 : decode cL_law 1218 = .ok (.ireturn, 1) := by decide +kernel
theorem dX0_init_0 : decode cX0_init 0 = .ok (.aload_n 0, 1) := by decide +kernel
theorem dX0_init_1 : decode cX0_init 1 = .ok (.invokespecial 3, 3) := by decide +kernel
theorem dX0_init_4 : decode cX0_init 4 = .ok (.return_, 1) := by decide +kernel
theorem dX0_begin_0 : decode cX0_begin 0 = .ok (.aload_n 0, 1) := by decide +kernel
theorem dX0_begin_1 : decode cX0_begin 1 = .ok (.iload_n 1, 1) := by decide +kernel
theorem dX0_begin_2 : decode cX0_begin 2 = .ok (.putfield 9, 3) := by decide +kernel
theorem dX0_begin_5 : decode cX0_begin 5 = .ok (.aload_n 0, 1) := by decide +kernel
theorem dX0_begin_6 : decode cX0_begin 6 = .ok (.bipush 10, 2) := by decide +kernel
theorem dX0_begin_8 : decode cX0_begin 8 = .ok (.putfield 15, 3) := by decide +kernel
theorem dX0_begin_11 : decode cX0_begin 11 = .ok (.aload_n 0, 1) := by decide +kernel
theorem dX0_begin_12 : decode cX0_begin 12 = .ok (.iconst 0, 1) := by decide +kernel
theorem dX0_begin_13 : decode cX0_begin 13 = .ok (.putfield 18, 3) := by decide +kernel
theorem dX0_begin_16 : decode cX0_begin 16 = .ok (.aload_n 0, 1) := by decide +kernel
theorem dX0_begin_17 : decode cX0_begin 17 = .ok (.bipush 20, 2) := by decide +kernel
theorem dX0_begin_19 : decode cX0_begin 19 = .ok (.putfield 21, 3) := by decide +kernel
theorem dX0_begin_22 : decode cX0_begin 22 = .ok (.aload_n 0, 1) := by decide +kernel
theorem dX0_begin_23 : decode cX0_begin 23 = .ok (.iconst 0, 1) := by decide +kernel
theorem dX0_begin_24 : decode cX0_begin 24 = .ok (.putfield 24, 3) := by decide +kernel
theorem dX0_begin_27 : decode cX0_begin 27 = .ok (.return_, 1) := by decide +kernel
theorem dX0_become_0 : decode cX0_become 0 = .ok (.aload_n 0, 1) := by decide +kernel
theorem dX0_become_1 : decode cX0_become 1 = .ok (.aload_n 1, 1) := by decide +kernel
theorem dX0_become_2 : decode cX0_become 2 = .ok (.getfield 9, 3) := by decide +kernel
theorem dX0_become_5 : decode cX0_become 5 = .ok (.putfield 9, 3) := by decide +kernel
theorem dX0_become_8 : decode cX0_become 8 = .ok (.aload_n 0, 1) := by decide +kernel
theorem dX0_become_9 : decode cX0_become 9 = .ok (.aload_n 1, 1) := by decide +kernel
theorem dX0_become_10 : decode cX0_become 10 = .ok (.getfield 15, 3) := by decide +kernel
theorem dX0_become_13 : decode cX0_become 13 = .ok (.putfield 15, 3) := by decide +kernel
theorem dX0_become_16 : decode cX0_become 16 = .ok (.aload_n 0, 1) := by decide +kernel
theorem dX0_become_17 : decode cX0_become 17 = .ok (.aload_n 1, 1) := by decide +kernel
theorem dX0_become_18 : decode cX0_become 18 = .ok (.getfield 18, 3) := by decide +kernel
theorem dX0_become_21 : decode cX0_become 21 = .ok (.putfield 18, 3) := by decide +kernel
theorem dX0_become_24 : decode cX0_become 24 = .ok (.aload_n 0, 1) := by decide +kernel
theorem dX0_become_25 : decode cX0_become 25 = .ok (.aload_n 1, 1) := by decide +kernel
theorem dX0_become_26 : decode cX0_become 26 = .ok (.getfield 21, 3) := by decide +kernel
theorem dX0_become_29 : decode cX0_become 29 = .ok (.putfield 21, 3) := by decide +kernel
theorem dX0_become_32 : decode cX0_become 32 = .ok (.aload_n 0, 1) := by decide +kernel
theorem dX0_become_33 : decode cX0_become 33 = .ok (.aload_n 1, 1) := by decide +kernel
theorem dX0_become_34 : decode cX0_become 34 = .ok (.getfield 24, 3) := by decide +kernel
theorem dX0_become_37 : decode cX0_become 37 = .ok (.putfield 24, 3) := by decide +kernel
theorem dX0_become_40 : decode cX0_become 40 = .ok (.return_, 1) := by decide +kernel
theorem dX0_isStill_0 : decode cX0_isStill 0 = .ok (.aload_n 0, 1) := by decide +kernel
theorem dX0_isStill_1 : decode cX0_isStill 1 = .ok (.getfield 18, 3) := by decide +kernel
theorem dX0_isStill_4 : decode cX0_isStill 4 = .ok (.iconst 1, 1) := by decide +kernel
theorem dX0_isStill_5 : decode cX0_isStill 5 = .ok (.if_icmp .ne 15, 3) := by decide +kernel
theorem dX0_isStill_8 : decode cX0_isStill 8 = .ok (.aload_n 0, 1) := by decide +kernel
theorem dX0_isStill_9 : decode cX0_isStill 9 = .ok (.getfield 9, 3) := by decide +kernel
theorem dX0_isStill_12 : decode cX0_isStill 12 = .ok (.iconst 5, 1) := by decide +kernel
theorem dX0_isStill_13 : decode cX0_isStill 13 = .ok (.if_icmp .eq 7, 3) := by decide +kernel
theorem dX0_isStill_16 : decode cX0_isStill 16 = .ok (.iconst 1, 1) := by decide +kernel
theorem dX0_isStill_17 : decode cX0_isStill 17 = .ok (.goto 4, 3) := by decide +kernel
theorem dX0_isStill_20 : decode cX0_isStill 20 = .ok (.iconst 0, 1) := by decide +kernel
theorem dX0_isStill_21 : decode cX0_isStill 21 = .ok (.ireturn, 1) := by decide +kernel
theorem dX0_uses_0 : decode cX0_uses 0 = .ok (.aload_n 0, 1) := by decide +kernel
theorem dX0_uses_1 : decode cX0_uses 1 = .ok (.invokevirtual 27, 3) := by decide +kernel
theorem dX0_uses_4 : decode cX0_uses 4 = .ok (.ifCond .eq 5, 3) := by decide +kernel
theorem dX0_uses_7 : decode cX0_uses 7 = .ok (.iconst 0, 1) := by decide +kernel
theorem dX0_uses_8 : decode cX0_uses 8 = .ok (.ireturn, 1) := by decide +kernel
theorem dX0_uses_9 : decode cX0_uses 9 = .ok (.iload_n 1, 1) := by decide +kernel
theorem dX0_uses_10 : decode cX0_uses 10 = .ok (.ifCond .eq 12, 3) := by decide +kernel
theorem dX0_uses_13 : decode cX0_uses 13 = .ok (.aload_n 0, 1) := by decide +kernel
theorem dX0_uses_14 : decode cX0_uses 14 = .ok (.invokevirtual 31, 3) := by decide +kernel
theorem dX0_uses_17 : decode cX0_uses 17 = .ok (.iconst 2, 1) := by decide +kernel
theorem dX0_uses_18 : decode cX0_uses 18 = .ok (.idiv, 1) := by decide +kernel
theorem dX0_uses_19 : decode cX0_uses 19 = .ok (.goto 7, 3) := by decide +kernel
theorem dX0_uses_22 : decode cX0_uses 22 = .ok (.aload_n 0, 1) := by decide +kernel
theorem dX0_uses_23 : decode cX0_uses 23 = .ok (.invokevirtual 31, 3) := by decide +kernel
theorem dX0_uses_26 : decode cX0_uses 26 = .ok (.ireturn, 1) := by decide +kernel
theorem dX0_usesGoing_0 : decode cX0_usesGoing 0 = .ok (.aload_n 0, 1) := by decide +kernel
theorem dX0_usesGoing_1 : decode cX0_usesGoing 1 = .ok (.getfield 9, 3) := by decide +kernel
theorem dX0_usesGoing_4 : decode cX0_usesGoing 4 = .ok (.tableswitch 77 1 5 #[36, 43, 54, 56, 75], 36) := by decide +kernel
theorem dX0_usesGoing_40 : decode cX0_usesGoing 40 = .ok (.aload_n 0, 1) := by decide +kernel
theorem dX0_usesGoing_41 : decode cX0_usesGoing 41 = .ok (.getfield 15, 3) := by decide +kernel
theorem dX0_usesGoing_44 : decode cX0_usesGoing 44 = .ok (.iconst 2, 1) := by decide +kernel
theorem dX0_usesGoing_45 : decode cX0_usesGoing 45 = .ok (.imul, 1) := by decide +kernel
theorem dX0_usesGoing_46 : decode cX0_usesGoing 46 = .ok (.ireturn, 1) := by decide +kernel
theorem dX0_usesGoing_47 : decode cX0_usesGoing 47 = .ok (.iconst 1, 1) := by decide +kernel
theorem dX0_usesGoing_48 : decode cX0_usesGoing 48 = .ok (.aload_n 0, 1) := by decide +kernel
theorem dX0_usesGoing_49 : decode cX0_usesGoing 49 = .ok (.getfield 15, 3) := by decide +kernel
theorem dX0_usesGoing_52 : decode cX0_usesGoing 52 = .ok (.iconst 2, 1) := by decide +kernel
theorem dX0_usesGoing_53 : decode cX0_usesGoing 53 = .ok (.idiv, 1) := by decide +kernel
theorem dX0_usesGoing_54 : decode cX0_usesGoing 54 = .ok (.invokestatic 35, 3) := by decide +kernel
theorem dX0_usesGoing_57 : decode cX0_usesGoing 57 = .ok (.ireturn, 1) := by decide +kernel
theorem dX0_usesGoing_58 : decode cX0_usesGoing 58 = .ok (.iconst 2, 1) := by decide +kernel
theorem dX0_usesGoing_59 : decode cX0_usesGoing 59 = .ok (.ireturn, 1) := by decide +kernel
theorem dX0_usesGoing_60 : decode cX0_usesGoing 60 = .ok (.iconst 0, 1) := by decide +kernel
theorem dX0_usesGoing_61 : decode cX0_usesGoing 61 = .ok (.aload_n 0, 1) := by decide +kernel
theorem dX0_usesGoing_62 : decode cX0_usesGoing 62 = .ok (.getfield 15, 3) := by decide +kernel
theorem dX0_usesGoing_65 : decode cX0_usesGoing 65 = .ok (.iconst 2, 1) := by decide +kernel
theorem dX0_usesGoing_66 : decode cX0_usesGoing 66 = .ok (.imul, 1) := by decide +kernel
theorem dX0_usesGoing_67 : decode cX0_usesGoing 67 = .ok (.aload_n 0, 1) := by decide +kernel
theorem dX0_usesGoing_68 : decode cX0_usesGoing 68 = .ok (.getfield 21, 3) := by decide +kernel
theorem dX0_usesGoing_71 : decode cX0_usesGoing 71 = .ok (.bipush 20, 2) := by decide +kernel
theorem dX0_usesGoing_73 : decode cX0_usesGoing 73 = .ok (.idiv, 1) := by decide +kernel
theorem dX0_usesGoing_74 : decode cX0_usesGoing 74 = .ok (.isub, 1) := by decide +kernel
theorem dX0_usesGoing_75 : decode cX0_usesGoing 75 = .ok (.invokestatic 35, 3) := by decide +kernel
theorem dX0_usesGoing_78 : decode cX0_usesGoing 78 = .ok (.ireturn, 1) := by decide +kernel
theorem dX0_usesGoing_79 : decode cX0_usesGoing 79 = .ok (.iconst 1, 1) := by decide +kernel
theorem dX0_usesGoing_80 : decode cX0_usesGoing 80 = .ok (.ireturn, 1) := by decide +kernel
theorem dX0_usesGoing_81 : decode cX0_usesGoing 81 = .ok (.aload_n 0, 1) := by decide +kernel
theorem dX0_usesGoing_82 : decode cX0_usesGoing 82 = .ok (.getfield 15, 3) := by decide +kernel
theorem dX0_usesGoing_85 : decode cX0_usesGoing 85 = .ok (.ireturn, 1) := by decide +kernel
theorem dX0_heard_0 : decode cX0_heard 0 = .ok (.aload_n 0, 1) := by decide +kernel
theorem dX0_heard_1 : decode cX0_heard 1 = .ok (.invokevirtual 27, 3) := by decide +kernel
theorem dX0_heard_4 : decode cX0_heard 4 = .ok (.ifCond .eq 7, 3) := by decide +kernel
theorem dX0_heard_7 : decode cX0_heard 7 = .ok (.iconst 0, 1) := by decide +kernel
theorem dX0_heard_8 : decode cX0_heard 8 = .ok (.goto 7, 3) := by decide +kernel
theorem dX0_heard_11 : decode cX0_heard 11 = .ok (.aload_n 0, 1) := by decide +kernel
theorem dX0_heard_12 : decode cX0_heard 12 = .ok (.invokevirtual 41, 3) := by decide +kernel
theorem dX0_heard_15 : decode cX0_heard 15 = .ok (.ireturn, 1) := by decide +kernel
theorem dX0_heardGoing_0 : decode cX0_heardGoing 0 = .ok (.aload_n 0, 1) := by decide +kernel
theorem dX0_heardGoing_1 : decode cX0_heardGoing 1 = .ok (.getfield 9, 3) := by decide +kernel
theorem dX0_heardGoing_4 : decode cX0_heardGoing 4 = .ok (.tableswitch 73 1 5 #[36, 44, 53, 55, 63], 36) := by decide +kernel
theorem dX0_heardGoing_40 : decode cX0_heardGoing 40 = .ok (.aload_n 0, 1) := by decide +kernel
theorem dX0_heardGoing_41 : decode cX0_heardGoing 41 = .ok (.getfield 15, 3) := by decide +kernel
theorem dX0_heardGoing_44 : decode cX0_heardGoing 44 = .ok (.bipush 10, 2) := by decide +kernel
theorem dX0_heardGoing_46 : decode cX0_heardGoing 46 = .ok (.iadd, 1) := by decide +kernel
theorem dX0_heardGoing_47 : decode cX0_heardGoing 47 = .ok (.ireturn, 1) := by decide +kernel
theorem dX0_heardGoing_48 : decode cX0_heardGoing 48 = .ok (.aload_n 0, 1) := by decide +kernel
theorem dX0_heardGoing_49 : decode cX0_heardGoing 49 = .ok (.getfield 15, 3) := by decide +kernel
theorem dX0_heardGoing_52 : decode cX0_heardGoing 52 = .ok (.iconst 2, 1) := by decide +kernel
theorem dX0_heardGoing_53 : decode cX0_heardGoing 53 = .ok (.idiv, 1) := by decide +kernel
theorem dX0_heardGoing_54 : decode cX0_heardGoing 54 = .ok (.iconst 5, 1) := by decide +kernel
theorem dX0_heardGoing_55 : decode cX0_heardGoing 55 = .ok (.iadd, 1) := by decide +kernel
theorem dX0_heardGoing_56 : decode cX0_heardGoing 56 = .ok (.ireturn, 1) := by decide +kernel
theorem dX0_heardGoing_57 : decode cX0_heardGoing 57 = .ok (.iconst 1, 1) := by decide +kernel
theorem dX0_heardGoing_58 : decode cX0_heardGoing 58 = .ok (.ireturn, 1) := by decide +kernel
theorem dX0_heardGoing_59 : decode cX0_heardGoing 59 = .ok (.aload_n 0, 1) := by decide +kernel
theorem dX0_heardGoing_60 : decode cX0_heardGoing 60 = .ok (.getfield 15, 3) := by decide +kernel
theorem dX0_heardGoing_63 : decode cX0_heardGoing 63 = .ok (.bipush 10, 2) := by decide +kernel
theorem dX0_heardGoing_65 : decode cX0_heardGoing 65 = .ok (.iadd, 1) := by decide +kernel
theorem dX0_heardGoing_66 : decode cX0_heardGoing 66 = .ok (.ireturn, 1) := by decide +kernel
theorem dX0_heardGoing_67 : decode cX0_heardGoing 67 = .ok (.iconst 1, 1) := by decide +kernel
theorem dX0_heardGoing_68 : decode cX0_heardGoing 68 = .ok (.aload_n 0, 1) := by decide +kernel
theorem dX0_heardGoing_69 : decode cX0_heardGoing 69 = .ok (.getfield 21, 3) := by decide +kernel
theorem dX0_heardGoing_72 : decode cX0_heardGoing 72 = .ok (.bipush 10, 2) := by decide +kernel
theorem dX0_heardGoing_74 : decode cX0_heardGoing 74 = .ok (.idiv, 1) := by decide +kernel
theorem dX0_heardGoing_75 : decode cX0_heardGoing 75 = .ok (.iadd, 1) := by decide +kernel
theorem dX0_heardGoing_76 : decode cX0_heardGoing 76 = .ok (.ireturn, 1) := by decide +kernel
theorem dX0_heardGoing_77 : decode cX0_heardGoing 77 = .ok (.aload_n 0, 1) := by decide +kernel
theorem dX0_heardGoing_78 : decode cX0_heardGoing 78 = .ok (.getfield 15, 3) := by decide +kernel
theorem dX0_heardGoing_81 : decode cX0_heardGoing 81 = .ok (.ireturn, 1) := by decide +kernel
theorem dX0_gains_0 : decode cX0_gains 0 = .ok (.aload_n 0, 1) := by decide +kernel
theorem dX0_gains_1 : decode cX0_gains 1 = .ok (.getfield 18, 3) := by decide +kernel
theorem dX0_gains_4 : decode cX0_gains 4 = .ok (.iconst 1, 1) := by decide +kernel
theorem dX0_gains_5 : decode cX0_gains 5 = .ok (.if_icmp .ne 7, 3) := by decide +kernel
theorem dX0_gains_8 : decode cX0_gains 8 = .ok (.iconst (-1), 1) := by decide +kernel
theorem dX0_gains_9 : decode cX0_gains 9 = .ok (.goto 4, 3) := by decide +kernel
theorem dX0_gains_12 : decode cX0_gains 12 = .ok (.iconst 1, 1) := by decide +kernel
theorem dX0_gains_13 : decode cX0_gains 13 = .ok (.istore_n 2, 1) := by decide +kernel
theorem dX0_gains_14 : decode cX0_gains 14 = .ok (.aload_n 0, 1) := by decide +kernel
theorem dX0_gains_15 : decode cX0_gains 15 = .ok (.getfield 15, 3) := by decide +kernel
theorem dX0_gains_18 : decode cX0_gains 18 = .ok (.bipush 30, 2) := by decide +kernel
theorem dX0_gains_20 : decode cX0_gains 20 = .ok (.if_icmp .le 7, 3) := by decide +kernel
theorem dX0_gains_23 : decode cX0_gains 23 = .ok (.iconst 0, 1) := by decide +kernel
theorem dX0_gains_24 : decode cX0_gains 24 = .ok (.goto 4, 3) := by decide +kernel
theorem dX0_gains_27 : decode cX0_gains 27 = .ok (.iload_n 2, 1) := by decide +kernel
theorem dX0_gains_28 : decode cX0_gains 28 = .ok (.istore_n 3, 1) := by decide +kernel
theorem dX0_gains_29 : decode cX0_gains 29 = .ok (.iload_n 1, 1) := by decide +kernel
theorem dX0_gains_30 : decode cX0_gains 30 = .ok (.ifCond .eq 7, 3) := by decide +kernel
theorem dX0_gains_33 : decode cX0_gains 33 = .ok (.iload_n 2, 1) := by decide +kernel
theorem dX0_gains_34 : decode cX0_gains 34 = .ok (.goto 6, 3) := by decide +kernel
theorem dX0_gains_37 : decode cX0_gains 37 = .ok (.iload_n 2, 1) := by decide +kernel
theorem dX0_gains_38 : decode cX0_gains 38 = .ok (.iconst 1, 1) := by decide +kernel
theorem dX0_gains_39 : decode cX0_gains 39 = .ok (.iadd, 1) := by decide +kernel
theorem dX0_gains_40 : decode cX0_gains 40 = .ok (.istore 4, 2) := by decide +kernel
theorem dX0_gains_42 : decode cX0_gains 42 = .ok (.aload_n 0, 1) := by decide +kernel
theorem dX0_gains_43 : decode cX0_gains 43 = .ok (.getfield 9, 3) := by decide +kernel
theorem dX0_gains_46 : decode cX0_gains 46 = .ok (.tableswitch 52 1 5 #[34, 36, 38, 41, 45], 34) := by decide +kernel
theorem dX0_gains_80 : decode cX0_gains 80 = .ok (.iload_n 3, 1) := by decide +kernel
theorem dX0_gains_81 : decode cX0_gains 81 = .ok (.ireturn, 1) := by decide +kernel
theorem dX0_gains_82 : decode cX0_gains 82 = .ok (.iconst 1, 1) := by decide +kernel
theorem dX0_gains_83 : decode cX0_gains 83 = .ok (.ireturn, 1) := by decide +kernel
theorem dX0_gains_84 : decode cX0_gains 84 = .ok (.iload 4, 2) := by decide +kernel
theorem dX0_gains_86 : decode cX0_gains 86 = .ok (.ireturn, 1) := by decide +kernel
theorem dX0_gains_87 : decode cX0_gains 87 = .ok (.iload_n 3, 1) := by decide +kernel
theorem dX0_gains_88 : decode cX0_gains 88 = .ok (.iconst 1, 1) := by decide +kernel
theorem dX0_gains_89 : decode cX0_gains 89 = .ok (.isub, 1) := by decide +kernel
theorem dX0_gains_90 : decode cX0_gains 90 = .ok (.ireturn, 1) := by decide +kernel
theorem dX0_gains_91 : decode cX0_gains 91 = .ok (.iconst 0, 1) := by decide +kernel
theorem dX0_gains_92 : decode cX0_gains 92 = .ok (.iload 4, 2) := by decide +kernel
theorem dX0_gains_94 : decode cX0_gains 94 = .ok (.invokestatic 35, 3) := by decide +kernel
theorem dX0_gains_97 : decode cX0_gains 97 = .ok (.ireturn, 1) := by decide +kernel
theorem dX0_gains_98 : decode cX0_gains 98 = .ok (.iload_n 2, 1) := by decide +kernel
theorem dX0_gains_99 : decode cX0_gains 99 = .ok (.ireturn, 1) := by decide +kernel
theorem dX0_givesWay_0 : decode cX0_givesWay 0 = .ok (.aload_n 0, 1) := by decide +kernel
theorem dX0_givesWay_1 : decode cX0_givesWay 1 = .ok (.getfield 15, 3) := by decide +kernel
theorem dX0_givesWay_4 : decode cX0_givesWay 4 = .ok (.aload_n 0, 1) := by decide +kernel
theorem dX0_givesWay_5 : decode cX0_givesWay 5 = .ok (.getfield 21, 3) := by decide +kernel
theorem dX0_givesWay_8 : decode cX0_givesWay 8 = .ok (.isub, 1) := by decide +kernel
theorem dX0_givesWay_9 : decode cX0_givesWay 9 = .ok (.istore_n 1, 1) := by decide +kernel
theorem dX0_givesWay_10 : decode cX0_givesWay 10 = .ok (.iload_n 1, 1) := by decide +kernel
theorem dX0_givesWay_11 : decode cX0_givesWay 11 = .ok (.bipush 20, 2) := by decide +kernel
theorem dX0_givesWay_13 : decode cX0_givesWay 13 = .ok (.isub, 1) := by decide +kernel
theorem dX0_givesWay_14 : decode cX0_givesWay 14 = .ok (.istore_n 2, 1) := by decide +kernel
theorem dX0_givesWay_15 : decode cX0_givesWay 15 = .ok (.sipush (-200), 3) := by decide +kernel
theorem dX0_givesWay_18 : decode cX0_givesWay 18 = .ok (.aload_n 0, 1) := by decide +kernel
theorem dX0_givesWay_19 : decode cX0_givesWay 19 = .ok (.getfield 21, 3) := by decide +kernel
theorem dX0_givesWay_22 : decode cX0_givesWay 22 = .ok (.isub, 1) := by decide +kernel
theorem dX0_givesWay_23 : decode cX0_givesWay 23 = .ok (.istore_n 3, 1) := by decide +kernel
theorem dX0_givesWay_24 : decode cX0_givesWay 24 = .ok (.aload_n 0, 1) := by decide +kernel
theorem dX0_givesWay_25 : decode cX0_givesWay 25 = .ok (.getfield 9, 3) := by decide +kernel
theorem dX0_givesWay_28 : decode cX0_givesWay 28 = .ok (.tableswitch 50 1 5 #[36, 50, 38, 40, 44], 36) := by decide +kernel
theorem dX0_givesWay_64 : decode cX0_givesWay 64 = .ok (.iload_n 2, 1) := by decide +kernel
theorem dX0_givesWay_65 : decode cX0_givesWay 65 = .ok (.ireturn, 1) := by decide +kernel
theorem dX0_givesWay_66 : decode cX0_givesWay 66 = .ok (.iload_n 3, 1) := by decide +kernel
theorem dX0_givesWay_67 : decode cX0_givesWay 67 = .ok (.ireturn, 1) := by decide +kernel
theorem dX0_givesWay_68 : decode cX0_givesWay 68 = .ok (.iload_n 2, 1) := by decide +kernel
theorem dX0_givesWay_69 : decode cX0_givesWay 69 = .ok (.iconst 5, 1) := by decide +kernel
theorem dX0_givesWay_70 : decode cX0_givesWay 70 = .ok (.iadd, 1) := by decide +kernel
theorem dX0_givesWay_71 : decode cX0_givesWay 71 = .ok (.ireturn, 1) := by decide +kernel
theorem dX0_givesWay_72 : decode cX0_givesWay 72 = .ok (.iload_n 3, 1) := by decide +kernel
theorem dX0_givesWay_73 : decode cX0_givesWay 73 = .ok (.sipush 200, 3) := by decide +kernel
theorem dX0_givesWay_76 : decode cX0_givesWay 76 = .ok (.isub, 1) := by decide +kernel
theorem dX0_givesWay_77 : decode cX0_givesWay 77 = .ok (.ireturn, 1) := by decide +kernel
theorem dX0_givesWay_78 : decode cX0_givesWay 78 = .ok (.iload_n 1, 1) := by decide +kernel
theorem dX0_givesWay_79 : decode cX0_givesWay 79 = .ok (.ireturn, 1) := by decide +kernel
theorem dX0_stoop_0 : decode cX0_stoop 0 = .ok (.aload_n 0, 1) := by decide +kernel
theorem dX0_stoop_1 : decode cX0_stoop 1 = .ok (.iconst 1, 1) := by decide +kernel
theorem dX0_stoop_2 : decode cX0_stoop 2 = .ok (.putfield 18, 3) := by decide +kernel
theorem dX0_stoop_5 : decode cX0_stoop 5 = .ok (.aload_n 0, 1) := by decide +kernel
theorem dX0_stoop_6 : decode cX0_stoop 6 = .ok (.sipush 9999, 3) := by decide +kernel
theorem dX0_stoop_9 : decode cX0_stoop 9 = .ok (.aload_n 0, 1) := by decide +kernel
theorem dX0_stoop_10 : decode cX0_stoop 10 = .ok (.getfield 24, 3) := by decide +kernel
theorem dX0_stoop_13 : decode cX0_stoop 13 = .ok (.iconst 1, 1) := by decide +kernel
theorem dX0_stoop_14 : decode cX0_stoop 14 = .ok (.iadd, 1) := by decide +kernel
theorem dX0_stoop_15 : decode cX0_stoop 15 = .ok (.invokestatic 44, 3) := by decide +kernel
theorem dX0_stoop_18 : decode cX0_stoop 18 = .ok (.putfield 24, 3) := by decide +kernel
theorem dX0_stoop_21 : decode cX0_stoop 21 = .ok (.return_, 1) := by decide +kernel
theorem dX0_endDay_0 : decode cX0_endDay 0 = .ok (.aload_n 0, 1) := by decide +kernel
theorem dX0_endDay_1 : decode cX0_endDay 1 = .ok (.iconst 0, 1) := by decide +kernel
theorem dX0_endDay_2 : decode cX0_endDay 2 = .ok (.bipush 99, 2) := by decide +kernel
theorem dX0_endDay_4 : decode cX0_endDay 4 = .ok (.aload_n 0, 1) := by decide +kernel
theorem dX0_endDay_5 : decode cX0_endDay 5 = .ok (.getfield 21, 3) := by decide +kernel
theorem dX0_endDay_8 : decode cX0_endDay 8 = .ok (.aload_n 0, 1) := by decide +kernel
theorem dX0_endDay_9 : decode cX0_endDay 9 = .ok (.iload_n 1, 1) := by decide +kernel
theorem dX0_endDay_10 : decode cX0_endDay 10 = .ok (.invokevirtual 47, 3) := by decide +kernel
theorem dX0_endDay_13 : decode cX0_endDay 13 = .ok (.iadd, 1) := by decide +kernel
theorem dX0_endDay_14 : decode cX0_endDay 14 = .ok (.invokestatic 44, 3) := by decide +kernel
theorem dX0_endDay_17 : decode cX0_endDay 17 = .ok (.invokestatic 35, 3) := by decide +kernel
theorem dX0_endDay_20 : decode cX0_endDay 20 = .ok (.putfield 21, 3) := by decide +kernel
theorem dX0_endDay_23 : decode cX0_endDay 23 = .ok (.return_, 1) := by decide +kernel
theorem dX1_init_0 : decode cX1_init 0 = .ok (.aload_n 0, 1) := by decide +kernel
theorem dX1_init_1 : decode cX1_init 1 = .ok (.invokespecial 3, 3) := by decide +kernel
theorem dX1_init_4 : decode cX1_init 4 = .ok (.aload_n 0, 1) := by decide +kernel
theorem dX1_init_5 : decode cX1_init 5 = .ok (.iconst 0, 1) := by decide +kernel
theorem dX1_init_6 : decode cX1_init 6 = .ok (.putfield 9, 3) := by decide +kernel
theorem dX1_init_9 : decode cX1_init 9 = .ok (.aload_n 0, 1) := by decide +kernel
theorem dX1_init_10 : decode cX1_init 10 = .ok (.iconst 0, 1) := by decide +kernel
theorem dX1_init_11 : decode cX1_init 11 = .ok (.putfield 15, 3) := by decide +kernel
theorem dX1_init_14 : decode cX1_init 14 = .ok (.aload_n 0, 1) := by decide +kernel
theorem dX1_init_15 : decode cX1_init 15 = .ok (.bipush 40, 2) := by decide +kernel
theorem dX1_init_17 : decode cX1_init 17 = .ok (.newarray .long, 2) := by decide +kernel
theorem dX1_init_19 : decode cX1_init 19 = .ok (.putfield 18, 3) := by decide +kernel
theorem dX1_init_22 : decode cX1_init 22 = .ok (.return_, 1) := by decide +kernel
theorem dX1_isMissing_0 : decode cX1_isMissing 0 = .ok (.aload_n 0, 1) := by decide +kernel
theorem dX1_isMissing_1 : decode cX1_isMissing 1 = .ok (.getfield 9, 3) := by decide +kernel
theorem dX1_isMissing_4 : decode cX1_isMissing 4 = .ok (.ifCond .ne 7, 3) := by decide +kernel
theorem dX1_isMissing_7 : decode cX1_isMissing 7 = .ok (.iconst 1, 1) := by decide +kernel
theorem dX1_isMissing_8 : decode cX1_isMissing 8 = .ok (.goto 4, 3) := by decide +kernel
theorem dX1_isMissing_11 : decode cX1_isMissing 11 = .ok (.iconst 0, 1) := by decide +kernel
theorem dX1_isMissing_12 : decode cX1_isMissing 12 = .ok (.ireturn, 1) := by decide +kernel
theorem dX1_lay_0 : decode cX1_lay 0 = .ok (.aload_n 0, 1) := by decide +kernel
theorem dX1_lay_1 : decode cX1_lay 1 = .ok (.iload_n 1, 1) := by decide +kernel
theorem dX1_lay_2 : decode cX1_lay 2 = .ok (.putfield 9, 3) := by decide +kernel
theorem dX1_lay_5 : decode cX1_lay 5 = .ok (.aload_n 0, 1) := by decide +kernel
theorem dX1_lay_6 : decode cX1_lay 6 = .ok (.iload_n 1, 1) := by decide +kernel
theorem dX1_lay_7 : decode cX1_lay 7 = .ok (.ifCond .ne 7, 3) := by decide +kernel
theorem dX1_lay_10 : decode cX1_lay 10 = .ok (.iconst 0, 1) := by decide +kernel
theorem dX1_lay_11 : decode cX1_lay 11 = .ok (.goto 13, 3) := by decide +kernel
theorem dX1_lay_14 : decode cX1_lay 14 = .ok (.iconst 0, 1) := by decide +kernel
theorem dX1_lay_15 : decode cX1_lay 15 = .ok (.bipush 40, 2) := by decide +kernel
theorem dX1_lay_17 : decode cX1_lay 17 = .ok (.iload_n 2, 1) := by decide +kernel
theorem dX1_lay_18 : decode cX1_lay 18 = .ok (.invokestatic 22, 3) := by decide +kernel
theorem dX1_lay_21 : decode cX1_lay 21 = .ok (.invokestatic 28, 3) := by decide +kernel
theorem dX1_lay_24 : decode cX1_lay 24 = .ok (.putfield 15, 3) := by decide +kernel
theorem dX1_lay_27 : decode cX1_lay 27 = .ok (.aload_n 0, 1) := by decide +kernel
theorem dX1_lay_28 : decode cX1_lay 28 = .ok (.getfield 18, 3) := by decide +kernel
theorem dX1_lay_31 : decode cX1_lay 31 = .ok (.lconst 0, 1) := by decide +kernel
theorem dX1_lay_32 : decode cX1_lay 32 = .ok (.invokestatic 31, 3) := by decide +kernel
theorem dX1_lay_35 : decode cX1_lay 35 = .ok (.return_, 1) := by decide +kernel
theorem dX1_hasFrom_0 : decode cX1_hasFrom 0 = .ok (.iload_n 1, 1) := by decide +kernel
theorem dX1_hasFrom_1 : decode cX1_hasFrom 1 = .ok (.ifCond .lt 21, 3) := by decide +kernel
theorem dX1_hasFrom_4 : decode cX1_hasFrom 4 = .ok (.iload_n 2, 1) := by decide +kernel
theorem dX1_hasFrom_5 : decode cX1_hasFrom 5 = .ok (.ifCond .lt 17, 3) := by decide +kernel
theorem dX1_hasFrom_8 : decode cX1_hasFrom 8 = .ok (.iload_n 2, 1) := by decide +kernel
theorem dX1_hasFrom_9 : decode cX1_hasFrom 9 = .ok (.aload_n 0, 1) := by decide +kernel
theorem dX1_hasFrom_10 : decode cX1_hasFrom 10 = .ok (.getfield 15, 3) := by decide +kernel
theorem dX1_hasFrom_13 : decode cX1_hasFrom 13 = .ok (.iload_n 1, 1) := by decide +kernel
theorem dX1_hasFrom_14 : decode cX1_hasFrom 14 = .ok (.isub, 1) := by decide +kernel
theorem dX1_hasFrom_15 : decode cX1_hasFrom 15 = .ok (.if_icmp .gt 7, 3) := by decide +kernel
theorem dX1_hasFrom_18 : decode cX1_hasFrom 18 = .ok (.iconst 1, 1) := by decide +kernel
theorem dX1_hasFrom_19 : decode cX1_hasFrom 19 = .ok (.goto 4, 3) := by decide +kernel
theorem dX1_hasFrom_22 : decode cX1_hasFrom 22 = .ok (.iconst 0, 1) := by decide +kernel
theorem dX1_hasFrom_23 : decode cX1_hasFrom 23 = .ok (.ireturn, 1) := by decide +kernel
theorem dX1_put_0 : decode cX1_put 0 = .ok (.iload_n 1, 1) := by decide +kernel
theorem dX1_put_1 : decode cX1_put 1 = .ok (.ifCond .lt 11, 3) := by decide +kernel
theorem dX1_put_4 : decode cX1_put 4 = .ok (.iload_n 1, 1) := by decide +kernel
theorem dX1_put_5 : decode cX1_put 5 = .ok (.aload_n 0, 1) := by decide +kernel
theorem dX1_put_6 : decode cX1_put 6 = .ok (.getfield 15, 3) := by decide +kernel
theorem dX1_put_9 : decode cX1_put 9 = .ok (.if_icmp .lt 4, 3) := by decide +kernel
theorem dX1_put_12 : decode cX1_put 12 = .ok (.return_, 1) := by decide +kernel
theorem dX1_put_13 : decode cX1_put 13 = .ok (.aload_n 0, 1) := by decide +kernel
theorem dX1_put_14 : decode cX1_put 14 = .ok (.getfield 9, 3) := by decide +kernel
theorem dX1_put_17 : decode cX1_put 17 = .ok (.bipush 8, 2) := by decide +kernel
theorem dX1_put_19 : decode cX1_put 19 = .ok (.if_icmp .ne 16, 3) := by decide +kernel
theorem dX1_put_22 : decode cX1_put 22 = .ok (.aload_n 0, 1) := by decide +kernel
theorem dX1_put_23 : decode cX1_put 23 = .ok (.getfield 18, 3) := by decide +kernel
theorem dX1_put_26 : decode cX1_put 26 = .ok (.iload_n 1, 1) := by decide +kernel
theorem dX1_put_27 : decode cX1_put 27 = .ok (.lload_n 2, 1) := by decide +kernel
theorem dX1_put_28 : decode cX1_put 28 = .ok (.l2i, 1) := by decide +kernel
theorem dX1_put_29 : decode cX1_put 29 = .ok (.i2b, 1) := by decide +kernel
theorem dX1_put_30 : decode cX1_put 30 = .ok (.i2l, 1) := by decide +kernel
theorem dX1_put_31 : decode cX1_put 31 = .ok (.lastore, 1) := by decide +kernel
theorem dX1_put_32 : decode cX1_put 32 = .ok (.goto 32, 3) := by decide +kernel
theorem dX1_put_35 : decode cX1_put 35 = .ok (.aload_n 0, 1) := by decide +kernel
theorem dX1_put_36 : decode cX1_put 36 = .ok (.getfield 9, 3) := by decide +kernel
theorem dX1_put_39 : decode cX1_put 39 = .ok (.bipush 16, 2) := by decide +kernel
theorem dX1_put_41 : decode cX1_put 41 = .ok (.if_icmp .ne 16, 3) := by decide +kernel
theorem dX1_put_44 : decode cX1_put 44 = .ok (.aload_n 0, 1) := by decide +kernel
theorem dX1_put_45 : decode cX1_put 45 = .ok (.getfield 18, 3) := by decide +kernel
theorem dX1_put_48 : decode cX1_put 48 = .ok (.iload_n 1, 1) := by decide +kernel
theorem dX1_put_49 : decode cX1_put 49 = .ok (.lload_n 2, 1) := by decide +kernel
theorem dX1_put_50 : decode cX1_put 50 = .ok (.l2i, 1) := by decide +kernel
theorem dX1_put_51 : decode cX1_put 51 = .ok (.i2s, 1) := by decide +kernel
theorem dX1_put_52 : decode cX1_put 52 = .ok (.i2l, 1) := by decide +kernel
theorem dX1_put_53 : decode cX1_put 53 = .ok (.lastore, 1) := by decide +kernel
theorem dX1_put_54 : decode cX1_put 54 = .ok (.goto 10, 3) := by decide +kernel
theorem dX1_put_57 : decode cX1_put 57 = .ok (.aload_n 0, 1) := by decide +kernel
theorem dX1_put_58 : decode cX1_put 58 = .ok (.getfield 18, 3) := by decide +kernel
theorem dX1_put_61 : decode cX1_put 61 = .ok (.iload_n 1, 1) := by decide +kernel
theorem dX1_put_62 : decode cX1_put 62 = .ok (.lload_n 2, 1) := by decide +kernel
theorem dX1_put_63 : decode cX1_put 63 = .ok (.lastore, 1) := by decide +kernel
theorem dX1_put_64 : decode cX1_put 64 = .ok (.return_, 1) := by decide +kernel
theorem dX2_init_0 : decode cX2_init 0 = .ok (.aload_n 0, 1) := by decide +kernel
theorem dX2_init_1 : decode cX2_init 1 = .ok (.invokespecial 3, 3) := by decide +kernel
theorem dX2_init_4 : decode cX2_init 4 = .ok (.aload_n 0, 1) := by decide +kernel
theorem dX2_init_5 : decode cX2_init 5 = .ok (.bipush 120, 2) := by decide +kernel
theorem dX2_init_7 : decode cX2_init 7 = .ok (.newarray .int, 2) := by decide +kernel
theorem dX2_init_9 : decode cX2_init 9 = .ok (.putfield 9, 3) := by decide +kernel
theorem dX2_init_12 : decode cX2_init 12 = .ok (.aload_n 0, 1) := by decide +kernel
theorem dX2_init_13 : decode cX2_init 13 = .ok (.iconst 0, 1) := by decide +kernel
theorem dX2_init_14 : decode cX2_init 14 = .ok (.putfield 15, 3) := by decide +kernel
theorem dX2_init_17 : decode cX2_init 17 = .ok (.return_, 1) := by decide +kernel
theorem dX2_add_0 : decode cX2_add 0 = .ok (.aload_n 0, 1) := by decide +kernel
theorem dX2_add_1 : decode cX2_add 1 = .ok (.getfield 15, 3) := by decide +kernel
theorem dX2_add_4 : decode cX2_add 4 = .ok (.bipush 120, 2) := by decide +kernel
theorem dX2_add_6 : decode cX2_add 6 = .ok (.if_icmp .ge 27, 3) := by decide +kernel
theorem dX2_add_9 : decode cX2_add 9 = .ok (.aload_n 0, 1) := by decide +kernel
theorem dX2_add_10 : decode cX2_add 10 = .ok (.getfield 9, 3) := by decide +kernel
theorem dX2_add_13 : decode cX2_add 13 = .ok (.aload_n 0, 1) := by decide +kernel
theorem dX2_add_14 : decode cX2_add 14 = .ok (.getfield 15, 3) := by decide +kernel
theorem dX2_add_17 : decode cX2_add 17 = .ok (.iload_n 1, 1) := by decide +kernel
theorem dX2_add_18 : decode cX2_add 18 = .ok (.sipush 255, 3) := by decide +kernel
theorem dX2_add_21 : decode cX2_add 21 = .ok (.iand, 1) := by decide +kernel
theorem dX2_add_22 : decode cX2_add 22 = .ok (.iastore, 1) := by decide +kernel
theorem dX2_add_23 : decode cX2_add 23 = .ok (.aload_n 0, 1) := by decide +kernel
theorem dX2_add_24 : decode cX2_add 24 = .ok (.dup, 1) := by decide +kernel
theorem dX2_add_25 : decode cX2_add 25 = .ok (.getfield 15, 3) := by decide +kernel
theorem dX2_add_28 : decode cX2_add 28 = .ok (.iconst 1, 1) := by decide +kernel
theorem dX2_add_29 : decode cX2_add 29 = .ok (.iadd, 1) := by decide +kernel
theorem dX2_add_30 : decode cX2_add 30 = .ok (.putfield 15, 3) := by decide +kernel
theorem dX2_add_33 : decode cX2_add 33 = .ok (.return_, 1) := by decide +kernel
theorem dX3_init_0 : decode cX3_init 0 = .ok (.aload_n 0, 1) := by decide +kernel
theorem dX3_init_1 : decode cX3_init 1 = .ok (.invokespecial 3, 3) := by decide +kernel
theorem dX3_init_4 : decode cX3_init 4 = .ok (.aload_n 0, 1) := by decide +kernel
theorem dX3_init_5 : decode cX3_init 5 = .ok (.iconst 3, 1) := by decide +kernel
theorem dX3_init_6 : decode cX3_init 6 = .ok (.putfield 11, 3) := by decide +kernel
theorem dX3_init_9 : decode cX3_init 9 = .ok (.aload_n 0, 1) := by decide +kernel
theorem dX3_init_10 : decode cX3_init 10 = .ok (.iconst 0, 1) := by decide +kernel
theorem dX3_init_11 : decode cX3_init 11 = .ok (.putfield 15, 3) := by decide +kernel
theorem dX3_init_14 : decode cX3_init 14 = .ok (.aload_n 0, 1) := by decide +kernel
theorem dX3_init_15 : decode cX3_init 15 = .ok (.iconst 0, 1) := by decide +kernel
theorem dX3_init_16 : decode cX3_init 16 = .ok (.putfield 18, 3) := by decide +kernel
theorem dX3_init_19 : decode cX3_init 19 = .ok (.aload_n 0, 1) := by decide +kernel
theorem dX3_init_20 : decode cX3_init 20 = .ok (.iconst 0, 1) := by decide +kernel
theorem dX3_init_21 : decode cX3_init 21 = .ok (.putfield 21, 3) := by decide +kernel
theorem dX3_init_24 : decode cX3_init 24 = .ok (.aload_n 0, 1) := by decide +kernel
theorem dX3_init_25 : decode cX3_init 25 = .ok (.iconst 0, 1) := by decide +kernel
theorem dX3_init_26 : decode cX3_init 26 = .ok (.putfield 24, 3) := by decide +kernel
theorem dX3_init_29 : decode cX3_init 29 = .ok (.aload_n 0, 1) := by decide +kernel
theorem dX3_init_30 : decode cX3_init 30 = .ok (.aload_n 1, 1) := by decide +kernel
theorem dX3_init_31 : decode cX3_init 31 = .ok (.putfield 27, 3) := by decide +kernel
theorem dX3_init_34 : decode cX3_init 34 = .ok (.return_, 1) := by decide +kernel
theorem dX3_readInto_0 : decode cX3_readInto 0 = .ok (.aload_n 0, 1) := by decide +kernel
theorem dX3_readInto_1 : decode cX3_readInto 1 = .ok (.iconst 0, 1) := by decide +kernel
theorem dX3_readInto_2 : decode cX3_readInto 2 = .ok (.putfield 18, 3) := by decide +kernel
theorem dX3_readInto_5 : decode cX3_readInto 5 = .ok (.aload_n 0, 1) := by decide +kernel
theorem dX3_readInto_6 : decode cX3_readInto 6 = .ok (.invokevirtual 31, 3) := by decide +kernel
theorem dX3_readInto_9 : decode cX3_readInto 9 = .ok (.iconst 1, 1) := by decide +kernel
theorem dX3_readInto_10 : decode cX3_readInto 10 = .ok (.istore_n 2, 1) := by decide +kernel
theorem dX3_readInto_11 : decode cX3_readInto 11 = .ok (.iload_n 2, 1) := by decide +kernel
theorem dX3_readInto_12 : decode cX3_readInto 12 = .ok (.bipush 120, 2) := by decide +kernel
theorem dX3_readInto_14 : decode cX3_readInto 14 = .ok (.if_icmp .gt 53, 3) := by decide +kernel
theorem dX3_readInto_17 : decode cX3_readInto 17 = .ok (.aload_n 0, 1) := by decide +kernel
theorem dX3_readInto_18 : decode cX3_readInto 18 = .ok (.aload_n 1, 1) := by decide +kernel
theorem dX3_readInto_19 : decode cX3_readInto 19 = .ok (.invokevirtual 34, 3) := by decide +kernel
theorem dX3_readInto_22 : decode cX3_readInto 22 = .ok (.ifCond .ne 10, 3) := by decide +kernel
theorem dX3_readInto_25 : decode cX3_readInto 25 = .ok (.iconst (-1), 1) := by decide +kernel
theorem dX3_readInto_26 : decode cX3_readInto 26 = .ok (.aload_n 0, 1) := by decide +kernel
theorem dX3_readInto_27 : decode cX3_readInto 27 = .ok (.getfield 15, 3) := by decide +kernel
theorem dX3_readInto_30 : decode cX3_readInto 30 = .ok (.isub, 1) := by decide +kernel
theorem dX3_readInto_31 : decode cX3_readInto 31 = .ok (.ireturn, 1) := by decide +kernel
theorem dX3_readInto_32 : decode cX3_readInto 32 = .ok (.aload_n 0, 1) := by decide +kernel
theorem dX3_readInto_33 : decode cX3_readInto 33 = .ok (.getfield 11, 3) := by decide +kernel
theorem dX3_readInto_36 : decode cX3_readInto 36 = .ok (.iconst 3, 1) := by decide +kernel
theorem dX3_readInto_37 : decode cX3_readInto 37 = .ok (.if_icmp .ne 5, 3) := by decide +kernel
theorem dX3_readInto_40 : decode cX3_readInto 40 = .ok (.iload_n 2, 1) := by decide +kernel
theorem dX3_readInto_41 : decode cX3_readInto 41 = .ok (.ireturn, 1) := by decide +kernel
theorem dX3_readInto_42 : decode cX3_readInto 42 = .ok (.aload_n 0, 1) := by decide +kernel
theorem dX3_readInto_43 : decode cX3_readInto 43 = .ok (.getfield 11, 3) := by decide +kernel
theorem dX3_readInto_46 : decode cX3_readInto 46 = .ok (.iconst 2, 1) := by decide +kernel
theorem dX3_readInto_47 : decode cX3_readInto 47 = .ok (.if_icmp .eq 10, 3) := by decide +kernel
theorem dX3_readInto_50 : decode cX3_readInto 50 = .ok (.iconst (-1), 1) := by decide +kernel
theorem dX3_readInto_51 : decode cX3_readInto 51 = .ok (.aload_n 0, 1) := by decide +kernel
theorem dX3_readInto_52 : decode cX3_readInto 52 = .ok (.getfield 15, 3) := by decide +kernel
theorem dX3_readInto_55 : decode cX3_readInto 55 = .ok (.isub, 1) := by decide +kernel
theorem dX3_readInto_56 : decode cX3_readInto 56 = .ok (.ireturn, 1) := by decide +kernel
theorem dX3_readInto_57 : decode cX3_readInto 57 = .ok (.aload_n 0, 1) := by decide +kernel
theorem dX3_readInto_58 : decode cX3_readInto 58 = .ok (.invokevirtual 31, 3) := by decide +kernel
theorem dX3_readInto_61 : decode cX3_readInto 61 = .ok (.iinc 2 1, 3) := by decide +kernel
theorem dX3_readInto_64 : decode cX3_readInto 64 = .ok (.goto (-53), 3) := by decide +kernel
theorem dX3_readInto_67 : decode cX3_readInto 67 = .ok (.iconst (-1), 1) := by decide +kernel
theorem dX3_readInto_68 : decode cX3_readInto 68 = .ok (.aload_n 0, 1) := by decide +kernel
theorem dX3_readInto_69 : decode cX3_readInto 69 = .ok (.getfield 15, 3) := by decide +kernel
theorem dX3_readInto_72 : decode cX3_readInto 72 = .ok (.isub, 1) := by decide +kernel
theorem dX3_readInto_73 : decode cX3_readInto 73 = .ok (.ireturn, 1) := by decide +kernel
theorem dX3_takeItem_0 : decode cX3_takeItem 0 = .ok (.aload_n 0, 1) := by decide +kernel
theorem dX3_takeItem_1 : decode cX3_takeItem 1 = .ok (.invokevirtual 38, 3) := by decide +kernel
theorem dX3_takeItem_4 : decode cX3_takeItem 4 = .ok (.istore_n 2, 1) := by decide +kernel
theorem dX3_takeItem_5 : decode cX3_takeItem 5 = .ok (.iload_n 2, 1) := by decide +kernel
theorem dX3_takeItem_6 : decode cX3_takeItem 6 = .ok (.iconst (-1), 1) := by decide +kernel
theorem dX3_takeItem_7 : decode cX3_takeItem 7 = .ok (.if_icmp .eq 10, 3) := by decide +kernel
theorem dX3_takeItem_10 : decode cX3_takeItem 10 = .ok (.aload_n 0, 1) := by decide +kernel
theorem dX3_takeItem_11 : decode cX3_takeItem 11 = .ok (.aload_n 1, 1) := by decide +kernel
theorem dX3_takeItem_12 : decode cX3_takeItem 12 = .ok (.iload_n 2, 1) := by decide +kernel
theorem dX3_takeItem_13 : decode cX3_takeItem 13 = .ok (.invokevirtual 42, 3) := by decide +kernel
theorem dX3_takeItem_16 : decode cX3_takeItem 16 = .ok (.ireturn, 1) := by decide +kernel
theorem dX3_takeItem_17 : decode cX3_takeItem 17 = .ok (.aload_n 0, 1) := by decide +kernel
theorem dX3_takeItem_18 : decode cX3_takeItem 18 = .ok (.ldc 46, 2) := by decide +kernel
theorem dX3_takeItem_20 : decode cX3_takeItem 20 = .ok (.invokevirtual 48, 3) := by decide +kernel
theorem dX3_takeItem_23 : decode cX3_takeItem 23 = .ok (.ifCond .eq 9, 3) := by decide +kernel
theorem dX3_takeItem_26 : decode cX3_takeItem 26 = .ok (.aload_n 0, 1) := by decide +kernel
theorem dX3_takeItem_27 : decode cX3_takeItem 27 = .ok (.aload_n 1, 1) := by decide +kernel
theorem dX3_takeItem_28 : decode cX3_takeItem 28 = .ok (.invokevirtual 52, 3) := by decide +kernel
theorem dX3_takeItem_31 : decode cX3_takeItem 31 = .ok (.ireturn, 1) := by decide +kernel
theorem dX3_takeItem_32 : decode cX3_takeItem 32 = .ok (.aload_n 0, 1) := by decide +kernel
theorem dX3_takeItem_33 : decode cX3_takeItem 33 = .ok (.ldc 55, 2) := by decide +kernel
theorem dX3_takeItem_35 : decode cX3_takeItem 35 = .ok (.invokevirtual 48, 3) := by decide +kernel
theorem dX3_takeItem_38 : decode cX3_takeItem 38 = .ok (.ifCond .eq 10, 3) := by decide +kernel
theorem dX3_takeItem_41 : decode cX3_takeItem 41 = .ok (.aload_n 0, 1) := by decide +kernel
theorem dX3_takeItem_42 : decode cX3_takeItem 42 = .ok (.aload_n 1, 1) := by decide +kernel
theorem dX3_takeItem_43 : decode cX3_takeItem 43 = .ok (.iconst 1, 1) := by decide +kernel
theorem dX3_takeItem_44 : decode cX3_takeItem 44 = .ok (.invokevirtual 57, 3) := by decide +kernel
theorem dX3_takeItem_47 : decode cX3_takeItem 47 = .ok (.ireturn, 1) := by decide +kernel
theorem dX3_takeItem_48 : decode cX3_takeItem 48 = .ok (.aload_n 0, 1) := by decide +kernel
theorem dX3_takeItem_49 : decode cX3_takeItem 49 = .ok (.ldc 60, 2) := by decide +kernel
theorem dX3_takeItem_51 : decode cX3_takeItem 51 = .ok (.invokevirtual 48, 3) := by decide +kernel
theorem dX3_takeItem_54 : decode cX3_takeItem 54 = .ok (.ifCond .eq 10, 3) := by decide +kernel
theorem dX3_takeItem_57 : decode cX3_takeItem 57 = .ok (.aload_n 0, 1) := by decide +kernel
theorem dX3_takeItem_58 : decode cX3_takeItem 58 = .ok (.aload_n 1, 1) := by decide +kernel
theorem dX3_takeItem_59 : decode cX3_takeItem 59 = .ok (.iconst 0, 1) := by decide +kernel
theorem dX3_takeItem_60 : decode cX3_takeItem 60 = .ok (.invokevirtual 57, 3) := by decide +kernel
theorem dX3_takeItem_63 : decode cX3_takeItem 63 = .ok (.ireturn, 1) := by decide +kernel
theorem dX3_takeItem_64 : decode cX3_takeItem 64 = .ok (.aload_n 0, 1) := by decide +kernel
theorem dX3_takeItem_65 : decode cX3_takeItem 65 = .ok (.ldc 62, 2) := by decide +kernel
theorem dX3_takeItem_67 : decode cX3_takeItem 67 = .ok (.invokevirtual 48, 3) := by decide +kernel
theorem dX3_takeItem_70 : decode cX3_takeItem 70 = .ok (.ifCond .eq 24, 3) := by decide +kernel
theorem dX3_takeItem_73 : decode cX3_takeItem 73 = .ok (.aload_n 0, 1) := by decide +kernel
theorem dX3_takeItem_74 : decode cX3_takeItem 74 = .ok (.iconst 0, 1) := by decide +kernel
theorem dX3_takeItem_75 : decode cX3_takeItem 75 = .ok (.sipush 9999, 3) := by decide +kernel
theorem dX3_takeItem_78 : decode cX3_takeItem 78 = .ok (.invokevirtual 64, 3) := by decide +kernel
theorem dX3_takeItem_81 : decode cX3_takeItem 81 = .ok (.ifCond .eq 13, 3) := by decide +kernel
theorem dX3_takeItem_84 : decode cX3_takeItem 84 = .ok (.aload_n 1, 1) := by decide +kernel
theorem dX3_takeItem_85 : decode cX3_takeItem 85 = .ok (.aload_n 0, 1) := by decide +kernel
theorem dX3_takeItem_86 : decode cX3_takeItem 86 = .ok (.getfield 24, 3) := by decide +kernel
theorem dX3_takeItem_89 : decode cX3_takeItem 89 = .ok (.putfield 68, 3) := by decide +kernel
theorem dX3_takeItem_92 : decode cX3_takeItem 92 = .ok (.iconst 1, 1) := by decide +kernel
theorem dX3_takeItem_93 : decode cX3_takeItem 93 = .ok (.ireturn, 1) := by decide +kernel
theorem dX3_takeItem_94 : decode cX3_takeItem 94 = .ok (.iconst 0, 1) := by decide +kernel
theorem dX3_takeItem_95 : decode cX3_takeItem 95 = .ok (.ireturn, 1) := by decide +kernel
theorem dX3_kindNamed_0 : decode cX3_kindNamed 0 = .ok (.aload_n 0, 1) := by decide +kernel
theorem dX3_kindNamed_1 : decode cX3_kindNamed 1 = .ok (.ldc 72, 2) := by decide +kernel
theorem dX3_kindNamed_3 : decode cX3_kindNamed 3 = .ok (.invokevirtual 74, 3) := by decide +kernel
theorem dX3_kindNamed_6 : decode cX3_kindNamed 6 = .ok (.ifCond .eq 5, 3) := by decide +kernel
theorem dX3_kindNamed_9 : decode cX3_kindNamed 9 = .ok (.iconst 0, 1) := by decide +kernel
theorem dX3_kindNamed_10 : decode cX3_kindNamed 10 = .ok (.ireturn, 1) := by decide +kernel
theorem dX3_kindNamed_11 : decode cX3_kindNamed 11 = .ok (.aload_n 0, 1) := by decide +kernel
theorem dX3_kindNamed_12 : decode cX3_kindNamed 12 = .ok (.ldc 77, 2) := by decide +kernel
theorem dX3_kindNamed_14 : decode cX3_kindNamed 14 = .ok (.invokevirtual 74, 3) := by decide +kernel
theorem dX3_kindNamed_17 : decode cX3_kindNamed 17 = .ok (.ifCond .eq 5, 3) := by decide +kernel
theorem dX3_kindNamed_20 : decode cX3_kindNamed 20 = .ok (.iconst 1, 1) := by decide +kernel
theorem dX3_kindNamed_21 : decode cX3_kindNamed 21 = .ok (.ireturn, 1) := by decide +kernel
theorem dX3_kindNamed_22 : decode cX3_kindNamed 22 = .ok (.aload_n 0, 1) := by decide +kernel
theorem dX3_kindNamed_23 : decode cX3_kindNamed 23 = .ok (.ldc 79, 2) := by decide +kernel
theorem dX3_kindNamed_25 : decode cX3_kindNamed 25 = .ok (.invokevirtual 74, 3) := by decide +kernel
theorem dX3_kindNamed_28 : decode cX3_kindNamed 28 = .ok (.ifCond .eq 5, 3) := by decide +kernel
theorem dX3_kindNamed_31 : decode cX3_kindNamed 31 = .ok (.iconst 2, 1) := by decide +kernel
theorem dX3_kindNamed_32 : decode cX3_kindNamed 32 = .ok (.ireturn, 1) := by decide +kernel
theorem dX3_kindNamed_33 : decode cX3_kindNamed 33 = .ok (.aload_n 0, 1) := by decide +kernel
theorem dX3_kindNamed_34 : decode cX3_kindNamed 34 = .ok (.ldc 81, 2) := by decide +kernel
theorem dX3_kindNamed_36 : decode cX3_kindNamed 36 = .ok (.invokevirtual 74, 3) := by decide +kernel
theorem dX3_kindNamed_39 : decode cX3_kindNamed 39 = .ok (.ifCond .eq 5, 3) := by decide +kernel
theorem dX3_kindNamed_42 : decode cX3_kindNamed 42 = .ok (.iconst 3, 1) := by decide +kernel
theorem dX3_kindNamed_43 : decode cX3_kindNamed 43 = .ok (.ireturn, 1) := by decide +kernel
theorem dX3_kindNamed_44 : decode cX3_kindNamed 44 = .ok (.aload_n 0, 1) := by decide +kernel
theorem dX3_kindNamed_45 : decode cX3_kindNamed 45 = .ok (.ldc 83, 2) := by decide +kernel
theorem dX3_kindNamed_47 : decode cX3_kindNamed 47 = .ok (.invokevirtual 74, 3) := by decide +kernel
theorem dX3_kindNamed_50 : decode cX3_kindNamed 50 = .ok (.ifCond .eq 5, 3) := by decide +kernel
theorem dX3_kindNamed_53 : decode cX3_kindNamed 53 = .ok (.iconst 4, 1) := by decide +kernel
theorem dX3_kindNamed_54 : decode cX3_kindNamed 54 = .ok (.ireturn, 1) := by decide +kernel
theorem dX3_kindNamed_55 : decode cX3_kindNamed 55 = .ok (.aload_n 0, 1) := by decide +kernel
theorem dX3_kindNamed_56 : decode cX3_kindNamed 56 = .ok (.ldc 85, 2) := by decide +kernel
theorem dX3_kindNamed_58 : decode cX3_kindNamed 58 = .ok (.invokevirtual 74, 3) := by decide +kernel
theorem dX3_kindNamed_61 : decode cX3_kindNamed 61 = .ok (.ifCond .eq 7, 3) := by decide +kernel
theorem dX3_kindNamed_64 : decode cX3_kindNamed 64 = .ok (.iconst 5, 1) := by decide +kernel
theorem dX3_kindNamed_65 : decode cX3_kindNamed 65 = .ok (.goto 4, 3) := by decide +kernel
theorem dX3_kindNamed_68 : decode cX3_kindNamed 68 = .ok (.iconst (-1), 1) := by decide +kernel
theorem dX3_kindNamed_69 : decode cX3_kindNamed 69 = .ok (.ireturn, 1) := by decide +kernel
theorem dX3_takeFountain_0 : decode cX3_takeFountain 0 = .ok (.aload_n 1, 1) := by decide +kernel
theorem dX3_takeFountain_1 : decode cX3_takeFountain 1 = .ok (.iload_n 2, 1) := by decide +kernel
theorem dX3_takeFountain_2 : decode cX3_takeFountain 2 = .ok (.invokevirtual 87, 3) := by decide +kernel
theorem dX3_takeFountain_5 : decode cX3_takeFountain 5 = .ok (.istore_n 3, 1) := by decide +kernel
theorem dX3_takeFountain_6 : decode cX3_takeFountain 6 = .ok (.aload_n 1, 1) := by decide +kernel
theorem dX3_takeFountain_7 : decode cX3_takeFountain 7 = .ok (.iload_n 3, 1) := by decide +kernel
theorem dX3_takeFountain_8 : decode cX3_takeFountain 8 = .ok (.invokevirtual 91, 3) := by decide +kernel
theorem dX3_takeFountain_11 : decode cX3_takeFountain 11 = .ok (.ifCond .ne 5, 3) := by decide +kernel
theorem dX3_takeFountain_14 : decode cX3_takeFountain 14 = .ok (.iconst 0, 1) := by decide +kernel
theorem dX3_takeFountain_15 : decode cX3_takeFountain 15 = .ok (.ireturn, 1) := by decide +kernel
theorem dX3_takeFountain_16 : decode cX3_takeFountain 16 = .ok (.aload_n 1, 1) := by decide +kernel
theorem dX3_takeFountain_17 : decode cX3_takeFountain 17 = .ok (.getfield 95, 3) := by decide +kernel
theorem dX3_takeFountain_20 : decode cX3_takeFountain 20 = .ok (.iload_n 3, 1) := by decide +kernel
theorem dX3_takeFountain_21 : decode cX3_takeFountain 21 = .ok (.aaload, 1) := by decide +kernel
theorem dX3_takeFountain_22 : decode cX3_takeFountain 22 = .ok (.astore 4, 2) := by decide +kernel
theorem dX3_takeFountain_24 : decode cX3_takeFountain 24 = .ok (.aload_n 0, 1) := by decide +kernel
theorem dX3_takeFountain_25 : decode cX3_takeFountain 25 = .ok (.invokevirtual 31, 3) := by decide +kernel
theorem dX3_takeFountain_28 : decode cX3_takeFountain 28 = .ok (.aload_n 0, 1) := by decide +kernel
theorem dX3_takeFountain_29 : decode cX3_takeFountain 29 = .ok (.ldc 99, 2) := by decide +kernel
theorem dX3_takeFountain_31 : decode cX3_takeFountain 31 = .ok (.invokevirtual 48, 3) := by decide +kernel
theorem dX3_takeFountain_34 : decode cX3_takeFountain 34 = .ok (.ifCond .eq 24, 3) := by decide +kernel
theorem dX3_takeFountain_37 : decode cX3_takeFountain 37 = .ok (.aload_n 0, 1) := by decide +kernel
theorem dX3_takeFountain_38 : decode cX3_takeFountain 38 = .ok (.iconst 1, 1) := by decide +kernel
theorem dX3_takeFountain_39 : decode cX3_takeFountain 39 = .ok (.bipush 40, 2) := by decide +kernel
theorem dX3_takeFountain_41 : decode cX3_takeFountain 41 = .ok (.invokevirtual 64, 3) := by decide +kernel
theorem dX3_takeFountain_44 : decode cX3_takeFountain 44 = .ok (.ifCond .ne 5, 3) := by decide +kernel
theorem dX3_takeFountain_47 : decode cX3_takeFountain 47 = .ok (.iconst 0, 1) := by decide +kernel
theorem dX3_takeFountain_48 : decode cX3_takeFountain 48 = .ok (.ireturn, 1) := by decide +kernel
theorem dX3_takeFountain_49 : decode cX3_takeFountain 49 = .ok (.aload 4, 2) := by decide +kernel
theorem dX3_takeFountain_51 : decode cX3_takeFountain 51 = .ok (.aload_n 0, 1) := by decide +kernel
theorem dX3_takeFountain_52 : decode cX3_takeFountain 52 = .ok (.getfield 24, 3) := by decide +kernel
theorem dX3_takeFountain_55 : decode cX3_takeFountain 55 = .ok (.putfield 101, 3) := by decide +kernel
theorem dX3_takeFountain_58 : decode cX3_takeFountain 58 = .ok (.aload_n 0, 1) := by decide +kernel
theorem dX3_takeFountain_59 : decode cX3_takeFountain 59 = .ok (.ldc 105, 2) := by decide +kernel
theorem dX3_takeFountain_61 : decode cX3_takeFountain 61 = .ok (.invokevirtual 48, 3) := by decide +kernel
theorem dX3_takeFountain_64 : decode cX3_takeFountain 64 = .ok (.ifCond .eq 24, 3) := by decide +kernel
theorem dX3_takeFountain_67 : decode cX3_takeFountain 67 = .ok (.aload_n 0, 1) := by decide +kernel
theorem dX3_takeFountain_68 : decode cX3_takeFountain 68 = .ok (.iconst 0, 1) := by decide +kernel
theorem dX3_takeFountain_69 : decode cX3_takeFountain 69 = .ok (.bipush 99, 2) := by decide +kernel
theorem dX3_takeFountain_71 : decode cX3_takeFountain 71 = .ok (.invokevirtual 64, 3) := by decide +kernel
theorem dX3_takeFountain_74 : decode cX3_takeFountain 74 = .ok (.ifCond .ne 5, 3) := by decide +kernel
theorem dX3_takeFountain_77 : decode cX3_takeFountain 77 = .ok (.iconst 0, 1) := by decide +kernel
theorem dX3_takeFountain_78 : decode cX3_takeFountain 78 = .ok (.ireturn, 1) := by decide +kernel
theorem dX3_takeFountain_79 : decode cX3_takeFountain 79 = .ok (.aload 4, 2) := by decide +kernel
theorem dX3_takeFountain_81 : decode cX3_takeFountain 81 = .ok (.aload_n 0, 1) := by decide +kernel
theorem dX3_takeFountain_82 : decode cX3_takeFountain 82 = .ok (.getfield 24, 3) := by decide +kernel
theorem dX3_takeFountain_85 : decode cX3_takeFountain 85 = .ok (.putfield 107, 3) := by decide +kernel
theorem dX3_takeFountain_88 : decode cX3_takeFountain 88 = .ok (.aload_n 0, 1) := by decide +kernel
theorem dX3_takeFountain_89 : decode cX3_takeFountain 89 = .ok (.ldc 109, 2) := by decide +kernel
theorem dX3_takeFountain_91 : decode cX3_takeFountain 91 = .ok (.invokevirtual 48, 3) := by decide +kernel
theorem dX3_takeFountain_94 : decode cX3_takeFountain 94 = .ok (.ifCond .eq 9, 3) := by decide +kernel
theorem dX3_takeFountain_97 : decode cX3_takeFountain 97 = .ok (.aload 4, 2) := by decide +kernel
theorem dX3_takeFountain_99 : decode cX3_takeFountain 99 = .ok (.iconst 1, 1) := by decide +kernel
theorem dX3_takeFountain_100 : decode cX3_takeFountain 100 = .ok (.putfield 111, 3) := by decide +kernel
theorem dX3_takeFountain_103 : decode cX3_takeFountain 103 = .ok (.iconst 1, 1) := by decide +kernel
theorem dX3_takeFountain_104 : decode cX3_takeFountain 104 = .ok (.ireturn, 1) := by decide +kernel
theorem dX3_takeRain_0 : decode cX3_takeRain 0 = .ok (.aload_n 0, 1) := by decide +kernel
theorem dX3_takeRain_1 : decode cX3_takeRain 1 = .ok (.iconst 0, 1) := by decide +kernel
theorem dX3_takeRain_2 : decode cX3_takeRain 2 = .ok (.bipush 7, 2) := by decide +kernel
theorem dX3_takeRain_4 : decode cX3_takeRain 4 = .ok (.invokevirtual 64, 3) := by decide +kernel
theorem dX3_takeRain_7 : decode cX3_takeRain 7 = .ok (.ifCond .ne 5, 3) := by decide +kernel
theorem dX3_takeRain_10 : decode cX3_takeRain 10 = .ok (.iconst 0, 1) := by decide +kernel
theorem dX3_takeRain_11 : decode cX3_takeRain 11 = .ok (.ireturn, 1) := by decide +kernel
theorem dX3_takeRain_12 : decode cX3_takeRain 12 = .ok (.aload_n 0, 1) := by decide +kernel
theorem dX3_takeRain_13 : decode cX3_takeRain 13 = .ok (.getfield 24, 3) := by decide +kernel
theorem dX3_takeRain_16 : decode cX3_takeRain 16 = .ok (.istore_n 2, 1) := by decide +kernel
theorem dX3_takeRain_17 : decode cX3_takeRain 17 = .ok (.aload_n 0, 1) := by decide +kernel
theorem dX3_takeRain_18 : decode cX3_takeRain 18 = .ok (.iconst 0, 1) := by decide +kernel
theorem dX3_takeRain_19 : decode cX3_takeRain 19 = .ok (.bipush 99, 2) := by decide +kernel
theorem dX3_takeRain_21 : decode cX3_takeRain 21 = .ok (.invokevirtual 64, 3) := by decide +kernel
theorem dX3_takeRain_24 : decode cX3_takeRain 24 = .ok (.ifCond .ne 5, 3) := by decide +kernel
theorem dX3_takeRain_27 : decode cX3_takeRain 27 = .ok (.iconst 0, 1) := by decide +kernel
theorem dX3_takeRain_28 : decode cX3_takeRain 28 = .ok (.ireturn, 1) := by decide +kernel
theorem dX3_takeRain_29 : decode cX3_takeRain 29 = .ok (.aload_n 1, 1) := by decide +kernel
theorem dX3_takeRain_30 : decode cX3_takeRain 30 = .ok (.getfield 113, 3) := by decide +kernel
theorem dX3_takeRain_33 : decode cX3_takeRain 33 = .ok (.iload_n 2, 1) := by decide +kernel
theorem dX3_takeRain_34 : decode cX3_takeRain 34 = .ok (.aload_n 0, 1) := by decide +kernel
theorem dX3_takeRain_35 : decode cX3_takeRain 35 = .ok (.getfield 24, 3) := by decide +kernel
theorem dX3_takeRain_38 : decode cX3_takeRain 38 = .ok (.iastore, 1) := by decide +kernel
theorem dX3_takeRain_39 : decode cX3_takeRain 39 = .ok (.iconst 1, 1) := by decide +kernel
theorem dX3_takeRain_40 : decode cX3_takeRain 40 = .ok (.ireturn, 1) := by decide +kernel
theorem dX3_takeFrost_0 : decode cX3_takeFrost 0 = .ok (.aload_n 0, 1) := by decide +kernel
theorem dX3_takeFrost_1 : decode cX3_takeFrost 1 = .ok (.iconst 0, 1) := by decide +kernel
theorem dX3_takeFrost_2 : decode cX3_takeFrost 2 = .ok (.bipush 7, 2) := by decide +kernel
theorem dX3_takeFrost_4 : decode cX3_takeFrost 4 = .ok (.invokevirtual 64, 3) := by decide +kernel
theorem dX3_takeFrost_7 : decode cX3_takeFrost 7 = .ok (.ifCond .ne 5, 3) := by decide +kernel
theorem dX3_takeFrost_10 : decode cX3_takeFrost 10 = .ok (.iconst 0, 1) := by decide +kernel
theorem dX3_takeFrost_11 : decode cX3_takeFrost 11 = .ok (.ireturn, 1) := by decide +kernel
theorem dX3_takeFrost_12 : decode cX3_takeFrost 12 = .ok (.aload_n 1, 1) := by decide +kernel
theorem dX3_takeFrost_13 : decode cX3_takeFrost 13 = .ok (.getfield 117, 3) := by decide +kernel
theorem dX3_takeFrost_16 : decode cX3_takeFrost 16 = .ok (.aload_n 0, 1) := by decide +kernel
theorem dX3_takeFrost_17 : decode cX3_takeFrost 17 = .ok (.getfield 24, 3) := by decide +kernel
theorem dX3_takeFrost_20 : decode cX3_takeFrost 20 = .ok (.iload_n 2, 1) := by decide +kernel
theorem dX3_takeFrost_21 : decode cX3_takeFrost 21 = .ok (.iastore, 1) := by decide +kernel
theorem dX3_takeFrost_22 : decode cX3_takeFrost 22 = .ok (.iconst 1, 1) := by decide +kernel
theorem dX3_takeFrost_23 : decode cX3_takeFrost 23 = .ok (.ireturn, 1) := by decide +kernel
theorem dX3_takeWord_0 : decode cX3_takeWord 0 = .ok (.aload_n 0, 1) := by decide +kernel
theorem dX3_takeWord_1 : decode cX3_takeWord 1 = .ok (.aload_n 1, 1) := by decide +kernel
theorem dX3_takeWord_2 : decode cX3_takeWord 2 = .ok (.invokevirtual 74, 3) := by decide +kernel
theorem dX3_takeWord_5 : decode cX3_takeWord 5 = .ok (.ifCond .ne 5, 3) := by decide +kernel
theorem dX3_takeWord_8 : decode cX3_takeWord 8 = .ok (.iconst 0, 1) := by decide +kernel
theorem dX3_takeWord_9 : decode cX3_takeWord 9 = .ok (.ireturn, 1) := by decide +kernel
theorem dX3_takeWord_10 : decode cX3_takeWord 10 = .ok (.aload_n 0, 1) := by decide +kernel
theorem dX3_takeWord_11 : decode cX3_takeWord 11 = .ok (.invokevirtual 31, 3) := by decide +kernel
theorem dX3_takeWord_14 : decode cX3_takeWord 14 = .ok (.iconst 1, 1) := by decide +kernel
theorem dX3_takeWord_15 : decode cX3_takeWord 15 = .ok (.ireturn, 1) := by decide +kernel
theorem dX3_takeNumber_0 : decode cX3_takeNumber 0 = .ok (.aload_n 0, 1) := by decide +kernel
theorem dX3_takeNumber_1 : decode cX3_takeNumber 1 = .ok (.getfield 11, 3) := by decide +kernel
theorem dX3_takeNumber_4 : decode cX3_takeNumber 4 = .ok (.iconst 1, 1) := by decide +kernel
theorem dX3_takeNumber_5 : decode cX3_takeNumber 5 = .ok (.if_icmp .ne 19, 3) := by decide +kernel
theorem dX3_takeNumber_8 : decode cX3_takeNumber 8 = .ok (.aload_n 0, 1) := by decide +kernel
theorem dX3_takeNumber_9 : decode cX3_takeNumber 9 = .ok (.getfield 21, 3) := by decide +kernel
theorem dX3_takeNumber_12 : decode cX3_takeNumber 12 = .ok (.iload_n 1, 1) := by decide +kernel
theorem dX3_takeNumber_13 : decode cX3_takeNumber 13 = .ok (.if_icmp .lt 11, 3) := by decide +kernel
theorem dX3_takeNumber_16 : decode cX3_takeNumber 16 = .ok (.aload_n 0, 1) := by decide +kernel
theorem dX3_takeNumber_17 : decode cX3_takeNumber 17 = .ok (.getfield 21, 3) := by decide +kernel
theorem dX3_takeNumber_20 : decode cX3_takeNumber 20 = .ok (.iload_n 2, 1) := by decide +kernel
theorem dX3_takeNumber_21 : decode cX3_takeNumber 21 = .ok (.if_icmp .le 5, 3) := by decide +kernel
theorem dX3_takeNumber_24 : decode cX3_takeNumber 24 = .ok (.iconst 0, 1) := by decide +kernel
theorem dX3_takeNumber_25 : decode cX3_takeNumber 25 = .ok (.ireturn, 1) := by decide +kernel
theorem dX3_takeNumber_26 : decode cX3_takeNumber 26 = .ok (.aload_n 0, 1) := by decide +kernel
theorem dX3_takeNumber_27 : decode cX3_takeNumber 27 = .ok (.aload_n 0, 1) := by decide +kernel
theorem dX3_takeNumber_28 : decode cX3_takeNumber 28 = .ok (.getfield 21, 3) := by decide +kernel
theorem dX3_takeNumber_31 : decode cX3_takeNumber 31 = .ok (.putfield 24, 3) := by decide +kernel
theorem dX3_takeNumber_34 : decode cX3_takeNumber 34 = .ok (.aload_n 0, 1) := by decide +kernel
theorem dX3_takeNumber_35 : decode cX3_takeNumber 35 = .ok (.invokevirtual 31, 3) := by decide +kernel
theorem dX3_takeNumber_38 : decode cX3_takeNumber 38 = .ok (.iconst 1, 1) := by decide +kernel
theorem dX3_takeNumber_39 : decode cX3_takeNumber 39 = .ok (.ireturn, 1) := by decide +kernel
theorem dX3_isWord_0 : decode cX3_isWord 0 = .ok (.aload_n 0, 1) := by decide +kernel
theorem dX3_isWord_1 : decode cX3_isWord 1 = .ok (.getfield 11, 3) := by decide +kernel
theorem dX3_isWord_4 : decode cX3_isWord 4 = .ok (.ifCond .ne 19, 3) := by decide +kernel
theorem dX3_isWord_7 : decode cX3_isWord 7 = .ok (.aload_n 1, 1) := by decide +kernel
theorem dX3_isWord_8 : decode cX3_isWord 8 = .ok (.invokevirtual 120, 3) := by decide +kernel
theorem dX3_isWord_11 : decode cX3_isWord 11 = .ok (.aload_n 0, 1) := by decide +kernel
theorem dX3_isWord_12 : decode cX3_isWord 12 = .ok (.getfield 18, 3) := by decide +kernel
theorem dX3_isWord_15 : decode cX3_isWord 15 = .ok (.aload_n 0, 1) := by decide +kernel
theorem dX3_isWord_16 : decode cX3_isWord 16 = .ok (.getfield 15, 3) := by decide +kernel
theorem dX3_isWord_19 : decode cX3_isWord 19 = .ok (.isub, 1) := by decide +kernel
theorem dX3_isWord_20 : decode cX3_isWord 20 = .ok (.if_icmp .eq 5, 3) := by decide +kernel
theorem dX3_isWord_23 : decode cX3_isWord 23 = .ok (.iconst 0, 1) := by decide +kernel
theorem dX3_isWord_24 : decode cX3_isWord 24 = .ok (.ireturn, 1) := by decide +kernel
theorem dX3_isWord_25 : decode cX3_isWord 25 = .ok (.iconst 0, 1) := by decide +kernel
theorem dX3_isWord_26 : decode cX3_isWord 26 = .ok (.istore_n 2, 1) := by decide +kernel
theorem dX3_isWord_27 : decode cX3_isWord 27 = .ok (.iload_n 2, 1) := by decide +kernel
theorem dX3_isWord_28 : decode cX3_isWord 28 = .ok (.aload_n 1, 1) := by decide +kernel
theorem dX3_isWord_29 : decode cX3_isWord 29 = .ok (.invokevirtual 120, 3) := by decide +kernel
theorem dX3_isWord_32 : decode cX3_isWord 32 = .ok (.if_icmp .ge 29, 3) := by decide +kernel
theorem dX3_isWord_35 : decode cX3_isWord 35 = .ok (.aload_n 0, 1) := by decide +kernel
theorem dX3_isWord_36 : decode cX3_isWord 36 = .ok (.aload_n 0, 1) := by decide +kernel
theorem dX3_isWord_37 : decode cX3_isWord 37 = .ok (.getfield 15, 3) := by decide +kernel
theorem dX3_isWord_40 : decode cX3_isWord 40 = .ok (.iload_n 2, 1) := by decide +kernel
theorem dX3_isWord_41 : decode cX3_isWord 41 = .ok (.iadd, 1) := by decide +kernel
theorem dX3_isWord_42 : decode cX3_isWord 42 = .ok (.invokevirtual 125, 3) := by decide +kernel
theorem dX3_isWord_45 : decode cX3_isWord 45 = .ok (.aload_n 1, 1) := by decide +kernel
theorem dX3_isWord_46 : decode cX3_isWord 46 = .ok (.iload_n 2, 1) := by decide +kernel
theorem dX3_isWord_47 : decode cX3_isWord 47 = .ok (.invokevirtual 128, 3) := by decide +kernel
theorem dX3_isWord_50 : decode cX3_isWord 50 = .ok (.if_icmp .eq 5, 3) := by decide +kernel
theorem dX3_isWord_53 : decode cX3_isWord 53 = .ok (.iconst 0, 1) := by decide +kernel
theorem dX3_isWord_54 : decode cX3_isWord 54 = .ok (.ireturn, 1) := by decide +kernel
theorem dX3_isWord_55 : decode cX3_isWord 55 = .ok (.iinc 2 1, 3) := by decide +kernel
theorem dX3_isWord_58 : decode cX3_isWord 58 = .ok (.goto (-31), 3) := by decide +kernel
theorem dX3_isWord_61 : decode cX3_isWord 61 = .ok (.iconst 1, 1) := by decide +kernel
theorem dX3_isWord_62 : decode cX3_isWord 62 = .ok (.ireturn, 1) := by decide +kernel
theorem dX3_step_0 : decode cX3_step 0 = .ok (.aload_n 0, 1) := by decide +kernel
theorem dX3_step_1 : decode cX3_step 1 = .ok (.aload_n 0, 1) := by decide +kernel
theorem dX3_step_2 : decode cX3_step 2 = .ok (.getfield 18, 3) := by decide +kernel
theorem dX3_step_5 : decode cX3_step 5 = .ok (.putfield 15, 3) := by decide +kernel
theorem dX3_step_8 : decode cX3_step 8 = .ok (.aload_n 0, 1) := by decide +kernel
theorem dX3_step_9 : decode cX3_step 9 = .ok (.getfield 15, 3) := by decide +kernel
theorem dX3_step_12 : decode cX3_step 12 = .ok (.aload_n 0, 1) := by decide +kernel
theorem dX3_step_13 : decode cX3_step 13 = .ok (.getfield 27, 3) := by decide +kernel
theorem dX3_step_16 : decode cX3_step 16 = .ok (.getfield 132, 3) := by decide +kernel
theorem dX3_step_19 : decode cX3_step 19 = .ok (.if_icmp .ge 29, 3) := by decide +kernel
theorem dX3_step_22 : decode cX3_step 22 = .ok (.aload_n 0, 1) := by decide +kernel
theorem dX3_step_23 : decode cX3_step 23 = .ok (.aload_n 0, 1) := by decide +kernel
theorem dX3_step_24 : decode cX3_step 24 = .ok (.getfield 15, 3) := by decide +kernel
theorem dX3_step_27 : decode cX3_step 27 = .ok (.invokevirtual 125, 3) := by decide +kernel
theorem dX3_step_30 : decode cX3_step 30 = .ok (.bipush 32, 2) := by decide +kernel
theorem dX3_step_32 : decode cX3_step 32 = .ok (.if_icmp .ne 16, 3) := by decide +kernel
theorem dX3_step_35 : decode cX3_step 35 = .ok (.aload_n 0, 1) := by decide +kernel
theorem dX3_step_36 : decode cX3_step 36 = .ok (.dup, 1) := by decide +kernel
theorem dX3_step_37 : decode cX3_step 37 = .ok (.getfield 15, 3) := by decide +kernel
theorem dX3_step_40 : decode cX3_step 40 = .ok (.iconst 1, 1) := by decide +kernel
theorem dX3_step_41 : decode cX3_step 41 = .ok (.iadd, 1) := by decide +kernel
theorem dX3_step_42 : decode cX3_step 42 = .ok (.putfield 15, 3) := by decide +kernel
theorem dX3_step_45 : decode cX3_step 45 = .ok (.goto (-37), 3) := by decide +kernel
theorem dX3_step_48 : decode cX3_step 48 = .ok (.aload_n 0, 1) := by decide +kernel
theorem dX3_step_49 : decode cX3_step 49 = .ok (.aload_n 0, 1) := by decide +kernel
theorem dX3_step_50 : decode cX3_step 50 = .ok (.getfield 15, 3) := by decide +kernel
theorem dX3_step_53 : decode cX3_step 53 = .ok (.putfield 18, 3) := by decide +kernel
theorem dX3_step_56 : decode cX3_step 56 = .ok (.aload_n 0, 1) := by decide +kernel
theorem dX3_step_57 : decode cX3_step 57 = .ok (.getfield 15, 3) := by decide +kernel
theorem dX3_step_60 : decode cX3_step 60 = .ok (.aload_n 0, 1) := by decide +kernel
theorem dX3_step_61 : decode cX3_step 61 = .ok (.getfield 27, 3) := by decide +kernel
theorem dX3_step_64 : decode cX3_step 64 = .ok (.getfield 132, 3) := by decide +kernel
theorem dX3_step_67 : decode cX3_step 67 = .ok (.if_icmp .lt 11, 3) := by decide +kernel
theorem dX3_step_70 : decode cX3_step 70 = .ok (.aload_n 0, 1) := by decide +kernel
theorem dX3_step_71 : decode cX3_step 71 = .ok (.iconst 3, 1) := by decide +kernel
theorem dX3_step_72 : decode cX3_step 72 = .ok (.putfield 11, 3) := by decide +kernel
theorem dX3_step_75 : decode cX3_step 75 = .ok (.goto 189, 3) := by decide +kernel
theorem dX3_step_78 : decode cX3_step 78 = .ok (.aload_n 0, 1) := by decide +kernel
theorem dX3_step_79 : decode cX3_step 79 = .ok (.aload_n 0, 1) := by decide +kernel
theorem dX3_step_80 : decode cX3_step 80 = .ok (.getfield 15, 3) := by decide +kernel
theorem dX3_step_83 : decode cX3_step 83 = .ok (.invokevirtual 125, 3) := by decide +kernel
theorem dX3_step_86 : decode cX3_step 86 = .ok (.invokestatic 136, 3) := by decide +kernel
theorem dX3_step_89 : decode cX3_step 89 = .ok (.ifCond .eq 49, 3) := by decide +kernel
theorem dX3_step_92 : decode cX3_step 92 = .ok (.aload_n 0, 1) := by decide +kernel
theorem dX3_step_93 : decode cX3_step 93 = .ok (.iconst 0, 1) := by decide +kernel
theorem dX3_step_94 : decode cX3_step 94 = .ok (.putfield 11, 3) := by decide +kernel
theorem dX3_step_97 : decode cX3_step 97 = .ok (.aload_n 0, 1) := by decide +kernel
theorem dX3_step_98 : decode cX3_step 98 = .ok (.getfield 18, 3) := by decide +kernel
theorem dX3_step_101 : decode cX3_step 101 = .ok (.aload_n 0, 1) := by decide +kernel
theorem dX3_step_102 : decode cX3_step 102 = .ok (.getfield 27, 3) := by decide +kernel
theorem dX3_step_105 : decode cX3_step 105 = .ok (.getfield 132, 3) := by decide +kernel
theorem dX3_step_108 : decode cX3_step 108 = .ok (.if_icmp .ge 156, 3) := by decide +kernel
theorem dX3_step_111 : decode cX3_step 111 = .ok (.aload_n 0, 1) := by decide +kernel
theorem dX3_step_112 : decode cX3_step 112 = .ok (.aload_n 0, 1) := by decide +kernel
theorem dX3_step_113 : decode cX3_step 113 = .ok (.getfield 18, 3) := by decide +kernel
theorem dX3_step_116 : decode cX3_step 116 = .ok (.invokevirtual 125, 3) := by decide +kernel
theorem dX3_step_119 : decode cX3_step 119 = .ok (.invokestatic 136, 3) := by decide +kernel
theorem dX3_step_122 : decode cX3_step 122 = .ok (.ifCond .eq 142, 3) := by decide +kernel
theorem dX3_step_125 : decode cX3_step 125 = .ok (.aload_n 0, 1) := by decide +kernel
theorem dX3_step_126 : decode cX3_step 126 = .ok (.dup, 1) := by decide +kernel
theorem dX3_step_127 : decode cX3_step 127 = .ok (.getfield 18, 3) := by decide +kernel
theorem dX3_step_130 : decode cX3_step 130 = .ok (.iconst 1, 1) := by decide +kernel
theorem dX3_step_131 : decode cX3_step 131 = .ok (.iadd, 1) := by decide +kernel
theorem dX3_step_132 : decode cX3_step 132 = .ok (.putfield 18, 3) := by decide +kernel
theorem dX3_step_135 : decode cX3_step 135 = .ok (.goto (-38), 3) := by decide +kernel
theorem dX3_step_138 : decode cX3_step 138 = .ok (.aload_n 0, 1) := by decide +kernel
theorem dX3_step_139 : decode cX3_step 139 = .ok (.aload_n 0, 1) := by decide +kernel
theorem dX3_step_140 : decode cX3_step 140 = .ok (.getfield 15, 3) := by decide +kernel
theorem dX3_step_143 : decode cX3_step 143 = .ok (.invokevirtual 125, 3) := by decide +kernel
theorem dX3_step_146 : decode cX3_step 146 = .ok (.invokestatic 139, 3) := by decide +kernel
theorem dX3_step_149 : decode cX3_step 149 = .ok (.ifCond .eq 83, 3) := by decide +kernel
theorem dX3_step_152 : decode cX3_step 152 = .ok (.aload_n 0, 1) := by decide +kernel
theorem dX3_step_153 : decode cX3_step 153 = .ok (.iconst 1, 1) := by decide +kernel
theorem dX3_step_154 : decode cX3_step 154 = .ok (.putfield 11, 3) := by decide +kernel
theorem dX3_step_157 : decode cX3_step 157 = .ok (.aload_n 0, 1) := by decide +kernel
theorem dX3_step_158 : decode cX3_step 158 = .ok (.iconst 0, 1) := by decide +kernel
theorem dX3_step_159 : decode cX3_step 159 = .ok (.putfield 21, 3) := by decide +kernel
theorem dX3_step_162 : decode cX3_step 162 = .ok (.aload_n 0, 1) := by decide +kernel
theorem dX3_step_163 : decode cX3_step 163 = .ok (.getfield 18, 3) := by decide +kernel
theorem dX3_step_166 : decode cX3_step 166 = .ok (.aload_n 0, 1) := by decide +kernel
theorem dX3_step_167 : decode cX3_step 167 = .ok (.getfield 27, 3) := by decide +kernel
theorem dX3_step_170 : decode cX3_step 170 = .ok (.getfield 132, 3) := by decide +kernel
theorem dX3_step_173 : decode cX3_step 173 = .ok (.if_icmp .ge 91, 3) := by decide +kernel
theorem dX3_step_176 : decode cX3_step 176 = .ok (.aload_n 0, 1) := by decide +kernel
theorem dX3_step_177 : decode cX3_step 177 = .ok (.aload_n 0, 1) := by decide +kernel
theorem dX3_step_178 : decode cX3_step 178 = .ok (.getfield 18, 3) := by decide +kernel
theorem dX3_step_181 : decode cX3_step 181 = .ok (.invokevirtual 125, 3) := by decide +kernel
theorem dX3_step_184 : decode cX3_step 184 = .ok (.invokestatic 139, 3) := by decide +kernel
theorem dX3_step_187 : decode cX3_step 187 = .ok (.ifCond .eq 77, 3) := by decide +kernel
theorem dX3_step_190 : decode cX3_step 190 = .ok (.aload_n 0, 1) := by decide +kernel
theorem dX3_step_191 : decode cX3_step 191 = .ok (.sipush 10000, 3) := by decide +kernel
theorem dX3_step_194 : decode cX3_step 194 = .ok (.aload_n 0, 1) := by decide +kernel
theorem dX3_step_195 : decode cX3_step 195 = .ok (.getfield 21, 3) := by decide +kernel
theorem dX3_step_198 : decode cX3_step 198 = .ok (.bipush 10, 2) := by decide +kernel
theorem dX3_step_200 : decode cX3_step 200 = .ok (.imul, 1) := by decide +kernel
theorem dX3_step_201 : decode cX3_step 201 = .ok (.aload_n 0, 1) := by decide +kernel
theorem dX3_step_202 : decode cX3_step 202 = .ok (.aload_n 0, 1) := by decide +kernel
theorem dX3_step_203 : decode cX3_step 203 = .ok (.getfield 18, 3) := by decide +kernel
theorem dX3_step_206 : decode cX3_step 206 = .ok (.invokevirtual 125, 3) := by decide +kernel
theorem dX3_step_209 : decode cX3_step 209 = .ok (.iadd, 1) := by decide +kernel
theorem dX3_step_210 : decode cX3_step 210 = .ok (.bipush 48, 2) := by decide +kernel
theorem dX3_step_212 : decode cX3_step 212 = .ok (.isub, 1) := by decide +kernel
theorem dX3_step_213 : decode cX3_step 213 = .ok (.invokestatic 142, 3) := by decide +kernel
theorem dX3_step_216 : decode cX3_step 216 = .ok (.putfield 21, 3) := by decide +kernel
theorem dX3_step_219 : decode cX3_step 219 = .ok (.aload_n 0, 1) := by decide +kernel
theorem dX3_step_220 : decode cX3_step 220 = .ok (.dup, 1) := by decide +kernel
theorem dX3_step_221 : decode cX3_step 221 = .ok (.getfield 18, 3) := by decide +kernel
theorem dX3_step_224 : decode cX3_step 224 = .ok (.iconst 1, 1) := by decide +kernel
theorem dX3_step_225 : decode cX3_step 225 = .ok (.iadd, 1) := by decide +kernel
theorem dX3_step_226 : decode cX3_step 226 = .ok (.putfield 18, 3) := by decide +kernel
theorem dX3_step_229 : decode cX3_step 229 = .ok (.goto (-67), 3) := by decide +kernel
theorem dX3_step_232 : decode cX3_step 232 = .ok (.aload_n 0, 1) := by decide +kernel
theorem dX3_step_233 : decode cX3_step 233 = .ok (.aload_n 0, 1) := by decide +kernel
theorem dX3_step_234 : decode cX3_step 234 = .ok (.aload_n 0, 1) := by decide +kernel
theorem dX3_step_235 : decode cX3_step 235 = .ok (.getfield 15, 3) := by decide +kernel
theorem dX3_step_238 : decode cX3_step 238 = .ok (.invokevirtual 125, 3) := by decide +kernel
theorem dX3_step_241 : decode cX3_step 241 = .ok (.bipush 59, 2) := by decide +kernel
theorem dX3_step_243 : decode cX3_step 243 = .ok (.if_icmp .ne 7, 3) := by decide +kernel
theorem dX3_step_246 : decode cX3_step 246 = .ok (.iconst 2, 1) := by decide +kernel
theorem dX3_step_247 : decode cX3_step 247 = .ok (.goto 4, 3) := by decide +kernel
theorem dX3_step_250 : decode cX3_step 250 = .ok (.iconst 4, 1) := by decide +kernel
theorem dX3_step_251 : decode cX3_step 251 = .ok (.putfield 11, 3) := by decide +kernel
theorem dX3_step_254 : decode cX3_step 254 = .ok (.aload_n 0, 1) := by decide +kernel
theorem dX3_step_255 : decode cX3_step 255 = .ok (.aload_n 0, 1) := by decide +kernel
theorem dX3_step_256 : decode cX3_step 256 = .ok (.getfield 15, 3) := by decide +kernel
theorem dX3_step_259 : decode cX3_step 259 = .ok (.iconst 1, 1) := by decide +kernel
theorem dX3_step_260 : decode cX3_step 260 = .ok (.iadd, 1) := by decide +kernel
theorem dX3_step_261 : decode cX3_step 261 = .ok (.putfield 18, 3) := by decide +kernel
theorem dX3_step_264 : decode cX3_step 264 = .ok (.return_, 1) := by decide +kernel
theorem dX3_byteAt_0 : decode cX3_byteAt 0 = .ok (.iload_n 1, 1) := by decide +kernel
theorem dX3_byteAt_1 : decode cX3_byteAt 1 = .ok (.ifCond .lt 32, 3) := by decide +kernel
theorem dX3_byteAt_4 : decode cX3_byteAt 4 = .ok (.iload_n 1, 1) := by decide +kernel
theorem dX3_byteAt_5 : decode cX3_byteAt 5 = .ok (.aload_n 0, 1) := by decide +kernel
theorem dX3_byteAt_6 : decode cX3_byteAt 6 = .ok (.getfield 27, 3) := by decide +kernel
theorem dX3_byteAt_9 : decode cX3_byteAt 9 = .ok (.getfield 132, 3) := by decide +kernel
theorem dX3_byteAt_12 : decode cX3_byteAt 12 = .ok (.if_icmp .ge 21, 3) := by decide +kernel
theorem dX3_byteAt_15 : decode cX3_byteAt 15 = .ok (.iload_n 1, 1) := by decide +kernel
theorem dX3_byteAt_16 : decode cX3_byteAt 16 = .ok (.bipush 120, 2) := by decide +kernel
theorem dX3_byteAt_18 : decode cX3_byteAt 18 = .ok (.if_icmp .ge 15, 3) := by decide +kernel
theorem dX3_byteAt_21 : decode cX3_byteAt 21 = .ok (.aload_n 0, 1) := by decide +kernel
theorem dX3_byteAt_22 : decode cX3_byteAt 22 = .ok (.getfield 27, 3) := by decide +kernel
theorem dX3_byteAt_25 : decode cX3_byteAt 25 = .ok (.getfield 148, 3) := by decide +kernel
theorem dX3_byteAt_28 : decode cX3_byteAt 28 = .ok (.iload_n 1, 1) := by decide +kernel
theorem dX3_byteAt_29 : decode cX3_byteAt 29 = .ok (.iaload, 1) := by decide +kernel
theorem dX3_byteAt_30 : decode cX3_byteAt 30 = .ok (.goto 4, 3) := by decide +kernel
theorem dX3_byteAt_33 : decode cX3_byteAt 33 = .ok (.iconst (-1), 1) := by decide +kernel
theorem dX3_byteAt_34 : decode cX3_byteAt 34 = .ok (.ireturn, 1) := by decide +kernel
theorem dX3_isLetter_0 : decode cX3_isLetter 0 = .ok (.iload_n 0, 1) := by decide +kernel
theorem dX3_isLetter_1 : decode cX3_isLetter 1 = .ok (.bipush 97, 2) := by decide +kernel
theorem dX3_isLetter_3 : decode cX3_isLetter 3 = .ok (.if_icmp .lt 13, 3) := by decide +kernel
theorem dX3_isLetter_6 : decode cX3_isLetter 6 = .ok (.iload_n 0, 1) := by decide +kernel
theorem dX3_isLetter_7 : decode cX3_isLetter 7 = .ok (.bipush 122, 2) := by decide +kernel
theorem dX3_isLetter_9 : decode cX3_isLetter 9 = .ok (.if_icmp .gt 7, 3) := by decide +kernel
theorem dX3_isLetter_12 : decode cX3_isLetter 12 = .ok (.iconst 1, 1) := by decide +kernel
theorem dX3_isLetter_13 : decode cX3_isLetter 13 = .ok (.goto 4, 3) := by decide +kernel
theorem dX3_isLetter_16 : decode cX3_isLetter 16 = .ok (.iconst 0, 1) := by decide +kernel
theorem dX3_isLetter_17 : decode cX3_isLetter 17 = .ok (.ireturn, 1) := by decide +kernel
theorem dX3_isDigit_0 : decode cX3_isDigit 0 = .ok (.iload_n 0, 1) := by decide +kernel
theorem dX3_isDigit_1 : decode cX3_isDigit 1 = .ok (.bipush 48, 2) := by decide +kernel
theorem dX3_isDigit_3 : decode cX3_isDigit 3 = .ok (.if_icmp .lt 13, 3) := by decide +kernel
theorem dX3_isDigit_6 : decode cX3_isDigit 6 = .ok (.iload_n 0, 1) := by decide +kernel
theorem dX3_isDigit_7 : decode cX3_isDigit 7 = .ok (.bipush 57, 2) := by decide +kernel
theorem dX3_isDigit_9 : decode cX3_isDigit 9 = .ok (.if_icmp .gt 7, 3) := by decide +kernel
theorem dX3_isDigit_12 : decode cX3_isDigit 12 = .ok (.iconst 1, 1) := by decide +kernel
theorem dX3_isDigit_13 : decode cX3_isDigit 13 = .ok (.goto 4, 3) := by decide +kernel
theorem dX3_isDigit_16 : decode cX3_isDigit 16 = .ok (.iconst 0, 1) := by decide +kernel
theorem dX3_isDigit_17 : decode cX3_isDigit 17 = .ok (.ireturn, 1) := by decide +kernel
theorem dX4_init_0 : decode cX4_init 0 = .ok (.aload_n 0, 1) := by decide +kernel
theorem dX4_init_1 : decode cX4_init 1 = .ok (.invokespecial 3, 3) := by decide +kernel
theorem dX4_init_4 : decode cX4_init 4 = .ok (.aload_n 0, 1) := by decide +kernel
theorem dX4_init_5 : decode cX4_init 5 = .ok (.iconst 0, 1) := by decide +kernel
theorem dX4_init_6 : decode cX4_init 6 = .ok (.putfield 9, 3) := by decide +kernel
theorem dX4_init_9 : decode cX4_init 9 = .ok (.aload_n 0, 1) := by decide +kernel
theorem dX4_init_10 : decode cX4_init 10 = .ok (.sipush 500, 3) := by decide +kernel
theorem dX4_init_13 : decode cX4_init 13 = .ok (.putfield 15, 3) := by decide +kernel
theorem dX4_init_16 : decode cX4_init 16 = .ok (.aload_n 0, 1) := by decide +kernel
theorem dX4_init_17 : decode cX4_init 17 = .ok (.sipush 200, 3) := by decide +kernel
theorem dX4_init_20 : decode cX4_init 20 = .ok (.putfield 18, 3) := by decide +kernel
theorem dX4_init_23 : decode cX4_init 23 = .ok (.aload_n 0, 1) := by decide +kernel
theorem dX4_init_24 : decode cX4_init 24 = .ok (.sipush 600, 3) := by decide +kernel
theorem dX4_init_27 : decode cX4_init 27 = .ok (.putfield 21, 3) := by decide +kernel
theorem dX4_init_30 : decode cX4_init 30 = .ok (.aload_n 0, 1) := by decide +kernel
theorem dX4_init_31 : decode cX4_init 31 = .ok (.bipush 8, 2) := by decide +kernel
theorem dX4_init_33 : decode cX4_init 33 = .ok (.newarray .int, 2) := by decide +kernel
theorem dX4_init_35 : decode cX4_init 35 = .ok (.putfield 24, 3) := by decide +kernel
theorem dX4_init_38 : decode cX4_init 38 = .ok (.aload_n 0, 1) := by decide +kernel
theorem dX4_init_39 : decode cX4_init 39 = .ok (.bipush 8, 2) := by decide +kernel
theorem dX4_init_41 : decode cX4_init 41 = .ok (.newarray .int, 2) := by decide +kernel
theorem dX4_init_43 : decode cX4_init 43 = .ok (.putfield 28, 3) := by decide +kernel
theorem dX4_init_46 : decode cX4_init 46 = .ok (.aload_n 0, 1) := by decide +kernel
theorem dX4_init_47 : decode cX4_init 47 = .ok (.bipush 8, 2) := by decide +kernel
theorem dX4_init_49 : decode cX4_init 49 = .ok (.anewarray 31, 3) := by decide +kernel
theorem dX4_init_52 : decode cX4_init 52 = .ok (.putfield 33, 3) := by decide +kernel
theorem dX4_init_55 : decode cX4_init 55 = .ok (.aload_n 0, 1) := by decide +kernel
theorem dX4_init_56 : decode cX4_init 56 = .ok (.iconst 0, 1) := by decide +kernel
theorem dX4_init_57 : decode cX4_init 57 = .ok (.putfield 37, 3) := by decide +kernel
theorem dX4_init_60 : decode cX4_init 60 = .ok (.iconst 0, 1) := by decide +kernel
theorem dX4_init_61 : decode cX4_init 61 = .ok (.istore_n 1, 1) := by decide +kernel
theorem dX4_init_62 : decode cX4_init 62 = .ok (.iload_n 1, 1) := by decide +kernel
theorem dX4_init_63 : decode cX4_init 63 = .ok (.bipush 8, 2) := by decide +kernel
theorem dX4_init_65 : decode cX4_init 65 = .ok (.if_icmp .ge 23, 3) := by decide +kernel
theorem dX4_init_68 : decode cX4_init 68 = .ok (.aload_n 0, 1) := by decide +kernel
theorem dX4_init_69 : decode cX4_init 69 = .ok (.getfield 24, 3) := by decide +kernel
theorem dX4_init_72 : decode cX4_init 72 = .ok (.iload_n 1, 1) := by decide +kernel
theorem dX4_init_73 : decode cX4_init 73 = .ok (.iconst 5, 1) := by decide +kernel
theorem dX4_init_74 : decode cX4_init 74 = .ok (.iload_n 1, 1) := by decide +kernel
theorem dX4_init_75 : decode cX4_init 75 = .ok (.imul, 1) := by decide +kernel
theorem dX4_init_76 : decode cX4_init 76 = .ok (.bipush 13, 2) := by decide +kernel
theorem dX4_init_78 : decode cX4_init 78 = .ok (.irem, 1) := by decide +kernel
theorem dX4_init_79 : decode cX4_init 79 = .ok (.iconst 3, 1) := by decide +kernel
theorem dX4_init_80 : decode cX4_init 80 = .ok (.iadd, 1) := by decide +kernel
theorem dX4_init_81 : decode cX4_init 81 = .ok (.iastore, 1) := by decide +kernel
theorem dX4_init_82 : decode cX4_init 82 = .ok (.iinc 1 1, 3) := by decide +kernel
theorem dX4_init_85 : decode cX4_init 85 = .ok (.goto (-23), 3) := by decide +kernel
theorem dX4_init_88 : decode cX4_init 88 = .ok (.iconst 0, 1) := by decide +kernel
theorem dX4_init_89 : decode cX4_init 89 = .ok (.istore_n 1, 1) := by decide +kernel
theorem dX4_init_90 : decode cX4_init 90 = .ok (.iload_n 1, 1) := by decide +kernel
theorem dX4_init_91 : decode cX4_init 91 = .ok (.bipush 8, 2) := by decide +kernel
theorem dX4_init_93 : decode cX4_init 93 = .ok (.if_icmp .ge 22, 3) := by decide +kernel
theorem dX4_init_96 : decode cX4_init 96 = .ok (.aload_n 0, 1) := by decide +kernel
theorem dX4_init_97 : decode cX4_init 97 = .ok (.getfield 33, 3) := by decide +kernel
theorem dX4_init_100 : decode cX4_init 100 = .ok (.iload_n 1, 1) := by decide +kernel
theorem dX4_init_101 : decode cX4_init 101 = .ok (.new 31, 3) := by decide +kernel
theorem dX4_init_104 : decode cX4_init 104 = .ok (.dup, 1) := by decide +kernel
theorem dX4_init_105 : decode cX4_init 105 = .ok (.invokespecial 40, 3) := by decide +kernel
theorem dX4_init_108 : decode cX4_init 108 = .ok (.aastore, 1) := by decide +kernel
theorem dX4_init_109 : decode cX4_init 109 = .ok (.iinc 1 1, 3) := by decide +kernel
theorem dX4_init_112 : decode cX4_init 112 = .ok (.goto (-22), 3) := by decide +kernel
theorem dX4_init_115 : decode cX4_init 115 = .ok (.return_, 1) := by decide +kernel
theorem dX4_become_0 : decode cX4_become 0 = .ok (.aload_n 0, 1) := by decide +kernel
theorem dX4_become_1 : decode cX4_become 1 = .ok (.aload_n 1, 1) := by decide +kernel
theorem dX4_become_2 : decode cX4_become 2 = .ok (.getfield 9, 3) := by decide +kernel
theorem dX4_become_5 : decode cX4_become 5 = .ok (.putfield 9, 3) := by decide +kernel
theorem dX4_become_8 : decode cX4_become 8 = .ok (.aload_n 0, 1) := by decide +kernel
theorem dX4_become_9 : decode cX4_become 9 = .ok (.aload_n 1, 1) := by decide +kernel
theorem dX4_become_10 : decode cX4_become 10 = .ok (.getfield 15, 3) := by decide +kernel
theorem dX4_become_13 : decode cX4_become 13 = .ok (.putfield 15, 3) := by decide +kernel
theorem dX4_become_16 : decode cX4_become 16 = .ok (.aload_n 0, 1) := by decide +kernel
theorem dX4_become_17 : decode cX4_become 17 = .ok (.aload_n 1, 1) := by decide +kernel
theorem dX4_become_18 : decode cX4_become 18 = .ok (.getfield 18, 3) := by decide +kernel
theorem dX4_become_21 : decode cX4_become 21 = .ok (.putfield 18, 3) := by decide +kernel
theorem dX4_become_24 : decode cX4_become 24 = .ok (.aload_n 0, 1) := by decide +kernel
theorem dX4_become_25 : decode cX4_become 25 = .ok (.aload_n 1, 1) := by decide +kernel
theorem dX4_become_26 : decode cX4_become 26 = .ok (.getfield 21, 3) := by decide +kernel
theorem dX4_become_29 : decode cX4_become 29 = .ok (.putfield 21, 3) := by decide +kernel
theorem dX4_become_32 : decode cX4_become 32 = .ok (.aload_n 1, 1) := by decide +kernel
theorem dX4_become_33 : decode cX4_become 33 = .ok (.getfield 24, 3) := by decide +kernel
theorem dX4_become_36 : decode cX4_become 36 = .ok (.iconst 0, 1) := by decide +kernel
theorem dX4_become_37 : decode cX4_become 37 = .ok (.aload_n 0, 1) := by decide +kernel
theorem dX4_become_38 : decode cX4_become 38 = .ok (.getfield 24, 3) := by decide +kernel
theorem dX4_become_41 : decode cX4_become 41 = .ok (.iconst 0, 1) := by decide +kernel
theorem dX4_become_42 : decode cX4_become 42 = .ok (.bipush 8, 2) := by decide +kernel
theorem dX4_become_44 : decode cX4_become 44 = .ok (.invokestatic 41, 3) := by decide +kernel
theorem dX4_become_47 : decode cX4_become 47 = .ok (.aload_n 1, 1) := by decide +kernel
theorem dX4_become_48 : decode cX4_become 48 = .ok (.getfield 28, 3) := by decide +kernel
theorem dX4_become_51 : decode cX4_become 51 = .ok (.iconst 0, 1) := by decide +kernel
theorem dX4_become_52 : decode cX4_become 52 = .ok (.aload_n 0, 1) := by decide +kernel
theorem dX4_become_53 : decode cX4_become 53 = .ok (.getfield 28, 3) := by decide +kernel
theorem dX4_become_56 : decode cX4_become 56 = .ok (.iconst 0, 1) := by decide +kernel
theorem dX4_become_57 : decode cX4_become 57 = .ok (.bipush 8, 2) := by decide +kernel
theorem dX4_become_59 : decode cX4_become 59 = .ok (.invokestatic 41, 3) := by decide +kernel
theorem dX4_become_62 : decode cX4_become 62 = .ok (.aload_n 0, 1) := by decide +kernel
theorem dX4_become_63 : decode cX4_become 63 = .ok (.aload_n 1, 1) := by decide +kernel
theorem dX4_become_64 : decode cX4_become 64 = .ok (.getfield 37, 3) := by decide +kernel
theorem dX4_become_67 : decode cX4_become 67 = .ok (.putfield 37, 3) := by decide +kernel
theorem dX4_become_70 : decode cX4_become 70 = .ok (.iconst 0, 1) := by decide +kernel
theorem dX4_become_71 : decode cX4_become 71 = .ok (.istore_n 2, 1) := by decide +kernel
theorem dX4_become_72 : decode cX4_become 72 = .ok (.iload_n 2, 1) := by decide +kernel
theorem dX4_become_73 : decode cX4_become 73 = .ok (.aload_n 0, 1) := by decide +kernel
theorem dX4_become_74 : decode cX4_become 74 = .ok (.getfield 37, 3) := by decide +kernel
theorem dX4_become_77 : decode cX4_become 77 = .ok (.if_icmp .ge 24, 3) := by decide +kernel
theorem dX4_become_80 : decode cX4_become 80 = .ok (.aload_n 0, 1) := by decide +kernel
theorem dX4_become_81 : decode cX4_become 81 = .ok (.getfield 33, 3) := by decide +kernel
theorem dX4_become_84 : decode cX4_become 84 = .ok (.iload_n 2, 1) := by decide +kernel
theorem dX4_become_85 : decode cX4_become 85 = .ok (.aaload, 1) := by decide +kernel
theorem dX4_become_86 : decode cX4_become 86 = .ok (.aload_n 1, 1) := by decide +kernel
theorem dX4_become_87 : decode cX4_become 87 = .ok (.getfield 33, 3) := by decide +kernel
theorem dX4_become_90 : decode cX4_become 90 = .ok (.iload_n 2, 1) := by decide +kernel
theorem dX4_become_91 : decode cX4_become 91 = .ok (.aaload, 1) := by decide +kernel
theorem dX4_become_92 : decode cX4_become 92 = .ok (.invokevirtual 47, 3) := by decide +kernel
theorem dX4_become_95 : decode cX4_become 95 = .ok (.iinc 2 1, 3) := by decide +kernel
theorem dX4_become_98 : decode cX4_become 98 = .ok (.goto (-26), 3) := by decide +kernel
theorem dX4_become_101 : decode cX4_become 101 = .ok (.return_, 1) := by decide +kernel
theorem dX4_has_0 : decode cX4_has 0 = .ok (.iload_n 1, 1) := by decide +kernel
theorem dX4_has_1 : decode cX4_has 1 = .ok (.ifCond .lt 15, 3) := by decide +kernel
theorem dX4_has_4 : decode cX4_has 4 = .ok (.iload_n 1, 1) := by decide +kernel
theorem dX4_has_5 : decode cX4_has 5 = .ok (.aload_n 0, 1) := by decide +kernel
theorem dX4_has_6 : decode cX4_has 6 = .ok (.getfield 37, 3) := by decide +kernel
theorem dX4_has_9 : decode cX4_has 9 = .ok (.if_icmp .ge 7, 3) := by decide +kernel
theorem dX4_has_12 : decode cX4_has 12 = .ok (.iconst 1, 1) := by decide +kernel
theorem dX4_has_13 : decode cX4_has 13 = .ok (.goto 4, 3) := by decide +kernel
theorem dX4_has_16 : decode cX4_has 16 = .ok (.iconst 0, 1) := by decide +kernel
