theorem dX5_off_29 : decode cX5_off 29 = .ok (.aload_n 0, 1) := by decide +kernel
theorem dX5_off_30 : decode cX5_off 30 = .ok (.getfield 16, 3) := by decide +kernel
theorem dX5_off_33 : decode cX5_off 33 = .ok (.iload_n 1, 1) := by decide +kernel
theorem dX5_off_34 : decode cX5_off 34 = .ok (.invokevirtual 173, 3) := by decide +kernel
theorem dX5_off_37 : decode cX5_off 37 = .ok (.istore_n 2, 1) := by decide +kernel
theorem dX5_off_38 : decode cX5_off 38 = .ok (.iload_n 2, 1) := by decide +kernel
theorem dX5_off_39 : decode cX5_off 39 = .ok (.sipush 400, 3) := by decide +kernel
theorem dX5_off_42 : decode cX5_off 42 = .ok (.if_icmp .le 12, 3) := by decide +kernel
theorem dX5_off_45 : decode cX5_off 45 = .ok (.aload_n 0, 1) := by decide +kernel
theorem dX5_off_46 : decode cX5_off 46 = .ok (.ldc 153, 2) := by decide +kernel
theorem dX5_off_48 : decode cX5_off 48 = .ok (.invokevirtual 54, 3) := by decide +kernel
theorem dX5_off_51 : decode cX5_off 51 = .ok (.goto 4, 3) := by decide +kernel
theorem dX5_off_54 : decode cX5_off 54 = .ok (.iload_n 2, 1) := by decide +kernel
theorem dX5_off_55 : decode cX5_off 55 = .ok (.ireturn, 1) := by decide +kernel
theorem dX5_quiet_0 : decode cX5_quiet 0 = .ok (.aload_n 0, 1) := by decide +kernel
theorem dX5_quiet_1 : decode cX5_quiet 1 = .ok (.getfield 16, 3) := by decide +kernel
theorem dX5_quiet_4 : decode cX5_quiet 4 = .ok (.aload_n 0, 1) := by decide +kernel
theorem dX5_quiet_5 : decode cX5_quiet 5 = .ok (.getfield 10, 3) := by decide +kernel
theorem dX5_quiet_8 : decode cX5_quiet 8 = .ok (.invokevirtual 166, 3) := by decide +kernel
theorem dX5_quiet_11 : decode cX5_quiet 11 = .ok (.iconst 0, 1) := by decide +kernel
theorem dX5_quiet_12 : decode cX5_quiet 12 = .ok (.istore_n 1, 1) := by decide +kernel
theorem dX5_quiet_13 : decode cX5_quiet 13 = .ok (.iload_n 1, 1) := by decide +kernel
theorem dX5_quiet_14 : decode cX5_quiet 14 = .ok (.sipush 400, 3) := by decide +kernel
theorem dX5_quiet_17 : decode cX5_quiet 17 = .ok (.if_icmp .gt 28, 3) := by decide +kernel
theorem dX5_quiet_20 : decode cX5_quiet 20 = .ok (.aload_n 0, 1) := by decide +kernel
theorem dX5_quiet_21 : decode cX5_quiet 21 = .ok (.getfield 16, 3) := by decide +kernel
theorem dX5_quiet_24 : decode cX5_quiet 24 = .ok (.invokevirtual 84, 3) := by decide +kernel
theorem dX5_quiet_27 : decode cX5_quiet 27 = .ok (.ifCond .ne 5, 3) := by decide +kernel
theorem dX5_quiet_30 : decode cX5_quiet 30 = .ok (.iload_n 1, 1) := by decide +kernel
theorem dX5_quiet_31 : decode cX5_quiet 31 = .ok (.ireturn, 1) := by decide +kernel
theorem dX5_quiet_32 : decode cX5_quiet 32 = .ok (.aload_n 0, 1) := by decide +kernel
theorem dX5_quiet_33 : decode cX5_quiet 33 = .ok (.getfield 16, 3) := by decide +kernel
theorem dX5_quiet_36 : decode cX5_quiet 36 = .ok (.invokevirtual 170, 3) := by decide +kernel
theorem dX5_quiet_39 : decode cX5_quiet 39 = .ok (.iinc 1 1, 3) := by decide +kernel
theorem dX5_quiet_42 : decode cX5_quiet 42 = .ok (.goto (-29), 3) := by decide +kernel
theorem dX5_quiet_45 : decode cX5_quiet 45 = .ok (.aload_n 0, 1) := by decide +kernel
theorem dX5_quiet_46 : decode cX5_quiet 46 = .ok (.ldc 153, 2) := by decide +kernel
theorem dX5_quiet_48 : decode cX5_quiet 48 = .ok (.invokevirtual 54, 3) := by decide +kernel
theorem dX5_quiet_51 : decode cX5_quiet 51 = .ok (.ireturn, 1) := by decide +kernel
theorem dX5_best_0 : decode cX5_best 0 = .ok (.iload_n 1, 1) := by decide +kernel
theorem dX5_best_1 : decode cX5_best 1 = .ok (.invokestatic 154, 3) := by decide +kernel
theorem dX5_best_4 : decode cX5_best 4 = .ok (.ifCond .ne 10, 3) := by decide +kernel
theorem dX5_best_7 : decode cX5_best 7 = .ok (.aload_n 0, 1) := by decide +kernel
theorem dX5_best_8 : decode cX5_best 8 = .ok (.ldc 53, 2) := by decide +kernel
theorem dX5_best_10 : decode cX5_best 10 = .ok (.invokevirtual 54, 3) := by decide +kernel
theorem dX5_best_13 : decode cX5_best 13 = .ok (.ireturn, 1) := by decide +kernel
theorem dX5_best_14 : decode cX5_best 14 = .ok (.iconst (-1), 1) := by decide +kernel
theorem dX5_best_15 : decode cX5_best 15 = .ok (.istore_n 2, 1) := by decide +kernel
theorem dX5_best_16 : decode cX5_best 16 = .ok (.iconst (-1), 1) := by decide +kernel
theorem dX5_best_17 : decode cX5_best 17 = .ok (.istore_n 3, 1) := by decide +kernel
theorem dX5_best_18 : decode cX5_best 18 = .ok (.iconst 0, 1) := by decide +kernel
theorem dX5_best_19 : decode cX5_best 19 = .ok (.istore 4, 2) := by decide +kernel
theorem dX5_best_21 : decode cX5_best 21 = .ok (.iload 4, 2) := by decide +kernel
theorem dX5_best_23 : decode cX5_best 23 = .ok (.aload_n 0, 1) := by decide +kernel
theorem dX5_best_24 : decode cX5_best 24 = .ok (.getfield 10, 3) := by decide +kernel
theorem dX5_best_27 : decode cX5_best 27 = .ok (.getfield 94, 3) := by decide +kernel
theorem dX5_best_30 : decode cX5_best 30 = .ok (.if_icmp .ge 80, 3) := by decide +kernel
theorem dX5_best_33 : decode cX5_best 33 = .ok (.aload_n 0, 1) := by decide +kernel
theorem dX5_best_34 : decode cX5_best 34 = .ok (.getfield 10, 3) := by decide +kernel
theorem dX5_best_37 : decode cX5_best 37 = .ok (.getfield 104, 3) := by decide +kernel
theorem dX5_best_40 : decode cX5_best 40 = .ok (.iload 4, 2) := by decide +kernel
theorem dX5_best_42 : decode cX5_best 42 = .ok (.aaload, 1) := by decide +kernel
theorem dX5_best_43 : decode cX5_best 43 = .ok (.getfield 120, 3) := by decide +kernel
theorem dX5_best_46 : decode cX5_best 46 = .ok (.ifCond .ne 58, 3) := by decide +kernel
theorem dX5_best_49 : decode cX5_best 49 = .ok (.aload_n 0, 1) := by decide +kernel
theorem dX5_best_50 : decode cX5_best 50 = .ok (.getfield 16, 3) := by decide +kernel
theorem dX5_best_53 : decode cX5_best 53 = .ok (.aload_n 0, 1) := by decide +kernel
theorem dX5_best_54 : decode cX5_best 54 = .ok (.getfield 10, 3) := by decide +kernel
theorem dX5_best_57 : decode cX5_best 57 = .ok (.invokevirtual 166, 3) := by decide +kernel
theorem dX5_best_60 : decode cX5_best 60 = .ok (.aload_n 0, 1) := by decide +kernel
theorem dX5_best_61 : decode cX5_best 61 = .ok (.getfield 16, 3) := by decide +kernel
theorem dX5_best_64 : decode cX5_best 64 = .ok (.getfield 104, 3) := by decide +kernel
theorem dX5_best_67 : decode cX5_best 67 = .ok (.iload 4, 2) := by decide +kernel
theorem dX5_best_69 : decode cX5_best 69 = .ok (.aaload, 1) := by decide +kernel
theorem dX5_best_70 : decode cX5_best 70 = .ok (.iconst 1, 1) := by decide +kernel
theorem dX5_best_71 : decode cX5_best 71 = .ok (.putfield 120, 3) := by decide +kernel
theorem dX5_best_74 : decode cX5_best 74 = .ok (.aload_n 0, 1) := by decide +kernel
theorem dX5_best_75 : decode cX5_best 75 = .ok (.getfield 16, 3) := by decide +kernel
theorem dX5_best_78 : decode cX5_best 78 = .ok (.iload_n 1, 1) := by decide +kernel
theorem dX5_best_79 : decode cX5_best 79 = .ok (.invokevirtual 159, 3) := by decide +kernel
theorem dX5_best_82 : decode cX5_best 82 = .ok (.aload_n 0, 1) := by decide +kernel
theorem dX5_best_83 : decode cX5_best 83 = .ok (.getfield 16, 3) := by decide +kernel
theorem dX5_best_86 : decode cX5_best 86 = .ok (.getfield 58, 3) := by decide +kernel
theorem dX5_best_89 : decode cX5_best 89 = .ok (.iload_n 3, 1) := by decide +kernel
theorem dX5_best_90 : decode cX5_best 90 = .ok (.if_icmp .le 14, 3) := by decide +kernel
theorem dX5_best_93 : decode cX5_best 93 = .ok (.aload_n 0, 1) := by decide +kernel
theorem dX5_best_94 : decode cX5_best 94 = .ok (.getfield 16, 3) := by decide +kernel
theorem dX5_best_97 : decode cX5_best 97 = .ok (.getfield 58, 3) := by decide +kernel
theorem dX5_best_100 : decode cX5_best 100 = .ok (.istore_n 3, 1) := by decide +kernel
theorem dX5_best_101 : decode cX5_best 101 = .ok (.iload 4, 2) := by decide +kernel
theorem dX5_best_103 : decode cX5_best 103 = .ok (.istore_n 2, 1) := by decide +kernel
theorem dX5_best_104 : decode cX5_best 104 = .ok (.iinc 4 1, 3) := by decide +kernel
theorem dX5_best_107 : decode cX5_best 107 = .ok (.goto (-86), 3) := by decide +kernel
theorem dX5_best_110 : decode cX5_best 110 = .ok (.iload_n 2, 1) := by decide +kernel
theorem dX5_best_111 : decode cX5_best 111 = .ok (.iconst (-1), 1) := by decide +kernel
theorem dX5_best_112 : decode cX5_best 112 = .ok (.if_icmp .ne 12, 3) := by decide +kernel
theorem dX5_best_115 : decode cX5_best 115 = .ok (.aload_n 0, 1) := by decide +kernel
theorem dX5_best_116 : decode cX5_best 116 = .ok (.ldc 153, 2) := by decide +kernel
theorem dX5_best_118 : decode cX5_best 118 = .ok (.invokevirtual 54, 3) := by decide +kernel
theorem dX5_best_121 : decode cX5_best 121 = .ok (.goto 4, 3) := by decide +kernel
theorem dX5_best_124 : decode cX5_best 124 = .ok (.iload_n 2, 1) := by decide +kernel
theorem dX5_best_125 : decode cX5_best 125 = .ok (.ireturn, 1) := by decide +kernel
theorem dX5_high_0 : decode cX5_high 0 = .ok (.aload_n 0, 1) := by decide +kernel
theorem dX5_high_1 : decode cX5_high 1 = .ok (.getfield 10, 3) := by decide +kernel
theorem dX5_high_4 : decode cX5_high 4 = .ok (.iload_n 1, 1) := by decide +kernel
theorem dX5_high_5 : decode cX5_high 5 = .ok (.invokevirtual 101, 3) := by decide +kernel
theorem dX5_high_8 : decode cX5_high 8 = .ok (.ifCond .eq 10, 3) := by decide +kernel
theorem dX5_high_11 : decode cX5_high 11 = .ok (.iload_n 2, 1) := by decide +kernel
theorem dX5_high_12 : decode cX5_high 12 = .ok (.invokestatic 154, 3) := by decide +kernel
theorem dX5_high_15 : decode cX5_high 15 = .ok (.ifCond .ne 10, 3) := by decide +kernel
theorem dX5_high_18 : decode cX5_high 18 = .ok (.aload_n 0, 1) := by decide +kernel
theorem dX5_high_19 : decode cX5_high 19 = .ok (.ldc 53, 2) := by decide +kernel
theorem dX5_high_21 : decode cX5_high 21 = .ok (.invokevirtual 54, 3) := by decide +kernel
theorem dX5_high_24 : decode cX5_high 24 = .ok (.ireturn, 1) := by decide +kernel
theorem dX5_high_25 : decode cX5_high 25 = .ok (.bipush 40, 2) := by decide +kernel
theorem dX5_high_27 : decode cX5_high 27 = .ok (.istore_n 3, 1) := by decide +kernel
theorem dX5_high_28 : decode cX5_high 28 = .ok (.iload_n 3, 1) := by decide +kernel
theorem dX5_high_29 : decode cX5_high 29 = .ok (.iconst 1, 1) := by decide +kernel
theorem dX5_high_30 : decode cX5_high 30 = .ok (.if_icmp .lt 47, 3) := by decide +kernel
theorem dX5_high_33 : decode cX5_high 33 = .ok (.aload_n 0, 1) := by decide +kernel
theorem dX5_high_34 : decode cX5_high 34 = .ok (.getfield 16, 3) := by decide +kernel
theorem dX5_high_37 : decode cX5_high 37 = .ok (.aload_n 0, 1) := by decide +kernel
theorem dX5_high_38 : decode cX5_high 38 = .ok (.getfield 10, 3) := by decide +kernel
theorem dX5_high_41 : decode cX5_high 41 = .ok (.invokevirtual 166, 3) := by decide +kernel
theorem dX5_high_44 : decode cX5_high 44 = .ok (.aload_n 0, 1) := by decide +kernel
theorem dX5_high_45 : decode cX5_high 45 = .ok (.getfield 16, 3) := by decide +kernel
theorem dX5_high_48 : decode cX5_high 48 = .ok (.getfield 104, 3) := by decide +kernel
theorem dX5_high_51 : decode cX5_high 51 = .ok (.iload_n 1, 1) := by decide +kernel
theorem dX5_high_52 : decode cX5_high 52 = .ok (.aaload, 1) := by decide +kernel
theorem dX5_high_53 : decode cX5_high 53 = .ok (.iload_n 3, 1) := by decide +kernel
theorem dX5_high_54 : decode cX5_high 54 = .ok (.putfield 117, 3) := by decide +kernel
theorem dX5_high_57 : decode cX5_high 57 = .ok (.aload_n 0, 1) := by decide +kernel
theorem dX5_high_58 : decode cX5_high 58 = .ok (.getfield 16, 3) := by decide +kernel
theorem dX5_high_61 : decode cX5_high 61 = .ok (.iload_n 1, 1) := by decide +kernel
theorem dX5_high_62 : decode cX5_high 62 = .ok (.iload_n 2, 1) := by decide +kernel
theorem dX5_high_63 : decode cX5_high 63 = .ok (.invokevirtual 176, 3) := by decide +kernel
theorem dX5_high_66 : decode cX5_high 66 = .ok (.ifCond .eq 5, 3) := by decide +kernel
theorem dX5_high_69 : decode cX5_high 69 = .ok (.iload_n 3, 1) := by decide +kernel
theorem dX5_high_70 : decode cX5_high 70 = .ok (.ireturn, 1) := by decide +kernel
theorem dX5_high_71 : decode cX5_high 71 = .ok (.iinc 3 (-1), 3) := by decide +kernel
theorem dX5_high_74 : decode cX5_high 74 = .ok (.goto (-46), 3) := by decide +kernel
theorem dX5_high_77 : decode cX5_high 77 = .ok (.aload_n 0, 1) := by decide +kernel
theorem dX5_high_78 : decode cX5_high 78 = .ok (.ldc 153, 2) := by decide +kernel
theorem dX5_high_80 : decode cX5_high 80 = .ok (.invokevirtual 54, 3) := by decide +kernel
theorem dX5_high_83 : decode cX5_high 83 = .ok (.ireturn, 1) := by decide +kernel
theorem dX5_loved_0 : decode cX5_loved 0 = .ok (.aload_n 0, 1) := by decide +kernel
theorem dX5_loved_1 : decode cX5_loved 1 = .ok (.getfield 10, 3) := by decide +kernel
theorem dX5_loved_4 : decode cX5_loved 4 = .ok (.iload_n 1, 1) := by decide +kernel
theorem dX5_loved_5 : decode cX5_loved 5 = .ok (.invokevirtual 101, 3) := by decide +kernel
theorem dX5_loved_8 : decode cX5_loved 8 = .ok (.ifCond .eq 10, 3) := by decide +kernel
theorem dX5_loved_11 : decode cX5_loved 11 = .ok (.iload_n 2, 1) := by decide +kernel
theorem dX5_loved_12 : decode cX5_loved 12 = .ok (.invokestatic 154, 3) := by decide +kernel
theorem dX5_loved_15 : decode cX5_loved 15 = .ok (.ifCond .ne 10, 3) := by decide +kernel
theorem dX5_loved_18 : decode cX5_loved 18 = .ok (.aload_n 0, 1) := by decide +kernel
theorem dX5_loved_19 : decode cX5_loved 19 = .ok (.ldc 53, 2) := by decide +kernel
theorem dX5_loved_21 : decode cX5_loved 21 = .ok (.invokevirtual 54, 3) := by decide +kernel
theorem dX5_loved_24 : decode cX5_loved 24 = .ok (.ireturn, 1) := by decide +kernel
theorem dX5_loved_25 : decode cX5_loved 25 = .ok (.iconst 0, 1) := by decide +kernel
theorem dX5_loved_26 : decode cX5_loved 26 = .ok (.istore_n 3, 1) := by decide +kernel
theorem dX5_loved_27 : decode cX5_loved 27 = .ok (.iload_n 3, 1) := by decide +kernel
theorem dX5_loved_28 : decode cX5_loved 28 = .ok (.bipush 99, 2) := by decide +kernel
theorem dX5_loved_30 : decode cX5_loved 30 = .ok (.if_icmp .gt 47, 3) := by decide +kernel
theorem dX5_loved_33 : decode cX5_loved 33 = .ok (.aload_n 0, 1) := by decide +kernel
theorem dX5_loved_34 : decode cX5_loved 34 = .ok (.getfield 16, 3) := by decide +kernel
theorem dX5_loved_37 : decode cX5_loved 37 = .ok (.aload_n 0, 1) := by decide +kernel
theorem dX5_loved_38 : decode cX5_loved 38 = .ok (.getfield 10, 3) := by decide +kernel
theorem dX5_loved_41 : decode cX5_loved 41 = .ok (.invokevirtual 166, 3) := by decide +kernel
theorem dX5_loved_44 : decode cX5_loved 44 = .ok (.aload_n 0, 1) := by decide +kernel
theorem dX5_loved_45 : decode cX5_loved 45 = .ok (.getfield 16, 3) := by decide +kernel
theorem dX5_loved_48 : decode cX5_loved 48 = .ok (.getfield 104, 3) := by decide +kernel
theorem dX5_loved_51 : decode cX5_loved 51 = .ok (.iload_n 1, 1) := by decide +kernel
theorem dX5_loved_52 : decode cX5_loved 52 = .ok (.aaload, 1) := by decide +kernel
theorem dX5_loved_53 : decode cX5_loved 53 = .ok (.iload_n 3, 1) := by decide +kernel
theorem dX5_loved_54 : decode cX5_loved 54 = .ok (.putfield 123, 3) := by decide +kernel
theorem dX5_loved_57 : decode cX5_loved 57 = .ok (.aload_n 0, 1) := by decide +kernel
theorem dX5_loved_58 : decode cX5_loved 58 = .ok (.getfield 16, 3) := by decide +kernel
theorem dX5_loved_61 : decode cX5_loved 61 = .ok (.iload_n 1, 1) := by decide +kernel
theorem dX5_loved_62 : decode cX5_loved 62 = .ok (.iload_n 2, 1) := by decide +kernel
theorem dX5_loved_63 : decode cX5_loved 63 = .ok (.invokevirtual 176, 3) := by decide +kernel
theorem dX5_loved_66 : decode cX5_loved 66 = .ok (.ifCond .eq 5, 3) := by decide +kernel
theorem dX5_loved_69 : decode cX5_loved 69 = .ok (.iload_n 3, 1) := by decide +kernel
theorem dX5_loved_70 : decode cX5_loved 70 = .ok (.ireturn, 1) := by decide +kernel
theorem dX5_loved_71 : decode cX5_loved 71 = .ok (.iinc 3 1, 3) := by decide +kernel
theorem dX5_loved_74 : decode cX5_loved 74 = .ok (.goto (-47), 3) := by decide +kernel
theorem dX5_loved_77 : decode cX5_loved 77 = .ok (.aload_n 0, 1) := by decide +kernel
theorem dX5_loved_78 : decode cX5_loved 78 = .ok (.ldc 153, 2) := by decide +kernel
theorem dX5_loved_80 : decode cX5_loved 80 = .ok (.invokevirtual 54, 3) := by decide +kernel
theorem dX5_loved_83 : decode cX5_loved 83 = .ok (.ireturn, 1) := by decide +kernel
theorem dX5_kind_0 : decode cX5_kind 0 = .ok (.aload_n 0, 1) := by decide +kernel
theorem dX5_kind_1 : decode cX5_kind 1 = .ok (.getfield 10, 3) := by decide +kernel
theorem dX5_kind_4 : decode cX5_kind 4 = .ok (.iload_n 1, 1) := by decide +kernel
theorem dX5_kind_5 : decode cX5_kind 5 = .ok (.invokevirtual 101, 3) := by decide +kernel
theorem dX5_kind_8 : decode cX5_kind 8 = .ok (.ifCond .ne 10, 3) := by decide +kernel
theorem dX5_kind_11 : decode cX5_kind 11 = .ok (.aload_n 0, 1) := by decide +kernel
theorem dX5_kind_12 : decode cX5_kind 12 = .ok (.ldc 53, 2) := by decide +kernel
theorem dX5_kind_14 : decode cX5_kind 14 = .ok (.invokevirtual 54, 3) := by decide +kernel
theorem dX5_kind_17 : decode cX5_kind 17 = .ok (.ireturn, 1) := by decide +kernel
theorem dX5_kind_18 : decode cX5_kind 18 = .ok (.iconst 0, 1) := by decide +kernel
theorem dX5_kind_19 : decode cX5_kind 19 = .ok (.istore_n 2, 1) := by decide +kernel
theorem dX5_kind_20 : decode cX5_kind 20 = .ok (.iconst (-1), 1) := by decide +kernel
theorem dX5_kind_21 : decode cX5_kind 21 = .ok (.istore_n 3, 1) := by decide +kernel
theorem dX5_kind_22 : decode cX5_kind 22 = .ok (.iconst 0, 1) := by decide +kernel
theorem dX5_kind_23 : decode cX5_kind 23 = .ok (.istore 4, 2) := by decide +kernel
theorem dX5_kind_25 : decode cX5_kind 25 = .ok (.iload 4, 2) := by decide +kernel
theorem dX5_kind_27 : decode cX5_kind 27 = .ok (.bipush 6, 2) := by decide +kernel
theorem dX5_kind_29 : decode cX5_kind 29 = .ok (.if_icmp .ge 56, 3) := by decide +kernel
theorem dX5_kind_32 : decode cX5_kind 32 = .ok (.aload_n 0, 1) := by decide +kernel
theorem dX5_kind_33 : decode cX5_kind 33 = .ok (.getfield 16, 3) := by decide +kernel
theorem dX5_kind_36 : decode cX5_kind 36 = .ok (.aload_n 0, 1) := by decide +kernel
theorem dX5_kind_37 : decode cX5_kind 37 = .ok (.getfield 10, 3) := by decide +kernel
theorem dX5_kind_40 : decode cX5_kind 40 = .ok (.invokevirtual 166, 3) := by decide +kernel
theorem dX5_kind_43 : decode cX5_kind 43 = .ok (.aload_n 0, 1) := by decide +kernel
theorem dX5_kind_44 : decode cX5_kind 44 = .ok (.getfield 16, 3) := by decide +kernel
theorem dX5_kind_47 : decode cX5_kind 47 = .ok (.getfield 104, 3) := by decide +kernel
theorem dX5_kind_50 : decode cX5_kind 50 = .ok (.iload_n 1, 1) := by decide +kernel
theorem dX5_kind_51 : decode cX5_kind 51 = .ok (.aaload, 1) := by decide +kernel
theorem dX5_kind_52 : decode cX5_kind 52 = .ok (.iload 4, 2) := by decide +kernel
theorem dX5_kind_54 : decode cX5_kind 54 = .ok (.putfield 112, 3) := by decide +kernel
theorem dX5_kind_57 : decode cX5_kind 57 = .ok (.aload_n 0, 1) := by decide +kernel
theorem dX5_kind_58 : decode cX5_kind 58 = .ok (.getfield 16, 3) := by decide +kernel
theorem dX5_kind_61 : decode cX5_kind 61 = .ok (.iload_n 1, 1) := by decide +kernel
theorem dX5_kind_62 : decode cX5_kind 62 = .ok (.invokevirtual 173, 3) := by decide +kernel
theorem dX5_kind_65 : decode cX5_kind 65 = .ok (.istore 5, 2) := by decide +kernel
theorem dX5_kind_67 : decode cX5_kind 67 = .ok (.iload 5, 2) := by decide +kernel
theorem dX5_kind_69 : decode cX5_kind 69 = .ok (.iload_n 3, 1) := by decide +kernel
theorem dX5_kind_70 : decode cX5_kind 70 = .ok (.if_icmp .le 9, 3) := by decide +kernel
theorem dX5_kind_73 : decode cX5_kind 73 = .ok (.iload 5, 2) := by decide +kernel
theorem dX5_kind_75 : decode cX5_kind 75 = .ok (.istore_n 3, 1) := by decide +kernel
theorem dX5_kind_76 : decode cX5_kind 76 = .ok (.iload 4, 2) := by decide +kernel
theorem dX5_kind_78 : decode cX5_kind 78 = .ok (.istore_n 2, 1) := by decide +kernel
theorem dX5_kind_79 : decode cX5_kind 79 = .ok (.iinc 4 1, 3) := by decide +kernel
theorem dX5_kind_82 : decode cX5_kind 82 = .ok (.goto (-57), 3) := by decide +kernel
theorem dX5_kind_85 : decode cX5_kind 85 = .ok (.iload_n 2, 1) := by decide +kernel
theorem dX5_kind_86 : decode cX5_kind 86 = .ok (.ireturn, 1) := by decide +kernel
theorem dX5_rain_0 : decode cX5_rain 0 = .ok (.iload_n 1, 1) := by decide +kernel
theorem dX5_rain_1 : decode cX5_rain 1 = .ok (.invokestatic 154, 3) := by decide +kernel
theorem dX5_rain_4 : decode cX5_rain 4 = .ok (.ifCond .ne 10, 3) := by decide +kernel
theorem dX5_rain_7 : decode cX5_rain 7 = .ok (.aload_n 0, 1) := by decide +kernel
theorem dX5_rain_8 : decode cX5_rain 8 = .ok (.ldc 53, 2) := by decide +kernel
theorem dX5_rain_10 : decode cX5_rain 10 = .ok (.invokevirtual 54, 3) := by decide +kernel
theorem dX5_rain_13 : decode cX5_rain 13 = .ok (.ireturn, 1) := by decide +kernel
theorem dX5_rain_14 : decode cX5_rain 14 = .ok (.iconst 0, 1) := by decide +kernel
theorem dX5_rain_15 : decode cX5_rain 15 = .ok (.istore_n 2, 1) := by decide +kernel
theorem dX5_rain_16 : decode cX5_rain 16 = .ok (.iconst (-1), 1) := by decide +kernel
theorem dX5_rain_17 : decode cX5_rain 17 = .ok (.istore_n 3, 1) := by decide +kernel
theorem dX5_rain_18 : decode cX5_rain 18 = .ok (.iconst 0, 1) := by decide +kernel
theorem dX5_rain_19 : decode cX5_rain 19 = .ok (.istore 4, 2) := by decide +kernel
theorem dX5_rain_21 : decode cX5_rain 21 = .ok (.iload 4, 2) := by decide +kernel
theorem dX5_rain_23 : decode cX5_rain 23 = .ok (.bipush 8, 2) := by decide +kernel
theorem dX5_rain_25 : decode cX5_rain 25 = .ok (.if_icmp .ge 77, 3) := by decide +kernel
theorem dX5_rain_28 : decode cX5_rain 28 = .ok (.aload_n 0, 1) := by decide +kernel
theorem dX5_rain_29 : decode cX5_rain 29 = .ok (.getfield 16, 3) := by decide +kernel
theorem dX5_rain_32 : decode cX5_rain 32 = .ok (.aload_n 0, 1) := by decide +kernel
theorem dX5_rain_33 : decode cX5_rain 33 = .ok (.getfield 10, 3) := by decide +kernel
theorem dX5_rain_36 : decode cX5_rain 36 = .ok (.invokevirtual 166, 3) := by decide +kernel
theorem dX5_rain_39 : decode cX5_rain 39 = .ok (.aload_n 0, 1) := by decide +kernel
theorem dX5_rain_40 : decode cX5_rain 40 = .ok (.getfield 16, 3) := by decide +kernel
theorem dX5_rain_43 : decode cX5_rain 43 = .ok (.getfield 68, 3) := by decide +kernel
theorem dX5_rain_46 : decode cX5_rain 46 = .ok (.iload 4, 2) := by decide +kernel
theorem dX5_rain_48 : decode cX5_rain 48 = .ok (.bipush 99, 2) := by decide +kernel
theorem dX5_rain_50 : decode cX5_rain 50 = .ok (.aload_n 0, 1) := by decide +kernel
theorem dX5_rain_51 : decode cX5_rain 51 = .ok (.getfield 16, 3) := by decide +kernel
theorem dX5_rain_54 : decode cX5_rain 54 = .ok (.getfield 68, 3) := by decide +kernel
theorem dX5_rain_57 : decode cX5_rain 57 = .ok (.iload 4, 2) := by decide +kernel
theorem dX5_rain_59 : decode cX5_rain 59 = .ok (.iaload, 1) := by decide +kernel
theorem dX5_rain_60 : decode cX5_rain 60 = .ok (.bipush 10, 2) := by decide +kernel
theorem dX5_rain_62 : decode cX5_rain 62 = .ok (.iadd, 1) := by decide +kernel
theorem dX5_rain_63 : decode cX5_rain 63 = .ok (.invokestatic 179, 3) := by decide +kernel
theorem dX5_rain_66 : decode cX5_rain 66 = .ok (.iastore, 1) := by decide +kernel
theorem dX5_rain_67 : decode cX5_rain 67 = .ok (.aload_n 0, 1) := by decide +kernel
theorem dX5_rain_68 : decode cX5_rain 68 = .ok (.getfield 16, 3) := by decide +kernel
theorem dX5_rain_71 : decode cX5_rain 71 = .ok (.iload_n 1, 1) := by decide +kernel
theorem dX5_rain_72 : decode cX5_rain 72 = .ok (.invokevirtual 159, 3) := by decide +kernel
theorem dX5_rain_75 : decode cX5_rain 75 = .ok (.aload_n 0, 1) := by decide +kernel
theorem dX5_rain_76 : decode cX5_rain 76 = .ok (.getfield 16, 3) := by decide +kernel
theorem dX5_rain_79 : decode cX5_rain 79 = .ok (.invokevirtual 84, 3) := by decide +kernel
theorem dX5_rain_82 : decode cX5_rain 82 = .ok (.istore 5, 2) := by decide +kernel
theorem dX5_rain_84 : decode cX5_rain 84 = .ok (.iload 5, 2) := by decide +kernel
theorem dX5_rain_86 : decode cX5_rain 86 = .ok (.iload_n 3, 1) := by decide +kernel
theorem dX5_rain_87 : decode cX5_rain 87 = .ok (.if_icmp .le 9, 3) := by decide +kernel
theorem dX5_rain_90 : decode cX5_rain 90 = .ok (.iload 5, 2) := by decide +kernel
theorem dX5_rain_92 : decode cX5_rain 92 = .ok (.istore_n 3, 1) := by decide +kernel
theorem dX5_rain_93 : decode cX5_rain 93 = .ok (.iload 4, 2) := by decide +kernel
theorem dX5_rain_95 : decode cX5_rain 95 = .ok (.istore_n 2, 1) := by decide +kernel
theorem dX5_rain_96 : decode cX5_rain 96 = .ok (.iinc 4 1, 3) := by decide +kernel
theorem dX5_rain_99 : decode cX5_rain 99 = .ok (.goto (-78), 3) := by decide +kernel
theorem dX5_rain_102 : decode cX5_rain 102 = .ok (.iload_n 2, 1) := by decide +kernel
theorem dX5_rain_103 : decode cX5_rain 103 = .ok (.ireturn, 1) := by decide +kernel
theorem dX5_enough_0 : decode cX5_enough 0 = .ok (.iload_n 1, 1) := by decide +kernel
theorem dX5_enough_1 : decode cX5_enough 1 = .ok (.iconst 1, 1) := by decide +kernel
theorem dX5_enough_2 : decode cX5_enough 2 = .ok (.if_icmp .lt 9, 3) := by decide +kernel
theorem dX5_enough_5 : decode cX5_enough 5 = .ok (.iload_n 1, 1) := by decide +kernel
theorem dX5_enough_6 : decode cX5_enough 6 = .ok (.bipush 60, 2) := by decide +kernel
theorem dX5_enough_8 : decode cX5_enough 8 = .ok (.if_icmp .le 10, 3) := by decide +kernel
theorem dX5_enough_11 : decode cX5_enough 11 = .ok (.aload_n 0, 1) := by decide +kernel
theorem dX5_enough_12 : decode cX5_enough 12 = .ok (.ldc 53, 2) := by decide +kernel
theorem dX5_enough_14 : decode cX5_enough 14 = .ok (.invokevirtual 54, 3) := by decide +kernel
theorem dX5_enough_17 : decode cX5_enough 17 = .ok (.ireturn, 1) := by decide +kernel
theorem dX5_enough_18 : decode cX5_enough 18 = .ok (.iconst 0, 1) := by decide +kernel
theorem dX5_enough_19 : decode cX5_enough 19 = .ok (.istore_n 2, 1) := by decide +kernel
theorem dX5_enough_20 : decode cX5_enough 20 = .ok (.iload_n 2, 1) := by decide +kernel
theorem dX5_enough_21 : decode cX5_enough 21 = .ok (.sipush 9999, 3) := by decide +kernel
theorem dX5_enough_24 : decode cX5_enough 24 = .ok (.if_icmp .gt 41, 3) := by decide +kernel
theorem dX5_enough_27 : decode cX5_enough 27 = .ok (.aload_n 0, 1) := by decide +kernel
theorem dX5_enough_28 : decode cX5_enough 28 = .ok (.getfield 16, 3) := by decide +kernel
theorem dX5_enough_31 : decode cX5_enough 31 = .ok (.aload_n 0, 1) := by decide +kernel
theorem dX5_enough_32 : decode cX5_enough 32 = .ok (.getfield 10, 3) := by decide +kernel
theorem dX5_enough_35 : decode cX5_enough 35 = .ok (.invokevirtual 166, 3) := by decide +kernel
theorem dX5_enough_38 : decode cX5_enough 38 = .ok (.aload_n 0, 1) := by decide +kernel
theorem dX5_enough_39 : decode cX5_enough 39 = .ok (.getfield 16, 3) := by decide +kernel
theorem dX5_enough_42 : decode cX5_enough 42 = .ok (.iload_n 2, 1) := by decide +kernel
theorem dX5_enough_43 : decode cX5_enough 43 = .ok (.putfield 58, 3) := by decide +kernel
theorem dX5_enough_46 : decode cX5_enough 46 = .ok (.aload_n 0, 1) := by decide +kernel
theorem dX5_enough_47 : decode cX5_enough 47 = .ok (.getfield 16, 3) := by decide +kernel
theorem dX5_enough_50 : decode cX5_enough 50 = .ok (.iload_n 1, 1) := by decide +kernel
theorem dX5_enough_51 : decode cX5_enough 51 = .ok (.invokevirtual 185, 3) := by decide +kernel
theorem dX5_enough_54 : decode cX5_enough 54 = .ok (.ifCond .eq 5, 3) := by decide +kernel
theorem dX5_enough_57 : decode cX5_enough 57 = .ok (.iload_n 2, 1) := by decide +kernel
theorem dX5_enough_58 : decode cX5_enough 58 = .ok (.ireturn, 1) := by decide +kernel
theorem dX5_enough_59 : decode cX5_enough 59 = .ok (.iinc 2 10, 3) := by decide +kernel
theorem dX5_enough_62 : decode cX5_enough 62 = .ok (.goto (-42), 3) := by decide +kernel
theorem dX5_enough_65 : decode cX5_enough 65 = .ok (.aload_n 0, 1) := by decide +kernel
theorem dX5_enough_66 : decode cX5_enough 66 = .ok (.ldc 153, 2) := by decide +kernel
theorem dX5_enough_68 : decode cX5_enough 68 = .ok (.invokevirtual 54, 3) := by decide +kernel
theorem dX5_enough_71 : decode cX5_enough 71 = .ok (.ireturn, 1) := by decide +kernel
theorem dX5_rule_0 : decode cX5_rule 0 = .ok (.iload_n 1, 1) := by decide +kernel
theorem dX5_rule_1 : decode cX5_rule 1 = .ok (.invokestatic 154, 3) := by decide +kernel
theorem dX5_rule_4 : decode cX5_rule 4 = .ok (.ifCond .ne 10, 3) := by decide +kernel
theorem dX5_rule_7 : decode cX5_rule 7 = .ok (.aload_n 0, 1) := by decide +kernel
theorem dX5_rule_8 : decode cX5_rule 8 = .ok (.ldc 53, 2) := by decide +kernel
theorem dX5_rule_10 : decode cX5_rule 10 = .ok (.invokevirtual 54, 3) := by decide +kernel
theorem dX5_rule_13 : decode cX5_rule 13 = .ok (.ireturn, 1) := by decide +kernel
theorem dX5_rule_14 : decode cX5_rule 14 = .ok (.iconst 0, 1) := by decide +kernel
theorem dX5_rule_15 : decode cX5_rule 15 = .ok (.istore_n 2, 1) := by decide +kernel
theorem dX5_rule_16 : decode cX5_rule 16 = .ok (.ldc 188, 2) := by decide +kernel
theorem dX5_rule_18 : decode cX5_rule 18 = .ok (.istore_n 3, 1) := by decide +kernel
theorem dX5_rule_19 : decode cX5_rule 19 = .ok (.iconst 0, 1) := by decide +kernel
theorem dX5_rule_20 : decode cX5_rule 20 = .ok (.istore 4, 2) := by decide +kernel
theorem dX5_rule_22 : decode cX5_rule 22 = .ok (.iload 4, 2) := by decide +kernel
theorem dX5_rule_24 : decode cX5_rule 24 = .ok (.sipush 1000, 3) := by decide +kernel
theorem dX5_rule_27 : decode cX5_rule 27 = .ok (.if_icmp .gt 58, 3) := by decide +kernel
theorem dX5_rule_30 : decode cX5_rule 30 = .ok (.aload_n 0, 1) := by decide +kernel
theorem dX5_rule_31 : decode cX5_rule 31 = .ok (.getfield 16, 3) := by decide +kernel
theorem dX5_rule_34 : decode cX5_rule 34 = .ok (.aload_n 0, 1) := by decide +kernel
theorem dX5_rule_35 : decode cX5_rule 35 = .ok (.getfield 10, 3) := by decide +kernel
theorem dX5_rule_38 : decode cX5_rule 38 = .ok (.invokevirtual 166, 3) := by decide +kernel
theorem dX5_rule_41 : decode cX5_rule 41 = .ok (.aload_n 0, 1) := by decide +kernel
theorem dX5_rule_42 : decode cX5_rule 42 = .ok (.getfield 16, 3) := by decide +kernel
theorem dX5_rule_45 : decode cX5_rule 45 = .ok (.iload 4, 2) := by decide +kernel
theorem dX5_rule_47 : decode cX5_rule 47 = .ok (.putfield 62, 3) := by decide +kernel
theorem dX5_rule_50 : decode cX5_rule 50 = .ok (.aload_n 0, 1) := by decide +kernel
theorem dX5_rule_51 : decode cX5_rule 51 = .ok (.getfield 16, 3) := by decide +kernel
theorem dX5_rule_54 : decode cX5_rule 54 = .ok (.iload_n 1, 1) := by decide +kernel
theorem dX5_rule_55 : decode cX5_rule 55 = .ok (.invokevirtual 159, 3) := by decide +kernel
theorem dX5_rule_58 : decode cX5_rule 58 = .ok (.aload_n 0, 1) := by decide +kernel
theorem dX5_rule_59 : decode cX5_rule 59 = .ok (.getfield 16, 3) := by decide +kernel
theorem dX5_rule_62 : decode cX5_rule 62 = .ok (.invokevirtual 189, 3) := by decide +kernel
theorem dX5_rule_65 : decode cX5_rule 65 = .ok (.istore 5, 2) := by decide +kernel
theorem dX5_rule_67 : decode cX5_rule 67 = .ok (.iload 5, 2) := by decide +kernel
theorem dX5_rule_69 : decode cX5_rule 69 = .ok (.iload_n 3, 1) := by decide +kernel
theorem dX5_rule_70 : decode cX5_rule 70 = .ok (.if_icmp .ge 9, 3) := by decide +kernel
theorem dX5_rule_73 : decode cX5_rule 73 = .ok (.iload 5, 2) := by decide +kernel
theorem dX5_rule_75 : decode cX5_rule 75 = .ok (.istore_n 3, 1) := by decide +kernel
theorem dX5_rule_76 : decode cX5_rule 76 = .ok (.iload 4, 2) := by decide +kernel
theorem dX5_rule_78 : decode cX5_rule 78 = .ok (.istore_n 2, 1) := by decide +kernel
theorem dX5_rule_79 : decode cX5_rule 79 = .ok (.iinc 4 50, 3) := by decide +kernel
theorem dX5_rule_82 : decode cX5_rule 82 = .ok (.goto (-60), 3) := by decide +kernel
theorem dX5_rule_85 : decode cX5_rule 85 = .ok (.iload_n 2, 1) := by decide +kernel
theorem dX5_rule_86 : decode cX5_rule 86 = .ok (.ireturn, 1) := by decide +kernel
theorem dX5_feed_0 : decode cX5_feed 0 = .ok (.iload_n 2, 1) := by decide +kernel
theorem dX5_feed_1 : decode cX5_feed 1 = .ok (.iconst 1, 1) := by decide +kernel
theorem dX5_feed_2 : decode cX5_feed 2 = .ok (.if_icmp .lt 8, 3) := by decide +kernel
theorem dX5_feed_5 : decode cX5_feed 5 = .ok (.iload_n 2, 1) := by decide +kernel
theorem dX5_feed_6 : decode cX5_feed 6 = .ok (.iconst 4, 1) := by decide +kernel
theorem dX5_feed_7 : decode cX5_feed 7 = .ok (.if_icmp .le 10, 3) := by decide +kernel
theorem dX5_feed_10 : decode cX5_feed 10 = .ok (.aload_n 0, 1) := by decide +kernel
theorem dX5_feed_11 : decode cX5_feed 11 = .ok (.ldc 53, 2) := by decide +kernel
theorem dX5_feed_13 : decode cX5_feed 13 = .ok (.invokevirtual 54, 3) := by decide +kernel
theorem dX5_feed_16 : decode cX5_feed 16 = .ok (.ireturn, 1) := by decide +kernel
theorem dX5_feed_17 : decode cX5_feed 17 = .ok (.aload_n 0, 1) := by decide +kernel
theorem dX5_feed_18 : decode cX5_feed 18 = .ok (.getfield 29, 3) := by decide +kernel
theorem dX5_feed_21 : decode cX5_feed 21 = .ok (.getfield 192, 3) := by decide +kernel
theorem dX5_feed_24 : decode cX5_feed 24 = .ok (.iload_n 2, 1) := by decide +kernel
theorem dX5_feed_25 : decode cX5_feed 25 = .ok (.iadd, 1) := by decide +kernel
theorem dX5_feed_26 : decode cX5_feed 26 = .ok (.bipush 120, 2) := by decide +kernel
theorem dX5_feed_28 : decode cX5_feed 28 = .ok (.if_icmp .le 10, 3) := by decide +kernel
theorem dX5_feed_31 : decode cX5_feed 31 = .ok (.aload_n 0, 1) := by decide +kernel
theorem dX5_feed_32 : decode cX5_feed 32 = .ok (.ldc 97, 2) := by decide +kernel
theorem dX5_feed_34 : decode cX5_feed 34 = .ok (.invokevirtual 54, 3) := by decide +kernel
theorem dX5_feed_37 : decode cX5_feed 37 = .ok (.ireturn, 1) := by decide +kernel
theorem dX5_feed_38 : decode cX5_feed 38 = .ok (.iload_n 2, 1) := by decide +kernel
theorem dX5_feed_39 : decode cX5_feed 39 = .ok (.iconst 1, 1) := by decide +kernel
theorem dX5_feed_40 : decode cX5_feed 40 = .ok (.isub, 1) := by decide +kernel
theorem dX5_feed_41 : decode cX5_feed 41 = .ok (.istore_n 3, 1) := by decide +kernel
theorem dX5_feed_42 : decode cX5_feed 42 = .ok (.iload_n 3, 1) := by decide +kernel
theorem dX5_feed_43 : decode cX5_feed 43 = .ok (.ifCond .lt 22, 3) := by decide +kernel
theorem dX5_feed_46 : decode cX5_feed 46 = .ok (.aload_n 0, 1) := by decide +kernel
theorem dX5_feed_47 : decode cX5_feed 47 = .ok (.getfield 29, 3) := by decide +kernel
theorem dX5_feed_50 : decode cX5_feed 50 = .ok (.iload_n 1, 1) := by decide +kernel
theorem dX5_feed_51 : decode cX5_feed 51 = .ok (.bipush 8, 2) := by decide +kernel
theorem dX5_feed_53 : decode cX5_feed 53 = .ok (.iload_n 3, 1) := by decide +kernel
theorem dX5_feed_54 : decode cX5_feed 54 = .ok (.imul, 1) := by decide +kernel
theorem dX5_feed_55 : decode cX5_feed 55 = .ok (.iushr, 1) := by decide +kernel
theorem dX5_feed_56 : decode cX5_feed 56 = .ok (.invokevirtual 195, 3) := by decide +kernel
theorem dX5_feed_59 : decode cX5_feed 59 = .ok (.iinc 3 (-1), 3) := by decide +kernel
theorem dX5_feed_62 : decode cX5_feed 62 = .ok (.goto (-20), 3) := by decide +kernel
theorem dX5_feed_65 : decode cX5_feed 65 = .ok (.aload_n 0, 1) := by decide +kernel
theorem dX5_feed_66 : decode cX5_feed 66 = .ok (.getfield 29, 3) := by decide +kernel
theorem dX5_feed_69 : decode cX5_feed 69 = .ok (.getfield 192, 3) := by decide +kernel
theorem dX5_feed_72 : decode cX5_feed 72 = .ok (.ireturn, 1) := by decide +kernel
theorem dX5_wipe_0 : decode cX5_wipe 0 = .ok (.aload_n 0, 1) := by decide +kernel
theorem dX5_wipe_1 : decode cX5_wipe 1 = .ok (.getfield 29, 3) := by decide +kernel
theorem dX5_wipe_4 : decode cX5_wipe 4 = .ok (.getfield 192, 3) := by decide +kernel
theorem dX5_wipe_7 : decode cX5_wipe 7 = .ok (.istore_n 1, 1) := by decide +kernel
theorem dX5_wipe_8 : decode cX5_wipe 8 = .ok (.aload_n 0, 1) := by decide +kernel
theorem dX5_wipe_9 : decode cX5_wipe 9 = .ok (.getfield 29, 3) := by decide +kernel
theorem dX5_wipe_12 : decode cX5_wipe 12 = .ok (.iconst 0, 1) := by decide +kernel
theorem dX5_wipe_13 : decode cX5_wipe 13 = .ok (.putfield 192, 3) := by decide +kernel
theorem dX5_wipe_16 : decode cX5_wipe 16 = .ok (.iload_n 1, 1) := by decide +kernel
theorem dX5_wipe_17 : decode cX5_wipe 17 = .ok (.ireturn, 1) := by decide +kernel
theorem dX5_town_0 : decode cX5_town 0 = .ok (.aload_n 0, 1) := by decide +kernel
theorem dX5_town_1 : decode cX5_town 1 = .ok (.getfield 16, 3) := by decide +kernel
theorem dX5_town_4 : decode cX5_town 4 = .ok (.aload_n 0, 1) := by decide +kernel
theorem dX5_town_5 : decode cX5_town 5 = .ok (.getfield 10, 3) := by decide +kernel
theorem dX5_town_8 : decode cX5_town 8 = .ok (.invokevirtual 166, 3) := by decide +kernel
theorem dX5_town_11 : decode cX5_town 11 = .ok (.aload_n 0, 1) := by decide +kernel
theorem dX5_town_12 : decode cX5_town 12 = .ok (.getfield 38, 3) := by decide +kernel
theorem dX5_town_15 : decode cX5_town 15 = .ok (.aload_n 0, 1) := by decide +kernel
theorem dX5_town_16 : decode cX5_town 16 = .ok (.getfield 16, 3) := by decide +kernel
theorem dX5_town_19 : decode cX5_town 19 = .ok (.invokevirtual 198, 3) := by decide +kernel
theorem dX5_town_22 : decode cX5_town 22 = .ok (.istore_n 1, 1) := by decide +kernel
theorem dX5_town_23 : decode cX5_town 23 = .ok (.iload_n 1, 1) := by decide +kernel
theorem dX5_town_24 : decode cX5_town 24 = .ok (.ifCond .lt 14, 3) := by decide +kernel
theorem dX5_town_27 : decode cX5_town 27 = .ok (.aload_n 0, 1) := by decide +kernel
theorem dX5_town_28 : decode cX5_town 28 = .ok (.getfield 10, 3) := by decide +kernel
theorem dX5_town_31 : decode cX5_town 31 = .ok (.aload_n 0, 1) := by decide +kernel
theorem dX5_town_32 : decode cX5_town 32 = .ok (.getfield 16, 3) := by decide +kernel
theorem dX5_town_35 : decode cX5_town 35 = .ok (.invokevirtual 166, 3) := by decide +kernel
theorem dX5_town_38 : decode cX5_town 38 = .ok (.aload_n 0, 1) := by decide +kernel
theorem dX5_town_39 : decode cX5_town 39 = .ok (.getfield 29, 3) := by decide +kernel
theorem dX5_town_42 : decode cX5_town 42 = .ok (.iconst 0, 1) := by decide +kernel
theorem dX5_town_43 : decode cX5_town 43 = .ok (.putfield 192, 3) := by decide +kernel
theorem dX5_town_46 : decode cX5_town 46 = .ok (.iload_n 1, 1) := by decide +kernel
theorem dX5_town_47 : decode cX5_town 47 = .ok (.ireturn, 1) := by decide +kernel
theorem dX5_sheet_0 : decode cX5_sheet 0 = .ok (.iload_n 1, 1) := by decide +kernel
theorem dX5_sheet_1 : decode cX5_sheet 1 = .ok (.invokestatic 202, 3) := by decide +kernel
theorem dX5_sheet_4 : decode cX5_sheet 4 = .ok (.ifCond .eq 25, 3) := by decide +kernel
theorem dX5_sheet_7 : decode cX5_sheet 7 = .ok (.iload_n 2, 1) := by decide +kernel
theorem dX5_sheet_8 : decode cX5_sheet 8 = .ok (.ifCond .eq 28, 3) := by decide +kernel
theorem dX5_sheet_11 : decode cX5_sheet 11 = .ok (.iload_n 2, 1) := by decide +kernel
theorem dX5_sheet_12 : decode cX5_sheet 12 = .ok (.bipush 8, 2) := by decide +kernel
theorem dX5_sheet_14 : decode cX5_sheet 14 = .ok (.if_icmp .eq 22, 3) := by decide +kernel
theorem dX5_sheet_17 : decode cX5_sheet 17 = .ok (.iload_n 2, 1) := by decide +kernel
theorem dX5_sheet_18 : decode cX5_sheet 18 = .ok (.bipush 16, 2) := by decide +kernel
theorem dX5_sheet_20 : decode cX5_sheet 20 = .ok (.if_icmp .eq 16, 3) := by decide +kernel
theorem dX5_sheet_23 : decode cX5_sheet 23 = .ok (.iload_n 2, 1) := by decide +kernel
theorem dX5_sheet_24 : decode cX5_sheet 24 = .ok (.bipush 64, 2) := by decide +kernel
theorem dX5_sheet_26 : decode cX5_sheet 26 = .ok (.if_icmp .eq 10, 3) := by decide +kernel
theorem dX5_sheet_29 : decode cX5_sheet 29 = .ok (.aload_n 0, 1) := by decide +kernel
theorem dX5_sheet_30 : decode cX5_sheet 30 = .ok (.ldc 53, 2) := by decide +kernel
theorem dX5_sheet_32 : decode cX5_sheet 32 = .ok (.invokevirtual 54, 3) := by decide +kernel
theorem dX5_sheet_35 : decode cX5_sheet 35 = .ok (.ireturn, 1) := by decide +kernel
theorem dX5_sheet_36 : decode cX5_sheet 36 = .ok (.iload_n 3, 1) := by decide +kernel
theorem dX5_sheet_37 : decode cX5_sheet 37 = .ok (.ifCond .ge 10, 3) := by decide +kernel
theorem dX5_sheet_40 : decode cX5_sheet 40 = .ok (.aload_n 0, 1) := by decide +kernel
theorem dX5_sheet_41 : decode cX5_sheet 41 = .ok (.ldc 205, 2) := by decide +kernel
theorem dX5_sheet_43 : decode cX5_sheet 43 = .ok (.invokevirtual 54, 3) := by decide +kernel
theorem dX5_sheet_46 : decode cX5_sheet 46 = .ok (.ireturn, 1) := by decide +kernel
theorem dX5_sheet_47 : decode cX5_sheet 47 = .ok (.iload_n 3, 1) := by decide +kernel
theorem dX5_sheet_48 : decode cX5_sheet 48 = .ok (.bipush 40, 2) := by decide +kernel
theorem dX5_sheet_50 : decode cX5_sheet 50 = .ok (.if_icmp .le 10, 3) := by decide +kernel
theorem dX5_sheet_53 : decode cX5_sheet 53 = .ok (.aload_n 0, 1) := by decide +kernel
theorem dX5_sheet_54 : decode cX5_sheet 54 = .ok (.ldc 53, 2) := by decide +kernel
theorem dX5_sheet_56 : decode cX5_sheet 56 = .ok (.invokevirtual 54, 3) := by decide +kernel
theorem dX5_sheet_59 : decode cX5_sheet 59 = .ok (.ireturn, 1) := by decide +kernel
theorem dX5_sheet_60 : decode cX5_sheet 60 = .ok (.aload_n 0, 1) := by decide +kernel
theorem dX5_sheet_61 : decode cX5_sheet 61 = .ok (.getfield 45, 3) := by decide +kernel
theorem dX5_sheet_64 : decode cX5_sheet 64 = .ok (.iload_n 1, 1) := by decide +kernel
theorem dX5_sheet_65 : decode cX5_sheet 65 = .ok (.aaload, 1) := by decide +kernel
theorem dX5_sheet_66 : decode cX5_sheet 66 = .ok (.iload_n 2, 1) := by decide +kernel
theorem dX5_sheet_67 : decode cX5_sheet 67 = .ok (.iload_n 3, 1) := by decide +kernel
theorem dX5_sheet_68 : decode cX5_sheet 68 = .ok (.invokevirtual 206, 3) := by decide +kernel
theorem dX5_sheet_71 : decode cX5_sheet 71 = .ok (.aload_n 0, 1) := by decide +kernel
theorem dX5_sheet_72 : decode cX5_sheet 72 = .ok (.getfield 45, 3) := by decide +kernel
theorem dX5_sheet_75 : decode cX5_sheet 75 = .ok (.iload_n 1, 1) := by decide +kernel
theorem dX5_sheet_76 : decode cX5_sheet 76 = .ok (.aaload, 1) := by decide +kernel
theorem dX5_sheet_77 : decode cX5_sheet 77 = .ok (.getfield 210, 3) := by decide +kernel
theorem dX5_sheet_80 : decode cX5_sheet 80 = .ok (.ireturn, 1) := by decide +kernel
theorem dX5_write_0 : decode cX5_write 0 = .ok (.aload_n 0, 1) := by decide +kernel
theorem dX5_write_1 : decode cX5_write 1 = .ok (.iload_n 1, 1) := by decide +kernel
theorem dX5_write_2 : decode cX5_write 2 = .ok (.invokevirtual 211, 3) := by decide +kernel
theorem dX5_write_5 : decode cX5_write 5 = .ok (.istore 5, 2) := by decide +kernel
theorem dX5_write_7 : decode cX5_write 7 = .ok (.iload 5, 2) := by decide +kernel
theorem dX5_write_9 : decode cX5_write 9 = .ok (.ifCond .eq 11, 3) := by decide +kernel
theorem dX5_write_12 : decode cX5_write 12 = .ok (.aload_n 0, 1) := by decide +kernel
theorem dX5_write_13 : decode cX5_write 13 = .ok (.iload 5, 2) := by decide +kernel
theorem dX5_write_15 : decode cX5_write 15 = .ok (.invokevirtual 54, 3) := by decide +kernel
theorem dX5_write_18 : decode cX5_write 18 = .ok (.i2l, 1) := by decide +kernel
theorem dX5_write_19 : decode cX5_write 19 = .ok (.lreturn, 1) := by decide +kernel
theorem dX5_write_20 : decode cX5_write 20 = .ok (.aload_n 0, 1) := by decide +kernel
theorem dX5_write_21 : decode cX5_write 21 = .ok (.getfield 45, 3) := by decide +kernel
theorem dX5_write_24 : decode cX5_write 24 = .ok (.iload_n 1, 1) := by decide +kernel
theorem dX5_write_25 : decode cX5_write 25 = .ok (.aaload, 1) := by decide +kernel
theorem dX5_write_26 : decode cX5_write 26 = .ok (.astore 6, 2) := by decide +kernel
theorem dX5_write_28 : decode cX5_write 28 = .ok (.iload_n 2, 1) := by decide +kernel
theorem dX5_write_29 : decode cX5_write 29 = .ok (.ifCond .lt 12, 3) := by decide +kernel
theorem dX5_write_32 : decode cX5_write 32 = .ok (.iload_n 2, 1) := by decide +kernel
theorem dX5_write_33 : decode cX5_write 33 = .ok (.aload 6, 2) := by decide +kernel
theorem dX5_write_35 : decode cX5_write 35 = .ok (.getfield 210, 3) := by decide +kernel
theorem dX5_write_38 : decode cX5_write 38 = .ok (.if_icmp .lt 11, 3) := by decide +kernel
theorem dX5_write_41 : decode cX5_write 41 = .ok (.aload_n 0, 1) := by decide +kernel
theorem dX5_write_42 : decode cX5_write 42 = .ok (.ldc 53, 2) := by decide +kernel
theorem dX5_write_44 : decode cX5_write 44 = .ok (.invokevirtual 54, 3) := by decide +kernel
theorem dX5_write_47 : decode cX5_write 47 = .ok (.i2l, 1) := by decide +kernel
theorem dX5_write_48 : decode cX5_write 48 = .ok (.lreturn, 1) := by decide +kernel
theorem dX5_write_49 : decode cX5_write 49 = .ok (.aload 6, 2) := by decide +kernel
theorem dX5_write_51 : decode cX5_write 51 = .ok (.getfield 214, 3) := by decide +kernel
theorem dX5_write_54 : decode cX5_write 54 = .ok (.iload_n 2, 1) := by decide +kernel
theorem dX5_write_55 : decode cX5_write 55 = .ok (.laload, 1) := by decide +kernel
theorem dX5_write_56 : decode cX5_write 56 = .ok (.lstore 7, 2) := by decide +kernel
theorem dX5_write_58 : decode cX5_write 58 = .ok (.aload 6, 2) := by decide +kernel
theorem dX5_write_60 : decode cX5_write 60 = .ok (.iload_n 2, 1) := by decide +kernel
theorem dX5_write_61 : decode cX5_write 61 = .ok (.lload_n 3, 1) := by decide +kernel
theorem dX5_write_62 : decode cX5_write 62 = .ok (.invokevirtual 218, 3) := by decide +kernel
theorem dX5_write_65 : decode cX5_write 65 = .ok (.lload 7, 2) := by decide +kernel
theorem dX5_write_67 : decode cX5_write 67 = .ok (.lreturn, 1) := by decide +kernel
theorem dX5_copy_0 : decode cX5_copy 0 = .ok (.iload_n 1, 1) := by decide +kernel
theorem dX5_copy_1 : decode cX5_copy 1 = .ok (.invokestatic 202, 3) := by decide +kernel
theorem dX5_copy_4 : decode cX5_copy 4 = .ok (.ifCond .eq 10, 3) := by decide +kernel
theorem dX5_copy_7 : decode cX5_copy 7 = .ok (.iload_n 3, 1) := by decide +kernel
theorem dX5_copy_8 : decode cX5_copy 8 = .ok (.invokestatic 202, 3) := by decide +kernel
theorem dX5_copy_11 : decode cX5_copy 11 = .ok (.ifCond .ne 10, 3) := by decide +kernel
theorem dX5_copy_14 : decode cX5_copy 14 = .ok (.aload_n 0, 1) := by decide +kernel
theorem dX5_copy_15 : decode cX5_copy 15 = .ok (.ldc 53, 2) := by decide +kernel
theorem dX5_copy_17 : decode cX5_copy 17 = .ok (.invokevirtual 54, 3) := by decide +kernel
theorem dX5_copy_20 : decode cX5_copy 20 = .ok (.ireturn, 1) := by decide +kernel
theorem dX5_copy_21 : decode cX5_copy 21 = .ok (.aload_n 0, 1) := by decide +kernel
theorem dX5_copy_22 : decode cX5_copy 22 = .ok (.getfield 45, 3) := by decide +kernel
theorem dX5_copy_25 : decode cX5_copy 25 = .ok (.iload_n 1, 1) := by decide +kernel
theorem dX5_copy_26 : decode cX5_copy 26 = .ok (.aaload, 1) := by decide +kernel
theorem dX5_copy_27 : decode cX5_copy 27 = .ok (.astore 6, 2) := by decide +kernel
theorem dX5_copy_29 : decode cX5_copy 29 = .ok (.aload_n 0, 1) := by decide +kernel
theorem dX5_copy_30 : decode cX5_copy 30 = .ok (.getfield 45, 3) := by decide +kernel
theorem dX5_copy_33 : decode cX5_copy 33 = .ok (.iload_n 3, 1) := by decide +kernel
theorem dX5_copy_34 : decode cX5_copy 34 = .ok (.aaload, 1) := by decide +kernel
theorem dX5_copy_35 : decode cX5_copy 35 = .ok (.astore 7, 2) := by decide +kernel
theorem dX5_copy_37 : decode cX5_copy 37 = .ok (.aload 6, 2) := by decide +kernel
theorem dX5_copy_39 : decode cX5_copy 39 = .ok (.invokevirtual 222, 3) := by decide +kernel
theorem dX5_copy_42 : decode cX5_copy 42 = .ok (.ifCond .ne 11, 3) := by decide +kernel
theorem dX5_copy_45 : decode cX5_copy 45 = .ok (.aload 7, 2) := by decide +kernel
theorem dX5_copy_47 : decode cX5_copy 47 = .ok (.invokevirtual 222, 3) := by decide +kernel
theorem dX5_copy_50 : decode cX5_copy 50 = .ok (.ifCond .eq 10, 3) := by decide +kernel
theorem dX5_copy_53 : decode cX5_copy 53 = .ok (.aload_n 0, 1) := by decide +kernel
theorem dX5_copy_54 : decode cX5_copy 54 = .ok (.ldc 225, 2) := by decide +kernel
theorem dX5_copy_56 : decode cX5_copy 56 = .ok (.invokevirtual 54, 3) := by decide +kernel
theorem dX5_copy_59 : decode cX5_copy 59 = .ok (.ireturn, 1) := by decide +kernel
theorem dX5_copy_60 : decode cX5_copy 60 = .ok (.aload 6, 2) := by decide +kernel
theorem dX5_copy_62 : decode cX5_copy 62 = .ok (.getfield 226, 3) := by decide +kernel
theorem dX5_copy_65 : decode cX5_copy 65 = .ok (.aload 7, 2) := by decide +kernel
theorem dX5_copy_67 : decode cX5_copy 67 = .ok (.getfield 226, 3) := by decide +kernel
theorem dX5_copy_70 : decode cX5_copy 70 = .ok (.if_icmp .eq 10, 3) := by decide +kernel
theorem dX5_copy_73 : decode cX5_copy 73 = .ok (.aload_n 0, 1) := by decide +kernel
theorem dX5_copy_74 : decode cX5_copy 74 = .ok (.ldc 149, 2) := by decide +kernel
theorem dX5_copy_76 : decode cX5_copy 76 = .ok (.invokevirtual 54, 3) := by decide +kernel
theorem dX5_copy_79 : decode cX5_copy 79 = .ok (.ireturn, 1) := by decide +kernel
theorem dX5_copy_80 : decode cX5_copy 80 = .ok (.aload 6, 2) := by decide +kernel
theorem dX5_copy_82 : decode cX5_copy 82 = .ok (.iload_n 2, 1) := by decide +kernel
theorem dX5_copy_83 : decode cX5_copy 83 = .ok (.iload 5, 2) := by decide +kernel
theorem dX5_copy_85 : decode cX5_copy 85 = .ok (.invokevirtual 229, 3) := by decide +kernel
theorem dX5_copy_88 : decode cX5_copy 88 = .ok (.ifCond .eq 15, 3) := by decide +kernel
theorem dX5_copy_91 : decode cX5_copy 91 = .ok (.aload 7, 2) := by decide +kernel
theorem dX5_copy_93 : decode cX5_copy 93 = .ok (.iload 4, 2) := by decide +kernel
theorem dX5_copy_95 : decode cX5_copy 95 = .ok (.iload 5, 2) := by decide +kernel
theorem dX5_copy_97 : decode cX5_copy 97 = .ok (.invokevirtual 229, 3) := by decide +kernel
theorem dX5_copy_100 : decode cX5_copy 100 = .ok (.ifCond .ne 10, 3) := by decide +kernel
theorem dX5_copy_103 : decode cX5_copy 103 = .ok (.aload_n 0, 1) := by decide +kernel
theorem dX5_copy_104 : decode cX5_copy 104 = .ok (.ldc 53, 2) := by decide +kernel
theorem dX5_copy_106 : decode cX5_copy 106 = .ok (.invokevirtual 54, 3) := by decide +kernel
theorem dX5_copy_109 : decode cX5_copy 109 = .ok (.ireturn, 1) := by decide +kernel
theorem dX5_copy_110 : decode cX5_copy 110 = .ok (.aload 6, 2) := by decide +kernel
theorem dX5_copy_112 : decode cX5_copy 112 = .ok (.getfield 214, 3) := by decide +kernel
theorem dX5_copy_115 : decode cX5_copy 115 = .ok (.iload_n 2, 1) := by decide +kernel
theorem dX5_copy_116 : decode cX5_copy 116 = .ok (.aload 7, 2) := by decide +kernel
theorem dX5_copy_118 : decode cX5_copy 118 = .ok (.getfield 214, 3) := by decide +kernel
theorem dX5_copy_121 : decode cX5_copy 121 = .ok (.iload 4, 2) := by decide +kernel
theorem dX5_copy_123 : decode cX5_copy 123 = .ok (.iload 5, 2) := by decide +kernel
theorem dX5_copy_125 : decode cX5_copy 125 = .ok (.invokestatic 232, 3) := by decide +kernel
theorem dX5_copy_128 : decode cX5_copy 128 = .ok (.iload 5, 2) := by decide +kernel
theorem dX5_copy_130 : decode cX5_copy 130 = .ok (.ireturn, 1) := by decide +kernel
theorem dX5_lays_0 : decode cX5_lays 0 = .ok (.aload_n 0, 1) := by decide +kernel
theorem dX5_lays_1 : decode cX5_lays 1 = .ok (.iload_n 1, 1) := by decide +kernel
theorem dX5_lays_2 : decode cX5_lays 2 = .ok (.invokevirtual 211, 3) := by decide +kernel
theorem dX5_lays_5 : decode cX5_lays 5 = .ok (.istore_n 2, 1) := by decide +kernel
theorem dX5_lays_6 : decode cX5_lays 6 = .ok (.iload_n 2, 1) := by decide +kernel
theorem dX5_lays_7 : decode cX5_lays 7 = .ok (.ifCond .eq 9, 3) := by decide +kernel
theorem dX5_lays_10 : decode cX5_lays 10 = .ok (.aload_n 0, 1) := by decide +kernel
theorem dX5_lays_11 : decode cX5_lays 11 = .ok (.iload_n 2, 1) := by decide +kernel
theorem dX5_lays_12 : decode cX5_lays 12 = .ok (.invokevirtual 54, 3) := by decide +kernel
theorem dX5_lays_15 : decode cX5_lays 15 = .ok (.ireturn, 1) := by decide +kernel
theorem dX5_lays_16 : decode cX5_lays 16 = .ok (.aload_n 0, 1) := by decide +kernel
theorem dX5_lays_17 : decode cX5_lays 17 = .ok (.getfield 45, 3) := by decide +kernel
theorem dX5_lays_20 : decode cX5_lays 20 = .ok (.iload_n 1, 1) := by decide +kernel
theorem dX5_lays_21 : decode cX5_lays 21 = .ok (.aaload, 1) := by decide +kernel
theorem dX5_lays_22 : decode cX5_lays 22 = .ok (.astore_n 3, 1) := by decide +kernel
theorem dX5_lays_23 : decode cX5_lays 23 = .ok (.iconst 0, 1) := by decide +kernel
theorem dX5_lays_24 : decode cX5_lays 24 = .ok (.istore 4, 2) := by decide +kernel
theorem dX5_lays_26 : decode cX5_lays 26 = .ok (.iconst 0, 1) := by decide +kernel
theorem dX5_lays_27 : decode cX5_lays 27 = .ok (.istore 5, 2) := by decide +kernel
theorem dX5_lays_29 : decode cX5_lays 29 = .ok (.iload 5, 2) := by decide +kernel
theorem dX5_lays_31 : decode cX5_lays 31 = .ok (.aload_n 3, 1) := by decide +kernel
theorem dX5_lays_32 : decode cX5_lays 32 = .ok (.getfield 210, 3) := by decide +kernel
theorem dX5_lays_35 : decode cX5_lays 35 = .ok (.if_icmp .ge 57, 3) := by decide +kernel
theorem dX5_lays_38 : decode cX5_lays 38 = .ok (.iload 5, 2) := by decide +kernel
theorem dX5_lays_40 : decode cX5_lays 40 = .ok (.bipush 8, 2) := by decide +kernel
theorem dX5_lays_42 : decode cX5_lays 42 = .ok (.if_icmp .ge 50, 3) := by decide +kernel
theorem dX5_lays_45 : decode cX5_lays 45 = .ok (.aload_n 3, 1) := by decide +kernel
theorem dX5_lays_46 : decode cX5_lays 46 = .ok (.getfield 214, 3) := by decide +kernel
theorem dX5_lays_49 : decode cX5_lays 49 = .ok (.iload 5, 2) := by decide +kernel
theorem dX5_lays_51 : decode cX5_lays 51 = .ok (.laload, 1) := by decide +kernel
theorem dX5_lays_52 : decode cX5_lays 52 = .ok (.lstore 6, 2) := by decide +kernel
theorem dX5_lays_54 : decode cX5_lays 54 = .ok (.lload 6, 2) := by decide +kernel
theorem dX5_lays_56 : decode cX5_lays 56 = .ok (.lconst 0, 1) := by decide +kernel
theorem dX5_lays_57 : decode cX5_lays 57 = .ok (.lcmp, 1) := by decide +kernel
theorem dX5_lays_58 : decode cX5_lays 58 = .ok (.ifCond .lt 28, 3) := by decide +kernel
theorem dX5_lays_61 : decode cX5_lays 61 = .ok (.lload 6, 2) := by decide +kernel
theorem dX5_lays_63 : decode cX5_lays 63 = .ok (.ldc2_w 238, 3) := by decide +kernel
theorem dX5_lays_66 : decode cX5_lays 66 = .ok (.lcmp, 1) := by decide +kernel
theorem dX5_lays_67 : decode cX5_lays 67 = .ok (.ifCond .gt 19, 3) := by decide +kernel
theorem dX5_lays_70 : decode cX5_lays 70 = .ok (.aload_n 0, 1) := by decide +kernel
theorem dX5_lays_71 : decode cX5_lays 71 = .ok (.getfield 10, 3) := by decide +kernel
theorem dX5_lays_74 : decode cX5_lays 74 = .ok (.getfield 68, 3) := by decide +kernel
theorem dX5_lays_77 : decode cX5_lays 77 = .ok (.iload 5, 2) := by decide +kernel
theorem dX5_lays_79 : decode cX5_lays 79 = .ok (.lload 6, 2) := by decide +kernel
theorem dX5_lays_81 : decode cX5_lays 81 = .ok (.l2i, 1) := by decide +kernel
theorem dX5_lays_82 : decode cX5_lays 82 = .ok (.iastore, 1) := by decide +kernel
theorem dX5_lays_83 : decode cX5_lays 83 = .ok (.iinc 4 1, 3) := by decide +kernel
theorem dX5_lays_86 : decode cX5_lays 86 = .ok (.iinc 5 1, 3) := by decide +kernel
theorem dX5_lays_89 : decode cX5_lays 89 = .ok (.goto (-60), 3) := by decide +kernel
theorem dX5_lays_92 : decode cX5_lays 92 = .ok (.iload 4, 2) := by decide +kernel
theorem dX5_lays_94 : decode cX5_lays 94 = .ok (.ireturn, 1) := by decide +kernel
theorem dX5_book_0 : decode cX5_book 0 = .ok (.aload_n 0, 1) := by decide +kernel
theorem dX5_book_1 : decode cX5_book 1 = .ok (.iload_n 1, 1) := by decide +kernel
theorem dX5_book_2 : decode cX5_book 2 = .ok (.invokevirtual 211, 3) := by decide +kernel
theorem dX5_book_5 : decode cX5_book 5 = .ok (.istore_n 2, 1) := by decide +kernel
theorem dX5_book_6 : decode cX5_book 6 = .ok (.iload_n 2, 1) := by decide +kernel
theorem dX5_book_7 : decode cX5_book 7 = .ok (.ifCond .eq 9, 3) := by decide +kernel
theorem dX5_book_10 : decode cX5_book 10 = .ok (.aload_n 0, 1) := by decide +kernel
theorem dX5_book_11 : decode cX5_book 11 = .ok (.iload_n 2, 1) := by decide +kernel
theorem dX5_book_12 : decode cX5_book 12 = .ok (.invokevirtual 54, 3) := by decide +kernel
theorem dX5_book_15 : decode cX5_book 15 = .ok (.ireturn, 1) := by decide +kernel
theorem dX5_book_16 : decode cX5_book 16 = .ok (.aload_n 0, 1) := by decide +kernel
theorem dX5_book_17 : decode cX5_book 17 = .ok (.getfield 45, 3) := by decide +kernel
theorem dX5_book_20 : decode cX5_book 20 = .ok (.iload_n 1, 1) := by decide +kernel
theorem dX5_book_21 : decode cX5_book 21 = .ok (.aaload, 1) := by decide +kernel
theorem dX5_book_22 : decode cX5_book 22 = .ok (.astore_n 3, 1) := by decide +kernel
theorem dX5_book_23 : decode cX5_book 23 = .ok (.aload_n 0, 1) := by decide +kernel
theorem dX5_book_24 : decode cX5_book 24 = .ok (.getfield 16, 3) := by decide +kernel
theorem dX5_book_27 : decode cX5_book 27 = .ok (.aload_n 0, 1) := by decide +kernel
theorem dX5_book_28 : decode cX5_book 28 = .ok (.getfield 10, 3) := by decide +kernel
theorem dX5_book_31 : decode cX5_book 31 = .ok (.invokevirtual 166, 3) := by decide +kernel
theorem dX5_book_34 : decode cX5_book 34 = .ok (.iconst 0, 1) := by decide +kernel
theorem dX5_book_35 : decode cX5_book 35 = .ok (.istore 4, 2) := by decide +kernel
theorem dX5_book_37 : decode cX5_book 37 = .ok (.iload 4, 2) := by decide +kernel
theorem dX5_book_39 : decode cX5_book 39 = .ok (.aload_n 3, 1) := by decide +kernel
theorem dX5_book_40 : decode cX5_book 40 = .ok (.getfield 210, 3) := by decide +kernel
theorem dX5_book_43 : decode cX5_book 43 = .ok (.if_icmp .ge 30, 3) := by decide +kernel
theorem dX5_book_46 : decode cX5_book 46 = .ok (.aload_n 3, 1) := by decide +kernel
theorem dX5_book_47 : decode cX5_book 47 = .ok (.iload 4, 2) := by decide +kernel
theorem dX5_book_49 : decode cX5_book 49 = .ok (.aload_n 0, 1) := by decide +kernel
theorem dX5_book_50 : decode cX5_book 50 = .ok (.getfield 16, 3) := by decide +kernel
theorem dX5_book_53 : decode cX5_book 53 = .ok (.getfield 58, 3) := by decide +kernel
theorem dX5_book_56 : decode cX5_book 56 = .ok (.i2l, 1) := by decide +kernel
theorem dX5_book_57 : decode cX5_book 57 = .ok (.invokevirtual 218, 3) := by decide +kernel
theorem dX5_book_60 : decode cX5_book 60 = .ok (.aload_n 0, 1) := by decide +kernel
theorem dX5_book_61 : decode cX5_book 61 = .ok (.getfield 16, 3) := by decide +kernel
theorem dX5_book_64 : decode cX5_book 64 = .ok (.invokevirtual 170, 3) := by decide +kernel
theorem dX5_book_67 : decode cX5_book 67 = .ok (.iinc 4 1, 3) := by decide +kernel
theorem dX5_book_70 : decode cX5_book 70 = .ok (.goto (-33), 3) := by decide +kernel
theorem dX5_book_73 : decode cX5_book 73 = .ok (.aload_n 3, 1) := by decide +kernel
theorem dX5_book_74 : decode cX5_book 74 = .ok (.getfield 210, 3) := by decide +kernel
theorem dX5_book_77 : decode cX5_book 77 = .ok (.ireturn, 1) := by decide +kernel
theorem dX5_read_0 : decode cX5_read 0 = .ok (.aload_n 0, 1) := by decide +kernel
theorem dX5_read_1 : decode cX5_read 1 = .ok (.iload_n 1, 1) := by decide +kernel
theorem dX5_read_2 : decode cX5_read 2 = .ok (.invokevirtual 211, 3) := by decide +kernel
theorem dX5_read_5 : decode cX5_read 5 = .ok (.istore_n 3, 1) := by decide +kernel
theorem dX5_read_6 : decode cX5_read 6 = .ok (.iload_n 3, 1) := by decide +kernel
theorem dX5_read_7 : decode cX5_read 7 = .ok (.ifCond .eq 9, 3) := by decide +kernel
theorem dX5_read_10 : decode cX5_read 10 = .ok (.aload_n 0, 1) := by decide +kernel
theorem dX5_read_11 : decode cX5_read 11 = .ok (.iload_n 3, 1) := by decide +kernel
theorem dX5_read_12 : decode cX5_read 12 = .ok (.invokevirtual 54, 3) := by decide +kernel
theorem dX5_read_15 : decode cX5_read 15 = .ok (.ireturn, 1) := by decide +kernel
theorem dX5_read_16 : decode cX5_read 16 = .ok (.aload_n 0, 1) := by decide +kernel
theorem dX5_read_17 : decode cX5_read 17 = .ok (.getfield 10, 3) := by decide +kernel
theorem dX5_read_20 : decode cX5_read 20 = .ok (.iload_n 2, 1) := by decide +kernel
theorem dX5_read_21 : decode cX5_read 21 = .ok (.invokevirtual 101, 3) := by decide +kernel
theorem dX5_read_24 : decode cX5_read 24 = .ok (.ifCond .ne 10, 3) := by decide +kernel
theorem dX5_read_27 : decode cX5_read 27 = .ok (.aload_n 0, 1) := by decide +kernel
theorem dX5_read_28 : decode cX5_read 28 = .ok (.ldc 53, 2) := by decide +kernel
theorem dX5_read_30 : decode cX5_read 30 = .ok (.invokevirtual 54, 3) := by decide +kernel
theorem dX5_read_33 : decode cX5_read 33 = .ok (.ireturn, 1) := by decide +kernel
theorem dX5_read_34 : decode cX5_read 34 = .ok (.iconst 0, 1) := by decide +kernel
theorem dX5_read_35 : decode cX5_read 35 = .ok (.istore 4, 2) := by decide +kernel
theorem dX5_read_37 : decode cX5_read 37 = .ok (.iconst 0, 1) := by decide +kernel
theorem dX5_read_38 : decode cX5_read 38 = .ok (.istore 5, 2) := by decide +kernel
theorem dX5_read_40 : decode cX5_read 40 = .ok (.iload 5, 2) := by decide +kernel
theorem dX5_read_42 : decode cX5_read 42 = .ok (.bipush 6, 2) := by decide +kernel
theorem dX5_read_44 : decode cX5_read 44 = .ok (.if_icmp .ge 83, 3) := by decide +kernel
theorem dX5_read_47 : decode cX5_read 47 = .ok (.iconst 1, 1) := by decide +kernel
theorem dX5_read_48 : decode cX5_read 48 = .ok (.istore 6, 2) := by decide +kernel
theorem dX5_read_50 : decode cX5_read 50 = .ok (.iload 6, 2) := by decide +kernel
theorem dX5_read_52 : decode cX5_read 52 = .ok (.bipush 40, 2) := by decide +kernel
theorem dX5_read_54 : decode cX5_read 54 = .ok (.if_icmp .gt 67, 3) := by decide +kernel
theorem dX5_read_57 : decode cX5_read 57 = .ok (.aload_n 0, 1) := by decide +kernel
theorem dX5_read_58 : decode cX5_read 58 = .ok (.getfield 16, 3) := by decide +kernel
theorem dX5_read_61 : decode cX5_read 61 = .ok (.aload_n 0, 1) := by decide +kernel
theorem dX5_read_62 : decode cX5_read 62 = .ok (.getfield 10, 3) := by decide +kernel
theorem dX5_read_65 : decode cX5_read 65 = .ok (.invokevirtual 166, 3) := by decide +kernel
theorem dX5_read_68 : decode cX5_read 68 = .ok (.aload_n 0, 1) := by decide +kernel
theorem dX5_read_69 : decode cX5_read 69 = .ok (.getfield 16, 3) := by decide +kernel
theorem dX5_read_72 : decode cX5_read 72 = .ok (.getfield 104, 3) := by decide +kernel
theorem dX5_read_75 : decode cX5_read 75 = .ok (.iload_n 2, 1) := by decide +kernel
theorem dX5_read_76 : decode cX5_read 76 = .ok (.aaload, 1) := by decide +kernel
theorem dX5_read_77 : decode cX5_read 77 = .ok (.iload 5, 2) := by decide +kernel
theorem dX5_read_79 : decode cX5_read 79 = .ok (.putfield 112, 3) := by decide +kernel
theorem dX5_read_82 : decode cX5_read 82 = .ok (.aload_n 0, 1) := by decide +kernel
theorem dX5_read_83 : decode cX5_read 83 = .ok (.getfield 16, 3) := by decide +kernel
theorem dX5_read_86 : decode cX5_read 86 = .ok (.getfield 104, 3) := by decide +kernel
theorem dX5_read_89 : decode cX5_read 89 = .ok (.iload_n 2, 1) := by decide +kernel
theorem dX5_read_90 : decode cX5_read 90 = .ok (.aaload, 1) := by decide +kernel
theorem dX5_read_91 : decode cX5_read 91 = .ok (.iload 6, 2) := by decide +kernel
theorem dX5_read_93 : decode cX5_read 93 = .ok (.putfield 117, 3) := by decide +kernel
theorem dX5_read_96 : decode cX5_read 96 = .ok (.aload_n 0, 1) := by decide +kernel
theorem dX5_read_97 : decode cX5_read 97 = .ok (.getfield 16, 3) := by decide +kernel
theorem dX5_read_100 : decode cX5_read 100 = .ok (.aload_n 0, 1) := by decide +kernel
theorem dX5_read_101 : decode cX5_read 101 = .ok (.getfield 45, 3) := by decide +kernel
theorem dX5_read_104 : decode cX5_read 104 = .ok (.iload_n 1, 1) := by decide +kernel
theorem dX5_read_105 : decode cX5_read 105 = .ok (.aaload, 1) := by decide +kernel
theorem dX5_read_106 : decode cX5_read 106 = .ok (.invokevirtual 240, 3) := by decide +kernel
theorem dX5_read_109 : decode cX5_read 109 = .ok (.ifCond .eq 6, 3) := by decide +kernel
theorem dX5_read_112 : decode cX5_read 112 = .ok (.iinc 4 1, 3) := by decide +kernel
theorem dX5_read_115 : decode cX5_read 115 = .ok (.iinc 6 1, 3) := by decide +kernel
theorem dX5_read_118 : decode cX5_read 118 = .ok (.goto (-68), 3) := by decide +kernel
theorem dX5_read_121 : decode cX5_read 121 = .ok (.iinc 5 1, 3) := by decide +kernel
theorem dX5_read_124 : decode cX5_read 124 = .ok (.goto (-84), 3) := by decide +kernel
theorem dX5_read_127 : decode cX5_read 127 = .ok (.iload 4, 2) := by decide +kernel
theorem dX5_read_129 : decode cX5_read 129 = .ok (.ireturn, 1) := by decide +kernel
theorem dX5_image_0 : decode cX5_image 0 = .ok (.aload_n 0, 1) := by decide +kernel
theorem dX5_image_1 : decode cX5_image 1 = .ok (.getfield 19, 3) := by decide +kernel
theorem dX5_image_4 : decode cX5_image 4 = .ok (.aload_n 0, 1) := by decide +kernel
theorem dX5_image_5 : decode cX5_image 5 = .ok (.getfield 10, 3) := by decide +kernel
theorem dX5_image_8 : decode cX5_image 8 = .ok (.invokevirtual 166, 3) := by decide +kernel
theorem dX5_image_11 : decode cX5_image 11 = .ok (.aload_n 0, 1) := by decide +kernel
theorem dX5_image_12 : decode cX5_image 12 = .ok (.iconst 1, 1) := by decide +kernel
theorem dX5_image_13 : decode cX5_image 13 = .ok (.putfield 22, 3) := by decide +kernel
theorem dX5_image_16 : decode cX5_image 16 = .ok (.iconst 1, 1) := by decide +kernel
theorem dX5_image_17 : decode cX5_image 17 = .ok (.ireturn, 1) := by decide +kernel
theorem dX5_undo_0 : decode cX5_undo 0 = .ok (.aload_n 0, 1) := by decide +kernel
theorem dX5_undo_1 : decode cX5_undo 1 = .ok (.getfield 22, 3) := by decide +kernel
theorem dX5_undo_4 : decode cX5_undo 4 = .ok (.ifCond .ne 10, 3) := by decide +kernel
theorem dX5_undo_7 : decode cX5_undo 7 = .ok (.aload_n 0, 1) := by decide +kernel
theorem dX5_undo_8 : decode cX5_undo 8 = .ok (.ldc 153, 2) := by decide +kernel
theorem dX5_undo_10 : decode cX5_undo 10 = .ok (.invokevirtual 54, 3) := by decide +kernel
theorem dX5_undo_13 : decode cX5_undo 13 = .ok (.ireturn, 1) := by decide +kernel
theorem dX5_undo_14 : decode cX5_undo 14 = .ok (.aload_n 0, 1) := by decide +kernel
theorem dX5_undo_15 : decode cX5_undo 15 = .ok (.getfield 10, 3) := by decide +kernel
theorem dX5_undo_18 : decode cX5_undo 18 = .ok (.aload_n 0, 1) := by decide +kernel
theorem dX5_undo_19 : decode cX5_undo 19 = .ok (.getfield 19, 3) := by decide +kernel
theorem dX5_undo_22 : decode cX5_undo 22 = .ok (.invokevirtual 166, 3) := by decide +kernel
theorem dX5_undo_25 : decode cX5_undo 25 = .ok (.aload_n 0, 1) := by decide +kernel
theorem dX5_undo_26 : decode cX5_undo 26 = .ok (.getfield 10, 3) := by decide +kernel
theorem dX5_undo_29 : decode cX5_undo 29 = .ok (.getfield 94, 3) := by decide +kernel
theorem dX5_undo_32 : decode cX5_undo 32 = .ok (.ireturn, 1) := by decide +kernel
theorem dX5_tear_0 : decode cX5_tear 0 = .ok (.aload_n 0, 1) := by decide +kernel
theorem dX5_tear_1 : decode cX5_tear 1 = .ok (.getfield 22, 3) := by decide +kernel
theorem dX5_tear_4 : decode cX5_tear 4 = .ok (.ifCond .eq 7, 3) := by decide +kernel
theorem dX5_tear_7 : decode cX5_tear 7 = .ok (.iconst 1, 1) := by decide +kernel
theorem dX5_tear_8 : decode cX5_tear 8 = .ok (.goto 4, 3) := by decide +kernel
theorem dX5_tear_11 : decode cX5_tear 11 = .ok (.iconst 0, 1) := by decide +kernel
theorem dX5_tear_12 : decode cX5_tear 12 = .ok (.istore_n 1, 1) := by decide +kernel
theorem dX5_tear_13 : decode cX5_tear 13 = .ok (.aload_n 0, 1) := by decide +kernel
theorem dX5_tear_14 : decode cX5_tear 14 = .ok (.iconst 0, 1) := by decide +kernel
theorem dX5_tear_15 : decode cX5_tear 15 = .ok (.putfield 22, 3) := by decide +kernel
theorem dX5_tear_18 : decode cX5_tear 18 = .ok (.iload_n 1, 1) := by decide +kernel
theorem dX5_tear_19 : decode cX5_tear 19 = .ok (.ireturn, 1) := by decide +kernel
theorem dX5_count_0 : decode cX5_count 0 = .ok (.iload_n 1, 1) := by decide +kernel
theorem dX5_count_1 : decode cX5_count 1 = .ok (.tableswitch 66 0 3 #[31, 39, 47, 58], 31) := by decide +kernel
theorem dX5_count_32 : decode cX5_count 32 = .ok (.aload_n 0, 1) := by decide +kernel
theorem dX5_count_33 : decode cX5_count 33 = .ok (.getfield 10, 3) := by decide +kernel
theorem dX5_count_36 : decode cX5_count 36 = .ok (.getfield 94, 3) := by decide +kernel
theorem dX5_count_39 : decode cX5_count 39 = .ok (.ireturn, 1) := by decide +kernel
theorem dX5_count_40 : decode cX5_count 40 = .ok (.aload_n 0, 1) := by decide +kernel
theorem dX5_count_41 : decode cX5_count 41 = .ok (.getfield 29, 3) := by decide +kernel
theorem dX5_count_44 : decode cX5_count 44 = .ok (.getfield 192, 3) := by decide +kernel
theorem dX5_count_47 : decode cX5_count 47 = .ok (.ireturn, 1) := by decide +kernel
theorem dX5_count_48 : decode cX5_count 48 = .ok (.aload_n 0, 1) := by decide +kernel
theorem dX5_count_49 : decode cX5_count 49 = .ok (.getfield 10, 3) := by decide +kernel
theorem dX5_count_52 : decode cX5_count 52 = .ok (.invokevirtual 81, 3) := by decide +kernel
theorem dX5_count_55 : decode cX5_count 55 = .ok (.invokestatic 244, 3) := by decide +kernel
theorem dX5_count_58 : decode cX5_count 58 = .ok (.ireturn, 1) := by decide +kernel
theorem dX5_count_59 : decode cX5_count 59 = .ok (.aload_n 0, 1) := by decide +kernel
theorem dX5_count_60 : decode cX5_count 60 = .ok (.getfield 10, 3) := by decide +kernel
theorem dX5_count_63 : decode cX5_count 63 = .ok (.invokevirtual 189, 3) := by decide +kernel
theorem dX5_count_66 : decode cX5_count 66 = .ok (.ireturn, 1) := by decide +kernel
theorem dX5_count_67 : decode cX5_count 67 = .ok (.aload_n 0, 1) := by decide +kernel
theorem dX5_count_68 : decode cX5_count 68 = .ok (.ldc 53, 2) := by decide +kernel
theorem dX5_count_70 : decode cX5_count 70 = .ok (.invokevirtual 54, 3) := by decide +kernel
theorem dX5_count_73 : decode cX5_count 73 = .ok (.ireturn, 1) := by decide +kernel
theorem dX5_status_0 : decode cX5_status 0 = .ok (.iload_n 1, 1) := by decide +kernel
theorem dX5_status_1 : decode cX5_status 1 = .ok (.iconst (-1), 1) := by decide +kernel
theorem dX5_status_2 : decode cX5_status 2 = .ok (.if_icmp .lt 9, 3) := by decide +kernel
theorem dX5_status_5 : decode cX5_status 5 = .ok (.iload_n 1, 1) := by decide +kernel
theorem dX5_status_6 : decode cX5_status 6 = .ok (.bipush 7, 2) := by decide +kernel
theorem dX5_status_8 : decode cX5_status 8 = .ok (.if_icmp .lt 10, 3) := by decide +kernel
theorem dX5_status_11 : decode cX5_status 11 = .ok (.aload_n 0, 1) := by decide +kernel
theorem dX5_status_12 : decode cX5_status 12 = .ok (.ldc 53, 2) := by decide +kernel
theorem dX5_status_14 : decode cX5_status 14 = .ok (.invokevirtual 54, 3) := by decide +kernel
theorem dX5_status_17 : decode cX5_status 17 = .ok (.ireturn, 1) := by decide +kernel
theorem dX5_status_18 : decode cX5_status 18 = .ok (.iload_n 1, 1) := by decide +kernel
theorem dX5_status_19 : decode cX5_status 19 = .ok (.ifCond .lt 10, 3) := by decide +kernel
theorem dX5_status_22 : decode cX5_status 22 = .ok (.aload_n 0, 1) := by decide +kernel
theorem dX5_status_23 : decode cX5_status 23 = .ok (.getfield 49, 3) := by decide +kernel
theorem dX5_status_26 : decode cX5_status 26 = .ok (.iload_n 1, 1) := by decide +kernel
theorem dX5_status_27 : decode cX5_status 27 = .ok (.iaload, 1) := by decide +kernel
theorem dX5_status_28 : decode cX5_status 28 = .ok (.ireturn, 1) := by decide +kernel
theorem dX5_status_29 : decode cX5_status 29 = .ok (.iconst 0, 1) := by decide +kernel
theorem dX5_status_30 : decode cX5_status 30 = .ok (.istore_n 2, 1) := by decide +kernel
theorem dX5_status_31 : decode cX5_status 31 = .ok (.iconst 0, 1) := by decide +kernel
theorem dX5_status_32 : decode cX5_status 32 = .ok (.istore_n 3, 1) := by decide +kernel
theorem dX5_status_33 : decode cX5_status 33 = .ok (.iload_n 3, 1) := by decide +kernel
theorem dX5_status_34 : decode cX5_status 34 = .ok (.bipush 7, 2) := by decide +kernel
theorem dX5_status_36 : decode cX5_status 36 = .ok (.if_icmp .ge 18, 3) := by decide +kernel
theorem dX5_status_39 : decode cX5_status 39 = .ok (.iload_n 2, 1) := by decide +kernel
theorem dX5_status_40 : decode cX5_status 40 = .ok (.aload_n 0, 1) := by decide +kernel
theorem dX5_status_41 : decode cX5_status 41 = .ok (.getfield 49, 3) := by decide +kernel
theorem dX5_status_44 : decode cX5_status 44 = .ok (.iload_n 3, 1) := by decide +kernel
theorem dX5_status_45 : decode cX5_status 45 = .ok (.iaload, 1) := by decide +kernel
theorem dX5_status_46 : decode cX5_status 46 = .ok (.iadd, 1) := by decide +kernel
theorem dX5_status_47 : decode cX5_status 47 = .ok (.istore_n 2, 1) := by decide +kernel
theorem dX5_status_48 : decode cX5_status 48 = .ok (.iinc 3 1, 3) := by decide +kernel
theorem dX5_status_51 : decode cX5_status 51 = .ok (.goto (-18), 3) := by decide +kernel
theorem dX5_status_54 : decode cX5_status 54 = .ok (.iload_n 2, 1) := by decide +kernel
theorem dX5_status_55 : decode cX5_status 55 = .ok (.ireturn, 1) := by decide +kernel
theorem dX5_found_0 : decode cX5_found 0 = .ok (.ldc 53, 2) := by decide +kernel
theorem dX5_found_2 : decode cX5_found 2 = .ok (.iload_n 1, 1) := by decide +kernel
theorem dX5_found_3 : decode cX5_found 3 = .ok (.isub, 1) := by decide +kernel
theorem dX5_found_4 : decode cX5_found 4 = .ok (.istore_n 2, 1) := by decide +kernel
theorem dX5_found_5 : decode cX5_found 5 = .ok (.iload_n 2, 1) := by decide +kernel
theorem dX5_found_6 : decode cX5_found 6 = .ok (.ifCond .lt 19, 3) := by decide +kernel
theorem dX5_found_9 : decode cX5_found 9 = .ok (.iload_n 2, 1) := by decide +kernel
theorem dX5_found_10 : decode cX5_found 10 = .ok (.bipush 7, 2) := by decide +kernel
theorem dX5_found_12 : decode cX5_found 12 = .ok (.if_icmp .ge 13, 3) := by decide +kernel
theorem dX5_found_15 : decode cX5_found 15 = .ok (.aload_n 0, 1) := by decide +kernel
theorem dX5_found_16 : decode cX5_found 16 = .ok (.getfield 49, 3) := by decide +kernel
theorem dX5_found_19 : decode cX5_found 19 = .ok (.iload_n 2, 1) := by decide +kernel
theorem dX5_found_20 : decode cX5_found 20 = .ok (.dup2, 1) := by decide +kernel
theorem dX5_found_21 : decode cX5_found 21 = .ok (.iaload, 1) := by decide +kernel
theorem dX5_found_22 : decode cX5_found 22 = .ok (.iconst 1, 1) := by decide +kernel
theorem dX5_found_23 : decode cX5_found 23 = .ok (.iadd, 1) := by decide +kernel
theorem dX5_found_24 : decode cX5_found 24 = .ok (.iastore, 1) := by decide +kernel
theorem dX5_found_25 : decode cX5_found 25 = .ok (.iload_n 1, 1) := by decide +kernel
theorem dX5_found_26 : decode cX5_found 26 = .ok (.ireturn, 1) := by decide +kernel
theorem dX5_isKind_0 : decode cX5_isKind 0 = .ok (.iload_n 0, 1) := by decide +kernel
theorem dX5_isKind_1 : decode cX5_isKind 1 = .ok (.ifCond .lt 13, 3) := by decide +kernel
theorem dX5_isKind_4 : decode cX5_isKind 4 = .ok (.iload_n 0, 1) := by decide +kernel
theorem dX5_isKind_5 : decode cX5_isKind 5 = .ok (.bipush 6, 2) := by decide +kernel
theorem dX5_isKind_7 : decode cX5_isKind 7 = .ok (.if_icmp .ge 7, 3) := by decide +kernel
theorem dX5_isKind_10 : decode cX5_isKind 10 = .ok (.iconst 1, 1) := by decide +kernel
theorem dX5_isKind_11 : decode cX5_isKind 11 = .ok (.goto 4, 3) := by decide +kernel
theorem dX5_isKind_14 : decode cX5_isKind 14 = .ok (.iconst 0, 1) := by decide +kernel
theorem dX5_isKind_15 : decode cX5_isKind 15 = .ok (.ireturn, 1) := by decide +kernel
theorem dX5_isUnder_0 : decode cX5_isUnder 0 = .ok (.iload_n 0, 1) := by decide +kernel
theorem dX5_isUnder_1 : decode cX5_isUnder 1 = .ok (.istore_n 2, 1) := by decide +kernel
theorem dX5_isUnder_2 : decode cX5_isUnder 2 = .ok (.iconst 0, 1) := by decide +kernel
theorem dX5_isUnder_3 : decode cX5_isUnder 3 = .ok (.istore_n 3, 1) := by decide +kernel
theorem dX5_isUnder_4 : decode cX5_isUnder 4 = .ok (.iload_n 3, 1) := by decide +kernel
theorem dX5_isUnder_5 : decode cX5_isUnder 5 = .ok (.bipush 6, 2) := by decide +kernel
theorem dX5_isUnder_7 : decode cX5_isUnder 7 = .ok (.if_icmp .ge 32, 3) := by decide +kernel
theorem dX5_isUnder_10 : decode cX5_isUnder 10 = .ok (.iload_n 2, 1) := by decide +kernel
theorem dX5_isUnder_11 : decode cX5_isUnder 11 = .ok (.ifCond .lt 28, 3) := by decide +kernel
theorem dX5_isUnder_14 : decode cX5_isUnder 14 = .ok (.iload_n 2, 1) := by decide +kernel
theorem dX5_isUnder_15 : decode cX5_isUnder 15 = .ok (.bipush 6, 2) := by decide +kernel
theorem dX5_isUnder_17 : decode cX5_isUnder 17 = .ok (.if_icmp .ge 22, 3) := by decide +kernel
theorem dX5_isUnder_20 : decode cX5_isUnder 20 = .ok (.iload_n 2, 1) := by decide +kernel
theorem dX5_isUnder_21 : decode cX5_isUnder 21 = .ok (.iload_n 1, 1) := by decide +kernel
theorem dX5_isUnder_22 : decode cX5_isUnder 22 = .ok (.if_icmp .ne 5, 3) := by decide +kernel
theorem dX5_isUnder_25 : decode cX5_isUnder 25 = .ok (.iconst 1, 1) := by decide +kernel
theorem dX5_isUnder_26 : decode cX5_isUnder 26 = .ok (.ireturn, 1) := by decide +kernel
theorem dX5_isUnder_27 : decode cX5_isUnder 27 = .ok (.getstatic 249, 3) := by decide +kernel
theorem dX5_isUnder_30 : decode cX5_isUnder 30 = .ok (.iload_n 2, 1) := by decide +kernel
theorem dX5_isUnder_31 : decode cX5_isUnder 31 = .ok (.iaload, 1) := by decide +kernel
theorem dX5_isUnder_32 : decode cX5_isUnder 32 = .ok (.istore_n 2, 1) := by decide +kernel
theorem dX5_isUnder_33 : decode cX5_isUnder 33 = .ok (.iinc 3 1, 3) := by decide +kernel
theorem dX5_isUnder_36 : decode cX5_isUnder 36 = .ok (.goto (-32), 3) := by decide +kernel
theorem dX5_isUnder_39 : decode cX5_isUnder 39 = .ok (.iconst 0, 1) := by decide +kernel
theorem dX5_isUnder_40 : decode cX5_isUnder 40 = .ok (.ireturn, 1) := by decide +kernel
theorem dX5_maySet_0 : decode cX5_maySet 0 = .ok (.iload_n 0, 1) := by decide +kernel
theorem dX5_maySet_1 : decode cX5_maySet 1 = .ok (.tableswitch 96 1 4 #[31, 48, 63, 79], 31) := by decide +kernel
theorem dX5_maySet_32 : decode cX5_maySet 32 = .ok (.iload_n 1, 1) := by decide +kernel
theorem dX5_maySet_33 : decode cX5_maySet 33 = .ok (.iconst 1, 1) := by decide +kernel
theorem dX5_maySet_34 : decode cX5_maySet 34 = .ok (.if_icmp .lt 13, 3) := by decide +kernel
theorem dX5_maySet_37 : decode cX5_maySet 37 = .ok (.iload_n 1, 1) := by decide +kernel
theorem dX5_maySet_38 : decode cX5_maySet 38 = .ok (.bipush 40, 2) := by decide +kernel
theorem dX5_maySet_40 : decode cX5_maySet 40 = .ok (.if_icmp .gt 7, 3) := by decide +kernel
theorem dX5_maySet_43 : decode cX5_maySet 43 = .ok (.iconst 1, 1) := by decide +kernel
theorem dX5_maySet_44 : decode cX5_maySet 44 = .ok (.goto 4, 3) := by decide +kernel
theorem dX5_maySet_47 : decode cX5_maySet 47 = .ok (.iconst 0, 1) := by decide +kernel
theorem dX5_maySet_48 : decode cX5_maySet 48 = .ok (.ireturn, 1) := by decide +kernel
theorem dX5_maySet_49 : decode cX5_maySet 49 = .ok (.iload_n 1, 1) := by decide +kernel
theorem dX5_maySet_50 : decode cX5_maySet 50 = .ok (.ifCond .lt 12, 3) := by decide +kernel
theorem dX5_maySet_53 : decode cX5_maySet 53 = .ok (.iload_n 1, 1) := by decide +kernel
theorem dX5_maySet_54 : decode cX5_maySet 54 = .ok (.iconst 1, 1) := by decide +kernel
theorem dX5_maySet_55 : decode cX5_maySet 55 = .ok (.if_icmp .gt 7, 3) := by decide +kernel
theorem dX5_maySet_58 : decode cX5_maySet 58 = .ok (.iconst 1, 1) := by decide +kernel
theorem dX5_maySet_59 : decode cX5_maySet 59 = .ok (.goto 4, 3) := by decide +kernel
theorem dX5_maySet_62 : decode cX5_maySet 62 = .ok (.iconst 0, 1) := by decide +kernel
theorem dX5_maySet_63 : decode cX5_maySet 63 = .ok (.ireturn, 1) := by decide +kernel
theorem dX5_maySet_64 : decode cX5_maySet 64 = .ok (.iload_n 1, 1) := by decide +kernel
theorem dX5_maySet_65 : decode cX5_maySet 65 = .ok (.ifCond .lt 13, 3) := by decide +kernel
theorem dX5_maySet_68 : decode cX5_maySet 68 = .ok (.iload_n 1, 1) := by decide +kernel
theorem dX5_maySet_69 : decode cX5_maySet 69 = .ok (.bipush 99, 2) := by decide +kernel
theorem dX5_maySet_71 : decode cX5_maySet 71 = .ok (.if_icmp .gt 7, 3) := by decide +kernel
theorem dX5_maySet_74 : decode cX5_maySet 74 = .ok (.iconst 1, 1) := by decide +kernel
theorem dX5_maySet_75 : decode cX5_maySet 75 = .ok (.goto 4, 3) := by decide +kernel
theorem dX5_maySet_78 : decode cX5_maySet 78 = .ok (.iconst 0, 1) := by decide +kernel
theorem dX5_maySet_79 : decode cX5_maySet 79 = .ok (.ireturn, 1) := by decide +kernel
theorem dX5_maySet_80 : decode cX5_maySet 80 = .ok (.iload_n 1, 1) := by decide +kernel
theorem dX5_maySet_81 : decode cX5_maySet 81 = .ok (.ifCond .lt 14, 3) := by decide +kernel
theorem dX5_maySet_84 : decode cX5_maySet 84 = .ok (.iload_n 1, 1) := by decide +kernel
theorem dX5_maySet_85 : decode cX5_maySet 85 = .ok (.sipush 9999, 3) := by decide +kernel
theorem dX5_maySet_88 : decode cX5_maySet 88 = .ok (.if_icmp .gt 7, 3) := by decide +kernel
theorem dX5_maySet_91 : decode cX5_maySet 91 = .ok (.iconst 1, 1) := by decide +kernel
theorem dX5_maySet_92 : decode cX5_maySet 92 = .ok (.goto 4, 3) := by decide +kernel
theorem dX5_maySet_95 : decode cX5_maySet 95 = .ok (.iconst 0, 1) := by decide +kernel
theorem dX5_maySet_96 : decode cX5_maySet 96 = .ok (.ireturn, 1) := by decide +kernel
theorem dX5_maySet_97 : decode cX5_maySet 97 = .ok (.iconst 0, 1) := by decide +kernel
theorem dX5_maySet_98 : decode cX5_maySet 98 = .ok (.ireturn, 1) := by decide +kernel
theorem dX5_isTried_0 : decode cX5_isTried 0 = .ok (.iload_n 0, 1) := by decide +kernel
theorem dX5_isTried_1 : decode cX5_isTried 1 = .ok (.iconst 1, 1) := by decide +kernel
theorem dX5_isTried_2 : decode cX5_isTried 2 = .ok (.if_icmp .lt 13, 3) := by decide +kernel
theorem dX5_isTried_5 : decode cX5_isTried 5 = .ok (.iload_n 0, 1) := by decide +kernel
theorem dX5_isTried_6 : decode cX5_isTried 6 = .ok (.bipush 100, 2) := by decide +kernel
theorem dX5_isTried_8 : decode cX5_isTried 8 = .ok (.if_icmp .gt 7, 3) := by decide +kernel
theorem dX5_isTried_11 : decode cX5_isTried 11 = .ok (.iconst 1, 1) := by decide +kernel
theorem dX5_isTried_12 : decode cX5_isTried 12 = .ok (.goto 4, 3) := by decide +kernel
theorem dX5_isTried_15 : decode cX5_isTried 15 = .ok (.iconst 0, 1) := by decide +kernel
theorem dX5_isTried_16 : decode cX5_isTried 16 = .ok (.ireturn, 1) := by decide +kernel
theorem dX5_isAhead_0 : decode cX5_isAhead 0 = .ok (.iload_n 0, 1) := by decide +kernel
theorem dX5_isAhead_1 : decode cX5_isAhead 1 = .ok (.ifCond .lt 14, 3) := by decide +kernel
theorem dX5_isAhead_4 : decode cX5_isAhead 4 = .ok (.iload_n 0, 1) := by decide +kernel
theorem dX5_isAhead_5 : decode cX5_isAhead 5 = .ok (.sipush 400, 3) := by decide +kernel
theorem dX5_isAhead_8 : decode cX5_isAhead 8 = .ok (.if_icmp .gt 7, 3) := by decide +kernel
theorem dX5_isAhead_11 : decode cX5_isAhead 11 = .ok (.iconst 1, 1) := by decide +kernel
theorem dX5_isAhead_12 : decode cX5_isAhead 12 = .ok (.goto 4, 3) := by decide +kernel
theorem dX5_isAhead_15 : decode cX5_isAhead 15 = .ok (.iconst 0, 1) := by decide +kernel
theorem dX5_isAhead_16 : decode cX5_isAhead 16 = .ok (.ireturn, 1) := by decide +kernel
theorem dX5_isSheet_0 : decode cX5_isSheet 0 = .ok (.iload_n 0, 1) := by decide +kernel
theorem dX5_isSheet_1 : decode cX5_isSheet 1 = .ok (.ifCond .lt 12, 3) := by decide +kernel
theorem dX5_isSheet_4 : decode cX5_isSheet 4 = .ok (.iload_n 0, 1) := by decide +kernel
theorem dX5_isSheet_5 : decode cX5_isSheet 5 = .ok (.iconst 4, 1) := by decide +kernel
theorem dX5_isSheet_6 : decode cX5_isSheet 6 = .ok (.if_icmp .ge 7, 3) := by decide +kernel
theorem dX5_isSheet_9 : decode cX5_isSheet 9 = .ok (.iconst 1, 1) := by decide +kernel
theorem dX5_isSheet_10 : decode cX5_isSheet 10 = .ok (.goto 4, 3) := by decide +kernel
theorem dX5_isSheet_13 : decode cX5_isSheet 13 = .ok (.iconst 0, 1) := by decide +kernel
theorem dX5_isSheet_14 : decode cX5_isSheet 14 = .ok (.ireturn, 1) := by decide +kernel
theorem dX5_askSheet_0 : decode cX5_askSheet 0 = .ok (.iload_n 1, 1) := by decide +kernel
theorem dX5_askSheet_1 : decode cX5_askSheet 1 = .ok (.invokestatic 202, 3) := by decide +kernel
theorem dX5_askSheet_4 : decode cX5_askSheet 4 = .ok (.ifCond .ne 6, 3) := by decide +kernel
theorem dX5_askSheet_7 : decode cX5_askSheet 7 = .ok (.ldc 53, 2) := by decide +kernel
theorem dX5_askSheet_9 : decode cX5_askSheet 9 = .ok (.ireturn, 1) := by decide +kernel
theorem dX5_askSheet_10 : decode cX5_askSheet 10 = .ok (.aload_n 0, 1) := by decide +kernel
theorem dX5_askSheet_11 : decode cX5_askSheet 11 = .ok (.getfield 45, 3) := by decide +kernel
theorem dX5_askSheet_14 : decode cX5_askSheet 14 = .ok (.iload_n 1, 1) := by decide +kernel
theorem dX5_askSheet_15 : decode cX5_askSheet 15 = .ok (.aaload, 1) := by decide +kernel
theorem dX5_askSheet_16 : decode cX5_askSheet 16 = .ok (.invokevirtual 222, 3) := by decide +kernel
theorem dX5_askSheet_19 : decode cX5_askSheet 19 = .ok (.ifCond .eq 8, 3) := by decide +kernel
theorem dX5_askSheet_22 : decode cX5_askSheet 22 = .ok (.ldc 225, 2) := by decide +kernel
theorem dX5_askSheet_24 : decode cX5_askSheet 24 = .ok (.goto 4, 3) := by decide +kernel
theorem dX5_askSheet_27 : decode cX5_askSheet 27 = .ok (.iconst 0, 1) := by decide +kernel
theorem dX5_askSheet_28 : decode cX5_askSheet 28 = .ok (.ireturn, 1) := by decide +kernel
theorem dX6_init_0 : decode cX6_init 0 = .ok (.aload_n 0, 1) := by decide +kernel
theorem dX6_init_1 : decode cX6_init 1 = .ok (.invokespecial 3, 3) := by decide +kernel
theorem dX6_init_4 : decode cX6_init 4 = .ok (.aload_n 0, 1) := by decide +kernel
theorem dX6_init_5 : decode cX6_init 5 = .ok (.bipush 61, 2) := by decide +kernel
theorem dX6_init_7 : decode cX6_init 7 = .ok (.newarray .int, 2) := by decide +kernel
theorem dX6_init_9 : decode cX6_init 9 = .ok (.putfield 9, 3) := by decide +kernel
theorem dX6_init_12 : decode cX6_init 12 = .ok (.aload_n 0, 1) := by decide +kernel
theorem dX6_init_13 : decode cX6_init 13 = .ok (.bipush 61, 2) := by decide +kernel
theorem dX6_init_15 : decode cX6_init 15 = .ok (.newarray .int, 2) := by decide +kernel
theorem dX6_init_17 : decode cX6_init 17 = .ok (.putfield 13, 3) := by decide +kernel
theorem dX6_init_20 : decode cX6_init 20 = .ok (.aload_n 0, 1) := by decide +kernel
theorem dX6_init_21 : decode cX6_init 21 = .ok (.bipush 61, 2) := by decide +kernel
theorem dX6_init_23 : decode cX6_init 23 = .ok (.newarray .int, 2) := by decide +kernel
theorem dX6_init_25 : decode cX6_init 25 = .ok (.putfield 16, 3) := by decide +kernel
theorem dX6_init_28 : decode cX6_init 28 = .ok (.aload_n 0, 1) := by decide +kernel
theorem dX6_init_29 : decode cX6_init 29 = .ok (.bipush 7, 2) := by decide +kernel
theorem dX6_init_31 : decode cX6_init 31 = .ok (.newarray .int, 2) := by decide +kernel
theorem dX6_init_33 : decode cX6_init 33 = .ok (.putfield 19, 3) := by decide +kernel
theorem dX6_init_36 : decode cX6_init 36 = .ok (.aload_n 0, 1) := by decide +kernel
theorem dX6_init_37 : decode cX6_init 37 = .ok (.bipush 120, 2) := by decide +kernel
theorem dX6_init_39 : decode cX6_init 39 = .ok (.newarray .int, 2) := by decide +kernel
