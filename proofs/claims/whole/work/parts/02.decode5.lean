theorem dX6_goes_16 : decode cX6_goes 16 = .ok (.aload_n 0, 1) := by decide +kernel
theorem dX6_goes_17 : decode cX6_goes 17 = .ok (.invokevirtual 45, 3) := by decide +kernel
theorem dX6_goes_20 : decode cX6_goes 20 = .ok (.iadd, 1) := by decide +kernel
theorem dX6_goes_21 : decode cX6_goes 21 = .ok (.iaload, 1) := by decide +kernel
theorem dX6_goes_22 : decode cX6_goes 22 = .ok (.iadd, 1) := by decide +kernel
theorem dX6_goes_23 : decode cX6_goes 23 = .ok (.iconst 0, 1) := by decide +kernel
theorem dX6_goes_24 : decode cX6_goes 24 = .ok (.sipush 9999, 3) := by decide +kernel
theorem dX6_goes_27 : decode cX6_goes 27 = .ok (.invokestatic 53, 3) := by decide +kernel
theorem dX6_goes_30 : decode cX6_goes 30 = .ok (.iastore, 1) := by decide +kernel
theorem dX6_goes_31 : decode cX6_goes 31 = .ok (.aload_n 0, 1) := by decide +kernel
theorem dX6_goes_32 : decode cX6_goes 32 = .ok (.invokevirtual 116, 3) := by decide +kernel
theorem dX6_goes_35 : decode cX6_goes 35 = .ok (.iconst 0, 1) := by decide +kernel
theorem dX6_goes_36 : decode cX6_goes 36 = .ok (.istore_n 1, 1) := by decide +kernel
theorem dX6_goes_37 : decode cX6_goes 37 = .ok (.iload_n 1, 1) := by decide +kernel
theorem dX6_goes_38 : decode cX6_goes 38 = .ok (.aload_n 0, 1) := by decide +kernel
theorem dX6_goes_39 : decode cX6_goes 39 = .ok (.getfield 9, 3) := by decide +kernel
theorem dX6_goes_42 : decode cX6_goes 42 = .ok (.iconst 4, 1) := by decide +kernel
theorem dX6_goes_43 : decode cX6_goes 43 = .ok (.iaload, 1) := by decide +kernel
theorem dX6_goes_44 : decode cX6_goes 44 = .ok (.if_icmp .ge 14, 3) := by decide +kernel
theorem dX6_goes_47 : decode cX6_goes 47 = .ok (.aload_n 0, 1) := by decide +kernel
theorem dX6_goes_48 : decode cX6_goes 48 = .ok (.iload_n 1, 1) := by decide +kernel
theorem dX6_goes_49 : decode cX6_goes 49 = .ok (.invokevirtual 119, 3) := by decide +kernel
theorem dX6_goes_52 : decode cX6_goes 52 = .ok (.iinc 1 1, 3) := by decide +kernel
theorem dX6_goes_55 : decode cX6_goes 55 = .ok (.goto (-18), 3) := by decide +kernel
theorem dX6_goes_58 : decode cX6_goes 58 = .ok (.iconst 0, 1) := by decide +kernel
theorem dX6_goes_59 : decode cX6_goes 59 = .ok (.istore_n 1, 1) := by decide +kernel
theorem dX6_goes_60 : decode cX6_goes 60 = .ok (.iload_n 1, 1) := by decide +kernel
theorem dX6_goes_61 : decode cX6_goes 61 = .ok (.aload_n 0, 1) := by decide +kernel
theorem dX6_goes_62 : decode cX6_goes 62 = .ok (.getfield 9, 3) := by decide +kernel
theorem dX6_goes_65 : decode cX6_goes 65 = .ok (.iconst 4, 1) := by decide +kernel
theorem dX6_goes_66 : decode cX6_goes 66 = .ok (.iaload, 1) := by decide +kernel
theorem dX6_goes_67 : decode cX6_goes 67 = .ok (.if_icmp .ge 33, 3) := by decide +kernel
theorem dX6_goes_70 : decode cX6_goes 70 = .ok (.aload_n 0, 1) := by decide +kernel
theorem dX6_goes_71 : decode cX6_goes 71 = .ok (.iload_n 1, 1) := by decide +kernel
theorem dX6_goes_72 : decode cX6_goes 72 = .ok (.iconst 3, 1) := by decide +kernel
theorem dX6_goes_73 : decode cX6_goes 73 = .ok (.aload_n 0, 1) := by decide +kernel
theorem dX6_goes_74 : decode cX6_goes 74 = .ok (.iload_n 1, 1) := by decide +kernel
theorem dX6_goes_75 : decode cX6_goes 75 = .ok (.iconst 3, 1) := by decide +kernel
theorem dX6_goes_76 : decode cX6_goes 76 = .ok (.invokevirtual 49, 3) := by decide +kernel
theorem dX6_goes_79 : decode cX6_goes 79 = .ok (.aload_n 0, 1) := by decide +kernel
theorem dX6_goes_80 : decode cX6_goes 80 = .ok (.iload_n 1, 1) := by decide +kernel
theorem dX6_goes_81 : decode cX6_goes 81 = .ok (.invokevirtual 98, 3) := by decide +kernel
theorem dX6_goes_84 : decode cX6_goes 84 = .ok (.iadd, 1) := by decide +kernel
theorem dX6_goes_85 : decode cX6_goes 85 = .ok (.iconst 0, 1) := by decide +kernel
theorem dX6_goes_86 : decode cX6_goes 86 = .ok (.bipush 99, 2) := by decide +kernel
theorem dX6_goes_88 : decode cX6_goes 88 = .ok (.invokestatic 53, 3) := by decide +kernel
theorem dX6_goes_91 : decode cX6_goes 91 = .ok (.invokevirtual 86, 3) := by decide +kernel
theorem dX6_goes_94 : decode cX6_goes 94 = .ok (.iinc 1 1, 3) := by decide +kernel
theorem dX6_goes_97 : decode cX6_goes 97 = .ok (.goto (-37), 3) := by decide +kernel
theorem dX6_goes_100 : decode cX6_goes 100 = .ok (.aload_n 0, 1) := by decide +kernel
theorem dX6_goes_101 : decode cX6_goes 101 = .ok (.getfield 9, 3) := by decide +kernel
theorem dX6_goes_104 : decode cX6_goes 104 = .ok (.iconst 0, 1) := by decide +kernel
theorem dX6_goes_105 : decode cX6_goes 105 = .ok (.dup2, 1) := by decide +kernel
theorem dX6_goes_106 : decode cX6_goes 106 = .ok (.iaload, 1) := by decide +kernel
theorem dX6_goes_107 : decode cX6_goes 107 = .ok (.iconst 1, 1) := by decide +kernel
theorem dX6_goes_108 : decode cX6_goes 108 = .ok (.iadd, 1) := by decide +kernel
theorem dX6_goes_109 : decode cX6_goes 109 = .ok (.iastore, 1) := by decide +kernel
theorem dX6_goes_110 : decode cX6_goes 110 = .ok (.return_, 1) := by decide +kernel
theorem dX6_goesFor_0 : decode cX6_goesFor 0 = .ok (.iconst 0, 1) := by decide +kernel
theorem dX6_goesFor_1 : decode cX6_goesFor 1 = .ok (.istore_n 2, 1) := by decide +kernel
theorem dX6_goesFor_2 : decode cX6_goesFor 2 = .ok (.iload_n 2, 1) := by decide +kernel
theorem dX6_goesFor_3 : decode cX6_goesFor 3 = .ok (.iload_n 1, 1) := by decide +kernel
theorem dX6_goesFor_4 : decode cX6_goesFor 4 = .ok (.if_icmp .ge 13, 3) := by decide +kernel
theorem dX6_goesFor_7 : decode cX6_goesFor 7 = .ok (.aload_n 0, 1) := by decide +kernel
theorem dX6_goesFor_8 : decode cX6_goesFor 8 = .ok (.invokevirtual 122, 3) := by decide +kernel
theorem dX6_goesFor_11 : decode cX6_goesFor 11 = .ok (.iinc 2 1, 3) := by decide +kernel
theorem dX6_goesFor_14 : decode cX6_goesFor 14 = .ok (.goto (-12), 3) := by decide +kernel
theorem dX6_goesFor_17 : decode cX6_goesFor 17 = .ok (.return_, 1) := by decide +kernel
theorem dX6_days_0 : decode cX6_days 0 = .ok (.iload_n 1, 1) := by decide +kernel
theorem dX6_days_1 : decode cX6_days 1 = .ok (.i2l, 1) := by decide +kernel
theorem dX6_days_2 : decode cX6_days 2 = .ok (.iconst 1, 1) := by decide +kernel
theorem dX6_days_3 : decode cX6_days 3 = .ok (.bipush 100, 2) := by decide +kernel
theorem dX6_days_5 : decode cX6_days 5 = .ok (.invokestatic 41, 3) := by decide +kernel
theorem dX6_days_8 : decode cX6_days 8 = .ok (.ifCond .ne 10, 3) := by decide +kernel
theorem dX6_days_11 : decode cX6_days 11 = .ok (.aload_n 0, 1) := by decide +kernel
theorem dX6_days_12 : decode cX6_days 12 = .ok (.ldc 35, 2) := by decide +kernel
theorem dX6_days_14 : decode cX6_days 14 = .ok (.invokevirtual 37, 3) := by decide +kernel
theorem dX6_days_17 : decode cX6_days 17 = .ok (.ireturn, 1) := by decide +kernel
theorem dX6_days_18 : decode cX6_days 18 = .ok (.aload_n 0, 1) := by decide +kernel
theorem dX6_days_19 : decode cX6_days 19 = .ok (.getfield 9, 3) := by decide +kernel
theorem dX6_days_22 : decode cX6_days 22 = .ok (.iconst 0, 1) := by decide +kernel
theorem dX6_days_23 : decode cX6_days 23 = .ok (.iaload, 1) := by decide +kernel
theorem dX6_days_24 : decode cX6_days 24 = .ok (.iload_n 1, 1) := by decide +kernel
theorem dX6_days_25 : decode cX6_days 25 = .ok (.iadd, 1) := by decide +kernel
theorem dX6_days_26 : decode cX6_days 26 = .ok (.ldc 125, 2) := by decide +kernel
theorem dX6_days_28 : decode cX6_days 28 = .ok (.if_icmp .le 10, 3) := by decide +kernel
theorem dX6_days_31 : decode cX6_days 31 = .ok (.aload_n 0, 1) := by decide +kernel
theorem dX6_days_32 : decode cX6_days 32 = .ok (.ldc 126, 2) := by decide +kernel
theorem dX6_days_34 : decode cX6_days 34 = .ok (.invokevirtual 37, 3) := by decide +kernel
theorem dX6_days_37 : decode cX6_days 37 = .ok (.ireturn, 1) := by decide +kernel
theorem dX6_days_38 : decode cX6_days 38 = .ok (.aload_n 0, 1) := by decide +kernel
theorem dX6_days_39 : decode cX6_days 39 = .ok (.iload_n 1, 1) := by decide +kernel
theorem dX6_days_40 : decode cX6_days 40 = .ok (.invokevirtual 127, 3) := by decide +kernel
theorem dX6_days_43 : decode cX6_days 43 = .ok (.aload_n 0, 1) := by decide +kernel
theorem dX6_days_44 : decode cX6_days 44 = .ok (.getfield 9, 3) := by decide +kernel
theorem dX6_days_47 : decode cX6_days 47 = .ok (.iconst 1, 1) := by decide +kernel
theorem dX6_days_48 : decode cX6_days 48 = .ok (.iaload, 1) := by decide +kernel
theorem dX6_days_49 : decode cX6_days 49 = .ok (.ireturn, 1) := by decide +kernel
theorem dX6_thinks_0 : decode cX6_thinks 0 = .ok (.aload_n 0, 1) := by decide +kernel
theorem dX6_thinks_1 : decode cX6_thinks 1 = .ok (.getfield 9, 3) := by decide +kernel
theorem dX6_thinks_4 : decode cX6_thinks 4 = .ok (.aload_n 0, 1) := by decide +kernel
theorem dX6_thinks_5 : decode cX6_thinks 5 = .ok (.getfield 16, 3) := by decide +kernel
theorem dX6_thinks_8 : decode cX6_thinks 8 = .ok (.invokestatic 130, 3) := by decide +kernel
theorem dX6_thinks_11 : decode cX6_thinks 11 = .ok (.return_, 1) := by decide +kernel
theorem dX6_putsBack_0 : decode cX6_putsBack 0 = .ok (.aload_n 0, 1) := by decide +kernel
theorem dX6_putsBack_1 : decode cX6_putsBack 1 = .ok (.getfield 16, 3) := by decide +kernel
theorem dX6_putsBack_4 : decode cX6_putsBack 4 = .ok (.aload_n 0, 1) := by decide +kernel
theorem dX6_putsBack_5 : decode cX6_putsBack 5 = .ok (.getfield 9, 3) := by decide +kernel
theorem dX6_putsBack_8 : decode cX6_putsBack 8 = .ok (.invokestatic 130, 3) := by decide +kernel
theorem dX6_putsBack_11 : decode cX6_putsBack 11 = .ok (.return_, 1) := by decide +kernel
theorem dX6_on_0 : decode cX6_on 0 = .ok (.iload_n 1, 1) := by decide +kernel
theorem dX6_on_1 : decode cX6_on 1 = .ok (.i2l, 1) := by decide +kernel
theorem dX6_on_2 : decode cX6_on 2 = .ok (.iconst 0, 1) := by decide +kernel
theorem dX6_on_3 : decode cX6_on 3 = .ok (.sipush 400, 3) := by decide +kernel
theorem dX6_on_6 : decode cX6_on 6 = .ok (.invokestatic 41, 3) := by decide +kernel
theorem dX6_on_9 : decode cX6_on 9 = .ok (.ifCond .eq 13, 3) := by decide +kernel
theorem dX6_on_12 : decode cX6_on 12 = .ok (.iload_n 2, 1) := by decide +kernel
theorem dX6_on_13 : decode cX6_on 13 = .ok (.i2l, 1) := by decide +kernel
theorem dX6_on_14 : decode cX6_on 14 = .ok (.iconst 0, 1) := by decide +kernel
theorem dX6_on_15 : decode cX6_on 15 = .ok (.iconst 2, 1) := by decide +kernel
theorem dX6_on_16 : decode cX6_on 16 = .ok (.invokestatic 41, 3) := by decide +kernel
theorem dX6_on_19 : decode cX6_on 19 = .ok (.ifCond .ne 10, 3) := by decide +kernel
theorem dX6_on_22 : decode cX6_on 22 = .ok (.aload_n 0, 1) := by decide +kernel
theorem dX6_on_23 : decode cX6_on 23 = .ok (.ldc 35, 2) := by decide +kernel
theorem dX6_on_25 : decode cX6_on 25 = .ok (.invokevirtual 37, 3) := by decide +kernel
theorem dX6_on_28 : decode cX6_on 28 = .ok (.ireturn, 1) := by decide +kernel
theorem dX6_on_29 : decode cX6_on 29 = .ok (.aload_n 0, 1) := by decide +kernel
theorem dX6_on_30 : decode cX6_on 30 = .ok (.invokevirtual 134, 3) := by decide +kernel
theorem dX6_on_33 : decode cX6_on 33 = .ok (.aload_n 0, 1) := by decide +kernel
theorem dX6_on_34 : decode cX6_on 34 = .ok (.iload_n 1, 1) := by decide +kernel
theorem dX6_on_35 : decode cX6_on 35 = .ok (.invokevirtual 127, 3) := by decide +kernel
theorem dX6_on_38 : decode cX6_on 38 = .ok (.iload_n 2, 1) := by decide +kernel
theorem dX6_on_39 : decode cX6_on 39 = .ok (.ifCond .ne 12, 3) := by decide +kernel
theorem dX6_on_42 : decode cX6_on 42 = .ok (.aload_n 0, 1) := by decide +kernel
theorem dX6_on_43 : decode cX6_on 43 = .ok (.getfield 9, 3) := by decide +kernel
theorem dX6_on_46 : decode cX6_on 46 = .ok (.iconst 1, 1) := by decide +kernel
theorem dX6_on_47 : decode cX6_on 47 = .ok (.iaload, 1) := by decide +kernel
theorem dX6_on_48 : decode cX6_on 48 = .ok (.goto 19, 3) := by decide +kernel
theorem dX6_on_51 : decode cX6_on 51 = .ok (.iload_n 2, 1) := by decide +kernel
theorem dX6_on_52 : decode cX6_on 52 = .ok (.iconst 1, 1) := by decide +kernel
theorem dX6_on_53 : decode cX6_on 53 = .ok (.if_icmp .ne 10, 3) := by decide +kernel
theorem dX6_on_56 : decode cX6_on 56 = .ok (.aload_n 0, 1) := by decide +kernel
theorem dX6_on_57 : decode cX6_on 57 = .ok (.invokevirtual 80, 3) := by decide +kernel
theorem dX6_on_60 : decode cX6_on 60 = .ok (.goto 7, 3) := by decide +kernel
theorem dX6_on_63 : decode cX6_on 63 = .ok (.aload_n 0, 1) := by decide +kernel
theorem dX6_on_64 : decode cX6_on 64 = .ok (.invokevirtual 77, 3) := by decide +kernel
theorem dX6_on_67 : decode cX6_on 67 = .ok (.istore_n 3, 1) := by decide +kernel
theorem dX6_on_68 : decode cX6_on 68 = .ok (.aload_n 0, 1) := by decide +kernel
theorem dX6_on_69 : decode cX6_on 69 = .ok (.invokevirtual 137, 3) := by decide +kernel
theorem dX6_on_72 : decode cX6_on 72 = .ok (.iload_n 3, 1) := by decide +kernel
theorem dX6_on_73 : decode cX6_on 73 = .ok (.ireturn, 1) := by decide +kernel
theorem dX6_then_0 : decode cX6_then 0 = .ok (.aload_n 0, 1) := by decide +kernel
theorem dX6_then_1 : decode cX6_then 1 = .ok (.iload_n 1, 1) := by decide +kernel
theorem dX6_then_2 : decode cX6_then 2 = .ok (.invokevirtual 95, 3) := by decide +kernel
theorem dX6_then_5 : decode cX6_then 5 = .ok (.ifCond .eq 25, 3) := by decide +kernel
theorem dX6_then_8 : decode cX6_then 8 = .ok (.iload_n 2, 1) := by decide +kernel
theorem dX6_then_9 : decode cX6_then 9 = .ok (.i2l, 1) := by decide +kernel
theorem dX6_then_10 : decode cX6_then 10 = .ok (.iconst 0, 1) := by decide +kernel
theorem dX6_then_11 : decode cX6_then 11 = .ok (.sipush 400, 3) := by decide +kernel
theorem dX6_then_14 : decode cX6_then 14 = .ok (.invokestatic 41, 3) := by decide +kernel
theorem dX6_then_17 : decode cX6_then 17 = .ok (.ifCond .eq 13, 3) := by decide +kernel
theorem dX6_then_20 : decode cX6_then 20 = .ok (.iload_n 3, 1) := by decide +kernel
theorem dX6_then_21 : decode cX6_then 21 = .ok (.i2l, 1) := by decide +kernel
theorem dX6_then_22 : decode cX6_then 22 = .ok (.iconst 0, 1) := by decide +kernel
theorem dX6_then_23 : decode cX6_then 23 = .ok (.iconst 2, 1) := by decide +kernel
theorem dX6_then_24 : decode cX6_then 24 = .ok (.invokestatic 41, 3) := by decide +kernel
theorem dX6_then_27 : decode cX6_then 27 = .ok (.ifCond .ne 10, 3) := by decide +kernel
theorem dX6_then_30 : decode cX6_then 30 = .ok (.aload_n 0, 1) := by decide +kernel
theorem dX6_then_31 : decode cX6_then 31 = .ok (.ldc 35, 2) := by decide +kernel
theorem dX6_then_33 : decode cX6_then 33 = .ok (.invokevirtual 37, 3) := by decide +kernel
theorem dX6_then_36 : decode cX6_then 36 = .ok (.ireturn, 1) := by decide +kernel
theorem dX6_then_37 : decode cX6_then 37 = .ok (.aload_n 0, 1) := by decide +kernel
theorem dX6_then_38 : decode cX6_then 38 = .ok (.invokevirtual 134, 3) := by decide +kernel
theorem dX6_then_41 : decode cX6_then 41 = .ok (.aload_n 0, 1) := by decide +kernel
theorem dX6_then_42 : decode cX6_then 42 = .ok (.iload_n 2, 1) := by decide +kernel
theorem dX6_then_43 : decode cX6_then 43 = .ok (.invokevirtual 127, 3) := by decide +kernel
theorem dX6_then_46 : decode cX6_then 46 = .ok (.aload_n 0, 1) := by decide +kernel
theorem dX6_then_47 : decode cX6_then 47 = .ok (.iload_n 1, 1) := by decide +kernel
theorem dX6_then_48 : decode cX6_then 48 = .ok (.iconst 2, 1) := by decide +kernel
theorem dX6_then_49 : decode cX6_then 49 = .ok (.iload_n 3, 1) := by decide +kernel
theorem dX6_then_50 : decode cX6_then 50 = .ok (.iadd, 1) := by decide +kernel
theorem dX6_then_51 : decode cX6_then 51 = .ok (.invokevirtual 49, 3) := by decide +kernel
theorem dX6_then_54 : decode cX6_then 54 = .ok (.istore 4, 2) := by decide +kernel
theorem dX6_then_56 : decode cX6_then 56 = .ok (.aload_n 0, 1) := by decide +kernel
theorem dX6_then_57 : decode cX6_then 57 = .ok (.invokevirtual 137, 3) := by decide +kernel
theorem dX6_then_60 : decode cX6_then 60 = .ok (.iload 4, 2) := by decide +kernel
theorem dX6_then_62 : decode cX6_then 62 = .ok (.ireturn, 1) := by decide +kernel
theorem dX6_falls_0 : decode cX6_falls 0 = .ok (.iload_n 1, 1) := by decide +kernel
theorem dX6_falls_1 : decode cX6_falls 1 = .ok (.i2l, 1) := by decide +kernel
theorem dX6_falls_2 : decode cX6_falls 2 = .ok (.iconst 0, 1) := by decide +kernel
theorem dX6_falls_3 : decode cX6_falls 3 = .ok (.sipush 9999, 3) := by decide +kernel
theorem dX6_falls_6 : decode cX6_falls 6 = .ok (.invokestatic 41, 3) := by decide +kernel
theorem dX6_falls_9 : decode cX6_falls 9 = .ok (.ifCond .ne 10, 3) := by decide +kernel
theorem dX6_falls_12 : decode cX6_falls 12 = .ok (.aload_n 0, 1) := by decide +kernel
theorem dX6_falls_13 : decode cX6_falls 13 = .ok (.ldc 35, 2) := by decide +kernel
theorem dX6_falls_15 : decode cX6_falls 15 = .ok (.invokevirtual 37, 3) := by decide +kernel
theorem dX6_falls_18 : decode cX6_falls 18 = .ok (.ireturn, 1) := by decide +kernel
theorem dX6_falls_19 : decode cX6_falls 19 = .ok (.aload_n 0, 1) := by decide +kernel
theorem dX6_falls_20 : decode cX6_falls 20 = .ok (.invokevirtual 134, 3) := by decide +kernel
theorem dX6_falls_23 : decode cX6_falls 23 = .ok (.iconst 0, 1) := by decide +kernel
theorem dX6_falls_24 : decode cX6_falls 24 = .ok (.istore_n 2, 1) := by decide +kernel
theorem dX6_falls_25 : decode cX6_falls 25 = .ok (.iload_n 2, 1) := by decide +kernel
theorem dX6_falls_26 : decode cX6_falls 26 = .ok (.sipush 400, 3) := by decide +kernel
theorem dX6_falls_29 : decode cX6_falls 29 = .ok (.if_icmp .gt 23, 3) := by decide +kernel
theorem dX6_falls_32 : decode cX6_falls 32 = .ok (.aload_n 0, 1) := by decide +kernel
theorem dX6_falls_33 : decode cX6_falls 33 = .ok (.getfield 9, 3) := by decide +kernel
theorem dX6_falls_36 : decode cX6_falls 36 = .ok (.iconst 1, 1) := by decide +kernel
theorem dX6_falls_37 : decode cX6_falls 37 = .ok (.iaload, 1) := by decide +kernel
theorem dX6_falls_38 : decode cX6_falls 38 = .ok (.iload_n 1, 1) := by decide +kernel
theorem dX6_falls_39 : decode cX6_falls 39 = .ok (.if_icmp .le 13, 3) := by decide +kernel
theorem dX6_falls_42 : decode cX6_falls 42 = .ok (.aload_n 0, 1) := by decide +kernel
theorem dX6_falls_43 : decode cX6_falls 43 = .ok (.invokevirtual 122, 3) := by decide +kernel
theorem dX6_falls_46 : decode cX6_falls 46 = .ok (.iinc 2 1, 3) := by decide +kernel
theorem dX6_falls_49 : decode cX6_falls 49 = .ok (.goto (-24), 3) := by decide +kernel
theorem dX6_falls_52 : decode cX6_falls 52 = .ok (.aload_n 0, 1) := by decide +kernel
theorem dX6_falls_53 : decode cX6_falls 53 = .ok (.invokevirtual 137, 3) := by decide +kernel
theorem dX6_falls_56 : decode cX6_falls 56 = .ok (.iload_n 2, 1) := by decide +kernel
theorem dX6_falls_57 : decode cX6_falls 57 = .ok (.sipush 400, 3) := by decide +kernel
theorem dX6_falls_60 : decode cX6_falls 60 = .ok (.if_icmp .le 12, 3) := by decide +kernel
theorem dX6_falls_63 : decode cX6_falls 63 = .ok (.aload_n 0, 1) := by decide +kernel
theorem dX6_falls_64 : decode cX6_falls 64 = .ok (.ldc 36, 2) := by decide +kernel
theorem dX6_falls_66 : decode cX6_falls 66 = .ok (.invokevirtual 37, 3) := by decide +kernel
theorem dX6_falls_69 : decode cX6_falls 69 = .ok (.goto 4, 3) := by decide +kernel
theorem dX6_falls_72 : decode cX6_falls 72 = .ok (.iload_n 2, 1) := by decide +kernel
theorem dX6_falls_73 : decode cX6_falls 73 = .ok (.ireturn, 1) := by decide +kernel
theorem dX6_offIn_0 : decode cX6_offIn 0 = .ok (.iconst 0, 1) := by decide +kernel
theorem dX6_offIn_1 : decode cX6_offIn 1 = .ok (.istore_n 2, 1) := by decide +kernel
theorem dX6_offIn_2 : decode cX6_offIn 2 = .ok (.iload_n 2, 1) := by decide +kernel
theorem dX6_offIn_3 : decode cX6_offIn 3 = .ok (.sipush 400, 3) := by decide +kernel
theorem dX6_offIn_6 : decode cX6_offIn 6 = .ok (.if_icmp .gt 21, 3) := by decide +kernel
theorem dX6_offIn_9 : decode cX6_offIn 9 = .ok (.aload_n 0, 1) := by decide +kernel
theorem dX6_offIn_10 : decode cX6_offIn 10 = .ok (.iload_n 1, 1) := by decide +kernel
theorem dX6_offIn_11 : decode cX6_offIn 11 = .ok (.invokevirtual 57, 3) := by decide +kernel
theorem dX6_offIn_14 : decode cX6_offIn 14 = .ok (.ifCond .ne 13, 3) := by decide +kernel
theorem dX6_offIn_17 : decode cX6_offIn 17 = .ok (.aload_n 0, 1) := by decide +kernel
theorem dX6_offIn_18 : decode cX6_offIn 18 = .ok (.invokevirtual 122, 3) := by decide +kernel
theorem dX6_offIn_21 : decode cX6_offIn 21 = .ok (.iinc 2 1, 3) := by decide +kernel
theorem dX6_offIn_24 : decode cX6_offIn 24 = .ok (.goto (-22), 3) := by decide +kernel
theorem dX6_offIn_27 : decode cX6_offIn 27 = .ok (.aload_n 0, 1) := by decide +kernel
theorem dX6_offIn_28 : decode cX6_offIn 28 = .ok (.invokevirtual 137, 3) := by decide +kernel
theorem dX6_offIn_31 : decode cX6_offIn 31 = .ok (.iload_n 2, 1) := by decide +kernel
theorem dX6_offIn_32 : decode cX6_offIn 32 = .ok (.ireturn, 1) := by decide +kernel
theorem dX6_off_0 : decode cX6_off 0 = .ok (.aload_n 0, 1) := by decide +kernel
theorem dX6_off_1 : decode cX6_off 1 = .ok (.iload_n 1, 1) := by decide +kernel
theorem dX6_off_2 : decode cX6_off 2 = .ok (.invokevirtual 95, 3) := by decide +kernel
theorem dX6_off_5 : decode cX6_off 5 = .ok (.ifCond .ne 10, 3) := by decide +kernel
theorem dX6_off_8 : decode cX6_off 8 = .ok (.aload_n 0, 1) := by decide +kernel
theorem dX6_off_9 : decode cX6_off 9 = .ok (.ldc 35, 2) := by decide +kernel
theorem dX6_off_11 : decode cX6_off 11 = .ok (.invokevirtual 37, 3) := by decide +kernel
theorem dX6_off_14 : decode cX6_off 14 = .ok (.ireturn, 1) := by decide +kernel
theorem dX6_off_15 : decode cX6_off 15 = .ok (.aload_n 0, 1) := by decide +kernel
theorem dX6_off_16 : decode cX6_off 16 = .ok (.invokevirtual 134, 3) := by decide +kernel
theorem dX6_off_19 : decode cX6_off 19 = .ok (.aload_n 0, 1) := by decide +kernel
theorem dX6_off_20 : decode cX6_off 20 = .ok (.iload_n 1, 1) := by decide +kernel
theorem dX6_off_21 : decode cX6_off 21 = .ok (.invokevirtual 140, 3) := by decide +kernel
theorem dX6_off_24 : decode cX6_off 24 = .ok (.istore_n 2, 1) := by decide +kernel
theorem dX6_off_25 : decode cX6_off 25 = .ok (.iload_n 2, 1) := by decide +kernel
theorem dX6_off_26 : decode cX6_off 26 = .ok (.sipush 400, 3) := by decide +kernel
theorem dX6_off_29 : decode cX6_off 29 = .ok (.if_icmp .le 12, 3) := by decide +kernel
theorem dX6_off_32 : decode cX6_off 32 = .ok (.aload_n 0, 1) := by decide +kernel
theorem dX6_off_33 : decode cX6_off 33 = .ok (.ldc 36, 2) := by decide +kernel
theorem dX6_off_35 : decode cX6_off 35 = .ok (.invokevirtual 37, 3) := by decide +kernel
theorem dX6_off_38 : decode cX6_off 38 = .ok (.goto 4, 3) := by decide +kernel
theorem dX6_off_41 : decode cX6_off 41 = .ok (.iload_n 2, 1) := by decide +kernel
theorem dX6_off_42 : decode cX6_off 42 = .ok (.ireturn, 1) := by decide +kernel
theorem dX6_quiet_0 : decode cX6_quiet 0 = .ok (.aload_n 0, 1) := by decide +kernel
theorem dX6_quiet_1 : decode cX6_quiet 1 = .ok (.invokevirtual 134, 3) := by decide +kernel
theorem dX6_quiet_4 : decode cX6_quiet 4 = .ok (.iconst 0, 1) := by decide +kernel
theorem dX6_quiet_5 : decode cX6_quiet 5 = .ok (.istore_n 1, 1) := by decide +kernel
theorem dX6_quiet_6 : decode cX6_quiet 6 = .ok (.iload_n 1, 1) := by decide +kernel
theorem dX6_quiet_7 : decode cX6_quiet 7 = .ok (.sipush 400, 3) := by decide +kernel
theorem dX6_quiet_10 : decode cX6_quiet 10 = .ok (.if_icmp .gt 20, 3) := by decide +kernel
theorem dX6_quiet_13 : decode cX6_quiet 13 = .ok (.aload_n 0, 1) := by decide +kernel
theorem dX6_quiet_14 : decode cX6_quiet 14 = .ok (.invokevirtual 80, 3) := by decide +kernel
theorem dX6_quiet_17 : decode cX6_quiet 17 = .ok (.ifCond .le 13, 3) := by decide +kernel
theorem dX6_quiet_20 : decode cX6_quiet 20 = .ok (.aload_n 0, 1) := by decide +kernel
theorem dX6_quiet_21 : decode cX6_quiet 21 = .ok (.invokevirtual 122, 3) := by decide +kernel
theorem dX6_quiet_24 : decode cX6_quiet 24 = .ok (.iinc 1 1, 3) := by decide +kernel
theorem dX6_quiet_27 : decode cX6_quiet 27 = .ok (.goto (-21), 3) := by decide +kernel
theorem dX6_quiet_30 : decode cX6_quiet 30 = .ok (.aload_n 0, 1) := by decide +kernel
theorem dX6_quiet_31 : decode cX6_quiet 31 = .ok (.invokevirtual 137, 3) := by decide +kernel
theorem dX6_quiet_34 : decode cX6_quiet 34 = .ok (.iload_n 1, 1) := by decide +kernel
theorem dX6_quiet_35 : decode cX6_quiet 35 = .ok (.sipush 400, 3) := by decide +kernel
theorem dX6_quiet_38 : decode cX6_quiet 38 = .ok (.if_icmp .le 12, 3) := by decide +kernel
theorem dX6_quiet_41 : decode cX6_quiet 41 = .ok (.aload_n 0, 1) := by decide +kernel
theorem dX6_quiet_42 : decode cX6_quiet 42 = .ok (.ldc 36, 2) := by decide +kernel
theorem dX6_quiet_44 : decode cX6_quiet 44 = .ok (.invokevirtual 37, 3) := by decide +kernel
theorem dX6_quiet_47 : decode cX6_quiet 47 = .ok (.goto 4, 3) := by decide +kernel
theorem dX6_quiet_50 : decode cX6_quiet 50 = .ok (.iload_n 1, 1) := by decide +kernel
theorem dX6_quiet_51 : decode cX6_quiet 51 = .ok (.ireturn, 1) := by decide +kernel
theorem dX6_allStooped_0 : decode cX6_allStooped 0 = .ok (.iconst 0, 1) := by decide +kernel
theorem dX6_allStooped_1 : decode cX6_allStooped 1 = .ok (.istore_n 1, 1) := by decide +kernel
theorem dX6_allStooped_2 : decode cX6_allStooped 2 = .ok (.iconst 0, 1) := by decide +kernel
theorem dX6_allStooped_3 : decode cX6_allStooped 3 = .ok (.istore_n 2, 1) := by decide +kernel
theorem dX6_allStooped_4 : decode cX6_allStooped 4 = .ok (.iload_n 2, 1) := by decide +kernel
theorem dX6_allStooped_5 : decode cX6_allStooped 5 = .ok (.aload_n 0, 1) := by decide +kernel
theorem dX6_allStooped_6 : decode cX6_allStooped 6 = .ok (.getfield 9, 3) := by decide +kernel
theorem dX6_allStooped_9 : decode cX6_allStooped 9 = .ok (.iconst 4, 1) := by decide +kernel
theorem dX6_allStooped_10 : decode cX6_allStooped 10 = .ok (.iaload, 1) := by decide +kernel
theorem dX6_allStooped_11 : decode cX6_allStooped 11 = .ok (.if_icmp .ge 18, 3) := by decide +kernel
theorem dX6_allStooped_14 : decode cX6_allStooped 14 = .ok (.iload_n 1, 1) := by decide +kernel
theorem dX6_allStooped_15 : decode cX6_allStooped 15 = .ok (.aload_n 0, 1) := by decide +kernel
theorem dX6_allStooped_16 : decode cX6_allStooped 16 = .ok (.iload_n 2, 1) := by decide +kernel
theorem dX6_allStooped_17 : decode cX6_allStooped 17 = .ok (.iconst 4, 1) := by decide +kernel
theorem dX6_allStooped_18 : decode cX6_allStooped 18 = .ok (.invokevirtual 49, 3) := by decide +kernel
theorem dX6_allStooped_21 : decode cX6_allStooped 21 = .ok (.iadd, 1) := by decide +kernel
theorem dX6_allStooped_22 : decode cX6_allStooped 22 = .ok (.istore_n 1, 1) := by decide +kernel
theorem dX6_allStooped_23 : decode cX6_allStooped 23 = .ok (.iinc 2 1, 3) := by decide +kernel
theorem dX6_allStooped_26 : decode cX6_allStooped 26 = .ok (.goto (-22), 3) := by decide +kernel
theorem dX6_allStooped_29 : decode cX6_allStooped 29 = .ok (.iload_n 1, 1) := by decide +kernel
theorem dX6_allStooped_30 : decode cX6_allStooped 30 = .ok (.ireturn, 1) := by decide +kernel
theorem dX6_stoopedOn_0 : decode cX6_stoopedOn 0 = .ok (.aload_n 0, 1) := by decide +kernel
theorem dX6_stoopedOn_1 : decode cX6_stoopedOn 1 = .ok (.iload_n 1, 1) := by decide +kernel
theorem dX6_stoopedOn_2 : decode cX6_stoopedOn 2 = .ok (.invokevirtual 127, 3) := by decide +kernel
theorem dX6_stoopedOn_5 : decode cX6_stoopedOn 5 = .ok (.aload_n 0, 1) := by decide +kernel
theorem dX6_stoopedOn_6 : decode cX6_stoopedOn 6 = .ok (.invokevirtual 143, 3) := by decide +kernel
theorem dX6_stoopedOn_9 : decode cX6_stoopedOn 9 = .ok (.istore_n 2, 1) := by decide +kernel
theorem dX6_stoopedOn_10 : decode cX6_stoopedOn 10 = .ok (.aload_n 0, 1) := by decide +kernel
theorem dX6_stoopedOn_11 : decode cX6_stoopedOn 11 = .ok (.invokevirtual 137, 3) := by decide +kernel
theorem dX6_stoopedOn_14 : decode cX6_stoopedOn 14 = .ok (.iload_n 2, 1) := by decide +kernel
theorem dX6_stoopedOn_15 : decode cX6_stoopedOn 15 = .ok (.ireturn, 1) := by decide +kernel
theorem dX6_staysUp_0 : decode cX6_staysUp 0 = .ok (.aload_n 0, 1) := by decide +kernel
theorem dX6_staysUp_1 : decode cX6_staysUp 1 = .ok (.iload_n 1, 1) := by decide +kernel
theorem dX6_staysUp_2 : decode cX6_staysUp 2 = .ok (.iconst 4, 1) := by decide +kernel
theorem dX6_staysUp_3 : decode cX6_staysUp 3 = .ok (.invokevirtual 49, 3) := by decide +kernel
theorem dX6_staysUp_6 : decode cX6_staysUp 6 = .ok (.istore_n 3, 1) := by decide +kernel
theorem dX6_staysUp_7 : decode cX6_staysUp 7 = .ok (.aload_n 0, 1) := by decide +kernel
theorem dX6_staysUp_8 : decode cX6_staysUp 8 = .ok (.iload_n 2, 1) := by decide +kernel
theorem dX6_staysUp_9 : decode cX6_staysUp 9 = .ok (.invokevirtual 127, 3) := by decide +kernel
theorem dX6_staysUp_12 : decode cX6_staysUp 12 = .ok (.aload_n 0, 1) := by decide +kernel
theorem dX6_staysUp_13 : decode cX6_staysUp 13 = .ok (.iload_n 1, 1) := by decide +kernel
theorem dX6_staysUp_14 : decode cX6_staysUp 14 = .ok (.iconst 4, 1) := by decide +kernel
theorem dX6_staysUp_15 : decode cX6_staysUp 15 = .ok (.invokevirtual 49, 3) := by decide +kernel
theorem dX6_staysUp_18 : decode cX6_staysUp 18 = .ok (.iload_n 3, 1) := by decide +kernel
theorem dX6_staysUp_19 : decode cX6_staysUp 19 = .ok (.if_icmp .ne 7, 3) := by decide +kernel
theorem dX6_staysUp_22 : decode cX6_staysUp 22 = .ok (.iconst 1, 1) := by decide +kernel
theorem dX6_staysUp_23 : decode cX6_staysUp 23 = .ok (.goto 4, 3) := by decide +kernel
theorem dX6_staysUp_26 : decode cX6_staysUp 26 = .ok (.iconst 0, 1) := by decide +kernel
theorem dX6_staysUp_27 : decode cX6_staysUp 27 = .ok (.istore 4, 2) := by decide +kernel
theorem dX6_staysUp_29 : decode cX6_staysUp 29 = .ok (.aload_n 0, 1) := by decide +kernel
theorem dX6_staysUp_30 : decode cX6_staysUp 30 = .ok (.invokevirtual 137, 3) := by decide +kernel
theorem dX6_staysUp_33 : decode cX6_staysUp 33 = .ok (.iload 4, 2) := by decide +kernel
theorem dX6_staysUp_35 : decode cX6_staysUp 35 = .ok (.ireturn, 1) := by decide +kernel
theorem dX6_best_0 : decode cX6_best 0 = .ok (.iload_n 1, 1) := by decide +kernel
theorem dX6_best_1 : decode cX6_best 1 = .ok (.i2l, 1) := by decide +kernel
theorem dX6_best_2 : decode cX6_best 2 = .ok (.iconst 1, 1) := by decide +kernel
theorem dX6_best_3 : decode cX6_best 3 = .ok (.bipush 100, 2) := by decide +kernel
theorem dX6_best_5 : decode cX6_best 5 = .ok (.invokestatic 41, 3) := by decide +kernel
theorem dX6_best_8 : decode cX6_best 8 = .ok (.ifCond .ne 10, 3) := by decide +kernel
theorem dX6_best_11 : decode cX6_best 11 = .ok (.aload_n 0, 1) := by decide +kernel
theorem dX6_best_12 : decode cX6_best 12 = .ok (.ldc 35, 2) := by decide +kernel
theorem dX6_best_14 : decode cX6_best 14 = .ok (.invokevirtual 37, 3) := by decide +kernel
theorem dX6_best_17 : decode cX6_best 17 = .ok (.ireturn, 1) := by decide +kernel
theorem dX6_best_18 : decode cX6_best 18 = .ok (.aload_n 0, 1) := by decide +kernel
theorem dX6_best_19 : decode cX6_best 19 = .ok (.invokevirtual 134, 3) := by decide +kernel
theorem dX6_best_22 : decode cX6_best 22 = .ok (.iconst (-1), 1) := by decide +kernel
theorem dX6_best_23 : decode cX6_best 23 = .ok (.istore_n 2, 1) := by decide +kernel
theorem dX6_best_24 : decode cX6_best 24 = .ok (.iconst (-1), 1) := by decide +kernel
theorem dX6_best_25 : decode cX6_best 25 = .ok (.istore_n 3, 1) := by decide +kernel
theorem dX6_best_26 : decode cX6_best 26 = .ok (.iconst 0, 1) := by decide +kernel
theorem dX6_best_27 : decode cX6_best 27 = .ok (.istore 4, 2) := by decide +kernel
theorem dX6_best_29 : decode cX6_best 29 = .ok (.iload 4, 2) := by decide +kernel
theorem dX6_best_31 : decode cX6_best 31 = .ok (.aload_n 0, 1) := by decide +kernel
theorem dX6_best_32 : decode cX6_best 32 = .ok (.getfield 9, 3) := by decide +kernel
theorem dX6_best_35 : decode cX6_best 35 = .ok (.iconst 4, 1) := by decide +kernel
theorem dX6_best_36 : decode cX6_best 36 = .ok (.iaload, 1) := by decide +kernel
theorem dX6_best_37 : decode cX6_best 37 = .ok (.if_icmp .ge 69, 3) := by decide +kernel
theorem dX6_best_40 : decode cX6_best 40 = .ok (.aload_n 0, 1) := by decide +kernel
theorem dX6_best_41 : decode cX6_best 41 = .ok (.iload 4, 2) := by decide +kernel
theorem dX6_best_43 : decode cX6_best 43 = .ok (.invokevirtual 57, 3) := by decide +kernel
theorem dX6_best_46 : decode cX6_best 46 = .ok (.ifCond .ne 54, 3) := by decide +kernel
theorem dX6_best_49 : decode cX6_best 49 = .ok (.aload_n 0, 1) := by decide +kernel
theorem dX6_best_50 : decode cX6_best 50 = .ok (.iload 4, 2) := by decide +kernel
theorem dX6_best_52 : decode cX6_best 52 = .ok (.iconst 2, 1) := by decide +kernel
theorem dX6_best_53 : decode cX6_best 53 = .ok (.iconst 1, 1) := by decide +kernel
theorem dX6_best_54 : decode cX6_best 54 = .ok (.invokevirtual 86, 3) := by decide +kernel
theorem dX6_best_57 : decode cX6_best 57 = .ok (.aload_n 0, 1) := by decide +kernel
theorem dX6_best_58 : decode cX6_best 58 = .ok (.iload_n 1, 1) := by decide +kernel
theorem dX6_best_59 : decode cX6_best 59 = .ok (.invokevirtual 127, 3) := by decide +kernel
theorem dX6_best_62 : decode cX6_best 62 = .ok (.aload_n 0, 1) := by decide +kernel
theorem dX6_best_63 : decode cX6_best 63 = .ok (.getfield 9, 3) := by decide +kernel
theorem dX6_best_66 : decode cX6_best 66 = .ok (.iconst 1, 1) := by decide +kernel
theorem dX6_best_67 : decode cX6_best 67 = .ok (.iaload, 1) := by decide +kernel
theorem dX6_best_68 : decode cX6_best 68 = .ok (.istore 5, 2) := by decide +kernel
theorem dX6_best_70 : decode cX6_best 70 = .ok (.aload_n 0, 1) := by decide +kernel
theorem dX6_best_71 : decode cX6_best 71 = .ok (.invokevirtual 137, 3) := by decide +kernel
theorem dX6_best_74 : decode cX6_best 74 = .ok (.iload 5, 2) := by decide +kernel
theorem dX6_best_76 : decode cX6_best 76 = .ok (.iload_n 3, 1) := by decide +kernel
theorem dX6_best_77 : decode cX6_best 77 = .ok (.if_icmp .le 8, 3) := by decide +kernel
theorem dX6_best_80 : decode cX6_best 80 = .ok (.iload 4, 2) := by decide +kernel
theorem dX6_best_82 : decode cX6_best 82 = .ok (.goto 4, 3) := by decide +kernel
theorem dX6_best_85 : decode cX6_best 85 = .ok (.iload_n 2, 1) := by decide +kernel
theorem dX6_best_86 : decode cX6_best 86 = .ok (.istore_n 2, 1) := by decide +kernel
theorem dX6_best_87 : decode cX6_best 87 = .ok (.iload 5, 2) := by decide +kernel
theorem dX6_best_89 : decode cX6_best 89 = .ok (.iload_n 3, 1) := by decide +kernel
theorem dX6_best_90 : decode cX6_best 90 = .ok (.if_icmp .le 8, 3) := by decide +kernel
theorem dX6_best_93 : decode cX6_best 93 = .ok (.iload 5, 2) := by decide +kernel
theorem dX6_best_95 : decode cX6_best 95 = .ok (.goto 4, 3) := by decide +kernel
theorem dX6_best_98 : decode cX6_best 98 = .ok (.iload_n 3, 1) := by decide +kernel
theorem dX6_best_99 : decode cX6_best 99 = .ok (.istore_n 3, 1) := by decide +kernel
theorem dX6_best_100 : decode cX6_best 100 = .ok (.iinc 4 1, 3) := by decide +kernel
theorem dX6_best_103 : decode cX6_best 103 = .ok (.goto (-74), 3) := by decide +kernel
theorem dX6_best_106 : decode cX6_best 106 = .ok (.aload_n 0, 1) := by decide +kernel
theorem dX6_best_107 : decode cX6_best 107 = .ok (.iload_n 2, 1) := by decide +kernel
theorem dX6_best_108 : decode cX6_best 108 = .ok (.invokevirtual 109, 3) := by decide +kernel
theorem dX6_best_111 : decode cX6_best 111 = .ok (.ireturn, 1) := by decide +kernel
theorem dX6_high_0 : decode cX6_high 0 = .ok (.aload_n 0, 1) := by decide +kernel
theorem dX6_high_1 : decode cX6_high 1 = .ok (.iload_n 1, 1) := by decide +kernel
theorem dX6_high_2 : decode cX6_high 2 = .ok (.invokevirtual 95, 3) := by decide +kernel
theorem dX6_high_5 : decode cX6_high 5 = .ok (.ifCond .eq 14, 3) := by decide +kernel
theorem dX6_high_8 : decode cX6_high 8 = .ok (.iload_n 2, 1) := by decide +kernel
theorem dX6_high_9 : decode cX6_high 9 = .ok (.i2l, 1) := by decide +kernel
theorem dX6_high_10 : decode cX6_high 10 = .ok (.iconst 1, 1) := by decide +kernel
theorem dX6_high_11 : decode cX6_high 11 = .ok (.bipush 100, 2) := by decide +kernel
theorem dX6_high_13 : decode cX6_high 13 = .ok (.invokestatic 41, 3) := by decide +kernel
theorem dX6_high_16 : decode cX6_high 16 = .ok (.ifCond .ne 10, 3) := by decide +kernel
theorem dX6_high_19 : decode cX6_high 19 = .ok (.aload_n 0, 1) := by decide +kernel
theorem dX6_high_20 : decode cX6_high 20 = .ok (.ldc 35, 2) := by decide +kernel
theorem dX6_high_22 : decode cX6_high 22 = .ok (.invokevirtual 37, 3) := by decide +kernel
theorem dX6_high_25 : decode cX6_high 25 = .ok (.ireturn, 1) := by decide +kernel
theorem dX6_high_26 : decode cX6_high 26 = .ok (.aload_n 0, 1) := by decide +kernel
theorem dX6_high_27 : decode cX6_high 27 = .ok (.invokevirtual 134, 3) := by decide +kernel
theorem dX6_high_30 : decode cX6_high 30 = .ok (.iconst (-1), 1) := by decide +kernel
theorem dX6_high_31 : decode cX6_high 31 = .ok (.istore_n 3, 1) := by decide +kernel
theorem dX6_high_32 : decode cX6_high 32 = .ok (.bipush 40, 2) := by decide +kernel
theorem dX6_high_34 : decode cX6_high 34 = .ok (.istore 4, 2) := by decide +kernel
theorem dX6_high_36 : decode cX6_high 36 = .ok (.iload 4, 2) := by decide +kernel
theorem dX6_high_38 : decode cX6_high 38 = .ok (.ifCond .le 37, 3) := by decide +kernel
theorem dX6_high_41 : decode cX6_high 41 = .ok (.iload_n 3, 1) := by decide +kernel
theorem dX6_high_42 : decode cX6_high 42 = .ok (.ifCond .ge 33, 3) := by decide +kernel
theorem dX6_high_45 : decode cX6_high 45 = .ok (.aload_n 0, 1) := by decide +kernel
theorem dX6_high_46 : decode cX6_high 46 = .ok (.iload_n 1, 1) := by decide +kernel
theorem dX6_high_47 : decode cX6_high 47 = .ok (.iconst 1, 1) := by decide +kernel
theorem dX6_high_48 : decode cX6_high 48 = .ok (.iload 4, 2) := by decide +kernel
theorem dX6_high_50 : decode cX6_high 50 = .ok (.invokevirtual 86, 3) := by decide +kernel
theorem dX6_high_53 : decode cX6_high 53 = .ok (.aload_n 0, 1) := by decide +kernel
theorem dX6_high_54 : decode cX6_high 54 = .ok (.iload_n 1, 1) := by decide +kernel
theorem dX6_high_55 : decode cX6_high 55 = .ok (.iload_n 2, 1) := by decide +kernel
theorem dX6_high_56 : decode cX6_high 56 = .ok (.invokevirtual 146, 3) := by decide +kernel
theorem dX6_high_59 : decode cX6_high 59 = .ok (.ifCond .eq 8, 3) := by decide +kernel
theorem dX6_high_62 : decode cX6_high 62 = .ok (.iload 4, 2) := by decide +kernel
theorem dX6_high_64 : decode cX6_high 64 = .ok (.goto 4, 3) := by decide +kernel
theorem dX6_high_67 : decode cX6_high 67 = .ok (.iconst (-1), 1) := by decide +kernel
theorem dX6_high_68 : decode cX6_high 68 = .ok (.istore_n 3, 1) := by decide +kernel
theorem dX6_high_69 : decode cX6_high 69 = .ok (.iinc 4 (-1), 3) := by decide +kernel
theorem dX6_high_72 : decode cX6_high 72 = .ok (.goto (-36), 3) := by decide +kernel
theorem dX6_high_75 : decode cX6_high 75 = .ok (.aload_n 0, 1) := by decide +kernel
theorem dX6_high_76 : decode cX6_high 76 = .ok (.iload_n 3, 1) := by decide +kernel
theorem dX6_high_77 : decode cX6_high 77 = .ok (.invokevirtual 109, 3) := by decide +kernel
theorem dX6_high_80 : decode cX6_high 80 = .ok (.ireturn, 1) := by decide +kernel
theorem dX6_loved_0 : decode cX6_loved 0 = .ok (.aload_n 0, 1) := by decide +kernel
theorem dX6_loved_1 : decode cX6_loved 1 = .ok (.iload_n 1, 1) := by decide +kernel
theorem dX6_loved_2 : decode cX6_loved 2 = .ok (.invokevirtual 95, 3) := by decide +kernel
theorem dX6_loved_5 : decode cX6_loved 5 = .ok (.ifCond .eq 14, 3) := by decide +kernel
theorem dX6_loved_8 : decode cX6_loved 8 = .ok (.iload_n 2, 1) := by decide +kernel
theorem dX6_loved_9 : decode cX6_loved 9 = .ok (.i2l, 1) := by decide +kernel
theorem dX6_loved_10 : decode cX6_loved 10 = .ok (.iconst 1, 1) := by decide +kernel
theorem dX6_loved_11 : decode cX6_loved 11 = .ok (.bipush 100, 2) := by decide +kernel
theorem dX6_loved_13 : decode cX6_loved 13 = .ok (.invokestatic 41, 3) := by decide +kernel
theorem dX6_loved_16 : decode cX6_loved 16 = .ok (.ifCond .ne 10, 3) := by decide +kernel
theorem dX6_loved_19 : decode cX6_loved 19 = .ok (.aload_n 0, 1) := by decide +kernel
theorem dX6_loved_20 : decode cX6_loved 20 = .ok (.ldc 35, 2) := by decide +kernel
theorem dX6_loved_22 : decode cX6_loved 22 = .ok (.invokevirtual 37, 3) := by decide +kernel
theorem dX6_loved_25 : decode cX6_loved 25 = .ok (.ireturn, 1) := by decide +kernel
theorem dX6_loved_26 : decode cX6_loved 26 = .ok (.aload_n 0, 1) := by decide +kernel
theorem dX6_loved_27 : decode cX6_loved 27 = .ok (.invokevirtual 134, 3) := by decide +kernel
theorem dX6_loved_30 : decode cX6_loved 30 = .ok (.iconst (-1), 1) := by decide +kernel
theorem dX6_loved_31 : decode cX6_loved 31 = .ok (.istore_n 3, 1) := by decide +kernel
theorem dX6_loved_32 : decode cX6_loved 32 = .ok (.iconst 0, 1) := by decide +kernel
theorem dX6_loved_33 : decode cX6_loved 33 = .ok (.istore 4, 2) := by decide +kernel
theorem dX6_loved_35 : decode cX6_loved 35 = .ok (.iload 4, 2) := by decide +kernel
theorem dX6_loved_37 : decode cX6_loved 37 = .ok (.bipush 99, 2) := by decide +kernel
theorem dX6_loved_39 : decode cX6_loved 39 = .ok (.if_icmp .gt 37, 3) := by decide +kernel
theorem dX6_loved_42 : decode cX6_loved 42 = .ok (.iload_n 3, 1) := by decide +kernel
theorem dX6_loved_43 : decode cX6_loved 43 = .ok (.ifCond .ge 33, 3) := by decide +kernel
theorem dX6_loved_46 : decode cX6_loved 46 = .ok (.aload_n 0, 1) := by decide +kernel
theorem dX6_loved_47 : decode cX6_loved 47 = .ok (.iload_n 1, 1) := by decide +kernel
theorem dX6_loved_48 : decode cX6_loved 48 = .ok (.iconst 3, 1) := by decide +kernel
theorem dX6_loved_49 : decode cX6_loved 49 = .ok (.iload 4, 2) := by decide +kernel
theorem dX6_loved_51 : decode cX6_loved 51 = .ok (.invokevirtual 86, 3) := by decide +kernel
theorem dX6_loved_54 : decode cX6_loved 54 = .ok (.aload_n 0, 1) := by decide +kernel
theorem dX6_loved_55 : decode cX6_loved 55 = .ok (.iload_n 1, 1) := by decide +kernel
theorem dX6_loved_56 : decode cX6_loved 56 = .ok (.iload_n 2, 1) := by decide +kernel
theorem dX6_loved_57 : decode cX6_loved 57 = .ok (.invokevirtual 146, 3) := by decide +kernel
theorem dX6_loved_60 : decode cX6_loved 60 = .ok (.ifCond .eq 8, 3) := by decide +kernel
theorem dX6_loved_63 : decode cX6_loved 63 = .ok (.iload 4, 2) := by decide +kernel
theorem dX6_loved_65 : decode cX6_loved 65 = .ok (.goto 4, 3) := by decide +kernel
theorem dX6_loved_68 : decode cX6_loved 68 = .ok (.iconst (-1), 1) := by decide +kernel
theorem dX6_loved_69 : decode cX6_loved 69 = .ok (.istore_n 3, 1) := by decide +kernel
theorem dX6_loved_70 : decode cX6_loved 70 = .ok (.iinc 4 1, 3) := by decide +kernel
theorem dX6_loved_73 : decode cX6_loved 73 = .ok (.goto (-38), 3) := by decide +kernel
theorem dX6_loved_76 : decode cX6_loved 76 = .ok (.aload_n 0, 1) := by decide +kernel
theorem dX6_loved_77 : decode cX6_loved 77 = .ok (.iload_n 3, 1) := by decide +kernel
theorem dX6_loved_78 : decode cX6_loved 78 = .ok (.invokevirtual 109, 3) := by decide +kernel
theorem dX6_loved_81 : decode cX6_loved 81 = .ok (.ireturn, 1) := by decide +kernel
theorem dX6_kind_0 : decode cX6_kind 0 = .ok (.aload_n 0, 1) := by decide +kernel
theorem dX6_kind_1 : decode cX6_kind 1 = .ok (.iload_n 1, 1) := by decide +kernel
theorem dX6_kind_2 : decode cX6_kind 2 = .ok (.invokevirtual 95, 3) := by decide +kernel
theorem dX6_kind_5 : decode cX6_kind 5 = .ok (.ifCond .ne 10, 3) := by decide +kernel
theorem dX6_kind_8 : decode cX6_kind 8 = .ok (.aload_n 0, 1) := by decide +kernel
theorem dX6_kind_9 : decode cX6_kind 9 = .ok (.ldc 35, 2) := by decide +kernel
theorem dX6_kind_11 : decode cX6_kind 11 = .ok (.invokevirtual 37, 3) := by decide +kernel
theorem dX6_kind_14 : decode cX6_kind 14 = .ok (.ireturn, 1) := by decide +kernel
theorem dX6_kind_15 : decode cX6_kind 15 = .ok (.aload_n 0, 1) := by decide +kernel
theorem dX6_kind_16 : decode cX6_kind 16 = .ok (.invokevirtual 134, 3) := by decide +kernel
theorem dX6_kind_19 : decode cX6_kind 19 = .ok (.iconst 0, 1) := by decide +kernel
theorem dX6_kind_20 : decode cX6_kind 20 = .ok (.istore_n 2, 1) := by decide +kernel
theorem dX6_kind_21 : decode cX6_kind 21 = .ok (.iconst (-1), 1) := by decide +kernel
theorem dX6_kind_22 : decode cX6_kind 22 = .ok (.istore_n 3, 1) := by decide +kernel
theorem dX6_kind_23 : decode cX6_kind 23 = .ok (.iconst 0, 1) := by decide +kernel
theorem dX6_kind_24 : decode cX6_kind 24 = .ok (.istore 4, 2) := by decide +kernel
theorem dX6_kind_26 : decode cX6_kind 26 = .ok (.iload 4, 2) := by decide +kernel
theorem dX6_kind_28 : decode cX6_kind 28 = .ok (.iconst 5, 1) := by decide +kernel
theorem dX6_kind_29 : decode cX6_kind 29 = .ok (.if_icmp .gt 50, 3) := by decide +kernel
theorem dX6_kind_32 : decode cX6_kind 32 = .ok (.aload_n 0, 1) := by decide +kernel
theorem dX6_kind_33 : decode cX6_kind 33 = .ok (.iload_n 1, 1) := by decide +kernel
theorem dX6_kind_34 : decode cX6_kind 34 = .ok (.iconst 0, 1) := by decide +kernel
theorem dX6_kind_35 : decode cX6_kind 35 = .ok (.iload 4, 2) := by decide +kernel
theorem dX6_kind_37 : decode cX6_kind 37 = .ok (.invokevirtual 86, 3) := by decide +kernel
theorem dX6_kind_40 : decode cX6_kind 40 = .ok (.aload_n 0, 1) := by decide +kernel
theorem dX6_kind_41 : decode cX6_kind 41 = .ok (.iload_n 1, 1) := by decide +kernel
theorem dX6_kind_42 : decode cX6_kind 42 = .ok (.invokevirtual 140, 3) := by decide +kernel
theorem dX6_kind_45 : decode cX6_kind 45 = .ok (.istore 5, 2) := by decide +kernel
theorem dX6_kind_47 : decode cX6_kind 47 = .ok (.iload 5, 2) := by decide +kernel
theorem dX6_kind_49 : decode cX6_kind 49 = .ok (.iload_n 3, 1) := by decide +kernel
theorem dX6_kind_50 : decode cX6_kind 50 = .ok (.if_icmp .le 8, 3) := by decide +kernel
theorem dX6_kind_53 : decode cX6_kind 53 = .ok (.iload 4, 2) := by decide +kernel
theorem dX6_kind_55 : decode cX6_kind 55 = .ok (.goto 4, 3) := by decide +kernel
theorem dX6_kind_58 : decode cX6_kind 58 = .ok (.iload_n 2, 1) := by decide +kernel
theorem dX6_kind_59 : decode cX6_kind 59 = .ok (.istore_n 2, 1) := by decide +kernel
theorem dX6_kind_60 : decode cX6_kind 60 = .ok (.iload 5, 2) := by decide +kernel
theorem dX6_kind_62 : decode cX6_kind 62 = .ok (.iload_n 3, 1) := by decide +kernel
theorem dX6_kind_63 : decode cX6_kind 63 = .ok (.if_icmp .le 8, 3) := by decide +kernel
theorem dX6_kind_66 : decode cX6_kind 66 = .ok (.iload 5, 2) := by decide +kernel
theorem dX6_kind_68 : decode cX6_kind 68 = .ok (.goto 4, 3) := by decide +kernel
theorem dX6_kind_71 : decode cX6_kind 71 = .ok (.iload_n 3, 1) := by decide +kernel
theorem dX6_kind_72 : decode cX6_kind 72 = .ok (.istore_n 3, 1) := by decide +kernel
theorem dX6_kind_73 : decode cX6_kind 73 = .ok (.iinc 4 1, 3) := by decide +kernel
theorem dX6_kind_76 : decode cX6_kind 76 = .ok (.goto (-50), 3) := by decide +kernel
theorem dX6_kind_79 : decode cX6_kind 79 = .ok (.iload_n 2, 1) := by decide +kernel
theorem dX6_kind_80 : decode cX6_kind 80 = .ok (.ireturn, 1) := by decide +kernel
theorem dX6_rain_0 : decode cX6_rain 0 = .ok (.iload_n 1, 1) := by decide +kernel
theorem dX6_rain_1 : decode cX6_rain 1 = .ok (.i2l, 1) := by decide +kernel
theorem dX6_rain_2 : decode cX6_rain 2 = .ok (.iconst 1, 1) := by decide +kernel
theorem dX6_rain_3 : decode cX6_rain 3 = .ok (.bipush 100, 2) := by decide +kernel
theorem dX6_rain_5 : decode cX6_rain 5 = .ok (.invokestatic 41, 3) := by decide +kernel
theorem dX6_rain_8 : decode cX6_rain 8 = .ok (.ifCond .ne 10, 3) := by decide +kernel
theorem dX6_rain_11 : decode cX6_rain 11 = .ok (.aload_n 0, 1) := by decide +kernel
theorem dX6_rain_12 : decode cX6_rain 12 = .ok (.ldc 35, 2) := by decide +kernel
theorem dX6_rain_14 : decode cX6_rain 14 = .ok (.invokevirtual 37, 3) := by decide +kernel
theorem dX6_rain_17 : decode cX6_rain 17 = .ok (.ireturn, 1) := by decide +kernel
theorem dX6_rain_18 : decode cX6_rain 18 = .ok (.aload_n 0, 1) := by decide +kernel
theorem dX6_rain_19 : decode cX6_rain 19 = .ok (.invokevirtual 134, 3) := by decide +kernel
theorem dX6_rain_22 : decode cX6_rain 22 = .ok (.iconst 0, 1) := by decide +kernel
theorem dX6_rain_23 : decode cX6_rain 23 = .ok (.istore_n 2, 1) := by decide +kernel
theorem dX6_rain_24 : decode cX6_rain 24 = .ok (.iconst (-1), 1) := by decide +kernel
theorem dX6_rain_25 : decode cX6_rain 25 = .ok (.istore_n 3, 1) := by decide +kernel
theorem dX6_rain_26 : decode cX6_rain 26 = .ok (.iconst 0, 1) := by decide +kernel
theorem dX6_rain_27 : decode cX6_rain 27 = .ok (.istore 4, 2) := by decide +kernel
theorem dX6_rain_29 : decode cX6_rain 29 = .ok (.iload 4, 2) := by decide +kernel
theorem dX6_rain_31 : decode cX6_rain 31 = .ok (.bipush 8, 2) := by decide +kernel
theorem dX6_rain_33 : decode cX6_rain 33 = .ok (.if_icmp .ge 77, 3) := by decide +kernel
theorem dX6_rain_36 : decode cX6_rain 36 = .ok (.aload_n 0, 1) := by decide +kernel
theorem dX6_rain_37 : decode cX6_rain 37 = .ok (.getfield 9, 3) := by decide +kernel
theorem dX6_rain_40 : decode cX6_rain 40 = .ok (.iconst 5, 1) := by decide +kernel
theorem dX6_rain_41 : decode cX6_rain 41 = .ok (.iload 4, 2) := by decide +kernel
theorem dX6_rain_43 : decode cX6_rain 43 = .ok (.iadd, 1) := by decide +kernel
theorem dX6_rain_44 : decode cX6_rain 44 = .ok (.aload_n 0, 1) := by decide +kernel
theorem dX6_rain_45 : decode cX6_rain 45 = .ok (.getfield 9, 3) := by decide +kernel
theorem dX6_rain_48 : decode cX6_rain 48 = .ok (.iconst 5, 1) := by decide +kernel
theorem dX6_rain_49 : decode cX6_rain 49 = .ok (.iload 4, 2) := by decide +kernel
theorem dX6_rain_51 : decode cX6_rain 51 = .ok (.iadd, 1) := by decide +kernel
theorem dX6_rain_52 : decode cX6_rain 52 = .ok (.iaload, 1) := by decide +kernel
theorem dX6_rain_53 : decode cX6_rain 53 = .ok (.bipush 10, 2) := by decide +kernel
theorem dX6_rain_55 : decode cX6_rain 55 = .ok (.iadd, 1) := by decide +kernel
theorem dX6_rain_56 : decode cX6_rain 56 = .ok (.iconst 0, 1) := by decide +kernel
theorem dX6_rain_57 : decode cX6_rain 57 = .ok (.bipush 99, 2) := by decide +kernel
theorem dX6_rain_59 : decode cX6_rain 59 = .ok (.invokestatic 53, 3) := by decide +kernel
theorem dX6_rain_62 : decode cX6_rain 62 = .ok (.iastore, 1) := by decide +kernel
theorem dX6_rain_63 : decode cX6_rain 63 = .ok (.aload_n 0, 1) := by decide +kernel
theorem dX6_rain_64 : decode cX6_rain 64 = .ok (.iload_n 1, 1) := by decide +kernel
theorem dX6_rain_65 : decode cX6_rain 65 = .ok (.invokevirtual 127, 3) := by decide +kernel
theorem dX6_rain_68 : decode cX6_rain 68 = .ok (.aload_n 0, 1) := by decide +kernel
theorem dX6_rain_69 : decode cX6_rain 69 = .ok (.invokevirtual 80, 3) := by decide +kernel
theorem dX6_rain_72 : decode cX6_rain 72 = .ok (.istore 5, 2) := by decide +kernel
theorem dX6_rain_74 : decode cX6_rain 74 = .ok (.aload_n 0, 1) := by decide +kernel
theorem dX6_rain_75 : decode cX6_rain 75 = .ok (.invokevirtual 137, 3) := by decide +kernel
theorem dX6_rain_78 : decode cX6_rain 78 = .ok (.iload 5, 2) := by decide +kernel
theorem dX6_rain_80 : decode cX6_rain 80 = .ok (.iload_n 3, 1) := by decide +kernel
theorem dX6_rain_81 : decode cX6_rain 81 = .ok (.if_icmp .le 8, 3) := by decide +kernel
theorem dX6_rain_84 : decode cX6_rain 84 = .ok (.iload 4, 2) := by decide +kernel
theorem dX6_rain_86 : decode cX6_rain 86 = .ok (.goto 4, 3) := by decide +kernel
theorem dX6_rain_89 : decode cX6_rain 89 = .ok (.iload_n 2, 1) := by decide +kernel
theorem dX6_rain_90 : decode cX6_rain 90 = .ok (.istore_n 2, 1) := by decide +kernel
theorem dX6_rain_91 : decode cX6_rain 91 = .ok (.iload 5, 2) := by decide +kernel
theorem dX6_rain_93 : decode cX6_rain 93 = .ok (.iload_n 3, 1) := by decide +kernel
theorem dX6_rain_94 : decode cX6_rain 94 = .ok (.if_icmp .le 8, 3) := by decide +kernel
theorem dX6_rain_97 : decode cX6_rain 97 = .ok (.iload 5, 2) := by decide +kernel
theorem dX6_rain_99 : decode cX6_rain 99 = .ok (.goto 4, 3) := by decide +kernel
theorem dX6_rain_102 : decode cX6_rain 102 = .ok (.iload_n 3, 1) := by decide +kernel
theorem dX6_rain_103 : decode cX6_rain 103 = .ok (.istore_n 3, 1) := by decide +kernel
theorem dX6_rain_104 : decode cX6_rain 104 = .ok (.iinc 4 1, 3) := by decide +kernel
theorem dX6_rain_107 : decode cX6_rain 107 = .ok (.goto (-78), 3) := by decide +kernel
theorem dX6_rain_110 : decode cX6_rain 110 = .ok (.iload_n 2, 1) := by decide +kernel
theorem dX6_rain_111 : decode cX6_rain 111 = .ok (.ireturn, 1) := by decide +kernel
theorem dX6_enough_0 : decode cX6_enough 0 = .ok (.iload_n 1, 1) := by decide +kernel
theorem dX6_enough_1 : decode cX6_enough 1 = .ok (.i2l, 1) := by decide +kernel
theorem dX6_enough_2 : decode cX6_enough 2 = .ok (.iconst 1, 1) := by decide +kernel
theorem dX6_enough_3 : decode cX6_enough 3 = .ok (.bipush 60, 2) := by decide +kernel
theorem dX6_enough_5 : decode cX6_enough 5 = .ok (.invokestatic 41, 3) := by decide +kernel
theorem dX6_enough_8 : decode cX6_enough 8 = .ok (.ifCond .ne 10, 3) := by decide +kernel
theorem dX6_enough_11 : decode cX6_enough 11 = .ok (.aload_n 0, 1) := by decide +kernel
theorem dX6_enough_12 : decode cX6_enough 12 = .ok (.ldc 35, 2) := by decide +kernel
theorem dX6_enough_14 : decode cX6_enough 14 = .ok (.invokevirtual 37, 3) := by decide +kernel
theorem dX6_enough_17 : decode cX6_enough 17 = .ok (.ireturn, 1) := by decide +kernel
theorem dX6_enough_18 : decode cX6_enough 18 = .ok (.aload_n 0, 1) := by decide +kernel
theorem dX6_enough_19 : decode cX6_enough 19 = .ok (.invokevirtual 134, 3) := by decide +kernel
theorem dX6_enough_22 : decode cX6_enough 22 = .ok (.aload_n 0, 1) := by decide +kernel
theorem dX6_enough_23 : decode cX6_enough 23 = .ok (.invokevirtual 143, 3) := by decide +kernel
theorem dX6_enough_26 : decode cX6_enough 26 = .ok (.istore_n 2, 1) := by decide +kernel
theorem dX6_enough_27 : decode cX6_enough 27 = .ok (.iconst (-1), 1) := by decide +kernel
theorem dX6_enough_28 : decode cX6_enough 28 = .ok (.istore_n 3, 1) := by decide +kernel
theorem dX6_enough_29 : decode cX6_enough 29 = .ok (.iconst 0, 1) := by decide +kernel
theorem dX6_enough_30 : decode cX6_enough 30 = .ok (.istore 4, 2) := by decide +kernel
theorem dX6_enough_32 : decode cX6_enough 32 = .ok (.iload 4, 2) := by decide +kernel
theorem dX6_enough_34 : decode cX6_enough 34 = .ok (.sipush 9999, 3) := by decide +kernel
theorem dX6_enough_37 : decode cX6_enough 37 = .ok (.if_icmp .ge 37, 3) := by decide +kernel
theorem dX6_enough_40 : decode cX6_enough 40 = .ok (.iload_n 3, 1) := by decide +kernel
theorem dX6_enough_41 : decode cX6_enough 41 = .ok (.ifCond .ge 33, 3) := by decide +kernel
theorem dX6_enough_44 : decode cX6_enough 44 = .ok (.aload_n 0, 1) := by decide +kernel
theorem dX6_enough_45 : decode cX6_enough 45 = .ok (.getfield 9, 3) := by decide +kernel
theorem dX6_enough_48 : decode cX6_enough 48 = .ok (.iconst 1, 1) := by decide +kernel
theorem dX6_enough_49 : decode cX6_enough 49 = .ok (.iload 4, 2) := by decide +kernel
theorem dX6_enough_51 : decode cX6_enough 51 = .ok (.iastore, 1) := by decide +kernel
theorem dX6_enough_52 : decode cX6_enough 52 = .ok (.aload_n 0, 1) := by decide +kernel
theorem dX6_enough_53 : decode cX6_enough 53 = .ok (.iload_n 1, 1) := by decide +kernel
theorem dX6_enough_54 : decode cX6_enough 54 = .ok (.invokevirtual 150, 3) := by decide +kernel
theorem dX6_enough_57 : decode cX6_enough 57 = .ok (.iload_n 2, 1) := by decide +kernel
theorem dX6_enough_58 : decode cX6_enough 58 = .ok (.if_icmp .ne 8, 3) := by decide +kernel
theorem dX6_enough_61 : decode cX6_enough 61 = .ok (.iload 4, 2) := by decide +kernel
theorem dX6_enough_63 : decode cX6_enough 63 = .ok (.goto 4, 3) := by decide +kernel
theorem dX6_enough_66 : decode cX6_enough 66 = .ok (.iconst (-1), 1) := by decide +kernel
theorem dX6_enough_67 : decode cX6_enough 67 = .ok (.istore_n 3, 1) := by decide +kernel
theorem dX6_enough_68 : decode cX6_enough 68 = .ok (.iinc 4 10, 3) := by decide +kernel
theorem dX6_enough_71 : decode cX6_enough 71 = .ok (.goto (-39), 3) := by decide +kernel
theorem dX6_enough_74 : decode cX6_enough 74 = .ok (.aload_n 0, 1) := by decide +kernel
theorem dX6_enough_75 : decode cX6_enough 75 = .ok (.iload_n 3, 1) := by decide +kernel
theorem dX6_enough_76 : decode cX6_enough 76 = .ok (.invokevirtual 109, 3) := by decide +kernel
theorem dX6_enough_79 : decode cX6_enough 79 = .ok (.ireturn, 1) := by decide +kernel
theorem dX6_rule_0 : decode cX6_rule 0 = .ok (.iload_n 1, 1) := by decide +kernel
theorem dX6_rule_1 : decode cX6_rule 1 = .ok (.i2l, 1) := by decide +kernel
theorem dX6_rule_2 : decode cX6_rule 2 = .ok (.iconst 1, 1) := by decide +kernel
theorem dX6_rule_3 : decode cX6_rule 3 = .ok (.bipush 100, 2) := by decide +kernel
theorem dX6_rule_5 : decode cX6_rule 5 = .ok (.invokestatic 41, 3) := by decide +kernel
theorem dX6_rule_8 : decode cX6_rule 8 = .ok (.ifCond .ne 10, 3) := by decide +kernel
theorem dX6_rule_11 : decode cX6_rule 11 = .ok (.aload_n 0, 1) := by decide +kernel
theorem dX6_rule_12 : decode cX6_rule 12 = .ok (.ldc 35, 2) := by decide +kernel
theorem dX6_rule_14 : decode cX6_rule 14 = .ok (.invokevirtual 37, 3) := by decide +kernel
theorem dX6_rule_17 : decode cX6_rule 17 = .ok (.ireturn, 1) := by decide +kernel
theorem dX6_rule_18 : decode cX6_rule 18 = .ok (.aload_n 0, 1) := by decide +kernel
theorem dX6_rule_19 : decode cX6_rule 19 = .ok (.invokevirtual 134, 3) := by decide +kernel
theorem dX6_rule_22 : decode cX6_rule 22 = .ok (.iconst (-1), 1) := by decide +kernel
theorem dX6_rule_23 : decode cX6_rule 23 = .ok (.istore_n 2, 1) := by decide +kernel
theorem dX6_rule_24 : decode cX6_rule 24 = .ok (.iconst 0, 1) := by decide +kernel
theorem dX6_rule_25 : decode cX6_rule 25 = .ok (.istore_n 3, 1) := by decide +kernel
theorem dX6_rule_26 : decode cX6_rule 26 = .ok (.iconst 0, 1) := by decide +kernel
theorem dX6_rule_27 : decode cX6_rule 27 = .ok (.istore 4, 2) := by decide +kernel
theorem dX6_rule_29 : decode cX6_rule 29 = .ok (.iload 4, 2) := by decide +kernel
theorem dX6_rule_31 : decode cX6_rule 31 = .ok (.sipush 1000, 3) := by decide +kernel
theorem dX6_rule_34 : decode cX6_rule 34 = .ok (.if_icmp .gt 65, 3) := by decide +kernel
theorem dX6_rule_37 : decode cX6_rule 37 = .ok (.aload_n 0, 1) := by decide +kernel
theorem dX6_rule_38 : decode cX6_rule 38 = .ok (.getfield 9, 3) := by decide +kernel
theorem dX6_rule_41 : decode cX6_rule 41 = .ok (.iconst 2, 1) := by decide +kernel
theorem dX6_rule_42 : decode cX6_rule 42 = .ok (.iload 4, 2) := by decide +kernel
theorem dX6_rule_44 : decode cX6_rule 44 = .ok (.iastore, 1) := by decide +kernel
theorem dX6_rule_45 : decode cX6_rule 45 = .ok (.aload_n 0, 1) := by decide +kernel
theorem dX6_rule_46 : decode cX6_rule 46 = .ok (.iload_n 1, 1) := by decide +kernel
theorem dX6_rule_47 : decode cX6_rule 47 = .ok (.invokevirtual 150, 3) := by decide +kernel
theorem dX6_rule_50 : decode cX6_rule 50 = .ok (.istore 5, 2) := by decide +kernel
theorem dX6_rule_52 : decode cX6_rule 52 = .ok (.iload_n 2, 1) := by decide +kernel
theorem dX6_rule_53 : decode cX6_rule 53 = .ok (.ifCond .lt 9, 3) := by decide +kernel
theorem dX6_rule_56 : decode cX6_rule 56 = .ok (.iload 5, 2) := by decide +kernel
theorem dX6_rule_58 : decode cX6_rule 58 = .ok (.iload_n 3, 1) := by decide +kernel
theorem dX6_rule_59 : decode cX6_rule 59 = .ok (.if_icmp .ge 7, 3) := by decide +kernel
theorem dX6_rule_62 : decode cX6_rule 62 = .ok (.iconst 1, 1) := by decide +kernel
theorem dX6_rule_63 : decode cX6_rule 63 = .ok (.goto 4, 3) := by decide +kernel
theorem dX6_rule_66 : decode cX6_rule 66 = .ok (.iconst 0, 1) := by decide +kernel
theorem dX6_rule_67 : decode cX6_rule 67 = .ok (.istore 6, 2) := by decide +kernel
theorem dX6_rule_69 : decode cX6_rule 69 = .ok (.iload 6, 2) := by decide +kernel
theorem dX6_rule_71 : decode cX6_rule 71 = .ok (.ifCond .eq 8, 3) := by decide +kernel
theorem dX6_rule_74 : decode cX6_rule 74 = .ok (.iload 4, 2) := by decide +kernel
theorem dX6_rule_76 : decode cX6_rule 76 = .ok (.goto 4, 3) := by decide +kernel
theorem dX6_rule_79 : decode cX6_rule 79 = .ok (.iload_n 2, 1) := by decide +kernel
theorem dX6_rule_80 : decode cX6_rule 80 = .ok (.istore_n 2, 1) := by decide +kernel
theorem dX6_rule_81 : decode cX6_rule 81 = .ok (.iload 6, 2) := by decide +kernel
theorem dX6_rule_83 : decode cX6_rule 83 = .ok (.ifCond .eq 8, 3) := by decide +kernel
theorem dX6_rule_86 : decode cX6_rule 86 = .ok (.iload 5, 2) := by decide +kernel
theorem dX6_rule_88 : decode cX6_rule 88 = .ok (.goto 4, 3) := by decide +kernel
theorem dX6_rule_91 : decode cX6_rule 91 = .ok (.iload_n 3, 1) := by decide +kernel
theorem dX6_rule_92 : decode cX6_rule 92 = .ok (.istore_n 3, 1) := by decide +kernel
theorem dX6_rule_93 : decode cX6_rule 93 = .ok (.iinc 4 50, 3) := by decide +kernel
theorem dX6_rule_96 : decode cX6_rule 96 = .ok (.goto (-67), 3) := by decide +kernel
theorem dX6_rule_99 : decode cX6_rule 99 = .ok (.iload_n 2, 1) := by decide +kernel
theorem dX6_rule_100 : decode cX6_rule 100 = .ok (.ireturn, 1) := by decide +kernel
theorem dX6_feed_0 : decode cX6_feed 0 = .ok (.iload_n 2, 1) := by decide +kernel
theorem dX6_feed_1 : decode cX6_feed 1 = .ok (.i2l, 1) := by decide +kernel
theorem dX6_feed_2 : decode cX6_feed 2 = .ok (.iconst 1, 1) := by decide +kernel
theorem dX6_feed_3 : decode cX6_feed 3 = .ok (.iconst 4, 1) := by decide +kernel
theorem dX6_feed_4 : decode cX6_feed 4 = .ok (.invokestatic 41, 3) := by decide +kernel
theorem dX6_feed_7 : decode cX6_feed 7 = .ok (.ifCond .ne 10, 3) := by decide +kernel
theorem dX6_feed_10 : decode cX6_feed 10 = .ok (.aload_n 0, 1) := by decide +kernel
theorem dX6_feed_11 : decode cX6_feed 11 = .ok (.ldc 35, 2) := by decide +kernel
theorem dX6_feed_13 : decode cX6_feed 13 = .ok (.invokevirtual 37, 3) := by decide +kernel
theorem dX6_feed_16 : decode cX6_feed 16 = .ok (.ireturn, 1) := by decide +kernel
theorem dX6_feed_17 : decode cX6_feed 17 = .ok (.aload_n 0, 1) := by decide +kernel
theorem dX6_feed_18 : decode cX6_feed 18 = .ok (.getfield 153, 3) := by decide +kernel
theorem dX6_feed_21 : decode cX6_feed 21 = .ok (.iload_n 2, 1) := by decide +kernel
theorem dX6_feed_22 : decode cX6_feed 22 = .ok (.iadd, 1) := by decide +kernel
theorem dX6_feed_23 : decode cX6_feed 23 = .ok (.bipush 120, 2) := by decide +kernel
theorem dX6_feed_25 : decode cX6_feed 25 = .ok (.if_icmp .le 10, 3) := by decide +kernel
theorem dX6_feed_28 : decode cX6_feed 28 = .ok (.aload_n 0, 1) := by decide +kernel
theorem dX6_feed_29 : decode cX6_feed 29 = .ok (.ldc 90, 2) := by decide +kernel
theorem dX6_feed_31 : decode cX6_feed 31 = .ok (.invokevirtual 37, 3) := by decide +kernel
theorem dX6_feed_34 : decode cX6_feed 34 = .ok (.ireturn, 1) := by decide +kernel
theorem dX6_feed_35 : decode cX6_feed 35 = .ok (.iload_n 2, 1) := by decide +kernel
theorem dX6_feed_36 : decode cX6_feed 36 = .ok (.iconst 1, 1) := by decide +kernel
theorem dX6_feed_37 : decode cX6_feed 37 = .ok (.isub, 1) := by decide +kernel
theorem dX6_feed_38 : decode cX6_feed 38 = .ok (.istore_n 3, 1) := by decide +kernel
theorem dX6_feed_39 : decode cX6_feed 39 = .ok (.iload_n 3, 1) := by decide +kernel
theorem dX6_feed_40 : decode cX6_feed 40 = .ok (.ifCond .lt 38, 3) := by decide +kernel
theorem dX6_feed_43 : decode cX6_feed 43 = .ok (.aload_n 0, 1) := by decide +kernel
theorem dX6_feed_44 : decode cX6_feed 44 = .ok (.getfield 22, 3) := by decide +kernel
theorem dX6_feed_47 : decode cX6_feed 47 = .ok (.aload_n 0, 1) := by decide +kernel
theorem dX6_feed_48 : decode cX6_feed 48 = .ok (.getfield 153, 3) := by decide +kernel
theorem dX6_feed_51 : decode cX6_feed 51 = .ok (.iload_n 1, 1) := by decide +kernel
theorem dX6_feed_52 : decode cX6_feed 52 = .ok (.bipush 8, 2) := by decide +kernel
theorem dX6_feed_54 : decode cX6_feed 54 = .ok (.iload_n 3, 1) := by decide +kernel
theorem dX6_feed_55 : decode cX6_feed 55 = .ok (.imul, 1) := by decide +kernel
theorem dX6_feed_56 : decode cX6_feed 56 = .ok (.ishr, 1) := by decide +kernel
theorem dX6_feed_57 : decode cX6_feed 57 = .ok (.sipush 255, 3) := by decide +kernel
theorem dX6_feed_60 : decode cX6_feed 60 = .ok (.iand, 1) := by decide +kernel
theorem dX6_feed_61 : decode cX6_feed 61 = .ok (.iastore, 1) := by decide +kernel
theorem dX6_feed_62 : decode cX6_feed 62 = .ok (.aload_n 0, 1) := by decide +kernel
theorem dX6_feed_63 : decode cX6_feed 63 = .ok (.dup, 1) := by decide +kernel
theorem dX6_feed_64 : decode cX6_feed 64 = .ok (.getfield 153, 3) := by decide +kernel
theorem dX6_feed_67 : decode cX6_feed 67 = .ok (.iconst 1, 1) := by decide +kernel
theorem dX6_feed_68 : decode cX6_feed 68 = .ok (.iadd, 1) := by decide +kernel
theorem dX6_feed_69 : decode cX6_feed 69 = .ok (.putfield 153, 3) := by decide +kernel
theorem dX6_feed_72 : decode cX6_feed 72 = .ok (.iinc 3 (-1), 3) := by decide +kernel
theorem dX6_feed_75 : decode cX6_feed 75 = .ok (.goto (-36), 3) := by decide +kernel
theorem dX6_feed_78 : decode cX6_feed 78 = .ok (.aload_n 0, 1) := by decide +kernel
theorem dX6_feed_79 : decode cX6_feed 79 = .ok (.getfield 153, 3) := by decide +kernel
theorem dX6_feed_82 : decode cX6_feed 82 = .ok (.ireturn, 1) := by decide +kernel
theorem dX6_wipe_0 : decode cX6_wipe 0 = .ok (.aload_n 0, 1) := by decide +kernel
theorem dX6_wipe_1 : decode cX6_wipe 1 = .ok (.getfield 153, 3) := by decide +kernel
theorem dX6_wipe_4 : decode cX6_wipe 4 = .ok (.istore_n 1, 1) := by decide +kernel
theorem dX6_wipe_5 : decode cX6_wipe 5 = .ok (.aload_n 0, 1) := by decide +kernel
theorem dX6_wipe_6 : decode cX6_wipe 6 = .ok (.iconst 0, 1) := by decide +kernel
theorem dX6_wipe_7 : decode cX6_wipe 7 = .ok (.putfield 153, 3) := by decide +kernel
theorem dX6_wipe_10 : decode cX6_wipe 10 = .ok (.iload_n 1, 1) := by decide +kernel
theorem dX6_wipe_11 : decode cX6_wipe 11 = .ok (.ireturn, 1) := by decide +kernel
theorem dX6_isByte_0 : decode cX6_isByte 0 = .ok (.iload_n 1, 1) := by decide +kernel
theorem dX6_isByte_1 : decode cX6_isByte 1 = .ok (.aload_n 0, 1) := by decide +kernel
theorem dX6_isByte_2 : decode cX6_isByte 2 = .ok (.getfield 153, 3) := by decide +kernel
theorem dX6_isByte_5 : decode cX6_isByte 5 = .ok (.if_icmp .ge 22, 3) := by decide +kernel
theorem dX6_isByte_8 : decode cX6_isByte 8 = .ok (.aload_n 0, 1) := by decide +kernel
theorem dX6_isByte_9 : decode cX6_isByte 9 = .ok (.getfield 22, 3) := by decide +kernel
theorem dX6_isByte_12 : decode cX6_isByte 12 = .ok (.iload_n 1, 1) := by decide +kernel
theorem dX6_isByte_13 : decode cX6_isByte 13 = .ok (.iaload, 1) := by decide +kernel
theorem dX6_isByte_14 : decode cX6_isByte 14 = .ok (.i2l, 1) := by decide +kernel
theorem dX6_isByte_15 : decode cX6_isByte 15 = .ok (.iload_n 2, 1) := by decide +kernel
theorem dX6_isByte_16 : decode cX6_isByte 16 = .ok (.iload_n 3, 1) := by decide +kernel
theorem dX6_isByte_17 : decode cX6_isByte 17 = .ok (.invokestatic 41, 3) := by decide +kernel
theorem dX6_isByte_20 : decode cX6_isByte 20 = .ok (.ifCond .eq 7, 3) := by decide +kernel
theorem dX6_isByte_23 : decode cX6_isByte 23 = .ok (.iconst 1, 1) := by decide +kernel
theorem dX6_isByte_24 : decode cX6_isByte 24 = .ok (.goto 4, 3) := by decide +kernel
theorem dX6_isByte_27 : decode cX6_isByte 27 = .ok (.iconst 0, 1) := by decide +kernel
theorem dX6_isByte_28 : decode cX6_isByte 28 = .ok (.ireturn, 1) := by decide +kernel
theorem dX6_isName_0 : decode cX6_isName 0 = .ok (.iload_n 2, 1) := by decide +kernel
theorem dX6_isName_1 : decode cX6_isName 1 = .ok (.bipush 7, 2) := by decide +kernel
theorem dX6_isName_3 : decode cX6_isName 3 = .ok (.if_icmp .gt 26, 3) := by decide +kernel
theorem dX6_isName_6 : decode cX6_isName 6 = .ok (.iload_n 2, 1) := by decide +kernel
theorem dX6_isName_7 : decode cX6_isName 7 = .ok (.bipush 7, 2) := by decide +kernel
theorem dX6_isName_9 : decode cX6_isName 9 = .ok (.if_icmp .eq 16, 3) := by decide +kernel
theorem dX6_isName_12 : decode cX6_isName 12 = .ok (.getstatic 157, 3) := by decide +kernel
theorem dX6_isName_15 : decode cX6_isName 15 = .ok (.bipush 7, 2) := by decide +kernel
theorem dX6_isName_17 : decode cX6_isName 17 = .ok (.iload_n 1, 1) := by decide +kernel
theorem dX6_isName_18 : decode cX6_isName 18 = .ok (.imul, 1) := by decide +kernel
theorem dX6_isName_19 : decode cX6_isName 19 = .ok (.iload_n 2, 1) := by decide +kernel
theorem dX6_isName_20 : decode cX6_isName 20 = .ok (.iadd, 1) := by decide +kernel
theorem dX6_isName_21 : decode cX6_isName 21 = .ok (.iaload, 1) := by decide +kernel
theorem dX6_isName_22 : decode cX6_isName 22 = .ok (.ifCond .ne 7, 3) := by decide +kernel
theorem dX6_isName_25 : decode cX6_isName 25 = .ok (.iconst 1, 1) := by decide +kernel
theorem dX6_isName_26 : decode cX6_isName 26 = .ok (.goto 4, 3) := by decide +kernel
theorem dX6_isName_29 : decode cX6_isName 29 = .ok (.iconst 0, 1) := by decide +kernel
theorem dX6_isName_30 : decode cX6_isName 30 = .ok (.istore_n 3, 1) := by decide +kernel
theorem dX6_isName_31 : decode cX6_isName 31 = .ok (.iconst 0, 1) := by decide +kernel
theorem dX6_isName_32 : decode cX6_isName 32 = .ok (.istore 4, 2) := by decide +kernel
theorem dX6_isName_34 : decode cX6_isName 34 = .ok (.iload 4, 2) := by decide +kernel
theorem dX6_isName_36 : decode cX6_isName 36 = .ok (.iload_n 2, 1) := by decide +kernel
theorem dX6_isName_37 : decode cX6_isName 37 = .ok (.if_icmp .ge 45, 3) := by decide +kernel
theorem dX6_isName_40 : decode cX6_isName 40 = .ok (.iload_n 3, 1) := by decide +kernel
theorem dX6_isName_41 : decode cX6_isName 41 = .ok (.ifCond .eq 41, 3) := by decide +kernel
theorem dX6_isName_44 : decode cX6_isName 44 = .ok (.getstatic 157, 3) := by decide +kernel
theorem dX6_isName_47 : decode cX6_isName 47 = .ok (.bipush 7, 2) := by decide +kernel
theorem dX6_isName_49 : decode cX6_isName 49 = .ok (.iload_n 1, 1) := by decide +kernel
theorem dX6_isName_50 : decode cX6_isName 50 = .ok (.imul, 1) := by decide +kernel
theorem dX6_isName_51 : decode cX6_isName 51 = .ok (.iload 4, 2) := by decide +kernel
theorem dX6_isName_53 : decode cX6_isName 53 = .ok (.iadd, 1) := by decide +kernel
theorem dX6_isName_54 : decode cX6_isName 54 = .ok (.iaload, 1) := by decide +kernel
theorem dX6_isName_55 : decode cX6_isName 55 = .ok (.aload_n 0, 1) := by decide +kernel
theorem dX6_isName_56 : decode cX6_isName 56 = .ok (.getfield 22, 3) := by decide +kernel
theorem dX6_isName_59 : decode cX6_isName 59 = .ok (.aload_n 0, 1) := by decide +kernel
theorem dX6_isName_60 : decode cX6_isName 60 = .ok (.getfield 160, 3) := by decide +kernel
theorem dX6_isName_63 : decode cX6_isName 63 = .ok (.iload 4, 2) := by decide +kernel
theorem dX6_isName_65 : decode cX6_isName 65 = .ok (.iadd, 1) := by decide +kernel
theorem dX6_isName_66 : decode cX6_isName 66 = .ok (.iaload, 1) := by decide +kernel
theorem dX6_isName_67 : decode cX6_isName 67 = .ok (.if_icmp .ne 7, 3) := by decide +kernel
theorem dX6_isName_70 : decode cX6_isName 70 = .ok (.iconst 1, 1) := by decide +kernel
theorem dX6_isName_71 : decode cX6_isName 71 = .ok (.goto 4, 3) := by decide +kernel
theorem dX6_isName_74 : decode cX6_isName 74 = .ok (.iconst 0, 1) := by decide +kernel
theorem dX6_isName_75 : decode cX6_isName 75 = .ok (.istore_n 3, 1) := by decide +kernel
theorem dX6_isName_76 : decode cX6_isName 76 = .ok (.iinc 4 1, 3) := by decide +kernel
theorem dX6_isName_79 : decode cX6_isName 79 = .ok (.goto (-45), 3) := by decide +kernel
theorem dX6_isName_82 : decode cX6_isName 82 = .ok (.iload_n 3, 1) := by decide +kernel
theorem dX6_isName_83 : decode cX6_isName 83 = .ok (.ireturn, 1) := by decide +kernel
theorem dX6_wordHere_0 : decode cX6_wordHere 0 = .ok (.iconst 0, 1) := by decide +kernel
theorem dX6_wordHere_1 : decode cX6_wordHere 1 = .ok (.istore_n 1, 1) := by decide +kernel
theorem dX6_wordHere_2 : decode cX6_wordHere 2 = .ok (.iload_n 1, 1) := by decide +kernel
theorem dX6_wordHere_3 : decode cX6_wordHere 3 = .ok (.bipush 13, 2) := by decide +kernel
theorem dX6_wordHere_5 : decode cX6_wordHere 5 = .ok (.if_icmp .ge 26, 3) := by decide +kernel
theorem dX6_wordHere_8 : decode cX6_wordHere 8 = .ok (.aload_n 0, 1) := by decide +kernel
theorem dX6_wordHere_9 : decode cX6_wordHere 9 = .ok (.iload_n 1, 1) := by decide +kernel
theorem dX6_wordHere_10 : decode cX6_wordHere 10 = .ok (.aload_n 0, 1) := by decide +kernel
theorem dX6_wordHere_11 : decode cX6_wordHere 11 = .ok (.getfield 163, 3) := by decide +kernel
theorem dX6_wordHere_14 : decode cX6_wordHere 14 = .ok (.aload_n 0, 1) := by decide +kernel
theorem dX6_wordHere_15 : decode cX6_wordHere 15 = .ok (.getfield 160, 3) := by decide +kernel
theorem dX6_wordHere_18 : decode cX6_wordHere 18 = .ok (.isub, 1) := by decide +kernel
theorem dX6_wordHere_19 : decode cX6_wordHere 19 = .ok (.invokevirtual 166, 3) := by decide +kernel
theorem dX6_wordHere_22 : decode cX6_wordHere 22 = .ok (.ifCond .ne 9, 3) := by decide +kernel
theorem dX6_wordHere_25 : decode cX6_wordHere 25 = .ok (.iinc 1 1, 3) := by decide +kernel
theorem dX6_wordHere_28 : decode cX6_wordHere 28 = .ok (.goto (-26), 3) := by decide +kernel
theorem dX6_wordHere_31 : decode cX6_wordHere 31 = .ok (.iload_n 1, 1) := by decide +kernel
theorem dX6_wordHere_32 : decode cX6_wordHere 32 = .ok (.bipush 13, 2) := by decide +kernel
theorem dX6_wordHere_34 : decode cX6_wordHere 34 = .ok (.if_icmp .ge 7, 3) := by decide +kernel
theorem dX6_wordHere_37 : decode cX6_wordHere 37 = .ok (.iload_n 1, 1) := by decide +kernel
theorem dX6_wordHere_38 : decode cX6_wordHere 38 = .ok (.goto 5, 3) := by decide +kernel
theorem dX6_wordHere_41 : decode cX6_wordHere 41 = .ok (.bipush 23, 2) := by decide +kernel
theorem dX6_wordHere_43 : decode cX6_wordHere 43 = .ok (.ireturn, 1) := by decide +kernel
theorem dX6_reads_0 : decode cX6_reads 0 = .ok (.aload_n 0, 1) := by decide +kernel
theorem dX6_reads_1 : decode cX6_reads 1 = .ok (.aload_n 0, 1) := by decide +kernel
theorem dX6_reads_2 : decode cX6_reads 2 = .ok (.getfield 163, 3) := by decide +kernel
theorem dX6_reads_5 : decode cX6_reads 5 = .ok (.bipush 32, 2) := by decide +kernel
theorem dX6_reads_7 : decode cX6_reads 7 = .ok (.bipush 32, 2) := by decide +kernel
theorem dX6_reads_9 : decode cX6_reads 9 = .ok (.invokevirtual 169, 3) := by decide +kernel
theorem dX6_reads_12 : decode cX6_reads 12 = .ok (.ifCond .eq 16, 3) := by decide +kernel
theorem dX6_reads_15 : decode cX6_reads 15 = .ok (.aload_n 0, 1) := by decide +kernel
theorem dX6_reads_16 : decode cX6_reads 16 = .ok (.dup, 1) := by decide +kernel
theorem dX6_reads_17 : decode cX6_reads 17 = .ok (.getfield 163, 3) := by decide +kernel
theorem dX6_reads_20 : decode cX6_reads 20 = .ok (.iconst 1, 1) := by decide +kernel
theorem dX6_reads_21 : decode cX6_reads 21 = .ok (.iadd, 1) := by decide +kernel
theorem dX6_reads_22 : decode cX6_reads 22 = .ok (.putfield 163, 3) := by decide +kernel
theorem dX6_reads_25 : decode cX6_reads 25 = .ok (.goto (-25), 3) := by decide +kernel
theorem dX6_reads_28 : decode cX6_reads 28 = .ok (.aload_n 0, 1) := by decide +kernel
theorem dX6_reads_29 : decode cX6_reads 29 = .ok (.aload_n 0, 1) := by decide +kernel
theorem dX6_reads_30 : decode cX6_reads 30 = .ok (.getfield 163, 3) := by decide +kernel
theorem dX6_reads_33 : decode cX6_reads 33 = .ok (.putfield 160, 3) := by decide +kernel
theorem dX6_reads_36 : decode cX6_reads 36 = .ok (.aload_n 0, 1) := by decide +kernel
theorem dX6_reads_37 : decode cX6_reads 37 = .ok (.iconst 0, 1) := by decide +kernel
theorem dX6_reads_38 : decode cX6_reads 38 = .ok (.putfield 173, 3) := by decide +kernel
theorem dX6_reads_41 : decode cX6_reads 41 = .ok (.aload_n 0, 1) := by decide +kernel
theorem dX6_reads_42 : decode cX6_reads 42 = .ok (.getfield 163, 3) := by decide +kernel
theorem dX6_reads_45 : decode cX6_reads 45 = .ok (.aload_n 0, 1) := by decide +kernel
theorem dX6_reads_46 : decode cX6_reads 46 = .ok (.getfield 153, 3) := by decide +kernel
theorem dX6_reads_49 : decode cX6_reads 49 = .ok (.if_icmp .ne 12, 3) := by decide +kernel
theorem dX6_reads_52 : decode cX6_reads 52 = .ok (.aload_n 0, 1) := by decide +kernel
theorem dX6_reads_53 : decode cX6_reads 53 = .ok (.bipush 22, 2) := by decide +kernel
theorem dX6_reads_55 : decode cX6_reads 55 = .ok (.putfield 176, 3) := by decide +kernel
theorem dX6_reads_58 : decode cX6_reads 58 = .ok (.goto 186, 3) := by decide +kernel
theorem dX6_reads_61 : decode cX6_reads 61 = .ok (.aload_n 0, 1) := by decide +kernel
theorem dX6_reads_62 : decode cX6_reads 62 = .ok (.aload_n 0, 1) := by decide +kernel
theorem dX6_reads_63 : decode cX6_reads 63 = .ok (.getfield 163, 3) := by decide +kernel
theorem dX6_reads_66 : decode cX6_reads 66 = .ok (.bipush 97, 2) := by decide +kernel
theorem dX6_reads_68 : decode cX6_reads 68 = .ok (.bipush 122, 2) := by decide +kernel
theorem dX6_reads_70 : decode cX6_reads 70 = .ok (.invokevirtual 169, 3) := by decide +kernel
theorem dX6_reads_73 : decode cX6_reads 73 = .ok (.ifCond .eq 42, 3) := by decide +kernel
theorem dX6_reads_76 : decode cX6_reads 76 = .ok (.aload_n 0, 1) := by decide +kernel
theorem dX6_reads_77 : decode cX6_reads 77 = .ok (.aload_n 0, 1) := by decide +kernel
theorem dX6_reads_78 : decode cX6_reads 78 = .ok (.getfield 163, 3) := by decide +kernel
theorem dX6_reads_81 : decode cX6_reads 81 = .ok (.bipush 97, 2) := by decide +kernel
theorem dX6_reads_83 : decode cX6_reads 83 = .ok (.bipush 122, 2) := by decide +kernel
theorem dX6_reads_85 : decode cX6_reads 85 = .ok (.invokevirtual 169, 3) := by decide +kernel
theorem dX6_reads_88 : decode cX6_reads 88 = .ok (.ifCond .eq 16, 3) := by decide +kernel
theorem dX6_reads_91 : decode cX6_reads 91 = .ok (.aload_n 0, 1) := by decide +kernel
theorem dX6_reads_92 : decode cX6_reads 92 = .ok (.dup, 1) := by decide +kernel
theorem dX6_reads_93 : decode cX6_reads 93 = .ok (.getfield 163, 3) := by decide +kernel
theorem dX6_reads_96 : decode cX6_reads 96 = .ok (.iconst 1, 1) := by decide +kernel
theorem dX6_reads_97 : decode cX6_reads 97 = .ok (.iadd, 1) := by decide +kernel
theorem dX6_reads_98 : decode cX6_reads 98 = .ok (.putfield 163, 3) := by decide +kernel
theorem dX6_reads_101 : decode cX6_reads 101 = .ok (.goto (-25), 3) := by decide +kernel
theorem dX6_reads_104 : decode cX6_reads 104 = .ok (.aload_n 0, 1) := by decide +kernel
theorem dX6_reads_105 : decode cX6_reads 105 = .ok (.aload_n 0, 1) := by decide +kernel
theorem dX6_reads_106 : decode cX6_reads 106 = .ok (.invokevirtual 179, 3) := by decide +kernel
theorem dX6_reads_109 : decode cX6_reads 109 = .ok (.putfield 176, 3) := by decide +kernel
theorem dX6_reads_112 : decode cX6_reads 112 = .ok (.goto 132, 3) := by decide +kernel
theorem dX6_reads_115 : decode cX6_reads 115 = .ok (.aload_n 0, 1) := by decide +kernel
theorem dX6_reads_116 : decode cX6_reads 116 = .ok (.aload_n 0, 1) := by decide +kernel
theorem dX6_reads_117 : decode cX6_reads 117 = .ok (.getfield 163, 3) := by decide +kernel
theorem dX6_reads_120 : decode cX6_reads 120 = .ok (.bipush 48, 2) := by decide +kernel
theorem dX6_reads_122 : decode cX6_reads 122 = .ok (.bipush 57, 2) := by decide +kernel
theorem dX6_reads_124 : decode cX6_reads 124 = .ok (.invokevirtual 169, 3) := by decide +kernel
theorem dX6_reads_127 : decode cX6_reads 127 = .ok (.ifCond .eq 81, 3) := by decide +kernel
theorem dX6_reads_130 : decode cX6_reads 130 = .ok (.aload_n 0, 1) := by decide +kernel
theorem dX6_reads_131 : decode cX6_reads 131 = .ok (.aload_n 0, 1) := by decide +kernel
theorem dX6_reads_132 : decode cX6_reads 132 = .ok (.getfield 163, 3) := by decide +kernel
theorem dX6_reads_135 : decode cX6_reads 135 = .ok (.bipush 48, 2) := by decide +kernel
theorem dX6_reads_137 : decode cX6_reads 137 = .ok (.bipush 57, 2) := by decide +kernel
theorem dX6_reads_139 : decode cX6_reads 139 = .ok (.invokevirtual 169, 3) := by decide +kernel
theorem dX6_reads_142 : decode cX6_reads 142 = .ok (.ifCond .eq 57, 3) := by decide +kernel
theorem dX6_reads_145 : decode cX6_reads 145 = .ok (.aload_n 0, 1) := by decide +kernel
theorem dX6_reads_146 : decode cX6_reads 146 = .ok (.aload_n 0, 1) := by decide +kernel
theorem dX6_reads_147 : decode cX6_reads 147 = .ok (.getfield 173, 3) := by decide +kernel
theorem dX6_reads_150 : decode cX6_reads 150 = .ok (.sipush 9999, 3) := by decide +kernel
theorem dX6_reads_153 : decode cX6_reads 153 = .ok (.if_icmp .le 10, 3) := by decide +kernel
theorem dX6_reads_156 : decode cX6_reads 156 = .ok (.aload_n 0, 1) := by decide +kernel
theorem dX6_reads_157 : decode cX6_reads 157 = .ok (.getfield 173, 3) := by decide +kernel
theorem dX6_reads_160 : decode cX6_reads 160 = .ok (.goto 23, 3) := by decide +kernel
theorem dX6_reads_163 : decode cX6_reads 163 = .ok (.bipush 10, 2) := by decide +kernel
theorem dX6_reads_165 : decode cX6_reads 165 = .ok (.aload_n 0, 1) := by decide +kernel
theorem dX6_reads_166 : decode cX6_reads 166 = .ok (.getfield 173, 3) := by decide +kernel
theorem dX6_reads_169 : decode cX6_reads 169 = .ok (.imul, 1) := by decide +kernel
theorem dX6_reads_170 : decode cX6_reads 170 = .ok (.aload_n 0, 1) := by decide +kernel
theorem dX6_reads_171 : decode cX6_reads 171 = .ok (.getfield 22, 3) := by decide +kernel
theorem dX6_reads_174 : decode cX6_reads 174 = .ok (.aload_n 0, 1) := by decide +kernel
theorem dX6_reads_175 : decode cX6_reads 175 = .ok (.getfield 163, 3) := by decide +kernel
theorem dX6_reads_178 : decode cX6_reads 178 = .ok (.iaload, 1) := by decide +kernel
theorem dX6_reads_179 : decode cX6_reads 179 = .ok (.iadd, 1) := by decide +kernel
theorem dX6_reads_180 : decode cX6_reads 180 = .ok (.bipush 48, 2) := by decide +kernel
theorem dX6_reads_182 : decode cX6_reads 182 = .ok (.isub, 1) := by decide +kernel
theorem dX6_reads_183 : decode cX6_reads 183 = .ok (.putfield 173, 3) := by decide +kernel
theorem dX6_reads_186 : decode cX6_reads 186 = .ok (.aload_n 0, 1) := by decide +kernel
theorem dX6_reads_187 : decode cX6_reads 187 = .ok (.dup, 1) := by decide +kernel
theorem dX6_reads_188 : decode cX6_reads 188 = .ok (.getfield 163, 3) := by decide +kernel
theorem dX6_reads_191 : decode cX6_reads 191 = .ok (.iconst 1, 1) := by decide +kernel
theorem dX6_reads_192 : decode cX6_reads 192 = .ok (.iadd, 1) := by decide +kernel
theorem dX6_reads_193 : decode cX6_reads 193 = .ok (.putfield 163, 3) := by decide +kernel
theorem dX6_reads_196 : decode cX6_reads 196 = .ok (.goto (-66), 3) := by decide +kernel
theorem dX6_reads_199 : decode cX6_reads 199 = .ok (.aload_n 0, 1) := by decide +kernel
theorem dX6_reads_200 : decode cX6_reads 200 = .ok (.bipush 20, 2) := by decide +kernel
theorem dX6_reads_202 : decode cX6_reads 202 = .ok (.putfield 176, 3) := by decide +kernel
theorem dX6_reads_205 : decode cX6_reads 205 = .ok (.goto 39, 3) := by decide +kernel
theorem dX6_reads_208 : decode cX6_reads 208 = .ok (.aload_n 0, 1) := by decide +kernel
theorem dX6_reads_209 : decode cX6_reads 209 = .ok (.aload_n 0, 1) := by decide +kernel
theorem dX6_reads_210 : decode cX6_reads 210 = .ok (.aload_n 0, 1) := by decide +kernel
theorem dX6_reads_211 : decode cX6_reads 211 = .ok (.getfield 163, 3) := by decide +kernel
theorem dX6_reads_214 : decode cX6_reads 214 = .ok (.bipush 59, 2) := by decide +kernel
theorem dX6_reads_216 : decode cX6_reads 216 = .ok (.bipush 59, 2) := by decide +kernel
theorem dX6_reads_218 : decode cX6_reads 218 = .ok (.invokevirtual 169, 3) := by decide +kernel
theorem dX6_reads_221 : decode cX6_reads 221 = .ok (.ifCond .eq 8, 3) := by decide +kernel
theorem dX6_reads_224 : decode cX6_reads 224 = .ok (.bipush 21, 2) := by decide +kernel
theorem dX6_reads_226 : decode cX6_reads 226 = .ok (.goto 5, 3) := by decide +kernel
theorem dX6_reads_229 : decode cX6_reads 229 = .ok (.bipush 23, 2) := by decide +kernel
theorem dX6_reads_231 : decode cX6_reads 231 = .ok (.putfield 176, 3) := by decide +kernel
theorem dX6_reads_234 : decode cX6_reads 234 = .ok (.aload_n 0, 1) := by decide +kernel
theorem dX6_reads_235 : decode cX6_reads 235 = .ok (.dup, 1) := by decide +kernel
theorem dX6_reads_236 : decode cX6_reads 236 = .ok (.getfield 163, 3) := by decide +kernel
theorem dX6_reads_239 : decode cX6_reads 239 = .ok (.iconst 1, 1) := by decide +kernel
theorem dX6_reads_240 : decode cX6_reads 240 = .ok (.iadd, 1) := by decide +kernel
theorem dX6_reads_241 : decode cX6_reads 241 = .ok (.putfield 163, 3) := by decide +kernel
theorem dX6_reads_244 : decode cX6_reads 244 = .ok (.return_, 1) := by decide +kernel
theorem dX6_passes_0 : decode cX6_passes 0 = .ok (.aload_n 0, 1) := by decide +kernel
theorem dX6_passes_1 : decode cX6_passes 1 = .ok (.getfield 182, 3) := by decide +kernel
theorem dX6_passes_4 : decode cX6_passes 4 = .ok (.ifCond .ne 11, 3) := by decide +kernel
theorem dX6_passes_7 : decode cX6_passes 7 = .ok (.aload_n 0, 1) := by decide +kernel
theorem dX6_passes_8 : decode cX6_passes 8 = .ok (.getfield 176, 3) := by decide +kernel
theorem dX6_passes_11 : decode cX6_passes 11 = .ok (.iload_n 1, 1) := by decide +kernel
theorem dX6_passes_12 : decode cX6_passes 12 = .ok (.if_icmp .eq 5, 3) := by decide +kernel
theorem dX6_passes_15 : decode cX6_passes 15 = .ok (.iconst 0, 1) := by decide +kernel
theorem dX6_passes_16 : decode cX6_passes 16 = .ok (.ireturn, 1) := by decide +kernel
theorem dX6_passes_17 : decode cX6_passes 17 = .ok (.aload_n 0, 1) := by decide +kernel
theorem dX6_passes_18 : decode cX6_passes 18 = .ok (.invokevirtual 186, 3) := by decide +kernel
theorem dX6_passes_21 : decode cX6_passes 21 = .ok (.iconst 1, 1) := by decide +kernel
theorem dX6_passes_22 : decode cX6_passes 22 = .ok (.ireturn, 1) := by decide +kernel
theorem dX6_number_0 : decode cX6_number 0 = .ok (.aload_n 0, 1) := by decide +kernel
theorem dX6_number_1 : decode cX6_number 1 = .ok (.getfield 173, 3) := by decide +kernel
theorem dX6_number_4 : decode cX6_number 4 = .ok (.istore_n 3, 1) := by decide +kernel
theorem dX6_number_5 : decode cX6_number 5 = .ok (.aload_n 0, 1) := by decide +kernel
theorem dX6_number_6 : decode cX6_number 6 = .ok (.aload_n 0, 1) := by decide +kernel
theorem dX6_number_7 : decode cX6_number 7 = .ok (.getfield 182, 3) := by decide +kernel
theorem dX6_number_10 : decode cX6_number 10 = .ok (.ifCond .ne 22, 3) := by decide +kernel
theorem dX6_number_13 : decode cX6_number 13 = .ok (.aload_n 0, 1) := by decide +kernel
theorem dX6_number_14 : decode cX6_number 14 = .ok (.getfield 176, 3) := by decide +kernel
theorem dX6_number_17 : decode cX6_number 17 = .ok (.bipush 20, 2) := by decide +kernel
theorem dX6_number_19 : decode cX6_number 19 = .ok (.if_icmp .ne 13, 3) := by decide +kernel
theorem dX6_number_22 : decode cX6_number 22 = .ok (.iload_n 3, 1) := by decide +kernel
theorem dX6_number_23 : decode cX6_number 23 = .ok (.i2l, 1) := by decide +kernel
theorem dX6_number_24 : decode cX6_number 24 = .ok (.iload_n 1, 1) := by decide +kernel
theorem dX6_number_25 : decode cX6_number 25 = .ok (.iload_n 2, 1) := by decide +kernel
theorem dX6_number_26 : decode cX6_number 26 = .ok (.invokestatic 41, 3) := by decide +kernel
theorem dX6_number_29 : decode cX6_number 29 = .ok (.ifCond .ne 7, 3) := by decide +kernel
