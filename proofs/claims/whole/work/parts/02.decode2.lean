theorem dX4_has_17 : decode cX4_has 17 = .ok (.ireturn, 1) := by decide +kernel
theorem dX4_addOne_0 : decode cX4_addOne 0 = .ok (.aload_n 0, 1) := by decide +kernel
theorem dX4_addOne_1 : decode cX4_addOne 1 = .ok (.getfield 37, 3) := by decide +kernel
theorem dX4_addOne_4 : decode cX4_addOne 4 = .ok (.bipush 8, 2) := by decide +kernel
theorem dX4_addOne_6 : decode cX4_addOne 6 = .ok (.if_icmp .lt 5, 3) := by decide +kernel
theorem dX4_addOne_9 : decode cX4_addOne 9 = .ok (.iconst (-1), 1) := by decide +kernel
theorem dX4_addOne_10 : decode cX4_addOne 10 = .ok (.ireturn, 1) := by decide +kernel
theorem dX4_addOne_11 : decode cX4_addOne 11 = .ok (.aload_n 0, 1) := by decide +kernel
theorem dX4_addOne_12 : decode cX4_addOne 12 = .ok (.getfield 33, 3) := by decide +kernel
theorem dX4_addOne_15 : decode cX4_addOne 15 = .ok (.aload_n 0, 1) := by decide +kernel
theorem dX4_addOne_16 : decode cX4_addOne 16 = .ok (.getfield 37, 3) := by decide +kernel
theorem dX4_addOne_19 : decode cX4_addOne 19 = .ok (.aaload, 1) := by decide +kernel
theorem dX4_addOne_20 : decode cX4_addOne 20 = .ok (.iload_n 1, 1) := by decide +kernel
theorem dX4_addOne_21 : decode cX4_addOne 21 = .ok (.invokevirtual 51, 3) := by decide +kernel
theorem dX4_addOne_24 : decode cX4_addOne 24 = .ok (.aload_n 0, 1) := by decide +kernel
theorem dX4_addOne_25 : decode cX4_addOne 25 = .ok (.dup, 1) := by decide +kernel
theorem dX4_addOne_26 : decode cX4_addOne 26 = .ok (.getfield 37, 3) := by decide +kernel
theorem dX4_addOne_29 : decode cX4_addOne 29 = .ok (.iconst 1, 1) := by decide +kernel
theorem dX4_addOne_30 : decode cX4_addOne 30 = .ok (.iadd, 1) := by decide +kernel
theorem dX4_addOne_31 : decode cX4_addOne 31 = .ok (.putfield 37, 3) := by decide +kernel
theorem dX4_addOne_34 : decode cX4_addOne 34 = .ok (.aload_n 0, 1) := by decide +kernel
theorem dX4_addOne_35 : decode cX4_addOne 35 = .ok (.getfield 37, 3) := by decide +kernel
theorem dX4_addOne_38 : decode cX4_addOne 38 = .ok (.iconst 1, 1) := by decide +kernel
theorem dX4_addOne_39 : decode cX4_addOne 39 = .ok (.isub, 1) := by decide +kernel
theorem dX4_addOne_40 : decode cX4_addOne 40 = .ok (.ireturn, 1) := by decide +kernel
theorem dX4_weekOfDay_0 : decode cX4_weekOfDay 0 = .ok (.aload_n 0, 1) := by decide +kernel
theorem dX4_weekOfDay_1 : decode cX4_weekOfDay 1 = .ok (.getfield 9, 3) := by decide +kernel
theorem dX4_weekOfDay_4 : decode cX4_weekOfDay 4 = .ok (.bipush 7, 2) := by decide +kernel
theorem dX4_weekOfDay_6 : decode cX4_weekOfDay 6 = .ok (.idiv, 1) := by decide +kernel
theorem dX4_weekOfDay_7 : decode cX4_weekOfDay 7 = .ok (.bipush 8, 2) := by decide +kernel
theorem dX4_weekOfDay_9 : decode cX4_weekOfDay 9 = .ok (.invokestatic 55, 3) := by decide +kernel
theorem dX4_weekOfDay_12 : decode cX4_weekOfDay 12 = .ok (.ireturn, 1) := by decide +kernel
theorem dX4_isCold_0 : decode cX4_isCold 0 = .ok (.aload_n 0, 1) := by decide +kernel
theorem dX4_isCold_1 : decode cX4_isCold 1 = .ok (.getfield 28, 3) := by decide +kernel
theorem dX4_isCold_4 : decode cX4_isCold 4 = .ok (.aload_n 0, 1) := by decide +kernel
theorem dX4_isCold_5 : decode cX4_isCold 5 = .ok (.invokevirtual 61, 3) := by decide +kernel
theorem dX4_isCold_8 : decode cX4_isCold 8 = .ok (.iaload, 1) := by decide +kernel
theorem dX4_isCold_9 : decode cX4_isCold 9 = .ok (.iconst 1, 1) := by decide +kernel
theorem dX4_isCold_10 : decode cX4_isCold 10 = .ok (.if_icmp .ne 7, 3) := by decide +kernel
theorem dX4_isCold_13 : decode cX4_isCold 13 = .ok (.iconst 1, 1) := by decide +kernel
theorem dX4_isCold_14 : decode cX4_isCold 14 = .ok (.goto 4, 3) := by decide +kernel
theorem dX4_isCold_17 : decode cX4_isCold 17 = .ok (.iconst 0, 1) := by decide +kernel
theorem dX4_isCold_18 : decode cX4_isCold 18 = .ok (.ireturn, 1) := by decide +kernel
theorem dX4_setOfOff_0 : decode cX4_setOfOff 0 = .ok (.iconst 0, 1) := by decide +kernel
theorem dX4_setOfOff_1 : decode cX4_setOfOff 1 = .ok (.istore_n 1, 1) := by decide +kernel
theorem dX4_setOfOff_2 : decode cX4_setOfOff 2 = .ok (.iconst 0, 1) := by decide +kernel
theorem dX4_setOfOff_3 : decode cX4_setOfOff 3 = .ok (.istore_n 2, 1) := by decide +kernel
theorem dX4_setOfOff_4 : decode cX4_setOfOff 4 = .ok (.iload_n 2, 1) := by decide +kernel
theorem dX4_setOfOff_5 : decode cX4_setOfOff 5 = .ok (.aload_n 0, 1) := by decide +kernel
theorem dX4_setOfOff_6 : decode cX4_setOfOff 6 = .ok (.getfield 37, 3) := by decide +kernel
theorem dX4_setOfOff_9 : decode cX4_setOfOff 9 = .ok (.if_icmp .ge 23, 3) := by decide +kernel
theorem dX4_setOfOff_12 : decode cX4_setOfOff 12 = .ok (.iload_n 1, 1) := by decide +kernel
theorem dX4_setOfOff_13 : decode cX4_setOfOff 13 = .ok (.aload_n 0, 1) := by decide +kernel
theorem dX4_setOfOff_14 : decode cX4_setOfOff 14 = .ok (.getfield 33, 3) := by decide +kernel
theorem dX4_setOfOff_17 : decode cX4_setOfOff 17 = .ok (.iload_n 2, 1) := by decide +kernel
theorem dX4_setOfOff_18 : decode cX4_setOfOff 18 = .ok (.aaload, 1) := by decide +kernel
theorem dX4_setOfOff_19 : decode cX4_setOfOff 19 = .ok (.getfield 65, 3) := by decide +kernel
theorem dX4_setOfOff_22 : decode cX4_setOfOff 22 = .ok (.iload_n 2, 1) := by decide +kernel
theorem dX4_setOfOff_23 : decode cX4_setOfOff 23 = .ok (.ishl, 1) := by decide +kernel
theorem dX4_setOfOff_24 : decode cX4_setOfOff 24 = .ok (.ior, 1) := by decide +kernel
theorem dX4_setOfOff_25 : decode cX4_setOfOff 25 = .ok (.istore_n 1, 1) := by decide +kernel
theorem dX4_setOfOff_26 : decode cX4_setOfOff 26 = .ok (.iinc 2 1, 3) := by decide +kernel
theorem dX4_setOfOff_29 : decode cX4_setOfOff 29 = .ok (.goto (-25), 3) := by decide +kernel
theorem dX4_setOfOff_32 : decode cX4_setOfOff 32 = .ok (.iload_n 1, 1) := by decide +kernel
theorem dX4_setOfOff_33 : decode cX4_setOfOff 33 = .ok (.ireturn, 1) := by decide +kernel
theorem dX4_noise_0 : decode cX4_noise 0 = .ok (.iconst 0, 1) := by decide +kernel
theorem dX4_noise_1 : decode cX4_noise 1 = .ok (.istore_n 1, 1) := by decide +kernel
theorem dX4_noise_2 : decode cX4_noise 2 = .ok (.iconst 0, 1) := by decide +kernel
theorem dX4_noise_3 : decode cX4_noise 3 = .ok (.istore_n 2, 1) := by decide +kernel
theorem dX4_noise_4 : decode cX4_noise 4 = .ok (.iload_n 2, 1) := by decide +kernel
theorem dX4_noise_5 : decode cX4_noise 5 = .ok (.aload_n 0, 1) := by decide +kernel
theorem dX4_noise_6 : decode cX4_noise 6 = .ok (.getfield 37, 3) := by decide +kernel
theorem dX4_noise_9 : decode cX4_noise 9 = .ok (.if_icmp .ge 21, 3) := by decide +kernel
theorem dX4_noise_12 : decode cX4_noise 12 = .ok (.iload_n 1, 1) := by decide +kernel
theorem dX4_noise_13 : decode cX4_noise 13 = .ok (.aload_n 0, 1) := by decide +kernel
theorem dX4_noise_14 : decode cX4_noise 14 = .ok (.getfield 33, 3) := by decide +kernel
theorem dX4_noise_17 : decode cX4_noise 17 = .ok (.iload_n 2, 1) := by decide +kernel
theorem dX4_noise_18 : decode cX4_noise 18 = .ok (.aaload, 1) := by decide +kernel
theorem dX4_noise_19 : decode cX4_noise 19 = .ok (.invokevirtual 68, 3) := by decide +kernel
theorem dX4_noise_22 : decode cX4_noise 22 = .ok (.iadd, 1) := by decide +kernel
theorem dX4_noise_23 : decode cX4_noise 23 = .ok (.istore_n 1, 1) := by decide +kernel
theorem dX4_noise_24 : decode cX4_noise 24 = .ok (.iinc 2 1, 3) := by decide +kernel
theorem dX4_noise_27 : decode cX4_noise 27 = .ok (.goto (-23), 3) := by decide +kernel
theorem dX4_noise_30 : decode cX4_noise 30 = .ok (.iload_n 1, 1) := by decide +kernel
theorem dX4_noise_31 : decode cX4_noise 31 = .ok (.ireturn, 1) := by decide +kernel
theorem dX4_usesTogether_0 : decode cX4_usesTogether 0 = .ok (.aload_n 0, 1) := by decide +kernel
theorem dX4_usesTogether_1 : decode cX4_usesTogether 1 = .ok (.invokevirtual 71, 3) := by decide +kernel
theorem dX4_usesTogether_4 : decode cX4_usesTogether 4 = .ok (.istore_n 1, 1) := by decide +kernel
theorem dX4_usesTogether_5 : decode cX4_usesTogether 5 = .ok (.iconst 0, 1) := by decide +kernel
theorem dX4_usesTogether_6 : decode cX4_usesTogether 6 = .ok (.istore_n 2, 1) := by decide +kernel
theorem dX4_usesTogether_7 : decode cX4_usesTogether 7 = .ok (.iconst 0, 1) := by decide +kernel
theorem dX4_usesTogether_8 : decode cX4_usesTogether 8 = .ok (.istore_n 3, 1) := by decide +kernel
theorem dX4_usesTogether_9 : decode cX4_usesTogether 9 = .ok (.iload_n 3, 1) := by decide +kernel
theorem dX4_usesTogether_10 : decode cX4_usesTogether 10 = .ok (.aload_n 0, 1) := by decide +kernel
theorem dX4_usesTogether_11 : decode cX4_usesTogether 11 = .ok (.getfield 37, 3) := by decide +kernel
theorem dX4_usesTogether_14 : decode cX4_usesTogether 14 = .ok (.if_icmp .ge 22, 3) := by decide +kernel
theorem dX4_usesTogether_17 : decode cX4_usesTogether 17 = .ok (.iload_n 2, 1) := by decide +kernel
theorem dX4_usesTogether_18 : decode cX4_usesTogether 18 = .ok (.aload_n 0, 1) := by decide +kernel
theorem dX4_usesTogether_19 : decode cX4_usesTogether 19 = .ok (.getfield 33, 3) := by decide +kernel
theorem dX4_usesTogether_22 : decode cX4_usesTogether 22 = .ok (.iload_n 3, 1) := by decide +kernel
theorem dX4_usesTogether_23 : decode cX4_usesTogether 23 = .ok (.aaload, 1) := by decide +kernel
theorem dX4_usesTogether_24 : decode cX4_usesTogether 24 = .ok (.iload_n 1, 1) := by decide +kernel
theorem dX4_usesTogether_25 : decode cX4_usesTogether 25 = .ok (.invokevirtual 75, 3) := by decide +kernel
theorem dX4_usesTogether_28 : decode cX4_usesTogether 28 = .ok (.iadd, 1) := by decide +kernel
theorem dX4_usesTogether_29 : decode cX4_usesTogether 29 = .ok (.istore_n 2, 1) := by decide +kernel
theorem dX4_usesTogether_30 : decode cX4_usesTogether 30 = .ok (.iinc 3 1, 3) := by decide +kernel
theorem dX4_usesTogether_33 : decode cX4_usesTogether 33 = .ok (.goto (-24), 3) := by decide +kernel
theorem dX4_usesTogether_36 : decode cX4_usesTogether 36 = .ok (.iload_n 2, 1) := by decide +kernel
theorem dX4_usesTogether_37 : decode cX4_usesTogether 37 = .ok (.ireturn, 1) := by decide +kernel
theorem dX4_stoopedTogether_0 : decode cX4_stoopedTogether 0 = .ok (.iconst 0, 1) := by decide +kernel
theorem dX4_stoopedTogether_1 : decode cX4_stoopedTogether 1 = .ok (.istore_n 1, 1) := by decide +kernel
theorem dX4_stoopedTogether_2 : decode cX4_stoopedTogether 2 = .ok (.iconst 0, 1) := by decide +kernel
theorem dX4_stoopedTogether_3 : decode cX4_stoopedTogether 3 = .ok (.istore_n 2, 1) := by decide +kernel
theorem dX4_stoopedTogether_4 : decode cX4_stoopedTogether 4 = .ok (.iload_n 2, 1) := by decide +kernel
theorem dX4_stoopedTogether_5 : decode cX4_stoopedTogether 5 = .ok (.aload_n 0, 1) := by decide +kernel
theorem dX4_stoopedTogether_6 : decode cX4_stoopedTogether 6 = .ok (.getfield 37, 3) := by decide +kernel
theorem dX4_stoopedTogether_9 : decode cX4_stoopedTogether 9 = .ok (.if_icmp .ge 21, 3) := by decide +kernel
theorem dX4_stoopedTogether_12 : decode cX4_stoopedTogether 12 = .ok (.iload_n 1, 1) := by decide +kernel
theorem dX4_stoopedTogether_13 : decode cX4_stoopedTogether 13 = .ok (.aload_n 0, 1) := by decide +kernel
theorem dX4_stoopedTogether_14 : decode cX4_stoopedTogether 14 = .ok (.getfield 33, 3) := by decide +kernel
theorem dX4_stoopedTogether_17 : decode cX4_stoopedTogether 17 = .ok (.iload_n 2, 1) := by decide +kernel
theorem dX4_stoopedTogether_18 : decode cX4_stoopedTogether 18 = .ok (.aaload, 1) := by decide +kernel
theorem dX4_stoopedTogether_19 : decode cX4_stoopedTogether 19 = .ok (.getfield 79, 3) := by decide +kernel
theorem dX4_stoopedTogether_22 : decode cX4_stoopedTogether 22 = .ok (.iadd, 1) := by decide +kernel
theorem dX4_stoopedTogether_23 : decode cX4_stoopedTogether 23 = .ok (.istore_n 1, 1) := by decide +kernel
theorem dX4_stoopedTogether_24 : decode cX4_stoopedTogether 24 = .ok (.iinc 2 1, 3) := by decide +kernel
theorem dX4_stoopedTogether_27 : decode cX4_stoopedTogether 27 = .ok (.goto (-23), 3) := by decide +kernel
theorem dX4_stoopedTogether_30 : decode cX4_stoopedTogether 30 = .ok (.iload_n 1, 1) := by decide +kernel
theorem dX4_stoopedTogether_31 : decode cX4_stoopedTogether 31 = .ok (.ireturn, 1) := by decide +kernel
theorem dX4_givesWayMost_0 : decode cX4_givesWayMost 0 = .ok (.iconst (-1), 1) := by decide +kernel
theorem dX4_givesWayMost_1 : decode cX4_givesWayMost 1 = .ok (.istore_n 1, 1) := by decide +kernel
theorem dX4_givesWayMost_2 : decode cX4_givesWayMost 2 = .ok (.iconst 0, 1) := by decide +kernel
theorem dX4_givesWayMost_3 : decode cX4_givesWayMost 3 = .ok (.istore_n 2, 1) := by decide +kernel
theorem dX4_givesWayMost_4 : decode cX4_givesWayMost 4 = .ok (.iconst 0, 1) := by decide +kernel
theorem dX4_givesWayMost_5 : decode cX4_givesWayMost 5 = .ok (.istore_n 3, 1) := by decide +kernel
theorem dX4_givesWayMost_6 : decode cX4_givesWayMost 6 = .ok (.iload_n 3, 1) := by decide +kernel
theorem dX4_givesWayMost_7 : decode cX4_givesWayMost 7 = .ok (.aload_n 0, 1) := by decide +kernel
theorem dX4_givesWayMost_8 : decode cX4_givesWayMost 8 = .ok (.getfield 37, 3) := by decide +kernel
theorem dX4_givesWayMost_11 : decode cX4_givesWayMost 11 = .ok (.if_icmp .ge 48, 3) := by decide +kernel
theorem dX4_givesWayMost_14 : decode cX4_givesWayMost 14 = .ok (.aload_n 0, 1) := by decide +kernel
theorem dX4_givesWayMost_15 : decode cX4_givesWayMost 15 = .ok (.getfield 33, 3) := by decide +kernel
theorem dX4_givesWayMost_18 : decode cX4_givesWayMost 18 = .ok (.iload_n 3, 1) := by decide +kernel
theorem dX4_givesWayMost_19 : decode cX4_givesWayMost 19 = .ok (.aaload, 1) := by decide +kernel
theorem dX4_givesWayMost_20 : decode cX4_givesWayMost 20 = .ok (.invokevirtual 82, 3) := by decide +kernel
theorem dX4_givesWayMost_23 : decode cX4_givesWayMost 23 = .ok (.istore 4, 2) := by decide +kernel
theorem dX4_givesWayMost_25 : decode cX4_givesWayMost 25 = .ok (.aload_n 0, 1) := by decide +kernel
theorem dX4_givesWayMost_26 : decode cX4_givesWayMost 26 = .ok (.getfield 33, 3) := by decide +kernel
theorem dX4_givesWayMost_29 : decode cX4_givesWayMost 29 = .ok (.iload_n 3, 1) := by decide +kernel
theorem dX4_givesWayMost_30 : decode cX4_givesWayMost 30 = .ok (.aaload, 1) := by decide +kernel
theorem dX4_givesWayMost_31 : decode cX4_givesWayMost 31 = .ok (.getfield 65, 3) := by decide +kernel
theorem dX4_givesWayMost_34 : decode cX4_givesWayMost 34 = .ok (.ifCond .ne 19, 3) := by decide +kernel
theorem dX4_givesWayMost_37 : decode cX4_givesWayMost 37 = .ok (.iload_n 1, 1) := by decide +kernel
theorem dX4_givesWayMost_38 : decode cX4_givesWayMost 38 = .ok (.iconst (-1), 1) := by decide +kernel
theorem dX4_givesWayMost_39 : decode cX4_givesWayMost 39 = .ok (.if_icmp .eq 9, 3) := by decide +kernel
theorem dX4_givesWayMost_42 : decode cX4_givesWayMost 42 = .ok (.iload 4, 2) := by decide +kernel
theorem dX4_givesWayMost_44 : decode cX4_givesWayMost 44 = .ok (.iload_n 2, 1) := by decide +kernel
theorem dX4_givesWayMost_45 : decode cX4_givesWayMost 45 = .ok (.if_icmp .le 8, 3) := by decide +kernel
theorem dX4_givesWayMost_48 : decode cX4_givesWayMost 48 = .ok (.iload 4, 2) := by decide +kernel
theorem dX4_givesWayMost_50 : decode cX4_givesWayMost 50 = .ok (.istore_n 2, 1) := by decide +kernel
theorem dX4_givesWayMost_51 : decode cX4_givesWayMost 51 = .ok (.iload_n 3, 1) := by decide +kernel
theorem dX4_givesWayMost_52 : decode cX4_givesWayMost 52 = .ok (.istore_n 1, 1) := by decide +kernel
theorem dX4_givesWayMost_53 : decode cX4_givesWayMost 53 = .ok (.iinc 3 1, 3) := by decide +kernel
theorem dX4_givesWayMost_56 : decode cX4_givesWayMost 56 = .ok (.goto (-50), 3) := by decide +kernel
theorem dX4_givesWayMost_59 : decode cX4_givesWayMost 59 = .ok (.iload_n 1, 1) := by decide +kernel
theorem dX4_givesWayMost_60 : decode cX4_givesWayMost 60 = .ok (.ireturn, 1) := by decide +kernel
theorem dX4_givesWayLeast_0 : decode cX4_givesWayLeast 0 = .ok (.iconst (-1), 1) := by decide +kernel
theorem dX4_givesWayLeast_1 : decode cX4_givesWayLeast 1 = .ok (.istore_n 1, 1) := by decide +kernel
theorem dX4_givesWayLeast_2 : decode cX4_givesWayLeast 2 = .ok (.iconst 0, 1) := by decide +kernel
theorem dX4_givesWayLeast_3 : decode cX4_givesWayLeast 3 = .ok (.istore_n 2, 1) := by decide +kernel
theorem dX4_givesWayLeast_4 : decode cX4_givesWayLeast 4 = .ok (.iconst 0, 1) := by decide +kernel
theorem dX4_givesWayLeast_5 : decode cX4_givesWayLeast 5 = .ok (.istore_n 3, 1) := by decide +kernel
theorem dX4_givesWayLeast_6 : decode cX4_givesWayLeast 6 = .ok (.iload_n 3, 1) := by decide +kernel
theorem dX4_givesWayLeast_7 : decode cX4_givesWayLeast 7 = .ok (.aload_n 0, 1) := by decide +kernel
theorem dX4_givesWayLeast_8 : decode cX4_givesWayLeast 8 = .ok (.getfield 37, 3) := by decide +kernel
theorem dX4_givesWayLeast_11 : decode cX4_givesWayLeast 11 = .ok (.if_icmp .ge 49, 3) := by decide +kernel
theorem dX4_givesWayLeast_14 : decode cX4_givesWayLeast 14 = .ok (.aload_n 0, 1) := by decide +kernel
theorem dX4_givesWayLeast_15 : decode cX4_givesWayLeast 15 = .ok (.getfield 33, 3) := by decide +kernel
theorem dX4_givesWayLeast_18 : decode cX4_givesWayLeast 18 = .ok (.iload_n 3, 1) := by decide +kernel
theorem dX4_givesWayLeast_19 : decode cX4_givesWayLeast 19 = .ok (.aaload, 1) := by decide +kernel
theorem dX4_givesWayLeast_20 : decode cX4_givesWayLeast 20 = .ok (.invokevirtual 82, 3) := by decide +kernel
theorem dX4_givesWayLeast_23 : decode cX4_givesWayLeast 23 = .ok (.istore 4, 2) := by decide +kernel
theorem dX4_givesWayLeast_25 : decode cX4_givesWayLeast 25 = .ok (.aload_n 0, 1) := by decide +kernel
theorem dX4_givesWayLeast_26 : decode cX4_givesWayLeast 26 = .ok (.getfield 33, 3) := by decide +kernel
theorem dX4_givesWayLeast_29 : decode cX4_givesWayLeast 29 = .ok (.iload_n 3, 1) := by decide +kernel
theorem dX4_givesWayLeast_30 : decode cX4_givesWayLeast 30 = .ok (.aaload, 1) := by decide +kernel
theorem dX4_givesWayLeast_31 : decode cX4_givesWayLeast 31 = .ok (.getfield 65, 3) := by decide +kernel
theorem dX4_givesWayLeast_34 : decode cX4_givesWayLeast 34 = .ok (.iconst 1, 1) := by decide +kernel
theorem dX4_givesWayLeast_35 : decode cX4_givesWayLeast 35 = .ok (.if_icmp .ne 19, 3) := by decide +kernel
theorem dX4_givesWayLeast_38 : decode cX4_givesWayLeast 38 = .ok (.iload_n 1, 1) := by decide +kernel
theorem dX4_givesWayLeast_39 : decode cX4_givesWayLeast 39 = .ok (.iconst (-1), 1) := by decide +kernel
theorem dX4_givesWayLeast_40 : decode cX4_givesWayLeast 40 = .ok (.if_icmp .eq 9, 3) := by decide +kernel
theorem dX4_givesWayLeast_43 : decode cX4_givesWayLeast 43 = .ok (.iload 4, 2) := by decide +kernel
theorem dX4_givesWayLeast_45 : decode cX4_givesWayLeast 45 = .ok (.iload_n 2, 1) := by decide +kernel
theorem dX4_givesWayLeast_46 : decode cX4_givesWayLeast 46 = .ok (.if_icmp .ge 8, 3) := by decide +kernel
theorem dX4_givesWayLeast_49 : decode cX4_givesWayLeast 49 = .ok (.iload 4, 2) := by decide +kernel
theorem dX4_givesWayLeast_51 : decode cX4_givesWayLeast 51 = .ok (.istore_n 2, 1) := by decide +kernel
theorem dX4_givesWayLeast_52 : decode cX4_givesWayLeast 52 = .ok (.iload_n 3, 1) := by decide +kernel
theorem dX4_givesWayLeast_53 : decode cX4_givesWayLeast 53 = .ok (.istore_n 1, 1) := by decide +kernel
theorem dX4_givesWayLeast_54 : decode cX4_givesWayLeast 54 = .ok (.iinc 3 1, 3) := by decide +kernel
theorem dX4_givesWayLeast_57 : decode cX4_givesWayLeast 57 = .ok (.goto (-51), 3) := by decide +kernel
theorem dX4_givesWayLeast_60 : decode cX4_givesWayLeast 60 = .ok (.iload_n 1, 1) := by decide +kernel
theorem dX4_givesWayLeast_61 : decode cX4_givesWayLeast 61 = .ok (.ireturn, 1) := by decide +kernel
theorem dX4_passDays_0 : decode cX4_passDays 0 = .ok (.iconst 0, 1) := by decide +kernel
theorem dX4_passDays_1 : decode cX4_passDays 1 = .ok (.istore_n 2, 1) := by decide +kernel
theorem dX4_passDays_2 : decode cX4_passDays 2 = .ok (.iload_n 2, 1) := by decide +kernel
theorem dX4_passDays_3 : decode cX4_passDays 3 = .ok (.iload_n 1, 1) := by decide +kernel
theorem dX4_passDays_4 : decode cX4_passDays 4 = .ok (.if_icmp .ge 13, 3) := by decide +kernel
theorem dX4_passDays_7 : decode cX4_passDays 7 = .ok (.aload_n 0, 1) := by decide +kernel
theorem dX4_passDays_8 : decode cX4_passDays 8 = .ok (.invokevirtual 85, 3) := by decide +kernel
theorem dX4_passDays_11 : decode cX4_passDays 11 = .ok (.iinc 2 1, 3) := by decide +kernel
theorem dX4_passDays_14 : decode cX4_passDays 14 = .ok (.goto (-12), 3) := by decide +kernel
theorem dX4_passDays_17 : decode cX4_passDays 17 = .ok (.return_, 1) := by decide +kernel
theorem dX4_passDay_0 : decode cX4_passDay 0 = .ok (.aload_n 0, 1) := by decide +kernel
theorem dX4_passDay_1 : decode cX4_passDay 1 = .ok (.invokevirtual 71, 3) := by decide +kernel
theorem dX4_passDay_4 : decode cX4_passDay 4 = .ok (.istore_n 1, 1) := by decide +kernel
theorem dX4_passDay_5 : decode cX4_passDay 5 = .ok (.aload_n 0, 1) := by decide +kernel
theorem dX4_passDay_6 : decode cX4_passDay 6 = .ok (.sipush 9999, 3) := by decide +kernel
theorem dX4_passDay_9 : decode cX4_passDay 9 = .ok (.aload_n 0, 1) := by decide +kernel
theorem dX4_passDay_10 : decode cX4_passDay 10 = .ok (.getfield 15, 3) := by decide +kernel
theorem dX4_passDay_13 : decode cX4_passDay 13 = .ok (.aload_n 0, 1) := by decide +kernel
theorem dX4_passDay_14 : decode cX4_passDay 14 = .ok (.getfield 24, 3) := by decide +kernel
theorem dX4_passDay_17 : decode cX4_passDay 17 = .ok (.aload_n 0, 1) := by decide +kernel
theorem dX4_passDay_18 : decode cX4_passDay 18 = .ok (.invokevirtual 61, 3) := by decide +kernel
theorem dX4_passDay_21 : decode cX4_passDay 21 = .ok (.iaload, 1) := by decide +kernel
theorem dX4_passDay_22 : decode cX4_passDay 22 = .ok (.iadd, 1) := by decide +kernel
theorem dX4_passDay_23 : decode cX4_passDay 23 = .ok (.invokestatic 88, 3) := by decide +kernel
theorem dX4_passDay_26 : decode cX4_passDay 26 = .ok (.putfield 15, 3) := by decide +kernel
theorem dX4_passDay_29 : decode cX4_passDay 29 = .ok (.aload_n 0, 1) := by decide +kernel
theorem dX4_passDay_30 : decode cX4_passDay 30 = .ok (.invokevirtual 91, 3) := by decide +kernel
theorem dX4_passDay_33 : decode cX4_passDay 33 = .ok (.iconst 0, 1) := by decide +kernel
theorem dX4_passDay_34 : decode cX4_passDay 34 = .ok (.istore_n 2, 1) := by decide +kernel
theorem dX4_passDay_35 : decode cX4_passDay 35 = .ok (.iload_n 2, 1) := by decide +kernel
theorem dX4_passDay_36 : decode cX4_passDay 36 = .ok (.aload_n 0, 1) := by decide +kernel
theorem dX4_passDay_37 : decode cX4_passDay 37 = .ok (.getfield 37, 3) := by decide +kernel
theorem dX4_passDay_40 : decode cX4_passDay 40 = .ok (.if_icmp .ge 20, 3) := by decide +kernel
theorem dX4_passDay_43 : decode cX4_passDay 43 = .ok (.aload_n 0, 1) := by decide +kernel
theorem dX4_passDay_44 : decode cX4_passDay 44 = .ok (.aload_n 0, 1) := by decide +kernel
theorem dX4_passDay_45 : decode cX4_passDay 45 = .ok (.getfield 33, 3) := by decide +kernel
theorem dX4_passDay_48 : decode cX4_passDay 48 = .ok (.iload_n 2, 1) := by decide +kernel
theorem dX4_passDay_49 : decode cX4_passDay 49 = .ok (.aaload, 1) := by decide +kernel
theorem dX4_passDay_50 : decode cX4_passDay 50 = .ok (.iload_n 1, 1) := by decide +kernel
theorem dX4_passDay_51 : decode cX4_passDay 51 = .ok (.invokevirtual 94, 3) := by decide +kernel
theorem dX4_passDay_54 : decode cX4_passDay 54 = .ok (.iinc 2 1, 3) := by decide +kernel
theorem dX4_passDay_57 : decode cX4_passDay 57 = .ok (.goto (-22), 3) := by decide +kernel
theorem dX4_passDay_60 : decode cX4_passDay 60 = .ok (.iconst 0, 1) := by decide +kernel
theorem dX4_passDay_61 : decode cX4_passDay 61 = .ok (.istore_n 2, 1) := by decide +kernel
theorem dX4_passDay_62 : decode cX4_passDay 62 = .ok (.iload_n 2, 1) := by decide +kernel
theorem dX4_passDay_63 : decode cX4_passDay 63 = .ok (.aload_n 0, 1) := by decide +kernel
theorem dX4_passDay_64 : decode cX4_passDay 64 = .ok (.getfield 37, 3) := by decide +kernel
theorem dX4_passDay_67 : decode cX4_passDay 67 = .ok (.if_icmp .ge 19, 3) := by decide +kernel
theorem dX4_passDay_70 : decode cX4_passDay 70 = .ok (.aload_n 0, 1) := by decide +kernel
theorem dX4_passDay_71 : decode cX4_passDay 71 = .ok (.getfield 33, 3) := by decide +kernel
theorem dX4_passDay_74 : decode cX4_passDay 74 = .ok (.iload_n 2, 1) := by decide +kernel
theorem dX4_passDay_75 : decode cX4_passDay 75 = .ok (.aaload, 1) := by decide +kernel
theorem dX4_passDay_76 : decode cX4_passDay 76 = .ok (.iload_n 1, 1) := by decide +kernel
theorem dX4_passDay_77 : decode cX4_passDay 77 = .ok (.invokevirtual 98, 3) := by decide +kernel
theorem dX4_passDay_80 : decode cX4_passDay 80 = .ok (.iinc 2 1, 3) := by decide +kernel
theorem dX4_passDay_83 : decode cX4_passDay 83 = .ok (.goto (-21), 3) := by decide +kernel
theorem dX4_passDay_86 : decode cX4_passDay 86 = .ok (.aload_n 0, 1) := by decide +kernel
theorem dX4_passDay_87 : decode cX4_passDay 87 = .ok (.dup, 1) := by decide +kernel
theorem dX4_passDay_88 : decode cX4_passDay 88 = .ok (.getfield 9, 3) := by decide +kernel
theorem dX4_passDay_91 : decode cX4_passDay 91 = .ok (.iconst 1, 1) := by decide +kernel
theorem dX4_passDay_92 : decode cX4_passDay 92 = .ok (.iadd, 1) := by decide +kernel
theorem dX4_passDay_93 : decode cX4_passDay 93 = .ok (.putfield 9, 3) := by decide +kernel
theorem dX4_passDay_96 : decode cX4_passDay 96 = .ok (.return_, 1) := by decide +kernel
theorem dX4_sendCommittee_0 : decode cX4_sendCommittee 0 = .ok (.aload_n 0, 1) := by decide +kernel
theorem dX4_sendCommittee_1 : decode cX4_sendCommittee 1 = .ok (.getfield 15, 3) := by decide +kernel
theorem dX4_sendCommittee_4 : decode cX4_sendCommittee 4 = .ok (.aload_n 0, 1) := by decide +kernel
theorem dX4_sendCommittee_5 : decode cX4_sendCommittee 5 = .ok (.getfield 18, 3) := by decide +kernel
theorem dX4_sendCommittee_8 : decode cX4_sendCommittee 8 = .ok (.if_icmp .ge 25, 3) := by decide +kernel
theorem dX4_sendCommittee_11 : decode cX4_sendCommittee 11 = .ok (.aload_n 0, 1) := by decide +kernel
theorem dX4_sendCommittee_12 : decode cX4_sendCommittee 12 = .ok (.invokevirtual 102, 3) := by decide +kernel
theorem dX4_sendCommittee_15 : decode cX4_sendCommittee 15 = .ok (.istore_n 1, 1) := by decide +kernel
theorem dX4_sendCommittee_16 : decode cX4_sendCommittee 16 = .ok (.iload_n 1, 1) := by decide +kernel
theorem dX4_sendCommittee_17 : decode cX4_sendCommittee 17 = .ok (.iconst (-1), 1) := by decide +kernel
theorem dX4_sendCommittee_18 : decode cX4_sendCommittee 18 = .ok (.if_icmp .eq 12, 3) := by decide +kernel
theorem dX4_sendCommittee_21 : decode cX4_sendCommittee 21 = .ok (.aload_n 0, 1) := by decide +kernel
theorem dX4_sendCommittee_22 : decode cX4_sendCommittee 22 = .ok (.getfield 33, 3) := by decide +kernel
theorem dX4_sendCommittee_25 : decode cX4_sendCommittee 25 = .ok (.iload_n 1, 1) := by decide +kernel
theorem dX4_sendCommittee_26 : decode cX4_sendCommittee 26 = .ok (.aaload, 1) := by decide +kernel
theorem dX4_sendCommittee_27 : decode cX4_sendCommittee 27 = .ok (.invokevirtual 105, 3) := by decide +kernel
theorem dX4_sendCommittee_30 : decode cX4_sendCommittee 30 = .ok (.goto 34, 3) := by decide +kernel
theorem dX4_sendCommittee_33 : decode cX4_sendCommittee 33 = .ok (.aload_n 0, 1) := by decide +kernel
theorem dX4_sendCommittee_34 : decode cX4_sendCommittee 34 = .ok (.getfield 15, 3) := by decide +kernel
theorem dX4_sendCommittee_37 : decode cX4_sendCommittee 37 = .ok (.aload_n 0, 1) := by decide +kernel
theorem dX4_sendCommittee_38 : decode cX4_sendCommittee 38 = .ok (.getfield 21, 3) := by decide +kernel
theorem dX4_sendCommittee_41 : decode cX4_sendCommittee 41 = .ok (.if_icmp .lt 23, 3) := by decide +kernel
theorem dX4_sendCommittee_44 : decode cX4_sendCommittee 44 = .ok (.aload_n 0, 1) := by decide +kernel
theorem dX4_sendCommittee_45 : decode cX4_sendCommittee 45 = .ok (.invokevirtual 108, 3) := by decide +kernel
theorem dX4_sendCommittee_48 : decode cX4_sendCommittee 48 = .ok (.istore_n 1, 1) := by decide +kernel
theorem dX4_sendCommittee_49 : decode cX4_sendCommittee 49 = .ok (.iload_n 1, 1) := by decide +kernel
theorem dX4_sendCommittee_50 : decode cX4_sendCommittee 50 = .ok (.iconst (-1), 1) := by decide +kernel
theorem dX4_sendCommittee_51 : decode cX4_sendCommittee 51 = .ok (.if_icmp .eq 13, 3) := by decide +kernel
theorem dX4_sendCommittee_54 : decode cX4_sendCommittee 54 = .ok (.aload_n 0, 1) := by decide +kernel
theorem dX4_sendCommittee_55 : decode cX4_sendCommittee 55 = .ok (.getfield 33, 3) := by decide +kernel
theorem dX4_sendCommittee_58 : decode cX4_sendCommittee 58 = .ok (.iload_n 1, 1) := by decide +kernel
theorem dX4_sendCommittee_59 : decode cX4_sendCommittee 59 = .ok (.aaload, 1) := by decide +kernel
theorem dX4_sendCommittee_60 : decode cX4_sendCommittee 60 = .ok (.iconst 0, 1) := by decide +kernel
theorem dX4_sendCommittee_61 : decode cX4_sendCommittee 61 = .ok (.putfield 65, 3) := by decide +kernel
theorem dX4_sendCommittee_64 : decode cX4_sendCommittee 64 = .ok (.return_, 1) := by decide +kernel
theorem dX4_letRun_0 : decode cX4_letRun 0 = .ok (.aload_n 1, 1) := by decide +kernel
theorem dX4_letRun_1 : decode cX4_letRun 1 = .ok (.iload_n 2, 1) := by decide +kernel
theorem dX4_letRun_2 : decode cX4_letRun 2 = .ok (.invokevirtual 75, 3) := by decide +kernel
theorem dX4_letRun_5 : decode cX4_letRun 5 = .ok (.istore_n 3, 1) := by decide +kernel
theorem dX4_letRun_6 : decode cX4_letRun 6 = .ok (.aload_n 0, 1) := by decide +kernel
theorem dX4_letRun_7 : decode cX4_letRun 7 = .ok (.getfield 15, 3) := by decide +kernel
theorem dX4_letRun_10 : decode cX4_letRun 10 = .ok (.iload_n 3, 1) := by decide +kernel
theorem dX4_letRun_11 : decode cX4_letRun 11 = .ok (.if_icmp .lt 16, 3) := by decide +kernel
theorem dX4_letRun_14 : decode cX4_letRun 14 = .ok (.aload_n 0, 1) := by decide +kernel
theorem dX4_letRun_15 : decode cX4_letRun 15 = .ok (.dup, 1) := by decide +kernel
theorem dX4_letRun_16 : decode cX4_letRun 16 = .ok (.getfield 15, 3) := by decide +kernel
theorem dX4_letRun_19 : decode cX4_letRun 19 = .ok (.iload_n 3, 1) := by decide +kernel
theorem dX4_letRun_20 : decode cX4_letRun 20 = .ok (.isub, 1) := by decide +kernel
theorem dX4_letRun_21 : decode cX4_letRun 21 = .ok (.putfield 15, 3) := by decide +kernel
theorem dX4_letRun_24 : decode cX4_letRun 24 = .ok (.goto 15, 3) := by decide +kernel
theorem dX4_letRun_27 : decode cX4_letRun 27 = .ok (.aload_n 1, 1) := by decide +kernel
theorem dX4_letRun_28 : decode cX4_letRun 28 = .ok (.getfield 111, 3) := by decide +kernel
theorem dX4_letRun_31 : decode cX4_letRun 31 = .ok (.iconst 5, 1) := by decide +kernel
theorem dX4_letRun_32 : decode cX4_letRun 32 = .ok (.if_icmp .eq 7, 3) := by decide +kernel
theorem dX4_letRun_35 : decode cX4_letRun 35 = .ok (.aload_n 1, 1) := by decide +kernel
theorem dX4_letRun_36 : decode cX4_letRun 36 = .ok (.invokevirtual 105, 3) := by decide +kernel
theorem dX4_letRun_39 : decode cX4_letRun 39 = .ok (.return_, 1) := by decide +kernel
theorem dX4_daysTillOff_0 : decode cX4_daysTillOff 0 = .ok (.aload_n 0, 1) := by decide +kernel
theorem dX4_daysTillOff_1 : decode cX4_daysTillOff 1 = .ok (.iload_n 1, 1) := by decide +kernel
theorem dX4_daysTillOff_2 : decode cX4_daysTillOff 2 = .ok (.invokevirtual 114, 3) := by decide +kernel
theorem dX4_daysTillOff_5 : decode cX4_daysTillOff 5 = .ok (.ifCond .ne 7, 3) := by decide +kernel
theorem dX4_daysTillOff_8 : decode cX4_daysTillOff 8 = .ok (.sipush 401, 3) := by decide +kernel
theorem dX4_daysTillOff_11 : decode cX4_daysTillOff 11 = .ok (.ireturn, 1) := by decide +kernel
theorem dX4_daysTillOff_12 : decode cX4_daysTillOff 12 = .ok (.iconst 0, 1) := by decide +kernel
theorem dX4_daysTillOff_13 : decode cX4_daysTillOff 13 = .ok (.istore_n 2, 1) := by decide +kernel
theorem dX4_daysTillOff_14 : decode cX4_daysTillOff 14 = .ok (.iload_n 2, 1) := by decide +kernel
theorem dX4_daysTillOff_15 : decode cX4_daysTillOff 15 = .ok (.sipush 400, 3) := by decide +kernel
theorem dX4_daysTillOff_18 : decode cX4_daysTillOff 18 = .ok (.if_icmp .gt 28, 3) := by decide +kernel
theorem dX4_daysTillOff_21 : decode cX4_daysTillOff 21 = .ok (.aload_n 0, 1) := by decide +kernel
theorem dX4_daysTillOff_22 : decode cX4_daysTillOff 22 = .ok (.getfield 33, 3) := by decide +kernel
theorem dX4_daysTillOff_25 : decode cX4_daysTillOff 25 = .ok (.iload_n 1, 1) := by decide +kernel
theorem dX4_daysTillOff_26 : decode cX4_daysTillOff 26 = .ok (.aaload, 1) := by decide +kernel
theorem dX4_daysTillOff_27 : decode cX4_daysTillOff 27 = .ok (.getfield 65, 3) := by decide +kernel
theorem dX4_daysTillOff_30 : decode cX4_daysTillOff 30 = .ok (.iconst 1, 1) := by decide +kernel
theorem dX4_daysTillOff_31 : decode cX4_daysTillOff 31 = .ok (.if_icmp .ne 5, 3) := by decide +kernel
theorem dX4_daysTillOff_34 : decode cX4_daysTillOff 34 = .ok (.iload_n 2, 1) := by decide +kernel
theorem dX4_daysTillOff_35 : decode cX4_daysTillOff 35 = .ok (.ireturn, 1) := by decide +kernel
theorem dX4_daysTillOff_36 : decode cX4_daysTillOff 36 = .ok (.aload_n 0, 1) := by decide +kernel
theorem dX4_daysTillOff_37 : decode cX4_daysTillOff 37 = .ok (.invokevirtual 85, 3) := by decide +kernel
theorem dX4_daysTillOff_40 : decode cX4_daysTillOff 40 = .ok (.iinc 2 1, 3) := by decide +kernel
theorem dX4_daysTillOff_43 : decode cX4_daysTillOff 43 = .ok (.goto (-29), 3) := by decide +kernel
theorem dX4_daysTillOff_46 : decode cX4_daysTillOff 46 = .ok (.sipush 401, 3) := by decide +kernel
theorem dX4_daysTillOff_49 : decode cX4_daysTillOff 49 = .ok (.ireturn, 1) := by decide +kernel
theorem dX4_letsGo_0 : decode cX4_letsGo 0 = .ok (.aload_n 0, 1) := by decide +kernel
theorem dX4_letsGo_1 : decode cX4_letsGo 1 = .ok (.iload_n 1, 1) := by decide +kernel
theorem dX4_letsGo_2 : decode cX4_letsGo 2 = .ok (.invokevirtual 114, 3) := by decide +kernel
theorem dX4_letsGo_5 : decode cX4_letsGo 5 = .ok (.ifCond .ne 5, 3) := by decide +kernel
theorem dX4_letsGo_8 : decode cX4_letsGo 8 = .ok (.iconst 0, 1) := by decide +kernel
theorem dX4_letsGo_9 : decode cX4_letsGo 9 = .ok (.ireturn, 1) := by decide +kernel
theorem dX4_letsGo_10 : decode cX4_letsGo 10 = .ok (.aload_n 0, 1) := by decide +kernel
theorem dX4_letsGo_11 : decode cX4_letsGo 11 = .ok (.getfield 33, 3) := by decide +kernel
theorem dX4_letsGo_14 : decode cX4_letsGo 14 = .ok (.iload_n 1, 1) := by decide +kernel
theorem dX4_letsGo_15 : decode cX4_letsGo 15 = .ok (.aaload, 1) := by decide +kernel
theorem dX4_letsGo_16 : decode cX4_letsGo 16 = .ok (.getfield 79, 3) := by decide +kernel
theorem dX4_letsGo_19 : decode cX4_letsGo 19 = .ok (.istore_n 3, 1) := by decide +kernel
theorem dX4_letsGo_20 : decode cX4_letsGo 20 = .ok (.iconst 0, 1) := by decide +kernel
theorem dX4_letsGo_21 : decode cX4_letsGo 21 = .ok (.istore 4, 2) := by decide +kernel
theorem dX4_letsGo_23 : decode cX4_letsGo 23 = .ok (.iload 4, 2) := by decide +kernel
theorem dX4_letsGo_25 : decode cX4_letsGo 25 = .ok (.iload_n 2, 1) := by decide +kernel
theorem dX4_letsGo_26 : decode cX4_letsGo 26 = .ok (.if_icmp .ge 28, 3) := by decide +kernel
theorem dX4_letsGo_29 : decode cX4_letsGo 29 = .ok (.aload_n 0, 1) := by decide +kernel
theorem dX4_letsGo_30 : decode cX4_letsGo 30 = .ok (.invokevirtual 85, 3) := by decide +kernel
theorem dX4_letsGo_33 : decode cX4_letsGo 33 = .ok (.aload_n 0, 1) := by decide +kernel
theorem dX4_letsGo_34 : decode cX4_letsGo 34 = .ok (.getfield 33, 3) := by decide +kernel
theorem dX4_letsGo_37 : decode cX4_letsGo 37 = .ok (.iload_n 1, 1) := by decide +kernel
theorem dX4_letsGo_38 : decode cX4_letsGo 38 = .ok (.aaload, 1) := by decide +kernel
theorem dX4_letsGo_39 : decode cX4_letsGo 39 = .ok (.getfield 79, 3) := by decide +kernel
theorem dX4_letsGo_42 : decode cX4_letsGo 42 = .ok (.iload_n 3, 1) := by decide +kernel
theorem dX4_letsGo_43 : decode cX4_letsGo 43 = .ok (.if_icmp .le 5, 3) := by decide +kernel
theorem dX4_letsGo_46 : decode cX4_letsGo 46 = .ok (.iconst 0, 1) := by decide +kernel
theorem dX4_letsGo_47 : decode cX4_letsGo 47 = .ok (.ireturn, 1) := by decide +kernel
theorem dX4_letsGo_48 : decode cX4_letsGo 48 = .ok (.iinc 4 1, 3) := by decide +kernel
theorem dX4_letsGo_51 : decode cX4_letsGo 51 = .ok (.goto (-28), 3) := by decide +kernel
theorem dX4_letsGo_54 : decode cX4_letsGo 54 = .ok (.iconst 1, 1) := by decide +kernel
theorem dX4_letsGo_55 : decode cX4_letsGo 55 = .ok (.ireturn, 1) := by decide +kernel
theorem dX4_letsAllGo_0 : decode cX4_letsAllGo 0 = .ok (.aload_n 0, 1) := by decide +kernel
theorem dX4_letsAllGo_1 : decode cX4_letsAllGo 1 = .ok (.invokevirtual 118, 3) := by decide +kernel
theorem dX4_letsAllGo_4 : decode cX4_letsAllGo 4 = .ok (.istore_n 2, 1) := by decide +kernel
theorem dX4_letsAllGo_5 : decode cX4_letsAllGo 5 = .ok (.iconst 0, 1) := by decide +kernel
theorem dX4_letsAllGo_6 : decode cX4_letsAllGo 6 = .ok (.istore_n 3, 1) := by decide +kernel
theorem dX4_letsAllGo_7 : decode cX4_letsAllGo 7 = .ok (.iload_n 3, 1) := by decide +kernel
theorem dX4_letsAllGo_8 : decode cX4_letsAllGo 8 = .ok (.iload_n 1, 1) := by decide +kernel
theorem dX4_letsAllGo_9 : decode cX4_letsAllGo 9 = .ok (.if_icmp .ge 23, 3) := by decide +kernel
theorem dX4_letsAllGo_12 : decode cX4_letsAllGo 12 = .ok (.aload_n 0, 1) := by decide +kernel
theorem dX4_letsAllGo_13 : decode cX4_letsAllGo 13 = .ok (.invokevirtual 85, 3) := by decide +kernel
theorem dX4_letsAllGo_16 : decode cX4_letsAllGo 16 = .ok (.aload_n 0, 1) := by decide +kernel
theorem dX4_letsAllGo_17 : decode cX4_letsAllGo 17 = .ok (.invokevirtual 118, 3) := by decide +kernel
theorem dX4_letsAllGo_20 : decode cX4_letsAllGo 20 = .ok (.iload_n 2, 1) := by decide +kernel
theorem dX4_letsAllGo_21 : decode cX4_letsAllGo 21 = .ok (.if_icmp .le 5, 3) := by decide +kernel
theorem dX4_letsAllGo_24 : decode cX4_letsAllGo 24 = .ok (.iconst 0, 1) := by decide +kernel
theorem dX4_letsAllGo_25 : decode cX4_letsAllGo 25 = .ok (.ireturn, 1) := by decide +kernel
theorem dX4_letsAllGo_26 : decode cX4_letsAllGo 26 = .ok (.iinc 3 1, 3) := by decide +kernel
theorem dX4_letsAllGo_29 : decode cX4_letsAllGo 29 = .ok (.goto (-22), 3) := by decide +kernel
theorem dX4_letsAllGo_32 : decode cX4_letsAllGo 32 = .ok (.iconst 1, 1) := by decide +kernel
theorem dX4_letsAllGo_33 : decode cX4_letsAllGo 33 = .ok (.ireturn, 1) := by decide +kernel
theorem dX4_goesBy_0 : decode cX4_goesBy 0 = .ok (.iconst 0, 1) := by decide +kernel
theorem dX4_goesBy_1 : decode cX4_goesBy 1 = .ok (.istore_n 2, 1) := by decide +kernel
theorem dX4_goesBy_2 : decode cX4_goesBy 2 = .ok (.iload_n 2, 1) := by decide +kernel
theorem dX4_goesBy_3 : decode cX4_goesBy 3 = .ok (.aload_n 1, 1) := by decide +kernel
theorem dX4_goesBy_4 : decode cX4_goesBy 4 = .ok (.getfield 121, 3) := by decide +kernel
theorem dX4_goesBy_7 : decode cX4_goesBy 7 = .ok (.if_icmp .ge 30, 3) := by decide +kernel
theorem dX4_goesBy_10 : decode cX4_goesBy 10 = .ok (.aload_n 1, 1) := by decide +kernel
theorem dX4_goesBy_11 : decode cX4_goesBy 11 = .ok (.getfield 126, 3) := by decide +kernel
theorem dX4_goesBy_14 : decode cX4_goesBy 14 = .ok (.iload_n 2, 1) := by decide +kernel
theorem dX4_goesBy_15 : decode cX4_goesBy 15 = .ok (.laload, 1) := by decide +kernel
theorem dX4_goesBy_16 : decode cX4_goesBy 16 = .ok (.aload_n 0, 1) := by decide +kernel
theorem dX4_goesBy_17 : decode cX4_goesBy 17 = .ok (.getfield 15, 3) := by decide +kernel
theorem dX4_goesBy_20 : decode cX4_goesBy 20 = .ok (.i2l, 1) := by decide +kernel
theorem dX4_goesBy_21 : decode cX4_goesBy 21 = .ok (.lcmp, 1) := by decide +kernel
theorem dX4_goesBy_22 : decode cX4_goesBy 22 = .ok (.ifCond .eq 5, 3) := by decide +kernel
theorem dX4_goesBy_25 : decode cX4_goesBy 25 = .ok (.iconst 0, 1) := by decide +kernel
theorem dX4_goesBy_26 : decode cX4_goesBy 26 = .ok (.ireturn, 1) := by decide +kernel
theorem dX4_goesBy_27 : decode cX4_goesBy 27 = .ok (.aload_n 0, 1) := by decide +kernel
theorem dX4_goesBy_28 : decode cX4_goesBy 28 = .ok (.invokevirtual 85, 3) := by decide +kernel
theorem dX4_goesBy_31 : decode cX4_goesBy 31 = .ok (.iinc 2 1, 3) := by decide +kernel
theorem dX4_goesBy_34 : decode cX4_goesBy 34 = .ok (.goto (-32), 3) := by decide +kernel
theorem dX4_goesBy_37 : decode cX4_goesBy 37 = .ok (.iconst 1, 1) := by decide +kernel
theorem dX4_goesBy_38 : decode cX4_goesBy 38 = .ok (.ireturn, 1) := by decide +kernel
theorem dX5_init_0 : decode cX5_init 0 = .ok (.aload_n 0, 1) := by decide +kernel
theorem dX5_init_1 : decode cX5_init 1 = .ok (.invokespecial 1, 3) := by decide +kernel
theorem dX5_init_4 : decode cX5_init 4 = .ok (.aload_n 0, 1) := by decide +kernel
theorem dX5_init_5 : decode cX5_init 5 = .ok (.new 7, 3) := by decide +kernel
theorem dX5_init_8 : decode cX5_init 8 = .ok (.dup, 1) := by decide +kernel
theorem dX5_init_9 : decode cX5_init 9 = .ok (.invokespecial 9, 3) := by decide +kernel
theorem dX5_init_12 : decode cX5_init 12 = .ok (.putfield 10, 3) := by decide +kernel
theorem dX5_init_15 : decode cX5_init 15 = .ok (.aload_n 0, 1) := by decide +kernel
theorem dX5_init_16 : decode cX5_init 16 = .ok (.new 7, 3) := by decide +kernel
theorem dX5_init_19 : decode cX5_init 19 = .ok (.dup, 1) := by decide +kernel
theorem dX5_init_20 : decode cX5_init 20 = .ok (.invokespecial 9, 3) := by decide +kernel
theorem dX5_init_23 : decode cX5_init 23 = .ok (.putfield 16, 3) := by decide +kernel
theorem dX5_init_26 : decode cX5_init 26 = .ok (.aload_n 0, 1) := by decide +kernel
theorem dX5_init_27 : decode cX5_init 27 = .ok (.new 7, 3) := by decide +kernel
theorem dX5_init_30 : decode cX5_init 30 = .ok (.dup, 1) := by decide +kernel
theorem dX5_init_31 : decode cX5_init 31 = .ok (.invokespecial 9, 3) := by decide +kernel
theorem dX5_init_34 : decode cX5_init 34 = .ok (.putfield 19, 3) := by decide +kernel
theorem dX5_init_37 : decode cX5_init 37 = .ok (.aload_n 0, 1) := by decide +kernel
theorem dX5_init_38 : decode cX5_init 38 = .ok (.iconst 0, 1) := by decide +kernel
theorem dX5_init_39 : decode cX5_init 39 = .ok (.putfield 22, 3) := by decide +kernel
theorem dX5_init_42 : decode cX5_init 42 = .ok (.aload_n 0, 1) := by decide +kernel
theorem dX5_init_43 : decode cX5_init 43 = .ok (.new 26, 3) := by decide +kernel
theorem dX5_init_46 : decode cX5_init 46 = .ok (.dup, 1) := by decide +kernel
theorem dX5_init_47 : decode cX5_init 47 = .ok (.invokespecial 28, 3) := by decide +kernel
theorem dX5_init_50 : decode cX5_init 50 = .ok (.putfield 29, 3) := by decide +kernel
theorem dX5_init_53 : decode cX5_init 53 = .ok (.aload_n 0, 1) := by decide +kernel
theorem dX5_init_54 : decode cX5_init 54 = .ok (.new 33, 3) := by decide +kernel
theorem dX5_init_57 : decode cX5_init 57 = .ok (.dup, 1) := by decide +kernel
theorem dX5_init_58 : decode cX5_init 58 = .ok (.aload_n 0, 1) := by decide +kernel
theorem dX5_init_59 : decode cX5_init 59 = .ok (.getfield 29, 3) := by decide +kernel
theorem dX5_init_62 : decode cX5_init 62 = .ok (.invokespecial 35, 3) := by decide +kernel
theorem dX5_init_65 : decode cX5_init 65 = .ok (.putfield 38, 3) := by decide +kernel
theorem dX5_init_68 : decode cX5_init 68 = .ok (.aload_n 0, 1) := by decide +kernel
theorem dX5_init_69 : decode cX5_init 69 = .ok (.iconst 4, 1) := by decide +kernel
theorem dX5_init_70 : decode cX5_init 70 = .ok (.anewarray 42, 3) := by decide +kernel
theorem dX5_init_73 : decode cX5_init 73 = .ok (.dup, 1) := by decide +kernel
theorem dX5_init_74 : decode cX5_init 74 = .ok (.iconst 0, 1) := by decide +kernel
theorem dX5_init_75 : decode cX5_init 75 = .ok (.new 42, 3) := by decide +kernel
theorem dX5_init_78 : decode cX5_init 78 = .ok (.dup, 1) := by decide +kernel
theorem dX5_init_79 : decode cX5_init 79 = .ok (.invokespecial 44, 3) := by decide +kernel
theorem dX5_init_82 : decode cX5_init 82 = .ok (.aastore, 1) := by decide +kernel
theorem dX5_init_83 : decode cX5_init 83 = .ok (.dup, 1) := by decide +kernel
theorem dX5_init_84 : decode cX5_init 84 = .ok (.iconst 1, 1) := by decide +kernel
theorem dX5_init_85 : decode cX5_init 85 = .ok (.new 42, 3) := by decide +kernel
theorem dX5_init_88 : decode cX5_init 88 = .ok (.dup, 1) := by decide +kernel
theorem dX5_init_89 : decode cX5_init 89 = .ok (.invokespecial 44, 3) := by decide +kernel
theorem dX5_init_92 : decode cX5_init 92 = .ok (.aastore, 1) := by decide +kernel
theorem dX5_init_93 : decode cX5_init 93 = .ok (.dup, 1) := by decide +kernel
theorem dX5_init_94 : decode cX5_init 94 = .ok (.iconst 2, 1) := by decide +kernel
theorem dX5_init_95 : decode cX5_init 95 = .ok (.new 42, 3) := by decide +kernel
theorem dX5_init_98 : decode cX5_init 98 = .ok (.dup, 1) := by decide +kernel
theorem dX5_init_99 : decode cX5_init 99 = .ok (.invokespecial 44, 3) := by decide +kernel
theorem dX5_init_102 : decode cX5_init 102 = .ok (.aastore, 1) := by decide +kernel
theorem dX5_init_103 : decode cX5_init 103 = .ok (.dup, 1) := by decide +kernel
theorem dX5_init_104 : decode cX5_init 104 = .ok (.iconst 3, 1) := by decide +kernel
theorem dX5_init_105 : decode cX5_init 105 = .ok (.new 42, 3) := by decide +kernel
theorem dX5_init_108 : decode cX5_init 108 = .ok (.dup, 1) := by decide +kernel
theorem dX5_init_109 : decode cX5_init 109 = .ok (.invokespecial 44, 3) := by decide +kernel
theorem dX5_init_112 : decode cX5_init 112 = .ok (.aastore, 1) := by decide +kernel
theorem dX5_init_113 : decode cX5_init 113 = .ok (.putfield 45, 3) := by decide +kernel
theorem dX5_init_116 : decode cX5_init 116 = .ok (.aload_n 0, 1) := by decide +kernel
theorem dX5_init_117 : decode cX5_init 117 = .ok (.bipush 7, 2) := by decide +kernel
theorem dX5_init_119 : decode cX5_init 119 = .ok (.newarray .int, 2) := by decide +kernel
theorem dX5_init_121 : decode cX5_init 121 = .ok (.putfield 49, 3) := by decide +kernel
theorem dX5_init_124 : decode cX5_init 124 = .ok (.return_, 1) := by decide +kernel
theorem dX5_water_0 : decode cX5_water 0 = .ok (.iload_n 1, 1) := by decide +kernel
theorem dX5_water_1 : decode cX5_water 1 = .ok (.ifCond .lt 19, 3) := by decide +kernel
theorem dX5_water_4 : decode cX5_water 4 = .ok (.iload_n 1, 1) := by decide +kernel
theorem dX5_water_5 : decode cX5_water 5 = .ok (.iconst 2, 1) := by decide +kernel
theorem dX5_water_6 : decode cX5_water 6 = .ok (.if_icmp .gt 14, 3) := by decide +kernel
theorem dX5_water_9 : decode cX5_water 9 = .ok (.iload_n 2, 1) := by decide +kernel
theorem dX5_water_10 : decode cX5_water 10 = .ok (.ifCond .lt 10, 3) := by decide +kernel
theorem dX5_water_13 : decode cX5_water 13 = .ok (.iload_n 2, 1) := by decide +kernel
theorem dX5_water_14 : decode cX5_water 14 = .ok (.sipush 9999, 3) := by decide +kernel
theorem dX5_water_17 : decode cX5_water 17 = .ok (.if_icmp .le 10, 3) := by decide +kernel
theorem dX5_water_20 : decode cX5_water 20 = .ok (.aload_n 0, 1) := by decide +kernel
theorem dX5_water_21 : decode cX5_water 21 = .ok (.ldc 53, 2) := by decide +kernel
theorem dX5_water_23 : decode cX5_water 23 = .ok (.invokevirtual 54, 3) := by decide +kernel
theorem dX5_water_26 : decode cX5_water 26 = .ok (.ireturn, 1) := by decide +kernel
theorem dX5_water_27 : decode cX5_water 27 = .ok (.iload_n 1, 1) := by decide +kernel
theorem dX5_water_28 : decode cX5_water 28 = .ok (.ifCond .ne 22, 3) := by decide +kernel
theorem dX5_water_31 : decode cX5_water 31 = .ok (.aload_n 0, 1) := by decide +kernel
theorem dX5_water_32 : decode cX5_water 32 = .ok (.getfield 10, 3) := by decide +kernel
theorem dX5_water_35 : decode cX5_water 35 = .ok (.getfield 58, 3) := by decide +kernel
theorem dX5_water_38 : decode cX5_water 38 = .ok (.istore_n 3, 1) := by decide +kernel
theorem dX5_water_39 : decode cX5_water 39 = .ok (.aload_n 0, 1) := by decide +kernel
theorem dX5_water_40 : decode cX5_water 40 = .ok (.getfield 10, 3) := by decide +kernel
theorem dX5_water_43 : decode cX5_water 43 = .ok (.iload_n 2, 1) := by decide +kernel
theorem dX5_water_44 : decode cX5_water 44 = .ok (.putfield 58, 3) := by decide +kernel
theorem dX5_water_47 : decode cX5_water 47 = .ok (.goto 43, 3) := by decide +kernel
theorem dX5_water_50 : decode cX5_water 50 = .ok (.iload_n 1, 1) := by decide +kernel
theorem dX5_water_51 : decode cX5_water 51 = .ok (.iconst 1, 1) := by decide +kernel
theorem dX5_water_52 : decode cX5_water 52 = .ok (.if_icmp .ne 22, 3) := by decide +kernel
theorem dX5_water_55 : decode cX5_water 55 = .ok (.aload_n 0, 1) := by decide +kernel
theorem dX5_water_56 : decode cX5_water 56 = .ok (.getfield 10, 3) := by decide +kernel
theorem dX5_water_59 : decode cX5_water 59 = .ok (.getfield 62, 3) := by decide +kernel
theorem dX5_water_62 : decode cX5_water 62 = .ok (.istore_n 3, 1) := by decide +kernel
theorem dX5_water_63 : decode cX5_water 63 = .ok (.aload_n 0, 1) := by decide +kernel
theorem dX5_water_64 : decode cX5_water 64 = .ok (.getfield 10, 3) := by decide +kernel
theorem dX5_water_67 : decode cX5_water 67 = .ok (.iload_n 2, 1) := by decide +kernel
theorem dX5_water_68 : decode cX5_water 68 = .ok (.putfield 62, 3) := by decide +kernel
theorem dX5_water_71 : decode cX5_water 71 = .ok (.goto 19, 3) := by decide +kernel
theorem dX5_water_74 : decode cX5_water 74 = .ok (.aload_n 0, 1) := by decide +kernel
theorem dX5_water_75 : decode cX5_water 75 = .ok (.getfield 10, 3) := by decide +kernel
theorem dX5_water_78 : decode cX5_water 78 = .ok (.getfield 65, 3) := by decide +kernel
theorem dX5_water_81 : decode cX5_water 81 = .ok (.istore_n 3, 1) := by decide +kernel
theorem dX5_water_82 : decode cX5_water 82 = .ok (.aload_n 0, 1) := by decide +kernel
theorem dX5_water_83 : decode cX5_water 83 = .ok (.getfield 10, 3) := by decide +kernel
theorem dX5_water_86 : decode cX5_water 86 = .ok (.iload_n 2, 1) := by decide +kernel
theorem dX5_water_87 : decode cX5_water 87 = .ok (.putfield 65, 3) := by decide +kernel
theorem dX5_water_90 : decode cX5_water 90 = .ok (.iload_n 3, 1) := by decide +kernel
theorem dX5_water_91 : decode cX5_water 91 = .ok (.ireturn, 1) := by decide +kernel
theorem dX5_week_0 : decode cX5_week 0 = .ok (.iload_n 1, 1) := by decide +kernel
theorem dX5_week_1 : decode cX5_week 1 = .ok (.ifCond .lt 18, 3) := by decide +kernel
theorem dX5_week_4 : decode cX5_week 4 = .ok (.iload_n 1, 1) := by decide +kernel
theorem dX5_week_5 : decode cX5_week 5 = .ok (.bipush 8, 2) := by decide +kernel
theorem dX5_week_7 : decode cX5_week 7 = .ok (.if_icmp .ge 12, 3) := by decide +kernel
theorem dX5_week_10 : decode cX5_week 10 = .ok (.iload_n 2, 1) := by decide +kernel
theorem dX5_week_11 : decode cX5_week 11 = .ok (.ifCond .lt 8, 3) := by decide +kernel
theorem dX5_week_14 : decode cX5_week 14 = .ok (.iload_n 2, 1) := by decide +kernel
theorem dX5_week_15 : decode cX5_week 15 = .ok (.iconst 1, 1) := by decide +kernel
theorem dX5_week_16 : decode cX5_week 16 = .ok (.if_icmp .le 10, 3) := by decide +kernel
theorem dX5_week_19 : decode cX5_week 19 = .ok (.aload_n 0, 1) := by decide +kernel
theorem dX5_week_20 : decode cX5_week 20 = .ok (.ldc 53, 2) := by decide +kernel
theorem dX5_week_22 : decode cX5_week 22 = .ok (.invokevirtual 54, 3) := by decide +kernel
theorem dX5_week_25 : decode cX5_week 25 = .ok (.ireturn, 1) := by decide +kernel
theorem dX5_week_26 : decode cX5_week 26 = .ok (.iload_n 3, 1) := by decide +kernel
theorem dX5_week_27 : decode cX5_week 27 = .ok (.ifCond .lt 17, 3) := by decide +kernel
theorem dX5_week_30 : decode cX5_week 30 = .ok (.iload_n 3, 1) := by decide +kernel
theorem dX5_week_31 : decode cX5_week 31 = .ok (.iload_n 2, 1) := by decide +kernel
theorem dX5_week_32 : decode cX5_week 32 = .ok (.ifCond .ne 8, 3) := by decide +kernel
theorem dX5_week_35 : decode cX5_week 35 = .ok (.bipush 99, 2) := by decide +kernel
theorem dX5_week_37 : decode cX5_week 37 = .ok (.goto 4, 3) := by decide +kernel
theorem dX5_week_40 : decode cX5_week 40 = .ok (.iconst 1, 1) := by decide +kernel
theorem dX5_week_41 : decode cX5_week 41 = .ok (.if_icmp .le 10, 3) := by decide +kernel
theorem dX5_week_44 : decode cX5_week 44 = .ok (.aload_n 0, 1) := by decide +kernel
theorem dX5_week_45 : decode cX5_week 45 = .ok (.ldc 53, 2) := by decide +kernel
theorem dX5_week_47 : decode cX5_week 47 = .ok (.invokevirtual 54, 3) := by decide +kernel
theorem dX5_week_50 : decode cX5_week 50 = .ok (.ireturn, 1) := by decide +kernel
theorem dX5_week_51 : decode cX5_week 51 = .ok (.iload_n 2, 1) := by decide +kernel
theorem dX5_week_52 : decode cX5_week 52 = .ok (.ifCond .ne 13, 3) := by decide +kernel
theorem dX5_week_55 : decode cX5_week 55 = .ok (.aload_n 0, 1) := by decide +kernel
theorem dX5_week_56 : decode cX5_week 56 = .ok (.getfield 10, 3) := by decide +kernel
theorem dX5_week_59 : decode cX5_week 59 = .ok (.getfield 68, 3) := by decide +kernel
theorem dX5_week_62 : decode cX5_week 62 = .ok (.goto 10, 3) := by decide +kernel
theorem dX5_week_65 : decode cX5_week 65 = .ok (.aload_n 0, 1) := by decide +kernel
theorem dX5_week_66 : decode cX5_week 66 = .ok (.getfield 10, 3) := by decide +kernel
theorem dX5_week_69 : decode cX5_week 69 = .ok (.getfield 71, 3) := by decide +kernel
theorem dX5_week_72 : decode cX5_week 72 = .ok (.astore 4, 2) := by decide +kernel
theorem dX5_week_74 : decode cX5_week 74 = .ok (.aload 4, 2) := by decide +kernel
theorem dX5_week_76 : decode cX5_week 76 = .ok (.iload_n 1, 1) := by decide +kernel
theorem dX5_week_77 : decode cX5_week 77 = .ok (.iaload, 1) := by decide +kernel
theorem dX5_week_78 : decode cX5_week 78 = .ok (.istore 5, 2) := by decide +kernel
theorem dX5_week_80 : decode cX5_week 80 = .ok (.aload 4, 2) := by decide +kernel
theorem dX5_week_82 : decode cX5_week 82 = .ok (.iload_n 1, 1) := by decide +kernel
theorem dX5_week_83 : decode cX5_week 83 = .ok (.iload_n 3, 1) := by decide +kernel
theorem dX5_week_84 : decode cX5_week 84 = .ok (.iastore, 1) := by decide +kernel
theorem dX5_week_85 : decode cX5_week 85 = .ok (.iload 5, 2) := by decide +kernel
theorem dX5_week_87 : decode cX5_week 87 = .ok (.ireturn, 1) := by decide +kernel
theorem dX5_now_0 : decode cX5_now 0 = .ok (.iload_n 1, 1) := by decide +kernel
theorem dX5_now_1 : decode cX5_now 1 = .ok (.tableswitch 151 0 9 #[55, 63, 71, 79, 87, 95, 111, 127, 135, 143], 55) := by decide +kernel
theorem dX5_now_56 : decode cX5_now 56 = .ok (.aload_n 0, 1) := by decide +kernel
theorem dX5_now_57 : decode cX5_now 57 = .ok (.getfield 10, 3) := by decide +kernel
theorem dX5_now_60 : decode cX5_now 60 = .ok (.getfield 74, 3) := by decide +kernel
theorem dX5_now_63 : decode cX5_now 63 = .ok (.ireturn, 1) := by decide +kernel
theorem dX5_now_64 : decode cX5_now 64 = .ok (.aload_n 0, 1) := by decide +kernel
theorem dX5_now_65 : decode cX5_now 65 = .ok (.getfield 10, 3) := by decide +kernel
theorem dX5_now_68 : decode cX5_now 68 = .ok (.invokevirtual 77, 3) := by decide +kernel
theorem dX5_now_71 : decode cX5_now 71 = .ok (.ireturn, 1) := by decide +kernel
theorem dX5_now_72 : decode cX5_now 72 = .ok (.aload_n 0, 1) := by decide +kernel
theorem dX5_now_73 : decode cX5_now 73 = .ok (.getfield 10, 3) := by decide +kernel
theorem dX5_now_76 : decode cX5_now 76 = .ok (.getfield 58, 3) := by decide +kernel
theorem dX5_now_79 : decode cX5_now 79 = .ok (.ireturn, 1) := by decide +kernel
theorem dX5_now_80 : decode cX5_now 80 = .ok (.aload_n 0, 1) := by decide +kernel
theorem dX5_now_81 : decode cX5_now 81 = .ok (.getfield 10, 3) := by decide +kernel
theorem dX5_now_84 : decode cX5_now 84 = .ok (.getfield 62, 3) := by decide +kernel
theorem dX5_now_87 : decode cX5_now 87 = .ok (.ireturn, 1) := by decide +kernel
theorem dX5_now_88 : decode cX5_now 88 = .ok (.aload_n 0, 1) := by decide +kernel
theorem dX5_now_89 : decode cX5_now 89 = .ok (.getfield 10, 3) := by decide +kernel
theorem dX5_now_92 : decode cX5_now 92 = .ok (.getfield 65, 3) := by decide +kernel
theorem dX5_now_95 : decode cX5_now 95 = .ok (.ireturn, 1) := by decide +kernel
theorem dX5_now_96 : decode cX5_now 96 = .ok (.aload_n 0, 1) := by decide +kernel
theorem dX5_now_97 : decode cX5_now 97 = .ok (.getfield 10, 3) := by decide +kernel
theorem dX5_now_100 : decode cX5_now 100 = .ok (.getfield 68, 3) := by decide +kernel
theorem dX5_now_103 : decode cX5_now 103 = .ok (.aload_n 0, 1) := by decide +kernel
theorem dX5_now_104 : decode cX5_now 104 = .ok (.getfield 10, 3) := by decide +kernel
theorem dX5_now_107 : decode cX5_now 107 = .ok (.invokevirtual 77, 3) := by decide +kernel
theorem dX5_now_110 : decode cX5_now 110 = .ok (.iaload, 1) := by decide +kernel
theorem dX5_now_111 : decode cX5_now 111 = .ok (.ireturn, 1) := by decide +kernel
theorem dX5_now_112 : decode cX5_now 112 = .ok (.aload_n 0, 1) := by decide +kernel
theorem dX5_now_113 : decode cX5_now 113 = .ok (.getfield 10, 3) := by decide +kernel
theorem dX5_now_116 : decode cX5_now 116 = .ok (.getfield 71, 3) := by decide +kernel
theorem dX5_now_119 : decode cX5_now 119 = .ok (.aload_n 0, 1) := by decide +kernel
theorem dX5_now_120 : decode cX5_now 120 = .ok (.getfield 10, 3) := by decide +kernel
theorem dX5_now_123 : decode cX5_now 123 = .ok (.invokevirtual 77, 3) := by decide +kernel
theorem dX5_now_126 : decode cX5_now 126 = .ok (.iaload, 1) := by decide +kernel
theorem dX5_now_127 : decode cX5_now 127 = .ok (.ireturn, 1) := by decide +kernel
theorem dX5_now_128 : decode cX5_now 128 = .ok (.aload_n 0, 1) := by decide +kernel
theorem dX5_now_129 : decode cX5_now 129 = .ok (.getfield 10, 3) := by decide +kernel
theorem dX5_now_132 : decode cX5_now 132 = .ok (.invokevirtual 81, 3) := by decide +kernel
theorem dX5_now_135 : decode cX5_now 135 = .ok (.ireturn, 1) := by decide +kernel
theorem dX5_now_136 : decode cX5_now 136 = .ok (.aload_n 0, 1) := by decide +kernel
theorem dX5_now_137 : decode cX5_now 137 = .ok (.getfield 10, 3) := by decide +kernel
theorem dX5_now_140 : decode cX5_now 140 = .ok (.invokevirtual 84, 3) := by decide +kernel
theorem dX5_now_143 : decode cX5_now 143 = .ok (.ireturn, 1) := by decide +kernel
theorem dX5_now_144 : decode cX5_now 144 = .ok (.aload_n 0, 1) := by decide +kernel
theorem dX5_now_145 : decode cX5_now 145 = .ok (.getfield 10, 3) := by decide +kernel
theorem dX5_now_148 : decode cX5_now 148 = .ok (.invokevirtual 87, 3) := by decide +kernel
theorem dX5_now_151 : decode cX5_now 151 = .ok (.ireturn, 1) := by decide +kernel
theorem dX5_now_152 : decode cX5_now 152 = .ok (.aload_n 0, 1) := by decide +kernel
theorem dX5_now_153 : decode cX5_now 153 = .ok (.ldc 53, 2) := by decide +kernel
theorem dX5_now_155 : decode cX5_now 155 = .ok (.invokevirtual 54, 3) := by decide +kernel
theorem dX5_now_158 : decode cX5_now 158 = .ok (.ireturn, 1) := by decide +kernel
theorem dX5_fountain_0 : decode cX5_fountain 0 = .ok (.iload_n 1, 1) := by decide +kernel
theorem dX5_fountain_1 : decode cX5_fountain 1 = .ok (.invokestatic 90, 3) := by decide +kernel
theorem dX5_fountain_4 : decode cX5_fountain 4 = .ok (.ifCond .ne 10, 3) := by decide +kernel
theorem dX5_fountain_7 : decode cX5_fountain 7 = .ok (.aload_n 0, 1) := by decide +kernel
theorem dX5_fountain_8 : decode cX5_fountain 8 = .ok (.ldc 53, 2) := by decide +kernel
theorem dX5_fountain_10 : decode cX5_fountain 10 = .ok (.invokevirtual 54, 3) := by decide +kernel
theorem dX5_fountain_13 : decode cX5_fountain 13 = .ok (.ireturn, 1) := by decide +kernel
theorem dX5_fountain_14 : decode cX5_fountain 14 = .ok (.aload_n 0, 1) := by decide +kernel
theorem dX5_fountain_15 : decode cX5_fountain 15 = .ok (.getfield 10, 3) := by decide +kernel
theorem dX5_fountain_18 : decode cX5_fountain 18 = .ok (.getfield 94, 3) := by decide +kernel
theorem dX5_fountain_21 : decode cX5_fountain 21 = .ok (.bipush 8, 2) := by decide +kernel
theorem dX5_fountain_23 : decode cX5_fountain 23 = .ok (.if_icmp .lt 10, 3) := by decide +kernel
theorem dX5_fountain_26 : decode cX5_fountain 26 = .ok (.aload_n 0, 1) := by decide +kernel
theorem dX5_fountain_27 : decode cX5_fountain 27 = .ok (.ldc 97, 2) := by decide +kernel
theorem dX5_fountain_29 : decode cX5_fountain 29 = .ok (.invokevirtual 54, 3) := by decide +kernel
theorem dX5_fountain_32 : decode cX5_fountain 32 = .ok (.ireturn, 1) := by decide +kernel
theorem dX5_fountain_33 : decode cX5_fountain 33 = .ok (.aload_n 0, 1) := by decide +kernel
theorem dX5_fountain_34 : decode cX5_fountain 34 = .ok (.getfield 10, 3) := by decide +kernel
theorem dX5_fountain_37 : decode cX5_fountain 37 = .ok (.iload_n 1, 1) := by decide +kernel
theorem dX5_fountain_38 : decode cX5_fountain 38 = .ok (.invokevirtual 98, 3) := by decide +kernel
theorem dX5_fountain_41 : decode cX5_fountain 41 = .ok (.ireturn, 1) := by decide +kernel
theorem dX5_of_0 : decode cX5_of 0 = .ok (.aload_n 0, 1) := by decide +kernel
theorem dX5_of_1 : decode cX5_of 1 = .ok (.getfield 10, 3) := by decide +kernel
theorem dX5_of_4 : decode cX5_of 4 = .ok (.iload_n 1, 1) := by decide +kernel
theorem dX5_of_5 : decode cX5_of 5 = .ok (.invokevirtual 101, 3) := by decide +kernel
theorem dX5_of_8 : decode cX5_of 8 = .ok (.ifCond .ne 10, 3) := by decide +kernel
theorem dX5_of_11 : decode cX5_of 11 = .ok (.aload_n 0, 1) := by decide +kernel
theorem dX5_of_12 : decode cX5_of 12 = .ok (.ldc 53, 2) := by decide +kernel
theorem dX5_of_14 : decode cX5_of 14 = .ok (.invokevirtual 54, 3) := by decide +kernel
theorem dX5_of_17 : decode cX5_of 17 = .ok (.ireturn, 1) := by decide +kernel
theorem dX5_of_18 : decode cX5_of 18 = .ok (.aload_n 0, 1) := by decide +kernel
theorem dX5_of_19 : decode cX5_of 19 = .ok (.getfield 10, 3) := by decide +kernel
theorem dX5_of_22 : decode cX5_of 22 = .ok (.getfield 104, 3) := by decide +kernel
theorem dX5_of_25 : decode cX5_of 25 = .ok (.iload_n 1, 1) := by decide +kernel
theorem dX5_of_26 : decode cX5_of 26 = .ok (.aaload, 1) := by decide +kernel
theorem dX5_of_27 : decode cX5_of 27 = .ok (.astore_n 3, 1) := by decide +kernel
theorem dX5_of_28 : decode cX5_of 28 = .ok (.aload_n 0, 1) := by decide +kernel
theorem dX5_of_29 : decode cX5_of 29 = .ok (.getfield 10, 3) := by decide +kernel
theorem dX5_of_32 : decode cX5_of 32 = .ok (.invokevirtual 108, 3) := by decide +kernel
theorem dX5_of_35 : decode cX5_of 35 = .ok (.istore 4, 2) := by decide +kernel
theorem dX5_of_37 : decode cX5_of 37 = .ok (.iload_n 2, 1) := by decide +kernel
theorem dX5_of_38 : decode cX5_of 38 = .ok (.tableswitch 106 0 8 #[50, 55, 60, 65, 70, 75, 82, 87, 97], 50) := by decide +kernel
theorem dX5_of_88 : decode cX5_of 88 = .ok (.aload_n 3, 1) := by decide +kernel
theorem dX5_of_89 : decode cX5_of 89 = .ok (.getfield 112, 3) := by decide +kernel
theorem dX5_of_92 : decode cX5_of 92 = .ok (.ireturn, 1) := by decide +kernel
theorem dX5_of_93 : decode cX5_of 93 = .ok (.aload_n 3, 1) := by decide +kernel
theorem dX5_of_94 : decode cX5_of 94 = .ok (.getfield 117, 3) := by decide +kernel
theorem dX5_of_97 : decode cX5_of 97 = .ok (.ireturn, 1) := by decide +kernel
theorem dX5_of_98 : decode cX5_of 98 = .ok (.aload_n 3, 1) := by decide +kernel
theorem dX5_of_99 : decode cX5_of 99 = .ok (.getfield 120, 3) := by decide +kernel
theorem dX5_of_102 : decode cX5_of 102 = .ok (.ireturn, 1) := by decide +kernel
theorem dX5_of_103 : decode cX5_of 103 = .ok (.aload_n 3, 1) := by decide +kernel
theorem dX5_of_104 : decode cX5_of 104 = .ok (.getfield 123, 3) := by decide +kernel
theorem dX5_of_107 : decode cX5_of 107 = .ok (.ireturn, 1) := by decide +kernel
theorem dX5_of_108 : decode cX5_of 108 = .ok (.aload_n 3, 1) := by decide +kernel
theorem dX5_of_109 : decode cX5_of 109 = .ok (.getfield 126, 3) := by decide +kernel
theorem dX5_of_112 : decode cX5_of 112 = .ok (.ireturn, 1) := by decide +kernel
theorem dX5_of_113 : decode cX5_of 113 = .ok (.aload_n 3, 1) := by decide +kernel
theorem dX5_of_114 : decode cX5_of 114 = .ok (.iload 4, 2) := by decide +kernel
theorem dX5_of_116 : decode cX5_of 116 = .ok (.invokevirtual 129, 3) := by decide +kernel
theorem dX5_of_119 : decode cX5_of 119 = .ok (.ireturn, 1) := by decide +kernel
theorem dX5_of_120 : decode cX5_of 120 = .ok (.aload_n 3, 1) := by decide +kernel
theorem dX5_of_121 : decode cX5_of 121 = .ok (.invokevirtual 133, 3) := by decide +kernel
theorem dX5_of_124 : decode cX5_of 124 = .ok (.ireturn, 1) := by decide +kernel
theorem dX5_of_125 : decode cX5_of 125 = .ok (.bipush 100, 2) := by decide +kernel
theorem dX5_of_127 : decode cX5_of 127 = .ok (.aload_n 3, 1) := by decide +kernel
theorem dX5_of_128 : decode cX5_of 128 = .ok (.iload 4, 2) := by decide +kernel
theorem dX5_of_130 : decode cX5_of 130 = .ok (.invokevirtual 136, 3) := by decide +kernel
theorem dX5_of_133 : decode cX5_of 133 = .ok (.iadd, 1) := by decide +kernel
theorem dX5_of_134 : decode cX5_of 134 = .ok (.ireturn, 1) := by decide +kernel
theorem dX5_of_135 : decode cX5_of 135 = .ok (.sipush 1000, 3) := by decide +kernel
theorem dX5_of_138 : decode cX5_of 138 = .ok (.aload_n 3, 1) := by decide +kernel
theorem dX5_of_139 : decode cX5_of 139 = .ok (.invokevirtual 139, 3) := by decide +kernel
theorem dX5_of_142 : decode cX5_of 142 = .ok (.iadd, 1) := by decide +kernel
theorem dX5_of_143 : decode cX5_of 143 = .ok (.ireturn, 1) := by decide +kernel
theorem dX5_of_144 : decode cX5_of 144 = .ok (.aload_n 0, 1) := by decide +kernel
theorem dX5_of_145 : decode cX5_of 145 = .ok (.ldc 53, 2) := by decide +kernel
theorem dX5_of_147 : decode cX5_of 147 = .ok (.invokevirtual 54, 3) := by decide +kernel
theorem dX5_of_150 : decode cX5_of 150 = .ok (.ireturn, 1) := by decide +kernel
theorem dX5_set_0 : decode cX5_set 0 = .ok (.aload_n 0, 1) := by decide +kernel
theorem dX5_set_1 : decode cX5_set 1 = .ok (.getfield 10, 3) := by decide +kernel
theorem dX5_set_4 : decode cX5_set 4 = .ok (.iload_n 1, 1) := by decide +kernel
theorem dX5_set_5 : decode cX5_set 5 = .ok (.invokevirtual 101, 3) := by decide +kernel
theorem dX5_set_8 : decode cX5_set 8 = .ok (.ifCond .eq 11, 3) := by decide +kernel
theorem dX5_set_11 : decode cX5_set 11 = .ok (.iload_n 2, 1) := by decide +kernel
theorem dX5_set_12 : decode cX5_set 12 = .ok (.iload_n 3, 1) := by decide +kernel
theorem dX5_set_13 : decode cX5_set 13 = .ok (.invokestatic 142, 3) := by decide +kernel
theorem dX5_set_16 : decode cX5_set 16 = .ok (.ifCond .ne 10, 3) := by decide +kernel
theorem dX5_set_19 : decode cX5_set 19 = .ok (.aload_n 0, 1) := by decide +kernel
theorem dX5_set_20 : decode cX5_set 20 = .ok (.ldc 53, 2) := by decide +kernel
theorem dX5_set_22 : decode cX5_set 22 = .ok (.invokevirtual 54, 3) := by decide +kernel
theorem dX5_set_25 : decode cX5_set 25 = .ok (.ireturn, 1) := by decide +kernel
theorem dX5_set_26 : decode cX5_set 26 = .ok (.aload_n 0, 1) := by decide +kernel
theorem dX5_set_27 : decode cX5_set 27 = .ok (.getfield 10, 3) := by decide +kernel
theorem dX5_set_30 : decode cX5_set 30 = .ok (.getfield 104, 3) := by decide +kernel
theorem dX5_set_33 : decode cX5_set 33 = .ok (.iload_n 1, 1) := by decide +kernel
theorem dX5_set_34 : decode cX5_set 34 = .ok (.aaload, 1) := by decide +kernel
theorem dX5_set_35 : decode cX5_set 35 = .ok (.astore 4, 2) := by decide +kernel
theorem dX5_set_37 : decode cX5_set 37 = .ok (.iload_n 2, 1) := by decide +kernel
theorem dX5_set_38 : decode cX5_set 38 = .ok (.iconst 1, 1) := by decide +kernel
theorem dX5_set_39 : decode cX5_set 39 = .ok (.if_icmp .ne 19, 3) := by decide +kernel
theorem dX5_set_42 : decode cX5_set 42 = .ok (.aload 4, 2) := by decide +kernel
theorem dX5_set_44 : decode cX5_set 44 = .ok (.getfield 117, 3) := by decide +kernel
theorem dX5_set_47 : decode cX5_set 47 = .ok (.istore 5, 2) := by decide +kernel
theorem dX5_set_49 : decode cX5_set 49 = .ok (.aload 4, 2) := by decide +kernel
theorem dX5_set_51 : decode cX5_set 51 = .ok (.iload_n 3, 1) := by decide +kernel
theorem dX5_set_52 : decode cX5_set 52 = .ok (.putfield 117, 3) := by decide +kernel
theorem dX5_set_55 : decode cX5_set 55 = .ok (.goto 58, 3) := by decide +kernel
theorem dX5_set_58 : decode cX5_set 58 = .ok (.iload_n 2, 1) := by decide +kernel
theorem dX5_set_59 : decode cX5_set 59 = .ok (.iconst 2, 1) := by decide +kernel
theorem dX5_set_60 : decode cX5_set 60 = .ok (.if_icmp .ne 19, 3) := by decide +kernel
theorem dX5_set_63 : decode cX5_set 63 = .ok (.aload 4, 2) := by decide +kernel
theorem dX5_set_65 : decode cX5_set 65 = .ok (.getfield 120, 3) := by decide +kernel
theorem dX5_set_68 : decode cX5_set 68 = .ok (.istore 5, 2) := by decide +kernel
theorem dX5_set_70 : decode cX5_set 70 = .ok (.aload 4, 2) := by decide +kernel
theorem dX5_set_72 : decode cX5_set 72 = .ok (.iload_n 3, 1) := by decide +kernel
theorem dX5_set_73 : decode cX5_set 73 = .ok (.putfield 120, 3) := by decide +kernel
theorem dX5_set_76 : decode cX5_set 76 = .ok (.goto 37, 3) := by decide +kernel
theorem dX5_set_79 : decode cX5_set 79 = .ok (.iload_n 2, 1) := by decide +kernel
theorem dX5_set_80 : decode cX5_set 80 = .ok (.iconst 3, 1) := by decide +kernel
theorem dX5_set_81 : decode cX5_set 81 = .ok (.if_icmp .ne 19, 3) := by decide +kernel
theorem dX5_set_84 : decode cX5_set 84 = .ok (.aload 4, 2) := by decide +kernel
theorem dX5_set_86 : decode cX5_set 86 = .ok (.getfield 123, 3) := by decide +kernel
theorem dX5_set_89 : decode cX5_set 89 = .ok (.istore 5, 2) := by decide +kernel
theorem dX5_set_91 : decode cX5_set 91 = .ok (.aload 4, 2) := by decide +kernel
theorem dX5_set_93 : decode cX5_set 93 = .ok (.iload_n 3, 1) := by decide +kernel
theorem dX5_set_94 : decode cX5_set 94 = .ok (.putfield 123, 3) := by decide +kernel
theorem dX5_set_97 : decode cX5_set 97 = .ok (.goto 16, 3) := by decide +kernel
theorem dX5_set_100 : decode cX5_set 100 = .ok (.aload 4, 2) := by decide +kernel
theorem dX5_set_102 : decode cX5_set 102 = .ok (.getfield 126, 3) := by decide +kernel
theorem dX5_set_105 : decode cX5_set 105 = .ok (.istore 5, 2) := by decide +kernel
theorem dX5_set_107 : decode cX5_set 107 = .ok (.aload 4, 2) := by decide +kernel
theorem dX5_set_109 : decode cX5_set 109 = .ok (.iload_n 3, 1) := by decide +kernel
theorem dX5_set_110 : decode cX5_set 110 = .ok (.putfield 126, 3) := by decide +kernel
theorem dX5_set_113 : decode cX5_set 113 = .ok (.iload 5, 2) := by decide +kernel
theorem dX5_set_115 : decode cX5_set 115 = .ok (.ireturn, 1) := by decide +kernel
theorem dX5_turn_0 : decode cX5_turn 0 = .ok (.aload_n 0, 1) := by decide +kernel
theorem dX5_turn_1 : decode cX5_turn 1 = .ok (.getfield 10, 3) := by decide +kernel
theorem dX5_turn_4 : decode cX5_turn 4 = .ok (.iload_n 1, 1) := by decide +kernel
theorem dX5_turn_5 : decode cX5_turn 5 = .ok (.invokevirtual 101, 3) := by decide +kernel
theorem dX5_turn_8 : decode cX5_turn 8 = .ok (.ifCond .eq 10, 3) := by decide +kernel
theorem dX5_turn_11 : decode cX5_turn 11 = .ok (.iload_n 2, 1) := by decide +kernel
theorem dX5_turn_12 : decode cX5_turn 12 = .ok (.invokestatic 90, 3) := by decide +kernel
theorem dX5_turn_15 : decode cX5_turn 15 = .ok (.ifCond .ne 10, 3) := by decide +kernel
theorem dX5_turn_18 : decode cX5_turn 18 = .ok (.aload_n 0, 1) := by decide +kernel
theorem dX5_turn_19 : decode cX5_turn 19 = .ok (.ldc 53, 2) := by decide +kernel
theorem dX5_turn_21 : decode cX5_turn 21 = .ok (.invokevirtual 54, 3) := by decide +kernel
theorem dX5_turn_24 : decode cX5_turn 24 = .ok (.ireturn, 1) := by decide +kernel
theorem dX5_turn_25 : decode cX5_turn 25 = .ok (.aload_n 0, 1) := by decide +kernel
theorem dX5_turn_26 : decode cX5_turn 26 = .ok (.getfield 10, 3) := by decide +kernel
theorem dX5_turn_29 : decode cX5_turn 29 = .ok (.getfield 104, 3) := by decide +kernel
theorem dX5_turn_32 : decode cX5_turn 32 = .ok (.iload_n 1, 1) := by decide +kernel
theorem dX5_turn_33 : decode cX5_turn 33 = .ok (.aaload, 1) := by decide +kernel
theorem dX5_turn_34 : decode cX5_turn 34 = .ok (.astore_n 3, 1) := by decide +kernel
theorem dX5_turn_35 : decode cX5_turn 35 = .ok (.aload_n 3, 1) := by decide +kernel
theorem dX5_turn_36 : decode cX5_turn 36 = .ok (.getfield 112, 3) := by decide +kernel
theorem dX5_turn_39 : decode cX5_turn 39 = .ok (.istore 4, 2) := by decide +kernel
theorem dX5_turn_41 : decode cX5_turn 41 = .ok (.aload_n 3, 1) := by decide +kernel
theorem dX5_turn_42 : decode cX5_turn 42 = .ok (.iload_n 2, 1) := by decide +kernel
theorem dX5_turn_43 : decode cX5_turn 43 = .ok (.putfield 112, 3) := by decide +kernel
theorem dX5_turn_46 : decode cX5_turn 46 = .ok (.iload 4, 2) := by decide +kernel
theorem dX5_turn_48 : decode cX5_turn 48 = .ok (.ireturn, 1) := by decide +kernel
theorem dX5_as_0 : decode cX5_as 0 = .ok (.aload_n 0, 1) := by decide +kernel
theorem dX5_as_1 : decode cX5_as 1 = .ok (.getfield 10, 3) := by decide +kernel
theorem dX5_as_4 : decode cX5_as 4 = .ok (.iload_n 1, 1) := by decide +kernel
theorem dX5_as_5 : decode cX5_as 5 = .ok (.invokevirtual 101, 3) := by decide +kernel
theorem dX5_as_8 : decode cX5_as 8 = .ok (.ifCond .eq 10, 3) := by decide +kernel
theorem dX5_as_11 : decode cX5_as 11 = .ok (.iload_n 2, 1) := by decide +kernel
theorem dX5_as_12 : decode cX5_as 12 = .ok (.invokestatic 90, 3) := by decide +kernel
theorem dX5_as_15 : decode cX5_as 15 = .ok (.ifCond .ne 10, 3) := by decide +kernel
theorem dX5_as_18 : decode cX5_as 18 = .ok (.aload_n 0, 1) := by decide +kernel
theorem dX5_as_19 : decode cX5_as 19 = .ok (.ldc 53, 2) := by decide +kernel
theorem dX5_as_21 : decode cX5_as 21 = .ok (.invokevirtual 54, 3) := by decide +kernel
theorem dX5_as_24 : decode cX5_as 24 = .ok (.ireturn, 1) := by decide +kernel
theorem dX5_as_25 : decode cX5_as 25 = .ok (.aload_n 0, 1) := by decide +kernel
theorem dX5_as_26 : decode cX5_as 26 = .ok (.getfield 10, 3) := by decide +kernel
theorem dX5_as_29 : decode cX5_as 29 = .ok (.getfield 104, 3) := by decide +kernel
theorem dX5_as_32 : decode cX5_as 32 = .ok (.iload_n 1, 1) := by decide +kernel
theorem dX5_as_33 : decode cX5_as 33 = .ok (.aaload, 1) := by decide +kernel
theorem dX5_as_34 : decode cX5_as 34 = .ok (.astore_n 3, 1) := by decide +kernel
theorem dX5_as_35 : decode cX5_as 35 = .ok (.aload_n 3, 1) := by decide +kernel
theorem dX5_as_36 : decode cX5_as 36 = .ok (.getfield 112, 3) := by decide +kernel
theorem dX5_as_39 : decode cX5_as 39 = .ok (.iload_n 2, 1) := by decide +kernel
theorem dX5_as_40 : decode cX5_as 40 = .ok (.invokestatic 146, 3) := by decide +kernel
theorem dX5_as_43 : decode cX5_as 43 = .ok (.ifCond .eq 10, 3) := by decide +kernel
theorem dX5_as_46 : decode cX5_as 46 = .ok (.aload_n 3, 1) := by decide +kernel
theorem dX5_as_47 : decode cX5_as 47 = .ok (.getfield 123, 3) := by decide +kernel
theorem dX5_as_50 : decode cX5_as 50 = .ok (.goto 9, 3) := by decide +kernel
theorem dX5_as_53 : decode cX5_as 53 = .ok (.aload_n 0, 1) := by decide +kernel
theorem dX5_as_54 : decode cX5_as 54 = .ok (.ldc 149, 2) := by decide +kernel
theorem dX5_as_56 : decode cX5_as 56 = .ok (.invokevirtual 54, 3) := by decide +kernel
theorem dX5_as_59 : decode cX5_as 59 = .ok (.ireturn, 1) := by decide +kernel
theorem dX5_next_0 : decode cX5_next 0 = .ok (.aload_n 0, 1) := by decide +kernel
theorem dX5_next_1 : decode cX5_next 1 = .ok (.getfield 10, 3) := by decide +kernel
theorem dX5_next_4 : decode cX5_next 4 = .ok (.invokevirtual 150, 3) := by decide +kernel
theorem dX5_next_7 : decode cX5_next 7 = .ok (.istore_n 1, 1) := by decide +kernel
theorem dX5_next_8 : decode cX5_next 8 = .ok (.iload_n 1, 1) := by decide +kernel
theorem dX5_next_9 : decode cX5_next 9 = .ok (.iconst (-1), 1) := by decide +kernel
theorem dX5_next_10 : decode cX5_next 10 = .ok (.if_icmp .ne 12, 3) := by decide +kernel
theorem dX5_next_13 : decode cX5_next 13 = .ok (.aload_n 0, 1) := by decide +kernel
theorem dX5_next_14 : decode cX5_next 14 = .ok (.ldc 153, 2) := by decide +kernel
theorem dX5_next_16 : decode cX5_next 16 = .ok (.invokevirtual 54, 3) := by decide +kernel
theorem dX5_next_19 : decode cX5_next 19 = .ok (.goto 4, 3) := by decide +kernel
theorem dX5_next_22 : decode cX5_next 22 = .ok (.iload_n 1, 1) := by decide +kernel
theorem dX5_next_23 : decode cX5_next 23 = .ok (.ireturn, 1) := by decide +kernel
theorem dX5_days_0 : decode cX5_days 0 = .ok (.iload_n 1, 1) := by decide +kernel
theorem dX5_days_1 : decode cX5_days 1 = .ok (.invokestatic 154, 3) := by decide +kernel
theorem dX5_days_4 : decode cX5_days 4 = .ok (.ifCond .ne 10, 3) := by decide +kernel
theorem dX5_days_7 : decode cX5_days 7 = .ok (.aload_n 0, 1) := by decide +kernel
theorem dX5_days_8 : decode cX5_days 8 = .ok (.ldc 53, 2) := by decide +kernel
theorem dX5_days_10 : decode cX5_days 10 = .ok (.invokevirtual 54, 3) := by decide +kernel
theorem dX5_days_13 : decode cX5_days 13 = .ok (.ireturn, 1) := by decide +kernel
theorem dX5_days_14 : decode cX5_days 14 = .ok (.aload_n 0, 1) := by decide +kernel
theorem dX5_days_15 : decode cX5_days 15 = .ok (.getfield 10, 3) := by decide +kernel
theorem dX5_days_18 : decode cX5_days 18 = .ok (.getfield 74, 3) := by decide +kernel
theorem dX5_days_21 : decode cX5_days 21 = .ok (.iload_n 1, 1) := by decide +kernel
theorem dX5_days_22 : decode cX5_days 22 = .ok (.iadd, 1) := by decide +kernel
theorem dX5_days_23 : decode cX5_days 23 = .ok (.ldc 157, 2) := by decide +kernel
theorem dX5_days_25 : decode cX5_days 25 = .ok (.if_icmp .le 10, 3) := by decide +kernel
theorem dX5_days_28 : decode cX5_days 28 = .ok (.aload_n 0, 1) := by decide +kernel
theorem dX5_days_29 : decode cX5_days 29 = .ok (.ldc 158, 2) := by decide +kernel
theorem dX5_days_31 : decode cX5_days 31 = .ok (.invokevirtual 54, 3) := by decide +kernel
theorem dX5_days_34 : decode cX5_days 34 = .ok (.ireturn, 1) := by decide +kernel
theorem dX5_days_35 : decode cX5_days 35 = .ok (.aload_n 0, 1) := by decide +kernel
theorem dX5_days_36 : decode cX5_days 36 = .ok (.getfield 10, 3) := by decide +kernel
theorem dX5_days_39 : decode cX5_days 39 = .ok (.iload_n 1, 1) := by decide +kernel
theorem dX5_days_40 : decode cX5_days 40 = .ok (.invokevirtual 159, 3) := by decide +kernel
theorem dX5_days_43 : decode cX5_days 43 = .ok (.aload_n 0, 1) := by decide +kernel
theorem dX5_days_44 : decode cX5_days 44 = .ok (.getfield 10, 3) := by decide +kernel
theorem dX5_days_47 : decode cX5_days 47 = .ok (.getfield 58, 3) := by decide +kernel
theorem dX5_days_50 : decode cX5_days 50 = .ok (.ireturn, 1) := by decide +kernel
theorem dX5_on_0 : decode cX5_on 0 = .ok (.iload_n 1, 1) := by decide +kernel
theorem dX5_on_1 : decode cX5_on 1 = .ok (.invokestatic 163, 3) := by decide +kernel
theorem dX5_on_4 : decode cX5_on 4 = .ok (.ifCond .eq 12, 3) := by decide +kernel
theorem dX5_on_7 : decode cX5_on 7 = .ok (.iload_n 2, 1) := by decide +kernel
theorem dX5_on_8 : decode cX5_on 8 = .ok (.ifCond .lt 8, 3) := by decide +kernel
theorem dX5_on_11 : decode cX5_on 11 = .ok (.iload_n 2, 1) := by decide +kernel
theorem dX5_on_12 : decode cX5_on 12 = .ok (.iconst 2, 1) := by decide +kernel
theorem dX5_on_13 : decode cX5_on 13 = .ok (.if_icmp .le 10, 3) := by decide +kernel
theorem dX5_on_16 : decode cX5_on 16 = .ok (.aload_n 0, 1) := by decide +kernel
theorem dX5_on_17 : decode cX5_on 17 = .ok (.ldc 53, 2) := by decide +kernel
theorem dX5_on_19 : decode cX5_on 19 = .ok (.invokevirtual 54, 3) := by decide +kernel
theorem dX5_on_22 : decode cX5_on 22 = .ok (.ireturn, 1) := by decide +kernel
theorem dX5_on_23 : decode cX5_on 23 = .ok (.aload_n 0, 1) := by decide +kernel
theorem dX5_on_24 : decode cX5_on 24 = .ok (.getfield 16, 3) := by decide +kernel
theorem dX5_on_27 : decode cX5_on 27 = .ok (.aload_n 0, 1) := by decide +kernel
theorem dX5_on_28 : decode cX5_on 28 = .ok (.getfield 10, 3) := by decide +kernel
theorem dX5_on_31 : decode cX5_on 31 = .ok (.invokevirtual 166, 3) := by decide +kernel
theorem dX5_on_34 : decode cX5_on 34 = .ok (.aload_n 0, 1) := by decide +kernel
theorem dX5_on_35 : decode cX5_on 35 = .ok (.getfield 16, 3) := by decide +kernel
theorem dX5_on_38 : decode cX5_on 38 = .ok (.iload_n 1, 1) := by decide +kernel
theorem dX5_on_39 : decode cX5_on 39 = .ok (.invokevirtual 159, 3) := by decide +kernel
theorem dX5_on_42 : decode cX5_on 42 = .ok (.iload_n 2, 1) := by decide +kernel
theorem dX5_on_43 : decode cX5_on 43 = .ok (.ifCond .ne 11, 3) := by decide +kernel
theorem dX5_on_46 : decode cX5_on 46 = .ok (.aload_n 0, 1) := by decide +kernel
theorem dX5_on_47 : decode cX5_on 47 = .ok (.getfield 16, 3) := by decide +kernel
theorem dX5_on_50 : decode cX5_on 50 = .ok (.getfield 58, 3) := by decide +kernel
theorem dX5_on_53 : decode cX5_on 53 = .ok (.ireturn, 1) := by decide +kernel
theorem dX5_on_54 : decode cX5_on 54 = .ok (.iload_n 2, 1) := by decide +kernel
theorem dX5_on_55 : decode cX5_on 55 = .ok (.iconst 1, 1) := by decide +kernel
theorem dX5_on_56 : decode cX5_on 56 = .ok (.if_icmp .ne 13, 3) := by decide +kernel
theorem dX5_on_59 : decode cX5_on 59 = .ok (.aload_n 0, 1) := by decide +kernel
theorem dX5_on_60 : decode cX5_on 60 = .ok (.getfield 16, 3) := by decide +kernel
theorem dX5_on_63 : decode cX5_on 63 = .ok (.invokevirtual 84, 3) := by decide +kernel
theorem dX5_on_66 : decode cX5_on 66 = .ok (.goto 10, 3) := by decide +kernel
theorem dX5_on_69 : decode cX5_on 69 = .ok (.aload_n 0, 1) := by decide +kernel
theorem dX5_on_70 : decode cX5_on 70 = .ok (.getfield 16, 3) := by decide +kernel
theorem dX5_on_73 : decode cX5_on 73 = .ok (.invokevirtual 81, 3) := by decide +kernel
theorem dX5_on_76 : decode cX5_on 76 = .ok (.ireturn, 1) := by decide +kernel
theorem dX5_then_0 : decode cX5_then 0 = .ok (.aload_n 0, 1) := by decide +kernel
theorem dX5_then_1 : decode cX5_then 1 = .ok (.getfield 10, 3) := by decide +kernel
theorem dX5_then_4 : decode cX5_then 4 = .ok (.iload_n 1, 1) := by decide +kernel
theorem dX5_then_5 : decode cX5_then 5 = .ok (.invokevirtual 101, 3) := by decide +kernel
theorem dX5_then_8 : decode cX5_then 8 = .ok (.ifCond .eq 19, 3) := by decide +kernel
theorem dX5_then_11 : decode cX5_then 11 = .ok (.iload_n 2, 1) := by decide +kernel
theorem dX5_then_12 : decode cX5_then 12 = .ok (.invokestatic 163, 3) := by decide +kernel
theorem dX5_then_15 : decode cX5_then 15 = .ok (.ifCond .eq 12, 3) := by decide +kernel
theorem dX5_then_18 : decode cX5_then 18 = .ok (.iload_n 3, 1) := by decide +kernel
theorem dX5_then_19 : decode cX5_then 19 = .ok (.ifCond .lt 8, 3) := by decide +kernel
theorem dX5_then_22 : decode cX5_then 22 = .ok (.iload_n 3, 1) := by decide +kernel
theorem dX5_then_23 : decode cX5_then 23 = .ok (.iconst 2, 1) := by decide +kernel
theorem dX5_then_24 : decode cX5_then 24 = .ok (.if_icmp .le 10, 3) := by decide +kernel
theorem dX5_then_27 : decode cX5_then 27 = .ok (.aload_n 0, 1) := by decide +kernel
theorem dX5_then_28 : decode cX5_then 28 = .ok (.ldc 53, 2) := by decide +kernel
theorem dX5_then_30 : decode cX5_then 30 = .ok (.invokevirtual 54, 3) := by decide +kernel
theorem dX5_then_33 : decode cX5_then 33 = .ok (.ireturn, 1) := by decide +kernel
theorem dX5_then_34 : decode cX5_then 34 = .ok (.aload_n 0, 1) := by decide +kernel
theorem dX5_then_35 : decode cX5_then 35 = .ok (.getfield 16, 3) := by decide +kernel
theorem dX5_then_38 : decode cX5_then 38 = .ok (.aload_n 0, 1) := by decide +kernel
theorem dX5_then_39 : decode cX5_then 39 = .ok (.getfield 10, 3) := by decide +kernel
theorem dX5_then_42 : decode cX5_then 42 = .ok (.invokevirtual 166, 3) := by decide +kernel
theorem dX5_then_45 : decode cX5_then 45 = .ok (.aload_n 0, 1) := by decide +kernel
theorem dX5_then_46 : decode cX5_then 46 = .ok (.getfield 16, 3) := by decide +kernel
theorem dX5_then_49 : decode cX5_then 49 = .ok (.iload_n 2, 1) := by decide +kernel
theorem dX5_then_50 : decode cX5_then 50 = .ok (.invokevirtual 159, 3) := by decide +kernel
theorem dX5_then_53 : decode cX5_then 53 = .ok (.aload_n 0, 1) := by decide +kernel
theorem dX5_then_54 : decode cX5_then 54 = .ok (.getfield 16, 3) := by decide +kernel
theorem dX5_then_57 : decode cX5_then 57 = .ok (.getfield 104, 3) := by decide +kernel
theorem dX5_then_60 : decode cX5_then 60 = .ok (.iload_n 1, 1) := by decide +kernel
theorem dX5_then_61 : decode cX5_then 61 = .ok (.aaload, 1) := by decide +kernel
theorem dX5_then_62 : decode cX5_then 62 = .ok (.astore 4, 2) := by decide +kernel
theorem dX5_then_64 : decode cX5_then 64 = .ok (.iload_n 3, 1) := by decide +kernel
theorem dX5_then_65 : decode cX5_then 65 = .ok (.ifCond .ne 9, 3) := by decide +kernel
theorem dX5_then_68 : decode cX5_then 68 = .ok (.aload 4, 2) := by decide +kernel
theorem dX5_then_70 : decode cX5_then 70 = .ok (.getfield 120, 3) := by decide +kernel
theorem dX5_then_73 : decode cX5_then 73 = .ok (.ireturn, 1) := by decide +kernel
theorem dX5_then_74 : decode cX5_then 74 = .ok (.iload_n 3, 1) := by decide +kernel
theorem dX5_then_75 : decode cX5_then 75 = .ok (.iconst 1, 1) := by decide +kernel
theorem dX5_then_76 : decode cX5_then 76 = .ok (.if_icmp .ne 11, 3) := by decide +kernel
theorem dX5_then_79 : decode cX5_then 79 = .ok (.aload 4, 2) := by decide +kernel
theorem dX5_then_81 : decode cX5_then 81 = .ok (.getfield 123, 3) := by decide +kernel
theorem dX5_then_84 : decode cX5_then 84 = .ok (.goto 8, 3) := by decide +kernel
theorem dX5_then_87 : decode cX5_then 87 = .ok (.aload 4, 2) := by decide +kernel
theorem dX5_then_89 : decode cX5_then 89 = .ok (.getfield 126, 3) := by decide +kernel
theorem dX5_then_92 : decode cX5_then 92 = .ok (.ireturn, 1) := by decide +kernel
theorem dX5_falls_0 : decode cX5_falls 0 = .ok (.iload_n 1, 1) := by decide +kernel
theorem dX5_falls_1 : decode cX5_falls 1 = .ok (.ifCond .lt 10, 3) := by decide +kernel
theorem dX5_falls_4 : decode cX5_falls 4 = .ok (.iload_n 1, 1) := by decide +kernel
theorem dX5_falls_5 : decode cX5_falls 5 = .ok (.sipush 9999, 3) := by decide +kernel
theorem dX5_falls_8 : decode cX5_falls 8 = .ok (.if_icmp .le 10, 3) := by decide +kernel
theorem dX5_falls_11 : decode cX5_falls 11 = .ok (.aload_n 0, 1) := by decide +kernel
theorem dX5_falls_12 : decode cX5_falls 12 = .ok (.ldc 53, 2) := by decide +kernel
theorem dX5_falls_14 : decode cX5_falls 14 = .ok (.invokevirtual 54, 3) := by decide +kernel
theorem dX5_falls_17 : decode cX5_falls 17 = .ok (.ireturn, 1) := by decide +kernel
theorem dX5_falls_18 : decode cX5_falls 18 = .ok (.aload_n 0, 1) := by decide +kernel
theorem dX5_falls_19 : decode cX5_falls 19 = .ok (.getfield 16, 3) := by decide +kernel
theorem dX5_falls_22 : decode cX5_falls 22 = .ok (.aload_n 0, 1) := by decide +kernel
theorem dX5_falls_23 : decode cX5_falls 23 = .ok (.getfield 10, 3) := by decide +kernel
theorem dX5_falls_26 : decode cX5_falls 26 = .ok (.invokevirtual 166, 3) := by decide +kernel
theorem dX5_falls_29 : decode cX5_falls 29 = .ok (.iconst 0, 1) := by decide +kernel
theorem dX5_falls_30 : decode cX5_falls 30 = .ok (.istore_n 2, 1) := by decide +kernel
theorem dX5_falls_31 : decode cX5_falls 31 = .ok (.iload_n 2, 1) := by decide +kernel
theorem dX5_falls_32 : decode cX5_falls 32 = .ok (.sipush 400, 3) := by decide +kernel
theorem dX5_falls_35 : decode cX5_falls 35 = .ok (.if_icmp .gt 29, 3) := by decide +kernel
theorem dX5_falls_38 : decode cX5_falls 38 = .ok (.aload_n 0, 1) := by decide +kernel
theorem dX5_falls_39 : decode cX5_falls 39 = .ok (.getfield 16, 3) := by decide +kernel
theorem dX5_falls_42 : decode cX5_falls 42 = .ok (.getfield 58, 3) := by decide +kernel
theorem dX5_falls_45 : decode cX5_falls 45 = .ok (.iload_n 1, 1) := by decide +kernel
theorem dX5_falls_46 : decode cX5_falls 46 = .ok (.if_icmp .gt 5, 3) := by decide +kernel
theorem dX5_falls_49 : decode cX5_falls 49 = .ok (.iload_n 2, 1) := by decide +kernel
theorem dX5_falls_50 : decode cX5_falls 50 = .ok (.ireturn, 1) := by decide +kernel
theorem dX5_falls_51 : decode cX5_falls 51 = .ok (.aload_n 0, 1) := by decide +kernel
theorem dX5_falls_52 : decode cX5_falls 52 = .ok (.getfield 16, 3) := by decide +kernel
theorem dX5_falls_55 : decode cX5_falls 55 = .ok (.invokevirtual 170, 3) := by decide +kernel
theorem dX5_falls_58 : decode cX5_falls 58 = .ok (.iinc 2 1, 3) := by decide +kernel
theorem dX5_falls_61 : decode cX5_falls 61 = .ok (.goto (-30), 3) := by decide +kernel
theorem dX5_falls_64 : decode cX5_falls 64 = .ok (.aload_n 0, 1) := by decide +kernel
theorem dX5_falls_65 : decode cX5_falls 65 = .ok (.ldc 153, 2) := by decide +kernel
theorem dX5_falls_67 : decode cX5_falls 67 = .ok (.invokevirtual 54, 3) := by decide +kernel
theorem dX5_falls_70 : decode cX5_falls 70 = .ok (.ireturn, 1) := by decide +kernel
theorem dX5_off_0 : decode cX5_off 0 = .ok (.aload_n 0, 1) := by decide +kernel
theorem dX5_off_1 : decode cX5_off 1 = .ok (.getfield 10, 3) := by decide +kernel
theorem dX5_off_4 : decode cX5_off 4 = .ok (.iload_n 1, 1) := by decide +kernel
theorem dX5_off_5 : decode cX5_off 5 = .ok (.invokevirtual 101, 3) := by decide +kernel
theorem dX5_off_8 : decode cX5_off 8 = .ok (.ifCond .ne 10, 3) := by decide +kernel
theorem dX5_off_11 : decode cX5_off 11 = .ok (.aload_n 0, 1) := by decide +kernel
theorem dX5_off_12 : decode cX5_off 12 = .ok (.ldc 53, 2) := by decide +kernel
theorem dX5_off_14 : decode cX5_off 14 = .ok (.invokevirtual 54, 3) := by decide +kernel
theorem dX5_off_17 : decode cX5_off 17 = .ok (.ireturn, 1) := by decide +kernel
theorem dX5_off_18 : decode cX5_off 18 = .ok (.aload_n 0, 1) := by decide +kernel
theorem dX5_off_19 : decode cX5_off 19 = .ok (.getfield 16, 3) := by decide +kernel
theorem dX5_off_22 : decode cX5_off 22 = .ok (.aload_n 0, 1) := by decide +kernel
theorem dX5_off_23 : decode cX5_off 23 = .ok (.getfield 10, 3) := by decide +kernel
theorem dX5_off_26 : decode cX5_off 26 = .ok (.invokevirtual 166, 3) := by decide +kernel
