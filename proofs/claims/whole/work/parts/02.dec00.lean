theorem dX0_init_0 : decode cX0_init 0 = .ok (.aload_n 0, 1) := by decide +kernel
theorem dX0_init_1 : decode cX0_init 1 = .ok (.iload_n 1, 1) := by decide +kernel
theorem dX0_init_2 : decode cX0_init 2 = .ok (.iload_n 2, 1) := by decide +kernel
theorem dX0_init_3 : decode cX0_init 3 = .ok (.iload_n 3, 1) := by decide +kernel
theorem dX0_init_4 : decode cX0_init 4 = .ok (.invokespecial 1, 3) := by decide +kernel
theorem dX0_init_7 : decode cX0_init 7 = .ok (.return_, 1) := by decide +kernel
theorem dX0_ownKind_0 : decode cX0_ownKind 0 = .ok (.iconst 2, 1) := by decide +kernel
theorem dX0_ownKind_1 : decode cX0_ownKind 1 = .ok (.ireturn, 1) := by decide +kernel
theorem dX0_doesIt_0 : decode cX0_doesIt 0 = .ok (.iload_n 1, 1) := by decide +kernel
theorem dX0_doesIt_1 : decode cX0_doesIt 1 = .ok (.aload_n 0, 1) := by decide +kernel
theorem dX0_doesIt_2 : decode cX0_doesIt 2 = .ok (.getfield 7, 3) := by decide +kernel
theorem dX0_doesIt_5 : decode cX0_doesIt 5 = .ok (.invokestatic 13, 3) := by decide +kernel
theorem dX0_doesIt_8 : decode cX0_doesIt 8 = .ok (.ifCond .ne 7, 3) := by decide +kernel
theorem dX0_doesIt_11 : decode cX0_doesIt 11 = .ok (.iconst 1, 1) := by decide +kernel
theorem dX0_doesIt_12 : decode cX0_doesIt 12 = .ok (.goto 4, 3) := by decide +kernel
theorem dX0_doesIt_15 : decode cX0_doesIt 15 = .ok (.iconst 0, 1) := by decide +kernel
theorem dX0_doesIt_16 : decode cX0_doesIt 16 = .ok (.ireturn, 1) := by decide +kernel
theorem dX0_size_0 : decode cX0_size 0 = .ok (.aload_n 1, 1) := by decide +kernel
theorem dX0_size_1 : decode cX0_size 1 = .ok (.bipush 12, 2) := by decide +kernel
theorem dX0_size_3 : decode cX0_size 3 = .ok (.invokevirtual 19, 3) := by decide +kernel
theorem dX0_size_6 : decode cX0_size 6 = .ok (.aload_n 0, 1) := by decide +kernel
theorem dX0_size_7 : decode cX0_size 7 = .ok (.aload_n 1, 1) := by decide +kernel
theorem dX0_size_8 : decode cX0_size 8 = .ok (.invokespecial 25, 3) := by decide +kernel
theorem dX0_size_11 : decode cX0_size 11 = .ok (.ineg, 1) := by decide +kernel
theorem dX0_size_12 : decode cX0_size 12 = .ok (.ireturn, 1) := by decide +kernel
theorem dX0_mark_0 : decode cX0_mark 0 = .ok (.aload_n 1, 1) := by decide +kernel
theorem dX0_mark_1 : decode cX0_mark 1 = .ok (.bipush 24, 2) := by decide +kernel
theorem dX0_mark_3 : decode cX0_mark 3 = .ok (.invokevirtual 19, 3) := by decide +kernel
theorem dX0_mark_6 : decode cX0_mark 6 = .ok (.iconst 2, 1) := by decide +kernel
theorem dX0_mark_7 : decode cX0_mark 7 = .ok (.aload_n 0, 1) := by decide +kernel
theorem dX0_mark_8 : decode cX0_mark 8 = .ok (.aload_n 1, 1) := by decide +kernel
theorem dX0_mark_9 : decode cX0_mark 9 = .ok (.invokespecial 29, 3) := by decide +kernel
theorem dX0_mark_12 : decode cX0_mark 12 = .ok (.imul, 1) := by decide +kernel
theorem dX0_mark_13 : decode cX0_mark 13 = .ok (.ireturn, 1) := by decide +kernel
theorem dX1_init_0 : decode cX1_init 0 = .ok (.aload_n 0, 1) := by decide +kernel
theorem dX1_init_1 : decode cX1_init 1 = .ok (.iload_n 1, 1) := by decide +kernel
theorem dX1_init_2 : decode cX1_init 2 = .ok (.iload_n 2, 1) := by decide +kernel
theorem dX1_init_3 : decode cX1_init 3 = .ok (.iload_n 3, 1) := by decide +kernel
theorem dX1_init_4 : decode cX1_init 4 = .ok (.invokespecial 1, 3) := by decide +kernel
theorem dX1_init_7 : decode cX1_init 7 = .ok (.return_, 1) := by decide +kernel
theorem dX1_ownKind_0 : decode cX1_ownKind 0 = .ok (.iconst 4, 1) := by decide +kernel
theorem dX1_ownKind_1 : decode cX1_ownKind 1 = .ok (.ireturn, 1) := by decide +kernel
theorem dX1_doesIt_0 : decode cX1_doesIt 0 = .ok (.iload_n 1, 1) := by decide +kernel
theorem dX1_doesIt_1 : decode cX1_doesIt 1 = .ok (.invokestatic 7, 3) := by decide +kernel
theorem dX1_doesIt_4 : decode cX1_doesIt 4 = .ok (.aload_n 0, 1) := by decide +kernel
theorem dX1_doesIt_5 : decode cX1_doesIt 5 = .ok (.getfield 13, 3) := by decide +kernel
theorem dX1_doesIt_8 : decode cX1_doesIt 8 = .ok (.if_icmp .lt 7, 3) := by decide +kernel
theorem dX1_doesIt_11 : decode cX1_doesIt 11 = .ok (.iconst 1, 1) := by decide +kernel
theorem dX1_doesIt_12 : decode cX1_doesIt 12 = .ok (.goto 4, 3) := by decide +kernel
theorem dX1_doesIt_15 : decode cX1_doesIt 15 = .ok (.iconst 0, 1) := by decide +kernel
theorem dX1_doesIt_16 : decode cX1_doesIt 16 = .ok (.ireturn, 1) := by decide +kernel
theorem dX1_size_0 : decode cX1_size 0 = .ok (.aload_n 1, 1) := by decide +kernel
theorem dX1_size_1 : decode cX1_size 1 = .ok (.bipush 13, 2) := by decide +kernel
theorem dX1_size_3 : decode cX1_size 3 = .ok (.invokevirtual 19, 3) := by decide +kernel
theorem dX1_size_6 : decode cX1_size 6 = .ok (.aload_n 0, 1) := by decide +kernel
theorem dX1_size_7 : decode cX1_size 7 = .ok (.aload_n 1, 1) := by decide +kernel
theorem dX1_size_8 : decode cX1_size 8 = .ok (.invokespecial 25, 3) := by decide +kernel
theorem dX1_size_11 : decode cX1_size 11 = .ok (.bipush 100, 2) := by decide +kernel
theorem dX1_size_13 : decode cX1_size 13 = .ok (.isub, 1) := by decide +kernel
theorem dX1_size_14 : decode cX1_size 14 = .ok (.ireturn, 1) := by decide +kernel
theorem dX1_mark_0 : decode cX1_mark 0 = .ok (.aload_n 1, 1) := by decide +kernel
theorem dX1_mark_1 : decode cX1_mark 1 = .ok (.bipush 23, 2) := by decide +kernel
theorem dX1_mark_3 : decode cX1_mark 3 = .ok (.invokevirtual 19, 3) := by decide +kernel
theorem dX1_mark_6 : decode cX1_mark 6 = .ok (.aload_n 0, 1) := by decide +kernel
theorem dX1_mark_7 : decode cX1_mark 7 = .ok (.aload_n 1, 1) := by decide +kernel
theorem dX1_mark_8 : decode cX1_mark 8 = .ok (.invokespecial 29, 3) := by decide +kernel
theorem dX1_mark_11 : decode cX1_mark 11 = .ok (.istore_n 2, 1) := by decide +kernel
theorem dX1_mark_12 : decode cX1_mark 12 = .ok (.iload_n 2, 1) := by decide +kernel
theorem dX1_mark_13 : decode cX1_mark 13 = .ok (.aload_n 0, 1) := by decide +kernel
theorem dX1_mark_14 : decode cX1_mark 14 = .ok (.aload_n 1, 1) := by decide +kernel
theorem dX1_mark_15 : decode cX1_mark 15 = .ok (.invokevirtual 32, 3) := by decide +kernel
theorem dX1_mark_18 : decode cX1_mark 18 = .ok (.isub, 1) := by decide +kernel
theorem dX1_mark_19 : decode cX1_mark 19 = .ok (.ireturn, 1) := by decide +kernel
theorem dX2_init_0 : decode cX2_init 0 = .ok (.aload_n 0, 1) := by decide +kernel
theorem dX2_init_1 : decode cX2_init 1 = .ok (.invokespecial 3, 3) := by decide +kernel
theorem dX2_init_4 : decode cX2_init 4 = .ok (.aload_n 0, 1) := by decide +kernel
theorem dX2_init_5 : decode cX2_init 5 = .ok (.bipush 6, 2) := by decide +kernel
theorem dX2_init_7 : decode cX2_init 7 = .ok (.bipush 64, 2) := by decide +kernel
theorem dX2_init_9 : decode cX2_init 9 = .ok (.multianewarray 9 2, 4) := by decide +kernel
theorem dX2_init_13 : decode cX2_init 13 = .ok (.putfield 11, 3) := by decide +kernel
theorem dX2_init_16 : decode cX2_init 16 = .ok (.return_, 1) := by decide +kernel
theorem dX2_howManyAgree_0 : decode cX2_howManyAgree 0 = .ok (.aload_n 0, 1) := by decide +kernel
theorem dX2_howManyAgree_1 : decode cX2_howManyAgree 1 = .ok (.aload_n 1, 1) := by decide +kernel
theorem dX2_howManyAgree_2 : decode cX2_howManyAgree 2 = .ok (.aload_n 0, 1) := by decide +kernel
theorem dX2_howManyAgree_3 : decode cX2_howManyAgree 3 = .ok (.aload_n 1, 1) := by decide +kernel
theorem dX2_howManyAgree_4 : decode cX2_howManyAgree 4 = .ok (.invokevirtual 16, 3) := by decide +kernel
theorem dX2_howManyAgree_7 : decode cX2_howManyAgree 7 = .ok (.invokevirtual 20, 3) := by decide +kernel
theorem dX2_howManyAgree_10 : decode cX2_howManyAgree 10 = .ok (.ireturn, 1) := by decide +kernel
theorem dX2_agreeingLetter_0 : decode cX2_agreeingLetter 0 = .ok (.iconst 0, 1) := by decide +kernel
theorem dX2_agreeingLetter_1 : decode cX2_agreeingLetter 1 = .ok (.istore_n 3, 1) := by decide +kernel
theorem dX2_agreeingLetter_2 : decode cX2_agreeingLetter 2 = .ok (.iconst 0, 1) := by decide +kernel
theorem dX2_agreeingLetter_3 : decode cX2_agreeingLetter 3 = .ok (.istore 4, 2) := by decide +kernel
theorem dX2_agreeingLetter_5 : decode cX2_agreeingLetter 5 = .ok (.iload 4, 2) := by decide +kernel
theorem dX2_agreeingLetter_7 : decode cX2_agreeingLetter 7 = .ok (.aload_n 1, 1) := by decide +kernel
theorem dX2_agreeingLetter_8 : decode cX2_agreeingLetter 8 = .ok (.invokevirtual 24, 3) := by decide +kernel
theorem dX2_agreeingLetter_11 : decode cX2_agreeingLetter 11 = .ok (.if_icmp .ge 29, 3) := by decide +kernel
theorem dX2_agreeingLetter_14 : decode cX2_agreeingLetter 14 = .ok (.aload_n 1, 1) := by decide +kernel
theorem dX2_agreeingLetter_15 : decode cX2_agreeingLetter 15 = .ok (.iload 4, 2) := by decide +kernel
theorem dX2_agreeingLetter_17 : decode cX2_agreeingLetter 17 = .ok (.invokevirtual 30, 3) := by decide +kernel
theorem dX2_agreeingLetter_20 : decode cX2_agreeingLetter 20 = .ok (.ifCond .eq 14, 3) := by decide +kernel
theorem dX2_agreeingLetter_23 : decode cX2_agreeingLetter 23 = .ok (.iload_n 3, 1) := by decide +kernel
theorem dX2_agreeingLetter_24 : decode cX2_agreeingLetter 24 = .ok (.iload_n 2, 1) := by decide +kernel
theorem dX2_agreeingLetter_25 : decode cX2_agreeingLetter 25 = .ok (.if_icmp .ne 6, 3) := by decide +kernel
theorem dX2_agreeingLetter_28 : decode cX2_agreeingLetter 28 = .ok (.iload 4, 2) := by decide +kernel
theorem dX2_agreeingLetter_30 : decode cX2_agreeingLetter 30 = .ok (.ireturn, 1) := by decide +kernel
theorem dX2_agreeingLetter_31 : decode cX2_agreeingLetter 31 = .ok (.iinc 3 1, 3) := by decide +kernel
theorem dX2_agreeingLetter_34 : decode cX2_agreeingLetter 34 = .ok (.iinc 4 1, 3) := by decide +kernel
theorem dX2_agreeingLetter_37 : decode cX2_agreeingLetter 37 = .ok (.goto (-32), 3) := by decide +kernel
theorem dX2_agreeingLetter_40 : decode cX2_agreeingLetter 40 = .ok (.ldc 34, 2) := by decide +kernel
theorem dX2_agreeingLetter_42 : decode cX2_agreeingLetter 42 = .ok (.ireturn, 1) := by decide +kernel
theorem dX2_fullestLetter_0 : decode cX2_fullestLetter 0 = .ok (.ldc 34, 2) := by decide +kernel
theorem dX2_fullestLetter_2 : decode cX2_fullestLetter 2 = .ok (.istore_n 2, 1) := by decide +kernel
theorem dX2_fullestLetter_3 : decode cX2_fullestLetter 3 = .ok (.iconst (-1), 1) := by decide +kernel
theorem dX2_fullestLetter_4 : decode cX2_fullestLetter 4 = .ok (.istore_n 3, 1) := by decide +kernel
theorem dX2_fullestLetter_5 : decode cX2_fullestLetter 5 = .ok (.iconst 0, 1) := by decide +kernel
theorem dX2_fullestLetter_6 : decode cX2_fullestLetter 6 = .ok (.istore 4, 2) := by decide +kernel
theorem dX2_fullestLetter_8 : decode cX2_fullestLetter 8 = .ok (.iload 4, 2) := by decide +kernel
theorem dX2_fullestLetter_10 : decode cX2_fullestLetter 10 = .ok (.aload_n 1, 1) := by decide +kernel
theorem dX2_fullestLetter_11 : decode cX2_fullestLetter 11 = .ok (.invokevirtual 24, 3) := by decide +kernel
theorem dX2_fullestLetter_14 : decode cX2_fullestLetter 14 = .ok (.if_icmp .ge 36, 3) := by decide +kernel
theorem dX2_fullestLetter_17 : decode cX2_fullestLetter 17 = .ok (.aload_n 1, 1) := by decide +kernel
theorem dX2_fullestLetter_18 : decode cX2_fullestLetter 18 = .ok (.iload 4, 2) := by decide +kernel
theorem dX2_fullestLetter_20 : decode cX2_fullestLetter 20 = .ok (.invokevirtual 30, 3) := by decide +kernel
theorem dX2_fullestLetter_23 : decode cX2_fullestLetter 23 = .ok (.ifCond .eq 21, 3) := by decide +kernel
theorem dX2_fullestLetter_26 : decode cX2_fullestLetter 26 = .ok (.iload 4, 2) := by decide +kernel
theorem dX2_fullestLetter_28 : decode cX2_fullestLetter 28 = .ok (.invokestatic 35, 3) := by decide +kernel
theorem dX2_fullestLetter_31 : decode cX2_fullestLetter 31 = .ok (.iload_n 3, 1) := by decide +kernel
theorem dX2_fullestLetter_32 : decode cX2_fullestLetter 32 = .ok (.if_icmp .le 12, 3) := by decide +kernel
theorem dX2_fullestLetter_35 : decode cX2_fullestLetter 35 = .ok (.iload 4, 2) := by decide +kernel
theorem dX2_fullestLetter_37 : decode cX2_fullestLetter 37 = .ok (.istore_n 2, 1) := by decide +kernel
theorem dX2_fullestLetter_38 : decode cX2_fullestLetter 38 = .ok (.iload 4, 2) := by decide +kernel
theorem dX2_fullestLetter_40 : decode cX2_fullestLetter 40 = .ok (.invokestatic 35, 3) := by decide +kernel
theorem dX2_fullestLetter_43 : decode cX2_fullestLetter 43 = .ok (.istore_n 3, 1) := by decide +kernel
theorem dX2_fullestLetter_44 : decode cX2_fullestLetter 44 = .ok (.iinc 4 1, 3) := by decide +kernel
theorem dX2_fullestLetter_47 : decode cX2_fullestLetter 47 = .ok (.goto (-39), 3) := by decide +kernel
theorem dX2_fullestLetter_50 : decode cX2_fullestLetter 50 = .ok (.iload_n 2, 1) := by decide +kernel
theorem dX2_fullestLetter_51 : decode cX2_fullestLetter 51 = .ok (.ireturn, 1) := by decide +kernel
theorem dX2_likeliestLetter_0 : decode cX2_likeliestLetter 0 = .ok (.iconst 0, 1) := by decide +kernel
theorem dX2_likeliestLetter_1 : decode cX2_likeliestLetter 1 = .ok (.istore_n 2, 1) := by decide +kernel
theorem dX2_likeliestLetter_2 : decode cX2_likeliestLetter 2 = .ok (.aload_n 1, 1) := by decide +kernel
theorem dX2_likeliestLetter_3 : decode cX2_likeliestLetter 3 = .ok (.iconst 0, 1) := by decide +kernel
theorem dX2_likeliestLetter_4 : decode cX2_likeliestLetter 4 = .ok (.iconst 0, 1) := by decide +kernel
theorem dX2_likeliestLetter_5 : decode cX2_likeliestLetter 5 = .ok (.invokevirtual 41, 3) := by decide +kernel
theorem dX2_likeliestLetter_8 : decode cX2_likeliestLetter 8 = .ok (.istore_n 3, 1) := by decide +kernel
theorem dX2_likeliestLetter_9 : decode cX2_likeliestLetter 9 = .ok (.iconst 1, 1) := by decide +kernel
theorem dX2_likeliestLetter_10 : decode cX2_likeliestLetter 10 = .ok (.istore 4, 2) := by decide +kernel
theorem dX2_likeliestLetter_12 : decode cX2_likeliestLetter 12 = .ok (.iload 4, 2) := by decide +kernel
theorem dX2_likeliestLetter_14 : decode cX2_likeliestLetter 14 = .ok (.aload_n 1, 1) := by decide +kernel
theorem dX2_likeliestLetter_15 : decode cX2_likeliestLetter 15 = .ok (.invokevirtual 24, 3) := by decide +kernel
theorem dX2_likeliestLetter_18 : decode cX2_likeliestLetter 18 = .ok (.if_icmp .ge 31, 3) := by decide +kernel
theorem dX2_likeliestLetter_21 : decode cX2_likeliestLetter 21 = .ok (.aload_n 1, 1) := by decide +kernel
theorem dX2_likeliestLetter_22 : decode cX2_likeliestLetter 22 = .ok (.iload 4, 2) := by decide +kernel
theorem dX2_likeliestLetter_24 : decode cX2_likeliestLetter 24 = .ok (.iload 4, 2) := by decide +kernel
theorem dX2_likeliestLetter_26 : decode cX2_likeliestLetter 26 = .ok (.invokevirtual 41, 3) := by decide +kernel
theorem dX2_likeliestLetter_29 : decode cX2_likeliestLetter 29 = .ok (.istore 5, 2) := by decide +kernel
theorem dX2_likeliestLetter_31 : decode cX2_likeliestLetter 31 = .ok (.iload 5, 2) := by decide +kernel
theorem dX2_likeliestLetter_33 : decode cX2_likeliestLetter 33 = .ok (.iload_n 3, 1) := by decide +kernel
theorem dX2_likeliestLetter_34 : decode cX2_likeliestLetter 34 = .ok (.if_icmp .le 9, 3) := by decide +kernel
theorem dX2_likeliestLetter_37 : decode cX2_likeliestLetter 37 = .ok (.iload 4, 2) := by decide +kernel
theorem dX2_likeliestLetter_39 : decode cX2_likeliestLetter 39 = .ok (.istore_n 2, 1) := by decide +kernel
theorem dX2_likeliestLetter_40 : decode cX2_likeliestLetter 40 = .ok (.iload 5, 2) := by decide +kernel
theorem dX2_likeliestLetter_42 : decode cX2_likeliestLetter 42 = .ok (.istore_n 3, 1) := by decide +kernel
theorem dX2_likeliestLetter_43 : decode cX2_likeliestLetter 43 = .ok (.iinc 4 1, 3) := by decide +kernel
theorem dX2_likeliestLetter_46 : decode cX2_likeliestLetter 46 = .ok (.goto (-34), 3) := by decide +kernel
theorem dX2_likeliestLetter_49 : decode cX2_likeliestLetter 49 = .ok (.iload_n 2, 1) := by decide +kernel
theorem dX2_likeliestLetter_50 : decode cX2_likeliestLetter 50 = .ok (.ireturn, 1) := by decide +kernel
theorem dX2_whoHinders_0 : decode cX2_whoHinders 0 = .ok (.iconst 0, 1) := by decide +kernel
theorem dX2_whoHinders_1 : decode cX2_whoHinders 1 = .ok (.istore_n 2, 1) := by decide +kernel
theorem dX2_whoHinders_2 : decode cX2_whoHinders 2 = .ok (.iconst 0, 1) := by decide +kernel
theorem dX2_whoHinders_3 : decode cX2_whoHinders 3 = .ok (.istore_n 3, 1) := by decide +kernel
theorem dX2_whoHinders_4 : decode cX2_whoHinders 4 = .ok (.iload_n 3, 1) := by decide +kernel
theorem dX2_whoHinders_5 : decode cX2_whoHinders 5 = .ok (.aload_n 1, 1) := by decide +kernel
theorem dX2_whoHinders_6 : decode cX2_whoHinders 6 = .ok (.invokevirtual 45, 3) := by decide +kernel
theorem dX2_whoHinders_9 : decode cX2_whoHinders 9 = .ok (.if_icmp .ge 42, 3) := by decide +kernel
theorem dX2_whoHinders_12 : decode cX2_whoHinders 12 = .ok (.iconst 1, 1) := by decide +kernel
theorem dX2_whoHinders_13 : decode cX2_whoHinders 13 = .ok (.iload_n 3, 1) := by decide +kernel
theorem dX2_whoHinders_14 : decode cX2_whoHinders 14 = .ok (.ishl, 1) := by decide +kernel
theorem dX2_whoHinders_15 : decode cX2_whoHinders 15 = .ok (.istore 4, 2) := by decide +kernel
theorem dX2_whoHinders_17 : decode cX2_whoHinders 17 = .ok (.aload_n 0, 1) := by decide +kernel
theorem dX2_whoHinders_18 : decode cX2_whoHinders 18 = .ok (.aload_n 1, 1) := by decide +kernel
theorem dX2_whoHinders_19 : decode cX2_whoHinders 19 = .ok (.iload 4, 2) := by decide +kernel
theorem dX2_whoHinders_21 : decode cX2_whoHinders 21 = .ok (.iload 4, 2) := by decide +kernel
theorem dX2_whoHinders_23 : decode cX2_whoHinders 23 = .ok (.invokevirtual 48, 3) := by decide +kernel
theorem dX2_whoHinders_26 : decode cX2_whoHinders 26 = .ok (.ifCond .ne 14, 3) := by decide +kernel
theorem dX2_whoHinders_29 : decode cX2_whoHinders 29 = .ok (.aload_n 0, 1) := by decide +kernel
theorem dX2_whoHinders_30 : decode cX2_whoHinders 30 = .ok (.aload_n 1, 1) := by decide +kernel
theorem dX2_whoHinders_31 : decode cX2_whoHinders 31 = .ok (.iload 4, 2) := by decide +kernel
theorem dX2_whoHinders_33 : decode cX2_whoHinders 33 = .ok (.iconst 0, 1) := by decide +kernel
theorem dX2_whoHinders_34 : decode cX2_whoHinders 34 = .ok (.invokevirtual 48, 3) := by decide +kernel
theorem dX2_whoHinders_37 : decode cX2_whoHinders 37 = .ok (.ifCond .eq 8, 3) := by decide +kernel
theorem dX2_whoHinders_40 : decode cX2_whoHinders 40 = .ok (.iload_n 2, 1) := by decide +kernel
theorem dX2_whoHinders_41 : decode cX2_whoHinders 41 = .ok (.iload 4, 2) := by decide +kernel
theorem dX2_whoHinders_43 : decode cX2_whoHinders 43 = .ok (.ior, 1) := by decide +kernel
theorem dX2_whoHinders_44 : decode cX2_whoHinders 44 = .ok (.istore_n 2, 1) := by decide +kernel
theorem dX2_whoHinders_45 : decode cX2_whoHinders 45 = .ok (.iinc 3 1, 3) := by decide +kernel
theorem dX2_whoHinders_48 : decode cX2_whoHinders 48 = .ok (.goto (-44), 3) := by decide +kernel
theorem dX2_whoHinders_51 : decode cX2_whoHinders 51 = .ok (.iload_n 2, 1) := by decide +kernel
theorem dX2_whoHinders_52 : decode cX2_whoHinders 52 = .ok (.ireturn, 1) := by decide +kernel
theorem dX2_whoCouldStop_0 : decode cX2_whoCouldStop 0 = .ok (.iconst 0, 1) := by decide +kernel
theorem dX2_whoCouldStop_1 : decode cX2_whoCouldStop 1 = .ok (.istore_n 2, 1) := by decide +kernel
theorem dX2_whoCouldStop_2 : decode cX2_whoCouldStop 2 = .ok (.iconst 0, 1) := by decide +kernel
theorem dX2_whoCouldStop_3 : decode cX2_whoCouldStop 3 = .ok (.istore_n 3, 1) := by decide +kernel
theorem dX2_whoCouldStop_4 : decode cX2_whoCouldStop 4 = .ok (.iload_n 3, 1) := by decide +kernel
theorem dX2_whoCouldStop_5 : decode cX2_whoCouldStop 5 = .ok (.aload_n 1, 1) := by decide +kernel
theorem dX2_whoCouldStop_6 : decode cX2_whoCouldStop 6 = .ok (.invokevirtual 45, 3) := by decide +kernel
theorem dX2_whoCouldStop_9 : decode cX2_whoCouldStop 9 = .ok (.if_icmp .ge 42, 3) := by decide +kernel
theorem dX2_whoCouldStop_12 : decode cX2_whoCouldStop 12 = .ok (.iconst 1, 1) := by decide +kernel
theorem dX2_whoCouldStop_13 : decode cX2_whoCouldStop 13 = .ok (.iload_n 3, 1) := by decide +kernel
theorem dX2_whoCouldStop_14 : decode cX2_whoCouldStop 14 = .ok (.ishl, 1) := by decide +kernel
theorem dX2_whoCouldStop_15 : decode cX2_whoCouldStop 15 = .ok (.istore 4, 2) := by decide +kernel
theorem dX2_whoCouldStop_17 : decode cX2_whoCouldStop 17 = .ok (.aload_n 0, 1) := by decide +kernel
theorem dX2_whoCouldStop_18 : decode cX2_whoCouldStop 18 = .ok (.aload_n 1, 1) := by decide +kernel
theorem dX2_whoCouldStop_19 : decode cX2_whoCouldStop 19 = .ok (.iload 4, 2) := by decide +kernel
theorem dX2_whoCouldStop_21 : decode cX2_whoCouldStop 21 = .ok (.iload 4, 2) := by decide +kernel
theorem dX2_whoCouldStop_23 : decode cX2_whoCouldStop 23 = .ok (.invokevirtual 48, 3) := by decide +kernel
theorem dX2_whoCouldStop_26 : decode cX2_whoCouldStop 26 = .ok (.ifCond .eq 14, 3) := by decide +kernel
theorem dX2_whoCouldStop_29 : decode cX2_whoCouldStop 29 = .ok (.aload_n 0, 1) := by decide +kernel
theorem dX2_whoCouldStop_30 : decode cX2_whoCouldStop 30 = .ok (.aload_n 1, 1) := by decide +kernel
theorem dX2_whoCouldStop_31 : decode cX2_whoCouldStop 31 = .ok (.iload 4, 2) := by decide +kernel
theorem dX2_whoCouldStop_33 : decode cX2_whoCouldStop 33 = .ok (.iconst 0, 1) := by decide +kernel
theorem dX2_whoCouldStop_34 : decode cX2_whoCouldStop 34 = .ok (.invokevirtual 48, 3) := by decide +kernel
theorem dX2_whoCouldStop_37 : decode cX2_whoCouldStop 37 = .ok (.ifCond .ne 8, 3) := by decide +kernel
theorem dX2_whoCouldStop_40 : decode cX2_whoCouldStop 40 = .ok (.iload_n 2, 1) := by decide +kernel
theorem dX2_whoCouldStop_41 : decode cX2_whoCouldStop 41 = .ok (.iload 4, 2) := by decide +kernel
theorem dX2_whoCouldStop_43 : decode cX2_whoCouldStop 43 = .ok (.ior, 1) := by decide +kernel
theorem dX2_whoCouldStop_44 : decode cX2_whoCouldStop 44 = .ok (.istore_n 2, 1) := by decide +kernel
theorem dX2_whoCouldStop_45 : decode cX2_whoCouldStop 45 = .ok (.iinc 3 1, 3) := by decide +kernel
theorem dX2_whoCouldStop_48 : decode cX2_whoCouldStop 48 = .ok (.goto (-44), 3) := by decide +kernel
theorem dX2_whoCouldStop_51 : decode cX2_whoCouldStop 51 = .ok (.iload_n 2, 1) := by decide +kernel
theorem dX2_whoCouldStop_52 : decode cX2_whoCouldStop 52 = .ok (.ireturn, 1) := by decide +kernel
theorem dX2_howManyBring_0 : decode cX2_howManyBring 0 = .ok (.iconst 0, 1) := by decide +kernel
theorem dX2_howManyBring_1 : decode cX2_howManyBring 1 = .ok (.istore_n 3, 1) := by decide +kernel
theorem dX2_howManyBring_2 : decode cX2_howManyBring 2 = .ok (.iconst 0, 1) := by decide +kernel
theorem dX2_howManyBring_3 : decode cX2_howManyBring 3 = .ok (.istore 4, 2) := by decide +kernel
theorem dX2_howManyBring_5 : decode cX2_howManyBring 5 = .ok (.iload 4, 2) := by decide +kernel
theorem dX2_howManyBring_7 : decode cX2_howManyBring 7 = .ok (.aload_n 1, 1) := by decide +kernel
theorem dX2_howManyBring_8 : decode cX2_howManyBring 8 = .ok (.invokevirtual 24, 3) := by decide +kernel
theorem dX2_howManyBring_11 : decode cX2_howManyBring 11 = .ok (.if_icmp .ge 22, 3) := by decide +kernel
theorem dX2_howManyBring_14 : decode cX2_howManyBring 14 = .ok (.aload_n 1, 1) := by decide +kernel
theorem dX2_howManyBring_15 : decode cX2_howManyBring 15 = .ok (.iload 4, 2) := by decide +kernel
theorem dX2_howManyBring_17 : decode cX2_howManyBring 17 = .ok (.invokevirtual 52, 3) := by decide +kernel
theorem dX2_howManyBring_20 : decode cX2_howManyBring 20 = .ok (.iload_n 2, 1) := by decide +kernel
theorem dX2_howManyBring_21 : decode cX2_howManyBring 21 = .ok (.if_icmp .ne 6, 3) := by decide +kernel
theorem dX2_howManyBring_24 : decode cX2_howManyBring 24 = .ok (.iinc 3 1, 3) := by decide +kernel
theorem dX2_howManyBring_27 : decode cX2_howManyBring 27 = .ok (.iinc 4 1, 3) := by decide +kernel
theorem dX2_howManyBring_30 : decode cX2_howManyBring 30 = .ok (.goto (-25), 3) := by decide +kernel
theorem dX2_howManyBring_33 : decode cX2_howManyBring 33 = .ok (.iload_n 3, 1) := by decide +kernel
theorem dX2_howManyBring_34 : decode cX2_howManyBring 34 = .ok (.ireturn, 1) := by decide +kernel
theorem dX2_leastThatBrings_0 : decode cX2_leastThatBrings 0 = .ok (.iconst 0, 1) := by decide +kernel
theorem dX2_leastThatBrings_1 : decode cX2_leastThatBrings 1 = .ok (.istore_n 3, 1) := by decide +kernel
theorem dX2_leastThatBrings_2 : decode cX2_leastThatBrings 2 = .ok (.iload_n 3, 1) := by decide +kernel
theorem dX2_leastThatBrings_3 : decode cX2_leastThatBrings 3 = .ok (.aload_n 1, 1) := by decide +kernel
theorem dX2_leastThatBrings_4 : decode cX2_leastThatBrings 4 = .ok (.invokevirtual 24, 3) := by decide +kernel
theorem dX2_leastThatBrings_7 : decode cX2_leastThatBrings 7 = .ok (.if_icmp .ge 20, 3) := by decide +kernel
theorem dX2_leastThatBrings_10 : decode cX2_leastThatBrings 10 = .ok (.aload_n 1, 1) := by decide +kernel
theorem dX2_leastThatBrings_11 : decode cX2_leastThatBrings 11 = .ok (.iload_n 3, 1) := by decide +kernel
theorem dX2_leastThatBrings_12 : decode cX2_leastThatBrings 12 = .ok (.invokevirtual 52, 3) := by decide +kernel
theorem dX2_leastThatBrings_15 : decode cX2_leastThatBrings 15 = .ok (.iload_n 2, 1) := by decide +kernel
theorem dX2_leastThatBrings_16 : decode cX2_leastThatBrings 16 = .ok (.if_icmp .ne 5, 3) := by decide +kernel
theorem dX2_leastThatBrings_19 : decode cX2_leastThatBrings 19 = .ok (.iload_n 3, 1) := by decide +kernel
theorem dX2_leastThatBrings_20 : decode cX2_leastThatBrings 20 = .ok (.ireturn, 1) := by decide +kernel
theorem dX2_leastThatBrings_21 : decode cX2_leastThatBrings 21 = .ok (.iinc 3 1, 3) := by decide +kernel
theorem dX2_leastThatBrings_24 : decode cX2_leastThatBrings 24 = .ok (.goto (-22), 3) := by decide +kernel
theorem dX2_leastThatBrings_27 : decode cX2_leastThatBrings 27 = .ok (.ldc 34, 2) := by decide +kernel
theorem dX2_leastThatBrings_29 : decode cX2_leastThatBrings 29 = .ok (.ireturn, 1) := by decide +kernel
theorem dX2_howManyReadBy_0 : decode cX2_howManyReadBy 0 = .ok (.aload_n 1, 1) := by decide +kernel
theorem dX2_howManyReadBy_1 : decode cX2_howManyReadBy 1 = .ok (.invokevirtual 55, 3) := by decide +kernel
theorem dX2_howManyReadBy_4 : decode cX2_howManyReadBy 4 = .ok (.iload_n 2, 1) := by decide +kernel
theorem dX2_howManyReadBy_5 : decode cX2_howManyReadBy 5 = .ok (.iconst (-1), 1) := by decide +kernel
theorem dX2_howManyReadBy_6 : decode cX2_howManyReadBy 6 = .ok (.ixor, 1) := by decide +kernel
theorem dX2_howManyReadBy_7 : decode cX2_howManyReadBy 7 = .ok (.iand, 1) := by decide +kernel
theorem dX2_howManyReadBy_8 : decode cX2_howManyReadBy 8 = .ok (.istore_n 3, 1) := by decide +kernel
theorem dX2_howManyReadBy_9 : decode cX2_howManyReadBy 9 = .ok (.iconst 0, 1) := by decide +kernel
theorem dX2_howManyReadBy_10 : decode cX2_howManyReadBy 10 = .ok (.istore 4, 2) := by decide +kernel
theorem dX2_howManyReadBy_12 : decode cX2_howManyReadBy 12 = .ok (.iconst 0, 1) := by decide +kernel
theorem dX2_howManyReadBy_13 : decode cX2_howManyReadBy 13 = .ok (.istore 5, 2) := by decide +kernel
theorem dX2_howManyReadBy_15 : decode cX2_howManyReadBy 15 = .ok (.iload 5, 2) := by decide +kernel
theorem dX2_howManyReadBy_17 : decode cX2_howManyReadBy 17 = .ok (.aload_n 1, 1) := by decide +kernel
theorem dX2_howManyReadBy_18 : decode cX2_howManyReadBy 18 = .ok (.invokevirtual 24, 3) := by decide +kernel
theorem dX2_howManyReadBy_21 : decode cX2_howManyReadBy 21 = .ok (.if_icmp .ge 27, 3) := by decide +kernel
theorem dX2_howManyReadBy_24 : decode cX2_howManyReadBy 24 = .ok (.aload_n 1, 1) := by decide +kernel
theorem dX2_howManyReadBy_25 : decode cX2_howManyReadBy 25 = .ok (.iload 5, 2) := by decide +kernel
theorem dX2_howManyReadBy_27 : decode cX2_howManyReadBy 27 = .ok (.invokevirtual 52, 3) := by decide +kernel
theorem dX2_howManyReadBy_30 : decode cX2_howManyReadBy 30 = .ok (.iload_n 2, 1) := by decide +kernel
theorem dX2_howManyReadBy_31 : decode cX2_howManyReadBy 31 = .ok (.iand, 1) := by decide +kernel
theorem dX2_howManyReadBy_32 : decode cX2_howManyReadBy 32 = .ok (.iload_n 3, 1) := by decide +kernel
theorem dX2_howManyReadBy_33 : decode cX2_howManyReadBy 33 = .ok (.ior, 1) := by decide +kernel
theorem dX2_howManyReadBy_34 : decode cX2_howManyReadBy 34 = .ok (.iload 5, 2) := by decide +kernel
theorem dX2_howManyReadBy_36 : decode cX2_howManyReadBy 36 = .ok (.if_icmp .ne 6, 3) := by decide +kernel
theorem dX2_howManyReadBy_39 : decode cX2_howManyReadBy 39 = .ok (.iinc 4 1, 3) := by decide +kernel
theorem dX2_howManyReadBy_42 : decode cX2_howManyReadBy 42 = .ok (.iinc 5 1, 3) := by decide +kernel
theorem dX2_howManyReadBy_45 : decode cX2_howManyReadBy 45 = .ok (.goto (-30), 3) := by decide +kernel
theorem dX2_howManyReadBy_48 : decode cX2_howManyReadBy 48 = .ok (.iload 4, 2) := by decide +kernel
theorem dX2_howManyReadBy_50 : decode cX2_howManyReadBy 50 = .ok (.ireturn, 1) := by decide +kernel
theorem dX2_leastReadBy_0 : decode cX2_leastReadBy 0 = .ok (.aload_n 0, 1) := by decide +kernel
theorem dX2_leastReadBy_1 : decode cX2_leastReadBy 1 = .ok (.aload_n 1, 1) := by decide +kernel
theorem dX2_leastReadBy_2 : decode cX2_leastReadBy 2 = .ok (.iload_n 2, 1) := by decide +kernel
theorem dX2_leastReadBy_3 : decode cX2_leastReadBy 3 = .ok (.aload_n 1, 1) := by decide +kernel
theorem dX2_leastReadBy_4 : decode cX2_leastReadBy 4 = .ok (.invokevirtual 55, 3) := by decide +kernel
theorem dX2_leastReadBy_7 : decode cX2_leastReadBy 7 = .ok (.iload_n 2, 1) := by decide +kernel
theorem dX2_leastReadBy_8 : decode cX2_leastReadBy 8 = .ok (.iconst (-1), 1) := by decide +kernel
theorem dX2_leastReadBy_9 : decode cX2_leastReadBy 9 = .ok (.ixor, 1) := by decide +kernel
theorem dX2_leastReadBy_10 : decode cX2_leastReadBy 10 = .ok (.iand, 1) := by decide +kernel
theorem dX2_leastReadBy_11 : decode cX2_leastReadBy 11 = .ok (.invokevirtual 58, 3) := by decide +kernel
theorem dX2_leastReadBy_14 : decode cX2_leastReadBy 14 = .ok (.ireturn, 1) := by decide +kernel
theorem dX2_countChains_0 : decode cX2_countChains 0 = .ok (.iload_n 2, 1) := by decide +kernel
theorem dX2_countChains_1 : decode cX2_countChains 1 = .ok (.iconst 1, 1) := by decide +kernel
theorem dX2_countChains_2 : decode cX2_countChains 2 = .ok (.if_icmp .lt 12, 3) := by decide +kernel
theorem dX2_countChains_5 : decode cX2_countChains 5 = .ok (.iload_n 2, 1) := by decide +kernel
theorem dX2_countChains_6 : decode cX2_countChains 6 = .ok (.aload_n 0, 1) := by decide +kernel
theorem dX2_countChains_7 : decode cX2_countChains 7 = .ok (.getfield 11, 3) := by decide +kernel
theorem dX2_countChains_10 : decode cX2_countChains 10 = .ok (.arraylength, 1) := by decide +kernel
theorem dX2_countChains_11 : decode cX2_countChains 11 = .ok (.if_icmp .lt 5, 3) := by decide +kernel
theorem dX2_countChains_14 : decode cX2_countChains 14 = .ok (.iconst 0, 1) := by decide +kernel
theorem dX2_countChains_15 : decode cX2_countChains 15 = .ok (.ireturn, 1) := by decide +kernel
theorem dX2_countChains_16 : decode cX2_countChains 16 = .ok (.aload_n 0, 1) := by decide +kernel
theorem dX2_countChains_17 : decode cX2_countChains 17 = .ok (.getfield 11, 3) := by decide +kernel
theorem dX2_countChains_20 : decode cX2_countChains 20 = .ok (.iconst 0, 1) := by decide +kernel
theorem dX2_countChains_21 : decode cX2_countChains 21 = .ok (.aaload, 1) := by decide +kernel
theorem dX2_countChains_22 : decode cX2_countChains 22 = .ok (.iconst 1, 1) := by decide +kernel
theorem dX2_countChains_23 : decode cX2_countChains 23 = .ok (.invokestatic 62, 3) := by decide +kernel
theorem dX2_countChains_26 : decode cX2_countChains 26 = .ok (.iconst 1, 1) := by decide +kernel
theorem dX2_countChains_27 : decode cX2_countChains 27 = .ok (.istore_n 3, 1) := by decide +kernel
theorem dX2_countChains_28 : decode cX2_countChains 28 = .ok (.iload_n 3, 1) := by decide +kernel
theorem dX2_countChains_29 : decode cX2_countChains 29 = .ok (.iload_n 2, 1) := by decide +kernel
theorem dX2_countChains_30 : decode cX2_countChains 30 = .ok (.if_icmp .gt 79, 3) := by decide +kernel
theorem dX2_countChains_33 : decode cX2_countChains 33 = .ok (.aload_n 0, 1) := by decide +kernel
theorem dX2_countChains_34 : decode cX2_countChains 34 = .ok (.getfield 11, 3) := by decide +kernel
theorem dX2_countChains_37 : decode cX2_countChains 37 = .ok (.iload_n 3, 1) := by decide +kernel
theorem dX2_countChains_38 : decode cX2_countChains 38 = .ok (.aaload, 1) := by decide +kernel
theorem dX2_countChains_39 : decode cX2_countChains 39 = .ok (.iconst 0, 1) := by decide +kernel
theorem dX2_countChains_40 : decode cX2_countChains 40 = .ok (.invokestatic 62, 3) := by decide +kernel
theorem dX2_countChains_43 : decode cX2_countChains 43 = .ok (.iconst 0, 1) := by decide +kernel
theorem dX2_countChains_44 : decode cX2_countChains 44 = .ok (.istore 4, 2) := by decide +kernel
theorem dX2_countChains_46 : decode cX2_countChains 46 = .ok (.iload 4, 2) := by decide +kernel
theorem dX2_countChains_48 : decode cX2_countChains 48 = .ok (.aload_n 1, 1) := by decide +kernel
theorem dX2_countChains_49 : decode cX2_countChains 49 = .ok (.invokevirtual 24, 3) := by decide +kernel
theorem dX2_countChains_52 : decode cX2_countChains 52 = .ok (.if_icmp .ge 51, 3) := by decide +kernel
theorem dX2_countChains_55 : decode cX2_countChains 55 = .ok (.aload_n 1, 1) := by decide +kernel
theorem dX2_countChains_56 : decode cX2_countChains 56 = .ok (.iload 4, 2) := by decide +kernel
theorem dX2_countChains_58 : decode cX2_countChains 58 = .ok (.invokevirtual 68, 3) := by decide +kernel
theorem dX2_countChains_61 : decode cX2_countChains 61 = .ok (.istore 5, 2) := by decide +kernel
theorem dX2_countChains_63 : decode cX2_countChains 63 = .ok (.iload 5, 2) := by decide +kernel
theorem dX2_countChains_65 : decode cX2_countChains 65 = .ok (.ifCond .lt 32, 3) := by decide +kernel
theorem dX2_countChains_68 : decode cX2_countChains 68 = .ok (.iload 5, 2) := by decide +kernel
theorem dX2_countChains_70 : decode cX2_countChains 70 = .ok (.bipush 64, 2) := by decide +kernel
theorem dX2_countChains_72 : decode cX2_countChains 72 = .ok (.if_icmp .ge 25, 3) := by decide +kernel
theorem dX2_countChains_75 : decode cX2_countChains 75 = .ok (.aload_n 0, 1) := by decide +kernel
theorem dX2_countChains_76 : decode cX2_countChains 76 = .ok (.getfield 11, 3) := by decide +kernel
theorem dX2_countChains_79 : decode cX2_countChains 79 = .ok (.iload_n 3, 1) := by decide +kernel
theorem dX2_countChains_80 : decode cX2_countChains 80 = .ok (.aaload, 1) := by decide +kernel
theorem dX2_countChains_81 : decode cX2_countChains 81 = .ok (.iload 5, 2) := by decide +kernel
theorem dX2_countChains_83 : decode cX2_countChains 83 = .ok (.dup2, 1) := by decide +kernel
theorem dX2_countChains_84 : decode cX2_countChains 84 = .ok (.iaload, 1) := by decide +kernel
theorem dX2_countChains_85 : decode cX2_countChains 85 = .ok (.aload_n 0, 1) := by decide +kernel
theorem dX2_countChains_86 : decode cX2_countChains 86 = .ok (.aload_n 1, 1) := by decide +kernel
theorem dX2_countChains_87 : decode cX2_countChains 87 = .ok (.iload_n 3, 1) := by decide +kernel
theorem dX2_countChains_88 : decode cX2_countChains 88 = .ok (.iconst 1, 1) := by decide +kernel
theorem dX2_countChains_89 : decode cX2_countChains 89 = .ok (.isub, 1) := by decide +kernel
theorem dX2_countChains_90 : decode cX2_countChains 90 = .ok (.iload 4, 2) := by decide +kernel
theorem dX2_countChains_92 : decode cX2_countChains 92 = .ok (.invokevirtual 71, 3) := by decide +kernel
theorem dX2_countChains_95 : decode cX2_countChains 95 = .ok (.iadd, 1) := by decide +kernel
theorem dX2_countChains_96 : decode cX2_countChains 96 = .ok (.iastore, 1) := by decide +kernel
theorem dX2_countChains_97 : decode cX2_countChains 97 = .ok (.iinc 4 1, 3) := by decide +kernel
theorem dX2_countChains_100 : decode cX2_countChains 100 = .ok (.goto (-54), 3) := by decide +kernel
theorem dX2_countChains_103 : decode cX2_countChains 103 = .ok (.iinc 3 1, 3) := by decide +kernel
theorem dX2_countChains_106 : decode cX2_countChains 106 = .ok (.goto (-78), 3) := by decide +kernel
theorem dX2_countChains_109 : decode cX2_countChains 109 = .ok (.aload_n 0, 1) := by decide +kernel
theorem dX2_countChains_110 : decode cX2_countChains 110 = .ok (.aload_n 1, 1) := by decide +kernel
theorem dX2_countChains_111 : decode cX2_countChains 111 = .ok (.iload_n 2, 1) := by decide +kernel
theorem dX2_countChains_112 : decode cX2_countChains 112 = .ok (.aload_n 1, 1) := by decide +kernel
theorem dX2_countChains_113 : decode cX2_countChains 113 = .ok (.invokevirtual 55, 3) := by decide +kernel
theorem dX2_countChains_116 : decode cX2_countChains 116 = .ok (.invokevirtual 71, 3) := by decide +kernel
theorem dX2_countChains_119 : decode cX2_countChains 119 = .ok (.ireturn, 1) := by decide +kernel
theorem dX2_letterOfFirstChain_0 : decode cX2_letterOfFirstChain 0 = .ok (.aload_n 1, 1) := by decide +kernel
theorem dX2_letterOfFirstChain_1 : decode cX2_letterOfFirstChain 1 = .ok (.invokevirtual 55, 3) := by decide +kernel
theorem dX2_letterOfFirstChain_4 : decode cX2_letterOfFirstChain 4 = .ok (.istore 4, 2) := by decide +kernel
theorem dX2_letterOfFirstChain_6 : decode cX2_letterOfFirstChain 6 = .ok (.iload_n 2, 1) := by decide +kernel
theorem dX2_letterOfFirstChain_7 : decode cX2_letterOfFirstChain 7 = .ok (.iconst 1, 1) := by decide +kernel
theorem dX2_letterOfFirstChain_8 : decode cX2_letterOfFirstChain 8 = .ok (.isub, 1) := by decide +kernel
theorem dX2_letterOfFirstChain_9 : decode cX2_letterOfFirstChain 9 = .ok (.istore 5, 2) := by decide +kernel
theorem dX2_letterOfFirstChain_11 : decode cX2_letterOfFirstChain 11 = .ok (.iload 5, 2) := by decide +kernel
theorem dX2_letterOfFirstChain_13 : decode cX2_letterOfFirstChain 13 = .ok (.iload_n 2, 1) := by decide +kernel
theorem dX2_letterOfFirstChain_14 : decode cX2_letterOfFirstChain 14 = .ok (.iconst 1, 1) := by decide +kernel
theorem dX2_letterOfFirstChain_15 : decode cX2_letterOfFirstChain 15 = .ok (.isub, 1) := by decide +kernel
theorem dX2_letterOfFirstChain_16 : decode cX2_letterOfFirstChain 16 = .ok (.iload_n 3, 1) := by decide +kernel
theorem dX2_letterOfFirstChain_17 : decode cX2_letterOfFirstChain 17 = .ok (.isub, 1) := by decide +kernel
theorem dX2_letterOfFirstChain_18 : decode cX2_letterOfFirstChain 18 = .ok (.if_icmp .lt 35, 3) := by decide +kernel
theorem dX2_letterOfFirstChain_21 : decode cX2_letterOfFirstChain 21 = .ok (.iload 5, 2) := by decide +kernel
theorem dX2_letterOfFirstChain_23 : decode cX2_letterOfFirstChain 23 = .ok (.ifCond .lt 30, 3) := by decide +kernel
theorem dX2_letterOfFirstChain_26 : decode cX2_letterOfFirstChain 26 = .ok (.aload_n 0, 1) := by decide +kernel
theorem dX2_letterOfFirstChain_27 : decode cX2_letterOfFirstChain 27 = .ok (.aload_n 1, 1) := by decide +kernel
theorem dX2_letterOfFirstChain_28 : decode cX2_letterOfFirstChain 28 = .ok (.iload 4, 2) := by decide +kernel
theorem dX2_letterOfFirstChain_30 : decode cX2_letterOfFirstChain 30 = .ok (.iload 5, 2) := by decide +kernel
theorem dX2_letterOfFirstChain_32 : decode cX2_letterOfFirstChain 32 = .ok (.invokevirtual 74, 3) := by decide +kernel
theorem dX2_letterOfFirstChain_35 : decode cX2_letterOfFirstChain 35 = .ok (.istore 4, 2) := by decide +kernel
theorem dX2_letterOfFirstChain_37 : decode cX2_letterOfFirstChain 37 = .ok (.iload 4, 2) := by decide +kernel
theorem dX2_letterOfFirstChain_39 : decode cX2_letterOfFirstChain 39 = .ok (.ldc 34, 2) := by decide +kernel
theorem dX2_letterOfFirstChain_41 : decode cX2_letterOfFirstChain 41 = .ok (.if_icmp .ne 6, 3) := by decide +kernel
theorem dX2_letterOfFirstChain_44 : decode cX2_letterOfFirstChain 44 = .ok (.ldc 34, 2) := by decide +kernel
theorem dX2_letterOfFirstChain_46 : decode cX2_letterOfFirstChain 46 = .ok (.ireturn, 1) := by decide +kernel
theorem dX2_letterOfFirstChain_47 : decode cX2_letterOfFirstChain 47 = .ok (.iinc 5 (-1), 3) := by decide +kernel
theorem dX2_letterOfFirstChain_50 : decode cX2_letterOfFirstChain 50 = .ok (.goto (-39), 3) := by decide +kernel
theorem dX2_letterOfFirstChain_53 : decode cX2_letterOfFirstChain 53 = .ok (.iload 4, 2) := by decide +kernel
theorem dX2_letterOfFirstChain_55 : decode cX2_letterOfFirstChain 55 = .ok (.ireturn, 1) := by decide +kernel
theorem dX2_everybody_0 : decode cX2_everybody 0 = .ok (.aload_n 1, 1) := by decide +kernel
theorem dX2_everybody_1 : decode cX2_everybody 1 = .ok (.invokevirtual 24, 3) := by decide +kernel
theorem dX2_everybody_4 : decode cX2_everybody 4 = .ok (.iconst 1, 1) := by decide +kernel
theorem dX2_everybody_5 : decode cX2_everybody 5 = .ok (.isub, 1) := by decide +kernel
theorem dX2_everybody_6 : decode cX2_everybody 6 = .ok (.ireturn, 1) := by decide +kernel
theorem dX2_leastThatGoesOn_0 : decode cX2_leastThatGoesOn 0 = .ok (.iconst 0, 1) := by decide +kernel
theorem dX2_leastThatGoesOn_1 : decode cX2_leastThatGoesOn 1 = .ok (.istore 4, 2) := by decide +kernel
theorem dX2_leastThatGoesOn_3 : decode cX2_leastThatGoesOn 3 = .ok (.iload 4, 2) := by decide +kernel
theorem dX2_leastThatGoesOn_5 : decode cX2_leastThatGoesOn 5 = .ok (.aload_n 1, 1) := by decide +kernel
theorem dX2_leastThatGoesOn_6 : decode cX2_leastThatGoesOn 6 = .ok (.invokevirtual 24, 3) := by decide +kernel
theorem dX2_leastThatGoesOn_9 : decode cX2_leastThatGoesOn 9 = .ok (.if_icmp .ge 33, 3) := by decide +kernel
theorem dX2_leastThatGoesOn_12 : decode cX2_leastThatGoesOn 12 = .ok (.aload_n 1, 1) := by decide +kernel
theorem dX2_leastThatGoesOn_13 : decode cX2_leastThatGoesOn 13 = .ok (.iload 4, 2) := by decide +kernel
theorem dX2_leastThatGoesOn_15 : decode cX2_leastThatGoesOn 15 = .ok (.iload_n 2, 1) := by decide +kernel
theorem dX2_leastThatGoesOn_16 : decode cX2_leastThatGoesOn 16 = .ok (.invokevirtual 77, 3) := by decide +kernel
theorem dX2_leastThatGoesOn_19 : decode cX2_leastThatGoesOn 19 = .ok (.ifCond .eq 17, 3) := by decide +kernel
theorem dX2_leastThatGoesOn_22 : decode cX2_leastThatGoesOn 22 = .ok (.aload_n 0, 1) := by decide +kernel
theorem dX2_leastThatGoesOn_23 : decode cX2_leastThatGoesOn 23 = .ok (.aload_n 1, 1) := by decide +kernel
theorem dX2_leastThatGoesOn_24 : decode cX2_leastThatGoesOn 24 = .ok (.iload_n 3, 1) := by decide +kernel
theorem dX2_leastThatGoesOn_25 : decode cX2_leastThatGoesOn 25 = .ok (.iload 4, 2) := by decide +kernel
theorem dX2_leastThatGoesOn_27 : decode cX2_leastThatGoesOn 27 = .ok (.invokevirtual 71, 3) := by decide +kernel
theorem dX2_leastThatGoesOn_30 : decode cX2_leastThatGoesOn 30 = .ok (.ifCond .le 6, 3) := by decide +kernel
theorem dX2_leastThatGoesOn_33 : decode cX2_leastThatGoesOn 33 = .ok (.iload 4, 2) := by decide +kernel
theorem dX2_leastThatGoesOn_35 : decode cX2_leastThatGoesOn 35 = .ok (.ireturn, 1) := by decide +kernel
theorem dX2_leastThatGoesOn_36 : decode cX2_leastThatGoesOn 36 = .ok (.iinc 4 1, 3) := by decide +kernel
theorem dX2_leastThatGoesOn_39 : decode cX2_leastThatGoesOn 39 = .ok (.goto (-36), 3) := by decide +kernel
theorem dX2_leastThatGoesOn_42 : decode cX2_leastThatGoesOn 42 = .ok (.ldc 34, 2) := by decide +kernel
theorem dX2_leastThatGoesOn_44 : decode cX2_leastThatGoesOn 44 = .ok (.ireturn, 1) := by decide +kernel
theorem dX2_waysAfter_0 : decode cX2_waysAfter 0 = .ok (.aload_n 1, 1) := by decide +kernel
theorem dX2_waysAfter_1 : decode cX2_waysAfter 1 = .ok (.iload_n 3, 1) := by decide +kernel
theorem dX2_waysAfter_2 : decode cX2_waysAfter 2 = .ok (.invokevirtual 81, 3) := by decide +kernel
theorem dX2_waysAfter_5 : decode cX2_waysAfter 5 = .ok (.istore 4, 2) := by decide +kernel
theorem dX2_waysAfter_7 : decode cX2_waysAfter 7 = .ok (.iload_n 2, 1) := by decide +kernel
theorem dX2_waysAfter_8 : decode cX2_waysAfter 8 = .ok (.ifCond .lt 24, 3) := by decide +kernel
theorem dX2_waysAfter_11 : decode cX2_waysAfter 11 = .ok (.iload_n 2, 1) := by decide +kernel
theorem dX2_waysAfter_12 : decode cX2_waysAfter 12 = .ok (.aload_n 0, 1) := by decide +kernel
theorem dX2_waysAfter_13 : decode cX2_waysAfter 13 = .ok (.getfield 11, 3) := by decide +kernel
theorem dX2_waysAfter_16 : decode cX2_waysAfter 16 = .ok (.arraylength, 1) := by decide +kernel
theorem dX2_waysAfter_17 : decode cX2_waysAfter 17 = .ok (.if_icmp .ge 15, 3) := by decide +kernel
theorem dX2_waysAfter_20 : decode cX2_waysAfter 20 = .ok (.iload 4, 2) := by decide +kernel
theorem dX2_waysAfter_22 : decode cX2_waysAfter 22 = .ok (.ifCond .lt 10, 3) := by decide +kernel
theorem dX2_waysAfter_25 : decode cX2_waysAfter 25 = .ok (.iload 4, 2) := by decide +kernel
theorem dX2_waysAfter_27 : decode cX2_waysAfter 27 = .ok (.bipush 64, 2) := by decide +kernel
theorem dX2_waysAfter_29 : decode cX2_waysAfter 29 = .ok (.if_icmp .lt 5, 3) := by decide +kernel
theorem dX2_waysAfter_32 : decode cX2_waysAfter 32 = .ok (.iconst 0, 1) := by decide +kernel
theorem dX2_waysAfter_33 : decode cX2_waysAfter 33 = .ok (.ireturn, 1) := by decide +kernel
theorem dX2_waysAfter_34 : decode cX2_waysAfter 34 = .ok (.aload_n 0, 1) := by decide +kernel
theorem dX2_waysAfter_35 : decode cX2_waysAfter 35 = .ok (.getfield 11, 3) := by decide +kernel
theorem dX2_waysAfter_38 : decode cX2_waysAfter 38 = .ok (.iload_n 2, 1) := by decide +kernel
theorem dX2_waysAfter_39 : decode cX2_waysAfter 39 = .ok (.aaload, 1) := by decide +kernel
theorem dX2_waysAfter_40 : decode cX2_waysAfter 40 = .ok (.iload 4, 2) := by decide +kernel
theorem dX2_waysAfter_42 : decode cX2_waysAfter 42 = .ok (.iaload, 1) := by decide +kernel
theorem dX2_waysAfter_43 : decode cX2_waysAfter 43 = .ok (.ireturn, 1) := by decide +kernel
theorem dX2_someAgrees_0 : decode cX2_someAgrees 0 = .ok (.aload_n 0, 1) := by decide +kernel
theorem dX2_someAgrees_1 : decode cX2_someAgrees 1 = .ok (.aload_n 1, 1) := by decide +kernel
theorem dX2_someAgrees_2 : decode cX2_someAgrees 2 = .ok (.iload_n 2, 1) := by decide +kernel
theorem dX2_someAgrees_3 : decode cX2_someAgrees 3 = .ok (.iconst (-1), 1) := by decide +kernel
theorem dX2_someAgrees_4 : decode cX2_someAgrees 4 = .ok (.ixor, 1) := by decide +kernel
theorem dX2_someAgrees_5 : decode cX2_someAgrees 5 = .ok (.iload_n 3, 1) := by decide +kernel
theorem dX2_someAgrees_6 : decode cX2_someAgrees 6 = .ok (.invokevirtual 58, 3) := by decide +kernel
theorem dX2_someAgrees_9 : decode cX2_someAgrees 9 = .ok (.ldc 34, 2) := by decide +kernel
theorem dX2_someAgrees_11 : decode cX2_someAgrees 11 = .ok (.if_icmp .eq 7, 3) := by decide +kernel
theorem dX2_someAgrees_14 : decode cX2_someAgrees 14 = .ok (.iconst 1, 1) := by decide +kernel
theorem dX2_someAgrees_15 : decode cX2_someAgrees 15 = .ok (.goto 4, 3) := by decide +kernel
theorem dX2_someAgrees_18 : decode cX2_someAgrees 18 = .ok (.iconst 0, 1) := by decide +kernel
theorem dX2_someAgrees_19 : decode cX2_someAgrees 19 = .ok (.ireturn, 1) := by decide +kernel
theorem dX2_leastAgreeing_0 : decode cX2_leastAgreeing 0 = .ok (.iconst 0, 1) := by decide +kernel
theorem dX2_leastAgreeing_1 : decode cX2_leastAgreeing 1 = .ok (.istore 4, 2) := by decide +kernel
theorem dX2_leastAgreeing_3 : decode cX2_leastAgreeing 3 = .ok (.iload 4, 2) := by decide +kernel
theorem dX2_leastAgreeing_5 : decode cX2_leastAgreeing 5 = .ok (.aload_n 1, 1) := by decide +kernel
theorem dX2_leastAgreeing_6 : decode cX2_leastAgreeing 6 = .ok (.invokevirtual 24, 3) := by decide +kernel
theorem dX2_leastAgreeing_9 : decode cX2_leastAgreeing 9 = .ok (.if_icmp .ge 27, 3) := by decide +kernel
theorem dX2_leastAgreeing_12 : decode cX2_leastAgreeing 12 = .ok (.aload_n 1, 1) := by decide +kernel
theorem dX2_leastAgreeing_13 : decode cX2_leastAgreeing 13 = .ok (.iload 4, 2) := by decide +kernel
theorem dX2_leastAgreeing_15 : decode cX2_leastAgreeing 15 = .ok (.invokevirtual 52, 3) := by decide +kernel
theorem dX2_leastAgreeing_18 : decode cX2_leastAgreeing 18 = .ok (.iload_n 2, 1) := by decide +kernel
theorem dX2_leastAgreeing_19 : decode cX2_leastAgreeing 19 = .ok (.iand, 1) := by decide +kernel
theorem dX2_leastAgreeing_20 : decode cX2_leastAgreeing 20 = .ok (.iload_n 3, 1) := by decide +kernel
theorem dX2_leastAgreeing_21 : decode cX2_leastAgreeing 21 = .ok (.ior, 1) := by decide +kernel
theorem dX2_leastAgreeing_22 : decode cX2_leastAgreeing 22 = .ok (.iload 4, 2) := by decide +kernel
theorem dX2_leastAgreeing_24 : decode cX2_leastAgreeing 24 = .ok (.if_icmp .ne 6, 3) := by decide +kernel
theorem dX2_leastAgreeing_27 : decode cX2_leastAgreeing 27 = .ok (.iload 4, 2) := by decide +kernel
theorem dX2_leastAgreeing_29 : decode cX2_leastAgreeing 29 = .ok (.ireturn, 1) := by decide +kernel
theorem dX2_leastAgreeing_30 : decode cX2_leastAgreeing 30 = .ok (.iinc 4 1, 3) := by decide +kernel
theorem dX2_leastAgreeing_33 : decode cX2_leastAgreeing 33 = .ok (.goto (-30), 3) := by decide +kernel
theorem dX2_leastAgreeing_36 : decode cX2_leastAgreeing 36 = .ok (.ldc 34, 2) := by decide +kernel
theorem dX2_leastAgreeing_38 : decode cX2_leastAgreeing 38 = .ok (.ireturn, 1) := by decide +kernel
theorem dX3_init_0 : decode cX3_init 0 = .ok (.aload_n 0, 1) := by decide +kernel
theorem dX3_init_1 : decode cX3_init 1 = .ok (.iload_n 1, 1) := by decide +kernel
theorem dX3_init_2 : decode cX3_init 2 = .ok (.iload_n 2, 1) := by decide +kernel
theorem dX3_init_3 : decode cX3_init 3 = .ok (.iload_n 3, 1) := by decide +kernel
theorem dX3_init_4 : decode cX3_init 4 = .ok (.invokespecial 1, 3) := by decide +kernel
theorem dX3_init_7 : decode cX3_init 7 = .ok (.return_, 1) := by decide +kernel
theorem dX3_ownKind_0 : decode cX3_ownKind 0 = .ok (.iconst 3, 1) := by decide +kernel
theorem dX3_ownKind_1 : decode cX3_ownKind 1 = .ok (.ireturn, 1) := by decide +kernel
theorem dX3_tenths_0 : decode cX3_tenths 0 = .ok (.aload_n 0, 1) := by decide +kernel
theorem dX3_tenths_1 : decode cX3_tenths 1 = .ok (.iload_n 1, 1) := by decide +kernel
theorem dX3_tenths_2 : decode cX3_tenths 2 = .ok (.iload_n 2, 1) := by decide +kernel
theorem dX3_tenths_3 : decode cX3_tenths 3 = .ok (.invokevirtual 7, 3) := by decide +kernel
theorem dX3_tenths_6 : decode cX3_tenths 6 = .ok (.iload_n 3, 1) := by decide +kernel
theorem dX3_tenths_7 : decode cX3_tenths 7 = .ok (.if_icmp .ne 13, 3) := by decide +kernel
theorem dX3_tenths_10 : decode cX3_tenths 10 = .ok (.bipush 10, 2) := by decide +kernel
theorem dX3_tenths_12 : decode cX3_tenths 12 = .ok (.aload_n 0, 1) := by decide +kernel
theorem dX3_tenths_13 : decode cX3_tenths 13 = .ok (.getfield 15, 3) := by decide +kernel
theorem dX3_tenths_16 : decode cX3_tenths 16 = .ok (.isub, 1) := by decide +kernel
theorem dX3_tenths_17 : decode cX3_tenths 17 = .ok (.goto 7, 3) := by decide +kernel
theorem dX3_tenths_20 : decode cX3_tenths 20 = .ok (.aload_n 0, 1) := by decide +kernel
theorem dX3_tenths_21 : decode cX3_tenths 21 = .ok (.getfield 15, 3) := by decide +kernel
theorem dX3_tenths_24 : decode cX3_tenths 24 = .ok (.ireturn, 1) := by decide +kernel
theorem dX3_turnsBy_0 : decode cX3_turnsBy 0 = .ok (.lload_n 1, 1) := by decide +kernel
theorem dX3_turnsBy_1 : decode cX3_turnsBy 1 = .ok (.ldc2_w 19, 3) := by decide +kernel
theorem dX3_turnsBy_4 : decode cX3_turnsBy 4 = .ok (.lrem, 1) := by decide +kernel
theorem dX3_turnsBy_5 : decode cX3_turnsBy 5 = .ok (.aload_n 0, 1) := by decide +kernel
theorem dX3_turnsBy_6 : decode cX3_turnsBy 6 = .ok (.getfield 15, 3) := by decide +kernel
theorem dX3_turnsBy_9 : decode cX3_turnsBy 9 = .ok (.i2l, 1) := by decide +kernel
theorem dX3_turnsBy_10 : decode cX3_turnsBy 10 = .ok (.lcmp, 1) := by decide +kernel
theorem dX3_turnsBy_11 : decode cX3_turnsBy 11 = .ok (.ifCond .ge 7, 3) := by decide +kernel
theorem dX3_turnsBy_14 : decode cX3_turnsBy 14 = .ok (.iconst 1, 1) := by decide +kernel
theorem dX3_turnsBy_15 : decode cX3_turnsBy 15 = .ok (.goto 4, 3) := by decide +kernel
theorem dX3_turnsBy_18 : decode cX3_turnsBy 18 = .ok (.iconst 0, 1) := by decide +kernel
theorem dX3_turnsBy_19 : decode cX3_turnsBy 19 = .ok (.ireturn, 1) := by decide +kernel
theorem dX3_mark_0 : decode cX3_mark 0 = .ok (.aload_n 1, 1) := by decide +kernel
theorem dX3_mark_1 : decode cX3_mark 1 = .ok (.bipush 22, 2) := by decide +kernel
theorem dX3_mark_3 : decode cX3_mark 3 = .ok (.invokevirtual 21, 3) := by decide +kernel
theorem dX3_mark_6 : decode cX3_mark 6 = .ok (.aload_n 0, 1) := by decide +kernel
theorem dX3_mark_7 : decode cX3_mark 7 = .ok (.aload_n 1, 1) := by decide +kernel
theorem dX3_mark_8 : decode cX3_mark 8 = .ok (.invokespecial 27, 3) := by decide +kernel
theorem dX3_mark_11 : decode cX3_mark 11 = .ok (.sipush 1000, 3) := by decide +kernel
theorem dX3_mark_14 : decode cX3_mark 14 = .ok (.isub, 1) := by decide +kernel
theorem dX3_mark_15 : decode cX3_mark 15 = .ok (.ireturn, 1) := by decide +kernel
theorem dX4_init_0 : decode cX4_init 0 = .ok (.aload_n 0, 1) := by decide +kernel
theorem dX4_init_1 : decode cX4_init 1 = .ok (.iload_n 1, 1) := by decide +kernel
theorem dX4_init_2 : decode cX4_init 2 = .ok (.iload_n 2, 1) := by decide +kernel
theorem dX4_init_3 : decode cX4_init 3 = .ok (.iload_n 3, 1) := by decide +kernel
theorem dX4_init_4 : decode cX4_init 4 = .ok (.invokespecial 1, 3) := by decide +kernel
theorem dX4_init_7 : decode cX4_init 7 = .ok (.return_, 1) := by decide +kernel
theorem dX4_ownKind_0 : decode cX4_ownKind 0 = .ok (.iconst 5, 1) := by decide +kernel
theorem dX4_ownKind_1 : decode cX4_ownKind 1 = .ok (.ireturn, 1) := by decide +kernel
theorem dX4_doesIt_0 : decode cX4_doesIt 0 = .ok (.iload_n 1, 1) := by decide +kernel
theorem dX4_doesIt_1 : decode cX4_doesIt 1 = .ok (.aload_n 0, 1) := by decide +kernel
theorem dX4_doesIt_2 : decode cX4_doesIt 2 = .ok (.getfield 7, 3) := by decide +kernel
theorem dX4_doesIt_5 : decode cX4_doesIt 5 = .ok (.invokestatic 13, 3) := by decide +kernel
theorem dX4_doesIt_8 : decode cX4_doesIt 8 = .ok (.iload_n 2, 1) := by decide +kernel
theorem dX4_doesIt_9 : decode cX4_doesIt 9 = .ok (.aload_n 0, 1) := by decide +kernel
theorem dX4_doesIt_10 : decode cX4_doesIt 10 = .ok (.getfield 19, 3) := by decide +kernel
theorem dX4_doesIt_13 : decode cX4_doesIt 13 = .ok (.invokestatic 13, 3) := by decide +kernel
theorem dX4_doesIt_16 : decode cX4_doesIt 16 = .ok (.if_icmp .ne 7, 3) := by decide +kernel
theorem dX4_doesIt_19 : decode cX4_doesIt 19 = .ok (.iconst 1, 1) := by decide +kernel
theorem dX4_doesIt_20 : decode cX4_doesIt 20 = .ok (.goto 4, 3) := by decide +kernel
theorem dX4_doesIt_23 : decode cX4_doesIt 23 = .ok (.iconst 0, 1) := by decide +kernel
theorem dX4_doesIt_24 : decode cX4_doesIt 24 = .ok (.ireturn, 1) := by decide +kernel
theorem dX4_size_0 : decode cX4_size 0 = .ok (.aload_n 1, 1) := by decide +kernel
theorem dX4_size_1 : decode cX4_size 1 = .ok (.bipush 14, 2) := by decide +kernel
theorem dX4_size_3 : decode cX4_size 3 = .ok (.invokevirtual 22, 3) := by decide +kernel
theorem dX4_size_6 : decode cX4_size 6 = .ok (.iconst 2, 1) := by decide +kernel
theorem dX4_size_7 : decode cX4_size 7 = .ok (.aload_n 0, 1) := by decide +kernel
theorem dX4_size_8 : decode cX4_size 8 = .ok (.aload_n 1, 1) := by decide +kernel
theorem dX4_size_9 : decode cX4_size 9 = .ok (.invokespecial 28, 3) := by decide +kernel
theorem dX4_size_12 : decode cX4_size 12 = .ok (.imul, 1) := by decide +kernel
theorem dX4_size_13 : decode cX4_size 13 = .ok (.ireturn, 1) := by decide +kernel
theorem dX5_init_0 : decode cX5_init 0 = .ok (.aload_n 0, 1) := by decide +kernel
theorem dX5_init_1 : decode cX5_init 1 = .ok (.invokespecial 1, 3) := by decide +kernel
theorem dX5_init_4 : decode cX5_init 4 = .ok (.aload_n 0, 1) := by decide +kernel
theorem dX5_init_5 : decode cX5_init 5 = .ok (.iload_n 1, 1) := by decide +kernel
theorem dX5_init_6 : decode cX5_init 6 = .ok (.putfield 7, 3) := by decide +kernel
theorem dX5_init_9 : decode cX5_init 9 = .ok (.aload_n 0, 1) := by decide +kernel
theorem dX5_init_10 : decode cX5_init 10 = .ok (.iload_n 2, 1) := by decide +kernel
theorem dX5_init_11 : decode cX5_init 11 = .ok (.putfield 13, 3) := by decide +kernel
theorem dX5_init_14 : decode cX5_init 14 = .ok (.aload_n 0, 1) := by decide +kernel
theorem dX5_init_15 : decode cX5_init 15 = .ok (.iload_n 3, 1) := by decide +kernel
theorem dX5_init_16 : decode cX5_init 16 = .ok (.putfield 16, 3) := by decide +kernel
theorem dX5_init_19 : decode cX5_init 19 = .ok (.return_, 1) := by decide +kernel
theorem dX5_tenths_0 : decode cX5_tenths 0 = .ok (.aload_n 0, 1) := by decide +kernel
theorem dX5_tenths_1 : decode cX5_tenths 1 = .ok (.iload_n 1, 1) := by decide +kernel
theorem dX5_tenths_2 : decode cX5_tenths 2 = .ok (.iload_n 2, 1) := by decide +kernel
theorem dX5_tenths_3 : decode cX5_tenths 3 = .ok (.invokevirtual 19, 3) := by decide +kernel
theorem dX5_tenths_6 : decode cX5_tenths 6 = .ok (.iload_n 3, 1) := by decide +kernel
theorem dX5_tenths_7 : decode cX5_tenths 7 = .ok (.if_icmp .ne 8, 3) := by decide +kernel
theorem dX5_tenths_10 : decode cX5_tenths 10 = .ok (.bipush 10, 2) := by decide +kernel
theorem dX5_tenths_12 : decode cX5_tenths 12 = .ok (.goto 4, 3) := by decide +kernel
theorem dX5_tenths_15 : decode cX5_tenths 15 = .ok (.iconst 0, 1) := by decide +kernel
theorem dX5_tenths_16 : decode cX5_tenths 16 = .ok (.ireturn, 1) := by decide +kernel
theorem dX5_size_0 : decode cX5_size 0 = .ok (.aload_n 1, 1) := by decide +kernel
theorem dX5_size_1 : decode cX5_size 1 = .ok (.bipush 10, 2) := by decide +kernel
theorem dX5_size_3 : decode cX5_size 3 = .ok (.invokevirtual 23, 3) := by decide +kernel
theorem dX5_size_6 : decode cX5_size 6 = .ok (.aload_n 0, 1) := by decide +kernel
theorem dX5_size_7 : decode cX5_size 7 = .ok (.getfield 16, 3) := by decide +kernel
theorem dX5_size_10 : decode cX5_size 10 = .ok (.ireturn, 1) := by decide +kernel
theorem dX5_mark_0 : decode cX5_mark 0 = .ok (.aload_n 1, 1) := by decide +kernel
theorem dX5_mark_1 : decode cX5_mark 1 = .ok (.bipush 20, 2) := by decide +kernel
theorem dX5_mark_3 : decode cX5_mark 3 = .ok (.invokevirtual 23, 3) := by decide +kernel
theorem dX5_mark_6 : decode cX5_mark 6 = .ok (.aload_n 0, 1) := by decide +kernel
theorem dX5_mark_7 : decode cX5_mark 7 = .ok (.getfield 7, 3) := by decide +kernel
theorem dX5_mark_10 : decode cX5_mark 10 = .ok (.ireturn, 1) := by decide +kernel
theorem dX6_init_0 : decode cX6_init 0 = .ok (.aload_n 0, 1) := by decide +kernel
theorem dX6_init_1 : decode cX6_init 1 = .ok (.invokespecial 3, 3) := by decide +kernel
theorem dX6_init_4 : decode cX6_init 4 = .ok (.aload_n 0, 1) := by decide +kernel
theorem dX6_init_5 : decode cX6_init 5 = .ok (.bipush 8, 2) := by decide +kernel
theorem dX6_init_7 : decode cX6_init 7 = .ok (.bipush 40, 2) := by decide +kernel
theorem dX6_init_9 : decode cX6_init 9 = .ok (.multianewarray 11 2, 4) := by decide +kernel
theorem dX6_init_13 : decode cX6_init 13 = .ok (.putfield 13, 3) := by decide +kernel
theorem dX6_init_16 : decode cX6_init 16 = .ok (.aload_n 0, 1) := by decide +kernel
theorem dX6_init_17 : decode cX6_init 17 = .ok (.bipush 8, 2) := by decide +kernel
theorem dX6_init_19 : decode cX6_init 19 = .ok (.newarray .int, 2) := by decide +kernel
theorem dX6_init_21 : decode cX6_init 21 = .ok (.putfield 16, 3) := by decide +kernel
theorem dX6_init_24 : decode cX6_init 24 = .ok (.aload_n 0, 1) := by decide +kernel
theorem dX6_init_25 : decode cX6_init 25 = .ok (.bipush 8, 2) := by decide +kernel
theorem dX6_init_27 : decode cX6_init 27 = .ok (.newarray .int, 2) := by decide +kernel
theorem dX6_init_29 : decode cX6_init 29 = .ok (.putfield 20, 3) := by decide +kernel
theorem dX6_init_32 : decode cX6_init 32 = .ok (.iconst 0, 1) := by decide +kernel
theorem dX6_init_33 : decode cX6_init 33 = .ok (.istore_n 1, 1) := by decide +kernel
theorem dX6_init_34 : decode cX6_init 34 = .ok (.iload_n 1, 1) := by decide +kernel
theorem dX6_init_35 : decode cX6_init 35 = .ok (.aload_n 0, 1) := by decide +kernel
theorem dX6_init_36 : decode cX6_init 36 = .ok (.getfield 20, 3) := by decide +kernel
theorem dX6_init_39 : decode cX6_init 39 = .ok (.arraylength, 1) := by decide +kernel
theorem dX6_init_40 : decode cX6_init 40 = .ok (.if_icmp .ge 16, 3) := by decide +kernel
theorem dX6_init_43 : decode cX6_init 43 = .ok (.aload_n 0, 1) := by decide +kernel
theorem dX6_init_44 : decode cX6_init 44 = .ok (.getfield 20, 3) := by decide +kernel
theorem dX6_init_47 : decode cX6_init 47 = .ok (.iload_n 1, 1) := by decide +kernel
theorem dX6_init_48 : decode cX6_init 48 = .ok (.iconst (-1), 1) := by decide +kernel
theorem dX6_init_49 : decode cX6_init 49 = .ok (.iastore, 1) := by decide +kernel
theorem dX6_init_50 : decode cX6_init 50 = .ok (.iinc 1 1, 3) := by decide +kernel
theorem dX6_init_53 : decode cX6_init 53 = .ok (.goto (-19), 3) := by decide +kernel
theorem dX6_init_56 : decode cX6_init 56 = .ok (.return_, 1) := by decide +kernel
theorem dX6_isPlace_0 : decode cX6_isPlace 0 = .ok (.iload_n 1, 1) := by decide +kernel
theorem dX6_isPlace_1 : decode cX6_isPlace 1 = .ok (.ifCond .lt 13, 3) := by decide +kernel
theorem dX6_isPlace_4 : decode cX6_isPlace 4 = .ok (.iload_n 1, 1) := by decide +kernel
theorem dX6_isPlace_5 : decode cX6_isPlace 5 = .ok (.bipush 8, 2) := by decide +kernel
theorem dX6_isPlace_7 : decode cX6_isPlace 7 = .ok (.if_icmp .ge 7, 3) := by decide +kernel
theorem dX6_isPlace_10 : decode cX6_isPlace 10 = .ok (.iconst 1, 1) := by decide +kernel
theorem dX6_isPlace_11 : decode cX6_isPlace 11 = .ok (.goto 4, 3) := by decide +kernel
theorem dX6_isPlace_14 : decode cX6_isPlace 14 = .ok (.iconst 0, 1) := by decide +kernel
theorem dX6_isPlace_15 : decode cX6_isPlace 15 = .ok (.ireturn, 1) := by decide +kernel
theorem dX6_isLane_0 : decode cX6_isLane 0 = .ok (.iload_n 1, 1) := by decide +kernel
theorem dX6_isLane_1 : decode cX6_isLane 1 = .ok (.ifCond .lt 12, 3) := by decide +kernel
theorem dX6_isLane_4 : decode cX6_isLane 4 = .ok (.iload_n 1, 1) := by decide +kernel
theorem dX6_isLane_5 : decode cX6_isLane 5 = .ok (.iconst 3, 1) := by decide +kernel
theorem dX6_isLane_6 : decode cX6_isLane 6 = .ok (.if_icmp .ge 7, 3) := by decide +kernel
theorem dX6_isLane_9 : decode cX6_isLane 9 = .ok (.iconst 1, 1) := by decide +kernel
theorem dX6_isLane_10 : decode cX6_isLane 10 = .ok (.goto 4, 3) := by decide +kernel
theorem dX6_isLane_13 : decode cX6_isLane 13 = .ok (.iconst 0, 1) := by decide +kernel
theorem dX6_isLane_14 : decode cX6_isLane 14 = .ok (.ireturn, 1) := by decide +kernel
theorem dX6_isMissing_0 : decode cX6_isMissing 0 = .ok (.aload_n 0, 1) := by decide +kernel
theorem dX6_isMissing_1 : decode cX6_isMissing 1 = .ok (.iload_n 1, 1) := by decide +kernel
theorem dX6_isMissing_2 : decode cX6_isMissing 2 = .ok (.invokevirtual 23, 3) := by decide +kernel
theorem dX6_isMissing_5 : decode cX6_isMissing 5 = .ok (.ifCond .eq 13, 3) := by decide +kernel
theorem dX6_isMissing_8 : decode cX6_isMissing 8 = .ok (.aload_n 0, 1) := by decide +kernel
theorem dX6_isMissing_9 : decode cX6_isMissing 9 = .ok (.getfield 20, 3) := by decide +kernel
theorem dX6_isMissing_12 : decode cX6_isMissing 12 = .ok (.iload_n 1, 1) := by decide +kernel
theorem dX6_isMissing_13 : decode cX6_isMissing 13 = .ok (.iaload, 1) := by decide +kernel
theorem dX6_isMissing_14 : decode cX6_isMissing 14 = .ok (.iconst (-1), 1) := by decide +kernel
theorem dX6_isMissing_15 : decode cX6_isMissing 15 = .ok (.if_icmp .ne 7, 3) := by decide +kernel
theorem dX6_isMissing_18 : decode cX6_isMissing 18 = .ok (.iconst 1, 1) := by decide +kernel
theorem dX6_isMissing_19 : decode cX6_isMissing 19 = .ok (.goto 4, 3) := by decide +kernel
theorem dX6_isMissing_22 : decode cX6_isMissing 22 = .ok (.iconst 0, 1) := by decide +kernel
theorem dX6_isMissing_23 : decode cX6_isMissing 23 = .ok (.ireturn, 1) := by decide +kernel
theorem dX6_areAlike_0 : decode cX6_areAlike 0 = .ok (.aload_n 0, 1) := by decide +kernel
theorem dX6_areAlike_1 : decode cX6_areAlike 1 = .ok (.iload_n 1, 1) := by decide +kernel
theorem dX6_areAlike_2 : decode cX6_areAlike 2 = .ok (.invokevirtual 23, 3) := by decide +kernel
theorem dX6_areAlike_5 : decode cX6_areAlike 5 = .ok (.ifCond .eq 30, 3) := by decide +kernel
theorem dX6_areAlike_8 : decode cX6_areAlike 8 = .ok (.aload_n 0, 1) := by decide +kernel
theorem dX6_areAlike_9 : decode cX6_areAlike 9 = .ok (.iload_n 2, 1) := by decide +kernel
theorem dX6_areAlike_10 : decode cX6_areAlike 10 = .ok (.invokevirtual 23, 3) := by decide +kernel
theorem dX6_areAlike_13 : decode cX6_areAlike 13 = .ok (.ifCond .eq 22, 3) := by decide +kernel
theorem dX6_areAlike_16 : decode cX6_areAlike 16 = .ok (.aload_n 0, 1) := by decide +kernel
theorem dX6_areAlike_17 : decode cX6_areAlike 17 = .ok (.getfield 16, 3) := by decide +kernel
theorem dX6_areAlike_20 : decode cX6_areAlike 20 = .ok (.iload_n 1, 1) := by decide +kernel
theorem dX6_areAlike_21 : decode cX6_areAlike 21 = .ok (.iaload, 1) := by decide +kernel
theorem dX6_areAlike_22 : decode cX6_areAlike 22 = .ok (.aload_n 0, 1) := by decide +kernel
theorem dX6_areAlike_23 : decode cX6_areAlike 23 = .ok (.getfield 16, 3) := by decide +kernel
theorem dX6_areAlike_26 : decode cX6_areAlike 26 = .ok (.iload_n 2, 1) := by decide +kernel
theorem dX6_areAlike_27 : decode cX6_areAlike 27 = .ok (.iaload, 1) := by decide +kernel
theorem dX6_areAlike_28 : decode cX6_areAlike 28 = .ok (.if_icmp .ne 7, 3) := by decide +kernel
theorem dX6_areAlike_31 : decode cX6_areAlike 31 = .ok (.iconst 1, 1) := by decide +kernel
theorem dX6_areAlike_32 : decode cX6_areAlike 32 = .ok (.goto 4, 3) := by decide +kernel
theorem dX6_areAlike_35 : decode cX6_areAlike 35 = .ok (.iconst 0, 1) := by decide +kernel
theorem dX6_areAlike_36 : decode cX6_areAlike 36 = .ok (.ireturn, 1) := by decide +kernel
theorem dX6_reaches_0 : decode cX6_reaches 0 = .ok (.aload_n 0, 1) := by decide +kernel
theorem dX6_reaches_1 : decode cX6_reaches 1 = .ok (.iload_n 1, 1) := by decide +kernel
theorem dX6_reaches_2 : decode cX6_reaches 2 = .ok (.invokevirtual 27, 3) := by decide +kernel
theorem dX6_reaches_5 : decode cX6_reaches 5 = .ok (.ifCond .ne 37, 3) := by decide +kernel
theorem dX6_reaches_8 : decode cX6_reaches 8 = .ok (.iload_n 2, 1) := by decide +kernel
theorem dX6_reaches_9 : decode cX6_reaches 9 = .ok (.ifCond .lt 33, 3) := by decide +kernel
theorem dX6_reaches_12 : decode cX6_reaches 12 = .ok (.iload_n 3, 1) := by decide +kernel
theorem dX6_reaches_13 : decode cX6_reaches 13 = .ok (.ifCond .lt 29, 3) := by decide +kernel
theorem dX6_reaches_16 : decode cX6_reaches 16 = .ok (.iload_n 3, 1) := by decide +kernel
theorem dX6_reaches_17 : decode cX6_reaches 17 = .ok (.aload_n 0, 1) := by decide +kernel
theorem dX6_reaches_18 : decode cX6_reaches 18 = .ok (.getfield 20, 3) := by decide +kernel
theorem dX6_reaches_21 : decode cX6_reaches 21 = .ok (.iload_n 1, 1) := by decide +kernel
theorem dX6_reaches_22 : decode cX6_reaches 22 = .ok (.iaload, 1) := by decide +kernel
theorem dX6_reaches_23 : decode cX6_reaches 23 = .ok (.if_icmp .gt 19, 3) := by decide +kernel
theorem dX6_reaches_26 : decode cX6_reaches 26 = .ok (.iload_n 2, 1) := by decide +kernel
theorem dX6_reaches_27 : decode cX6_reaches 27 = .ok (.aload_n 0, 1) := by decide +kernel
theorem dX6_reaches_28 : decode cX6_reaches 28 = .ok (.getfield 20, 3) := by decide +kernel
theorem dX6_reaches_31 : decode cX6_reaches 31 = .ok (.iload_n 1, 1) := by decide +kernel
theorem dX6_reaches_32 : decode cX6_reaches 32 = .ok (.iaload, 1) := by decide +kernel
theorem dX6_reaches_33 : decode cX6_reaches 33 = .ok (.iload_n 3, 1) := by decide +kernel
theorem dX6_reaches_34 : decode cX6_reaches 34 = .ok (.isub, 1) := by decide +kernel
theorem dX6_reaches_35 : decode cX6_reaches 35 = .ok (.if_icmp .gt 7, 3) := by decide +kernel
theorem dX6_reaches_38 : decode cX6_reaches 38 = .ok (.iconst 1, 1) := by decide +kernel
theorem dX6_reaches_39 : decode cX6_reaches 39 = .ok (.goto 4, 3) := by decide +kernel
theorem dX6_reaches_42 : decode cX6_reaches 42 = .ok (.iconst 0, 1) := by decide +kernel
theorem dX6_reaches_43 : decode cX6_reaches 43 = .ok (.ireturn, 1) := by decide +kernel
theorem dX6_howMany_0 : decode cX6_howMany 0 = .ok (.iconst 0, 1) := by decide +kernel
theorem dX6_howMany_1 : decode cX6_howMany 1 = .ok (.istore_n 1, 1) := by decide +kernel
theorem dX6_howMany_2 : decode cX6_howMany 2 = .ok (.iconst 0, 1) := by decide +kernel
theorem dX6_howMany_3 : decode cX6_howMany 3 = .ok (.istore_n 2, 1) := by decide +kernel
theorem dX6_howMany_4 : decode cX6_howMany 4 = .ok (.iload_n 2, 1) := by decide +kernel
theorem dX6_howMany_5 : decode cX6_howMany 5 = .ok (.bipush 8, 2) := by decide +kernel
theorem dX6_howMany_7 : decode cX6_howMany 7 = .ok (.if_icmp .ge 20, 3) := by decide +kernel
theorem dX6_howMany_10 : decode cX6_howMany 10 = .ok (.aload_n 0, 1) := by decide +kernel
theorem dX6_howMany_11 : decode cX6_howMany 11 = .ok (.iload_n 2, 1) := by decide +kernel
theorem dX6_howMany_12 : decode cX6_howMany 12 = .ok (.invokevirtual 27, 3) := by decide +kernel
theorem dX6_howMany_15 : decode cX6_howMany 15 = .ok (.ifCond .ne 6, 3) := by decide +kernel
theorem dX6_howMany_18 : decode cX6_howMany 18 = .ok (.iinc 1 1, 3) := by decide +kernel
theorem dX6_howMany_21 : decode cX6_howMany 21 = .ok (.iinc 2 1, 3) := by decide +kernel
theorem dX6_howMany_24 : decode cX6_howMany 24 = .ok (.goto (-20), 3) := by decide +kernel
theorem dX6_howMany_27 : decode cX6_howMany 27 = .ok (.iload_n 1, 1) := by decide +kernel
theorem dX6_howMany_28 : decode cX6_howMany 28 = .ok (.ireturn, 1) := by decide +kernel
theorem dX6_put_0 : decode cX6_put 0 = .ok (.aload_n 0, 1) := by decide +kernel
theorem dX6_put_1 : decode cX6_put 1 = .ok (.iload_n 1, 1) := by decide +kernel
theorem dX6_put_2 : decode cX6_put 2 = .ok (.invokevirtual 23, 3) := by decide +kernel
theorem dX6_put_5 : decode cX6_put 5 = .ok (.ifCond .eq 45, 3) := by decide +kernel
theorem dX6_put_8 : decode cX6_put 8 = .ok (.aload_n 0, 1) := by decide +kernel
theorem dX6_put_9 : decode cX6_put 9 = .ok (.iload_n 2, 1) := by decide +kernel
theorem dX6_put_10 : decode cX6_put 10 = .ok (.invokevirtual 30, 3) := by decide +kernel
theorem dX6_put_13 : decode cX6_put 13 = .ok (.ifCond .eq 37, 3) := by decide +kernel
theorem dX6_put_16 : decode cX6_put 16 = .ok (.iload_n 3, 1) := by decide +kernel
theorem dX6_put_17 : decode cX6_put 17 = .ok (.ifCond .lt 33, 3) := by decide +kernel
theorem dX6_put_20 : decode cX6_put 20 = .ok (.iload_n 3, 1) := by decide +kernel
theorem dX6_put_21 : decode cX6_put 21 = .ok (.bipush 40, 2) := by decide +kernel
theorem dX6_put_23 : decode cX6_put 23 = .ok (.if_icmp .gt 27, 3) := by decide +kernel
theorem dX6_put_26 : decode cX6_put 26 = .ok (.aload_n 0, 1) := by decide +kernel
theorem dX6_put_27 : decode cX6_put 27 = .ok (.getfield 13, 3) := by decide +kernel
theorem dX6_put_30 : decode cX6_put 30 = .ok (.iload_n 1, 1) := by decide +kernel
theorem dX6_put_31 : decode cX6_put 31 = .ok (.aaload, 1) := by decide +kernel
theorem dX6_put_32 : decode cX6_put 32 = .ok (.iconst 0, 1) := by decide +kernel
theorem dX6_put_33 : decode cX6_put 33 = .ok (.invokestatic 33, 3) := by decide +kernel
theorem dX6_put_36 : decode cX6_put 36 = .ok (.aload_n 0, 1) := by decide +kernel
theorem dX6_put_37 : decode cX6_put 37 = .ok (.getfield 16, 3) := by decide +kernel
theorem dX6_put_40 : decode cX6_put 40 = .ok (.iload_n 1, 1) := by decide +kernel
theorem dX6_put_41 : decode cX6_put 41 = .ok (.iload_n 2, 1) := by decide +kernel
theorem dX6_put_42 : decode cX6_put 42 = .ok (.iastore, 1) := by decide +kernel
theorem dX6_put_43 : decode cX6_put 43 = .ok (.aload_n 0, 1) := by decide +kernel
theorem dX6_put_44 : decode cX6_put 44 = .ok (.getfield 20, 3) := by decide +kernel
theorem dX6_put_47 : decode cX6_put 47 = .ok (.iload_n 1, 1) := by decide +kernel
theorem dX6_put_48 : decode cX6_put 48 = .ok (.iload_n 3, 1) := by decide +kernel
theorem dX6_put_49 : decode cX6_put 49 = .ok (.iastore, 1) := by decide +kernel
theorem dX6_put_50 : decode cX6_put 50 = .ok (.return_, 1) := by decide +kernel
theorem dX6_take_0 : decode cX6_take 0 = .ok (.aload_n 0, 1) := by decide +kernel
theorem dX6_take_1 : decode cX6_take 1 = .ok (.iload_n 1, 1) := by decide +kernel
theorem dX6_take_2 : decode cX6_take 2 = .ok (.invokevirtual 27, 3) := by decide +kernel
theorem dX6_take_5 : decode cX6_take 5 = .ok (.ifCond .eq 5, 3) := by decide +kernel
theorem dX6_take_8 : decode cX6_take 8 = .ok (.iconst 0, 1) := by decide +kernel
theorem dX6_take_9 : decode cX6_take 9 = .ok (.ireturn, 1) := by decide +kernel
theorem dX6_take_10 : decode cX6_take 10 = .ok (.aload_n 0, 1) := by decide +kernel
theorem dX6_take_11 : decode cX6_take 11 = .ok (.getfield 20, 3) := by decide +kernel
theorem dX6_take_14 : decode cX6_take 14 = .ok (.iload_n 1, 1) := by decide +kernel
theorem dX6_take_15 : decode cX6_take 15 = .ok (.iaload, 1) := by decide +kernel
theorem dX6_take_16 : decode cX6_take 16 = .ok (.istore_n 2, 1) := by decide +kernel
theorem dX6_take_17 : decode cX6_take 17 = .ok (.aload_n 0, 1) := by decide +kernel
theorem dX6_take_18 : decode cX6_take 18 = .ok (.getfield 20, 3) := by decide +kernel
theorem dX6_take_21 : decode cX6_take 21 = .ok (.iload_n 1, 1) := by decide +kernel
theorem dX6_take_22 : decode cX6_take 22 = .ok (.iconst (-1), 1) := by decide +kernel
theorem dX6_take_23 : decode cX6_take 23 = .ok (.iastore, 1) := by decide +kernel
theorem dX6_take_24 : decode cX6_take 24 = .ok (.iload_n 2, 1) := by decide +kernel
theorem dX6_take_25 : decode cX6_take 25 = .ok (.ireturn, 1) := by decide +kernel
theorem dX6_item_0 : decode cX6_item 0 = .ok (.aload_n 0, 1) := by decide +kernel
theorem dX6_item_1 : decode cX6_item 1 = .ok (.iload_n 1, 1) := by decide +kernel
theorem dX6_item_2 : decode cX6_item 2 = .ok (.iload_n 2, 1) := by decide +kernel
theorem dX6_item_3 : decode cX6_item 3 = .ok (.iconst 1, 1) := by decide +kernel
theorem dX6_item_4 : decode cX6_item 4 = .ok (.invokevirtual 39, 3) := by decide +kernel
theorem dX6_item_7 : decode cX6_item 7 = .ok (.ifCond .eq 14, 3) := by decide +kernel
theorem dX6_item_10 : decode cX6_item 10 = .ok (.aload_n 0, 1) := by decide +kernel
theorem dX6_item_11 : decode cX6_item 11 = .ok (.getfield 13, 3) := by decide +kernel
theorem dX6_item_14 : decode cX6_item 14 = .ok (.iload_n 1, 1) := by decide +kernel
theorem dX6_item_15 : decode cX6_item 15 = .ok (.aaload, 1) := by decide +kernel
theorem dX6_item_16 : decode cX6_item 16 = .ok (.iload_n 2, 1) := by decide +kernel
theorem dX6_item_17 : decode cX6_item 17 = .ok (.iaload, 1) := by decide +kernel
theorem dX6_item_18 : decode cX6_item 18 = .ok (.goto 5, 3) := by decide +kernel
theorem dX6_item_21 : decode cX6_item 21 = .ok (.ldc 43, 2) := by decide +kernel
theorem dX6_item_23 : decode cX6_item 23 = .ok (.ireturn, 1) := by decide +kernel
theorem dX6_write_0 : decode cX6_write 0 = .ok (.aload_n 0, 1) := by decide +kernel
theorem dX6_write_1 : decode cX6_write 1 = .ok (.iload_n 1, 1) := by decide +kernel
theorem dX6_write_2 : decode cX6_write 2 = .ok (.iload_n 2, 1) := by decide +kernel
theorem dX6_write_3 : decode cX6_write 3 = .ok (.iconst 1, 1) := by decide +kernel
theorem dX6_write_4 : decode cX6_write 4 = .ok (.invokevirtual 39, 3) := by decide +kernel
theorem dX6_write_7 : decode cX6_write 7 = .ok (.ifCond .ne 6, 3) := by decide +kernel
theorem dX6_write_10 : decode cX6_write 10 = .ok (.ldc 43, 2) := by decide +kernel
theorem dX6_write_12 : decode cX6_write 12 = .ok (.ireturn, 1) := by decide +kernel
theorem dX6_write_13 : decode cX6_write 13 = .ok (.aload_n 0, 1) := by decide +kernel
theorem dX6_write_14 : decode cX6_write 14 = .ok (.getfield 13, 3) := by decide +kernel
theorem dX6_write_17 : decode cX6_write 17 = .ok (.iload_n 1, 1) := by decide +kernel
theorem dX6_write_18 : decode cX6_write 18 = .ok (.aaload, 1) := by decide +kernel
theorem dX6_write_19 : decode cX6_write 19 = .ok (.iload_n 2, 1) := by decide +kernel
theorem dX6_write_20 : decode cX6_write 20 = .ok (.iload_n 3, 1) := by decide +kernel
theorem dX6_write_21 : decode cX6_write 21 = .ok (.aload_n 0, 1) := by decide +kernel
theorem dX6_write_22 : decode cX6_write 22 = .ok (.getfield 16, 3) := by decide +kernel
theorem dX6_write_25 : decode cX6_write 25 = .ok (.iload_n 1, 1) := by decide +kernel
theorem dX6_write_26 : decode cX6_write 26 = .ok (.iaload, 1) := by decide +kernel
theorem dX6_write_27 : decode cX6_write 27 = .ok (.invokestatic 44, 3) := by decide +kernel
theorem dX6_write_30 : decode cX6_write 30 = .ok (.iastore, 1) := by decide +kernel
theorem dX6_write_31 : decode cX6_write 31 = .ok (.aload_n 0, 1) := by decide +kernel
theorem dX6_write_32 : decode cX6_write 32 = .ok (.getfield 13, 3) := by decide +kernel
theorem dX6_write_35 : decode cX6_write 35 = .ok (.iload_n 1, 1) := by decide +kernel
theorem dX6_write_36 : decode cX6_write 36 = .ok (.aaload, 1) := by decide +kernel
theorem dX6_write_37 : decode cX6_write 37 = .ok (.iload_n 2, 1) := by decide +kernel
theorem dX6_write_38 : decode cX6_write 38 = .ok (.iaload, 1) := by decide +kernel
theorem dX6_write_39 : decode cX6_write 39 = .ok (.ireturn, 1) := by decide +kernel
theorem dX6_carry_0 : decode cX6_carry 0 = .ok (.aload_n 0, 1) := by decide +kernel
theorem dX6_carry_1 : decode cX6_carry 1 = .ok (.iload_n 1, 1) := by decide +kernel
theorem dX6_carry_2 : decode cX6_carry 2 = .ok (.iload_n 2, 1) := by decide +kernel
theorem dX6_carry_3 : decode cX6_carry 3 = .ok (.iload 5, 2) := by decide +kernel
theorem dX6_carry_5 : decode cX6_carry 5 = .ok (.invokevirtual 39, 3) := by decide +kernel
theorem dX6_carry_8 : decode cX6_carry 8 = .ok (.ifCond .eq 35, 3) := by decide +kernel
theorem dX6_carry_11 : decode cX6_carry 11 = .ok (.aload_n 0, 1) := by decide +kernel
theorem dX6_carry_12 : decode cX6_carry 12 = .ok (.iload_n 3, 1) := by decide +kernel
theorem dX6_carry_13 : decode cX6_carry 13 = .ok (.iload 4, 2) := by decide +kernel
theorem dX6_carry_15 : decode cX6_carry 15 = .ok (.iload 5, 2) := by decide +kernel
theorem dX6_carry_17 : decode cX6_carry 17 = .ok (.invokevirtual 39, 3) := by decide +kernel
theorem dX6_carry_20 : decode cX6_carry 20 = .ok (.ifCond .eq 23, 3) := by decide +kernel
theorem dX6_carry_23 : decode cX6_carry 23 = .ok (.aload_n 0, 1) := by decide +kernel
theorem dX6_carry_24 : decode cX6_carry 24 = .ok (.getfield 13, 3) := by decide +kernel
theorem dX6_carry_27 : decode cX6_carry 27 = .ok (.iload_n 1, 1) := by decide +kernel
theorem dX6_carry_28 : decode cX6_carry 28 = .ok (.aaload, 1) := by decide +kernel
theorem dX6_carry_29 : decode cX6_carry 29 = .ok (.iload_n 2, 1) := by decide +kernel
theorem dX6_carry_30 : decode cX6_carry 30 = .ok (.aload_n 0, 1) := by decide +kernel
theorem dX6_carry_31 : decode cX6_carry 31 = .ok (.getfield 13, 3) := by decide +kernel
theorem dX6_carry_34 : decode cX6_carry 34 = .ok (.iload_n 3, 1) := by decide +kernel
theorem dX6_carry_35 : decode cX6_carry 35 = .ok (.aaload, 1) := by decide +kernel
theorem dX6_carry_36 : decode cX6_carry 36 = .ok (.iload 4, 2) := by decide +kernel
theorem dX6_carry_38 : decode cX6_carry 38 = .ok (.iload 5, 2) := by decide +kernel
theorem dX6_carry_40 : decode cX6_carry 40 = .ok (.invokestatic 48, 3) := by decide +kernel
theorem dX6_carry_43 : decode cX6_carry 43 = .ok (.return_, 1) := by decide +kernel
theorem dX6_narrowed_0 : decode cX6_narrowed 0 = .ok (.iload_n 1, 1) := by decide +kernel
theorem dX6_narrowed_1 : decode cX6_narrowed 1 = .ok (.lookupswitch 33 #[(0, 27), (1, 30)], 27) := by decide +kernel
theorem dX6_narrowed_28 : decode cX6_narrowed 28 = .ok (.iload_n 0, 1) := by decide +kernel
theorem dX6_narrowed_29 : decode cX6_narrowed 29 = .ok (.i2b, 1) := by decide +kernel
theorem dX6_narrowed_30 : decode cX6_narrowed 30 = .ok (.ireturn, 1) := by decide +kernel
theorem dX6_narrowed_31 : decode cX6_narrowed 31 = .ok (.iload_n 0, 1) := by decide +kernel
theorem dX6_narrowed_32 : decode cX6_narrowed 32 = .ok (.i2s, 1) := by decide +kernel
theorem dX6_narrowed_33 : decode cX6_narrowed 33 = .ok (.ireturn, 1) := by decide +kernel
theorem dX6_narrowed_34 : decode cX6_narrowed 34 = .ok (.iload_n 0, 1) := by decide +kernel
theorem dX6_narrowed_35 : decode cX6_narrowed 35 = .ok (.ireturn, 1) := by decide +kernel
theorem dX7_init_0 : decode cX7_init 0 = .ok (.aload_n 0, 1) := by decide +kernel
theorem dX7_init_1 : decode cX7_init 1 = .ok (.invokespecial 3, 3) := by decide +kernel
theorem dX7_init_4 : decode cX7_init 4 = .ok (.aload_n 0, 1) := by decide +kernel
theorem dX7_init_5 : decode cX7_init 5 = .ok (.sipush 300, 3) := by decide +kernel
theorem dX7_init_8 : decode cX7_init 8 = .ok (.newarray .byte, 2) := by decide +kernel
theorem dX7_init_10 : decode cX7_init 10 = .ok (.putfield 11, 3) := by decide +kernel
theorem dX7_init_13 : decode cX7_init 13 = .ok (.aload_n 0, 1) := by decide +kernel
theorem dX7_init_14 : decode cX7_init 14 = .ok (.iconst 0, 1) := by decide +kernel
theorem dX7_init_15 : decode cX7_init 15 = .ok (.putfield 15, 3) := by decide +kernel
theorem dX7_init_18 : decode cX7_init 18 = .ok (.aload_n 0, 1) := by decide +kernel
theorem dX7_init_19 : decode cX7_init 19 = .ok (.bipush 6, 2) := by decide +kernel
theorem dX7_init_21 : decode cX7_init 21 = .ok (.anewarray 19, 3) := by decide +kernel
theorem dX7_init_24 : decode cX7_init 24 = .ok (.putfield 21, 3) := by decide +kernel
theorem dX7_init_27 : decode cX7_init 27 = .ok (.aload_n 0, 1) := by decide +kernel
theorem dX7_init_28 : decode cX7_init 28 = .ok (.iconst 0, 1) := by decide +kernel
theorem dX7_init_29 : decode cX7_init 29 = .ok (.putfield 25, 3) := by decide +kernel
theorem dX7_init_32 : decode cX7_init 32 = .ok (.aload_n 0, 1) := by decide +kernel
theorem dX7_init_33 : decode cX7_init 33 = .ok (.iconst 0, 1) := by decide +kernel
theorem dX7_init_34 : decode cX7_init 34 = .ok (.putfield 28, 3) := by decide +kernel
theorem dX7_init_37 : decode cX7_init 37 = .ok (.aload_n 0, 1) := by decide +kernel
theorem dX7_init_38 : decode cX7_init 38 = .ok (.iconst 0, 1) := by decide +kernel
theorem dX7_init_39 : decode cX7_init 39 = .ok (.putfield 31, 3) := by decide +kernel
theorem dX7_init_42 : decode cX7_init 42 = .ok (.aload_n 0, 1) := by decide +kernel
theorem dX7_init_43 : decode cX7_init 43 = .ok (.iconst 0, 1) := by decide +kernel
theorem dX7_init_44 : decode cX7_init 44 = .ok (.putfield 34, 3) := by decide +kernel
theorem dX7_init_47 : decode cX7_init 47 = .ok (.aload_n 0, 1) := by decide +kernel
theorem dX7_init_48 : decode cX7_init 48 = .ok (.iconst 0, 1) := by decide +kernel
theorem dX7_init_49 : decode cX7_init 49 = .ok (.putfield 37, 3) := by decide +kernel
theorem dX7_init_52 : decode cX7_init 52 = .ok (.return_, 1) := by decide +kernel
theorem dX7_size_0 : decode cX7_size 0 = .ok (.aload_n 0, 1) := by decide +kernel
theorem dX7_size_1 : decode cX7_size 1 = .ok (.getfield 15, 3) := by decide +kernel
theorem dX7_size_4 : decode cX7_size 4 = .ok (.ireturn, 1) := by decide +kernel
theorem dX7_latestFault_0 : decode cX7_latestFault 0 = .ok (.aload_n 0, 1) := by decide +kernel
theorem dX7_latestFault_1 : decode cX7_latestFault 1 = .ok (.getfield 28, 3) := by decide +kernel
theorem dX7_latestFault_4 : decode cX7_latestFault 4 = .ok (.ireturn, 1) := by decide +kernel
theorem dX7_peopleRead_0 : decode cX7_peopleRead 0 = .ok (.aload_n 0, 1) := by decide +kernel
theorem dX7_peopleRead_1 : decode cX7_peopleRead 1 = .ok (.getfield 25, 3) := by decide +kernel
theorem dX7_peopleRead_4 : decode cX7_peopleRead 4 = .ok (.ireturn, 1) := by decide +kernel
theorem dX7_reading_0 : decode cX7_reading 0 = .ok (.iload_n 1, 1) := by decide +kernel
theorem dX7_reading_1 : decode cX7_reading 1 = .ok (.ifCond .lt 20, 3) := by decide +kernel
theorem dX7_reading_4 : decode cX7_reading 4 = .ok (.iload_n 1, 1) := by decide +kernel
theorem dX7_reading_5 : decode cX7_reading 5 = .ok (.aload_n 0, 1) := by decide +kernel
theorem dX7_reading_6 : decode cX7_reading 6 = .ok (.getfield 25, 3) := by decide +kernel
theorem dX7_reading_9 : decode cX7_reading 9 = .ok (.if_icmp .ge 12, 3) := by decide +kernel
theorem dX7_reading_12 : decode cX7_reading 12 = .ok (.iload_n 1, 1) := by decide +kernel
theorem dX7_reading_13 : decode cX7_reading 13 = .ok (.aload_n 0, 1) := by decide +kernel
theorem dX7_reading_14 : decode cX7_reading 14 = .ok (.getfield 21, 3) := by decide +kernel
theorem dX7_reading_17 : decode cX7_reading 17 = .ok (.arraylength, 1) := by decide +kernel
theorem dX7_reading_18 : decode cX7_reading 18 = .ok (.if_icmp .lt 7, 3) := by decide +kernel
theorem dX7_reading_21 : decode cX7_reading 21 = .ok (.aconst_null, 1) := by decide +kernel
theorem dX7_reading_22 : decode cX7_reading 22 = .ok (.goto 9, 3) := by decide +kernel
theorem dX7_reading_25 : decode cX7_reading 25 = .ok (.aload_n 0, 1) := by decide +kernel
theorem dX7_reading_26 : decode cX7_reading 26 = .ok (.getfield 21, 3) := by decide +kernel
theorem dX7_reading_29 : decode cX7_reading 29 = .ok (.iload_n 1, 1) := by decide +kernel
theorem dX7_reading_30 : decode cX7_reading 30 = .ok (.aaload, 1) := by decide +kernel
theorem dX7_reading_31 : decode cX7_reading 31 = .ok (.areturn, 1) := by decide +kernel
theorem dX7_hasRoom_0 : decode cX7_hasRoom 0 = .ok (.iload_n 1, 1) := by decide +kernel
theorem dX7_hasRoom_1 : decode cX7_hasRoom 1 = .ok (.aload_n 0, 1) := by decide +kernel
theorem dX7_hasRoom_2 : decode cX7_hasRoom 2 = .ok (.getfield 11, 3) := by decide +kernel
theorem dX7_hasRoom_5 : decode cX7_hasRoom 5 = .ok (.arraylength, 1) := by decide +kernel
theorem dX7_hasRoom_6 : decode cX7_hasRoom 6 = .ok (.aload_n 0, 1) := by decide +kernel
theorem dX7_hasRoom_7 : decode cX7_hasRoom 7 = .ok (.getfield 15, 3) := by decide +kernel
theorem dX7_hasRoom_10 : decode cX7_hasRoom 10 = .ok (.isub, 1) := by decide +kernel
theorem dX7_hasRoom_11 : decode cX7_hasRoom 11 = .ok (.if_icmp .gt 7, 3) := by decide +kernel
theorem dX7_hasRoom_14 : decode cX7_hasRoom 14 = .ok (.iconst 1, 1) := by decide +kernel
theorem dX7_hasRoom_15 : decode cX7_hasRoom 15 = .ok (.goto 4, 3) := by decide +kernel
theorem dX7_hasRoom_18 : decode cX7_hasRoom 18 = .ok (.iconst 0, 1) := by decide +kernel
theorem dX7_hasRoom_19 : decode cX7_hasRoom 19 = .ok (.ireturn, 1) := by decide +kernel
theorem dX7_append_0 : decode cX7_append 0 = .ok (.iload_n 3, 1) := by decide +kernel
theorem dX7_append_1 : decode cX7_append 1 = .ok (.iconst 1, 1) := by decide +kernel
theorem dX7_append_2 : decode cX7_append 2 = .ok (.isub, 1) := by decide +kernel
theorem dX7_append_3 : decode cX7_append 3 = .ok (.istore 4, 2) := by decide +kernel
theorem dX7_append_5 : decode cX7_append 5 = .ok (.iload 4, 2) := by decide +kernel
theorem dX7_append_7 : decode cX7_append 7 = .ok (.ifCond .lt 49, 3) := by decide +kernel
theorem dX7_append_10 : decode cX7_append 10 = .ok (.aload_n 0, 1) := by decide +kernel
theorem dX7_append_11 : decode cX7_append 11 = .ok (.getfield 15, 3) := by decide +kernel
theorem dX7_append_14 : decode cX7_append 14 = .ok (.aload_n 0, 1) := by decide +kernel
theorem dX7_append_15 : decode cX7_append 15 = .ok (.getfield 11, 3) := by decide +kernel
theorem dX7_append_18 : decode cX7_append 18 = .ok (.arraylength, 1) := by decide +kernel
theorem dX7_append_19 : decode cX7_append 19 = .ok (.if_icmp .ge 37, 3) := by decide +kernel
theorem dX7_append_22 : decode cX7_append 22 = .ok (.aload_n 0, 1) := by decide +kernel
theorem dX7_append_23 : decode cX7_append 23 = .ok (.getfield 11, 3) := by decide +kernel
theorem dX7_append_26 : decode cX7_append 26 = .ok (.aload_n 0, 1) := by decide +kernel
theorem dX7_append_27 : decode cX7_append 27 = .ok (.getfield 15, 3) := by decide +kernel
theorem dX7_append_30 : decode cX7_append 30 = .ok (.lload_n 1, 1) := by decide +kernel
theorem dX7_append_31 : decode cX7_append 31 = .ok (.bipush 8, 2) := by decide +kernel
theorem dX7_append_33 : decode cX7_append 33 = .ok (.iload 4, 2) := by decide +kernel
theorem dX7_append_35 : decode cX7_append 35 = .ok (.imul, 1) := by decide +kernel
theorem dX7_append_36 : decode cX7_append 36 = .ok (.lushr, 1) := by decide +kernel
theorem dX7_append_37 : decode cX7_append 37 = .ok (.l2i, 1) := by decide +kernel
theorem dX7_append_38 : decode cX7_append 38 = .ok (.i2b, 1) := by decide +kernel
theorem dX7_append_39 : decode cX7_append 39 = .ok (.bastore, 1) := by decide +kernel
theorem dX7_append_40 : decode cX7_append 40 = .ok (.aload_n 0, 1) := by decide +kernel
theorem dX7_append_41 : decode cX7_append 41 = .ok (.dup, 1) := by decide +kernel
theorem dX7_append_42 : decode cX7_append 42 = .ok (.getfield 15, 3) := by decide +kernel
theorem dX7_append_45 : decode cX7_append 45 = .ok (.iconst 1, 1) := by decide +kernel
theorem dX7_append_46 : decode cX7_append 46 = .ok (.iadd, 1) := by decide +kernel
theorem dX7_append_47 : decode cX7_append 47 = .ok (.putfield 15, 3) := by decide +kernel
theorem dX7_append_50 : decode cX7_append 50 = .ok (.iinc 4 (-1), 3) := by decide +kernel
theorem dX7_append_53 : decode cX7_append 53 = .ok (.goto (-48), 3) := by decide +kernel
theorem dX7_append_56 : decode cX7_append 56 = .ok (.aload_n 0, 1) := by decide +kernel
theorem dX7_append_57 : decode cX7_append 57 = .ok (.getfield 15, 3) := by decide +kernel
theorem dX7_append_60 : decode cX7_append 60 = .ok (.ireturn, 1) := by decide +kernel
theorem dX7_read_0 : decode cX7_read 0 = .ok (.aload_n 0, 1) := by decide +kernel
theorem dX7_read_1 : decode cX7_read 1 = .ok (.iconst 0, 1) := by decide +kernel
theorem dX7_read_2 : decode cX7_read 2 = .ok (.putfield 25, 3) := by decide +kernel
theorem dX7_read_5 : decode cX7_read 5 = .ok (.aload_n 0, 1) := by decide +kernel
theorem dX7_read_6 : decode cX7_read 6 = .ok (.iconst 0, 1) := by decide +kernel
theorem dX7_read_7 : decode cX7_read 7 = .ok (.putfield 37, 3) := by decide +kernel
theorem dX7_read_10 : decode cX7_read 10 = .ok (.aload_n 0, 1) := by decide +kernel
theorem dX7_read_11 : decode cX7_read 11 = .ok (.invokevirtual 40, 3) := by decide +kernel
theorem dX7_read_14 : decode cX7_read 14 = .ok (.iconst 1, 1) := by decide +kernel
theorem dX7_read_15 : decode cX7_read 15 = .ok (.istore_n 1, 1) := by decide +kernel
theorem dX7_read_16 : decode cX7_read 16 = .ok (.iconst 0, 1) := by decide +kernel
theorem dX7_read_17 : decode cX7_read 17 = .ok (.istore_n 2, 1) := by decide +kernel
theorem dX7_read_18 : decode cX7_read 18 = .ok (.iload_n 2, 1) := by decide +kernel
theorem dX7_read_19 : decode cX7_read 19 = .ok (.bipush 6, 2) := by decide +kernel
theorem dX7_read_21 : decode cX7_read 21 = .ok (.if_icmp .gt 32, 3) := by decide +kernel
theorem dX7_read_24 : decode cX7_read 24 = .ok (.iload_n 1, 1) := by decide +kernel
theorem dX7_read_25 : decode cX7_read 25 = .ok (.ifCond .eq 28, 3) := by decide +kernel
theorem dX7_read_28 : decode cX7_read 28 = .ok (.iload_n 2, 1) := by decide +kernel
theorem dX7_read_29 : decode cX7_read 29 = .ok (.ifCond .le 13, 3) := by decide +kernel
theorem dX7_read_32 : decode cX7_read 32 = .ok (.aload_n 0, 1) := by decide +kernel
theorem dX7_read_33 : decode cX7_read 33 = .ok (.getfield 31, 3) := by decide +kernel
theorem dX7_read_36 : decode cX7_read 36 = .ok (.ifCond .ne 6, 3) := by decide +kernel
theorem dX7_read_39 : decode cX7_read 39 = .ok (.goto 14, 3) := by decide +kernel
theorem dX7_read_42 : decode cX7_read 42 = .ok (.aload_n 0, 1) := by decide +kernel
theorem dX7_read_43 : decode cX7_read 43 = .ok (.invokevirtual 43, 3) := by decide +kernel
theorem dX7_read_46 : decode cX7_read 46 = .ok (.istore_n 1, 1) := by decide +kernel
theorem dX7_read_47 : decode cX7_read 47 = .ok (.iinc 2 1, 3) := by decide +kernel
theorem dX7_read_50 : decode cX7_read 50 = .ok (.goto (-32), 3) := by decide +kernel
theorem dX7_read_53 : decode cX7_read 53 = .ok (.aload_n 0, 1) := by decide +kernel
theorem dX7_read_54 : decode cX7_read 54 = .ok (.iconst 0, 1) := by decide +kernel
theorem dX7_read_55 : decode cX7_read 55 = .ok (.putfield 15, 3) := by decide +kernel
theorem dX7_read_58 : decode cX7_read 58 = .ok (.iload_n 1, 1) := by decide +kernel
theorem dX7_read_59 : decode cX7_read 59 = .ok (.ifCond .eq 7, 3) := by decide +kernel
theorem dX7_read_62 : decode cX7_read 62 = .ok (.iconst (-1), 1) := by decide +kernel
theorem dX7_read_63 : decode cX7_read 63 = .ok (.goto 7, 3) := by decide +kernel
theorem dX7_read_66 : decode cX7_read 66 = .ok (.aload_n 0, 1) := by decide +kernel
theorem dX7_read_67 : decode cX7_read 67 = .ok (.getfield 34, 3) := by decide +kernel
theorem dX7_read_70 : decode cX7_read 70 = .ok (.ireturn, 1) := by decide +kernel
theorem dX7_readPerson_0 : decode cX7_readPerson 0 = .ok (.aload_n 0, 1) := by decide +kernel
theorem dX7_readPerson_1 : decode cX7_readPerson 1 = .ok (.ldc 47, 2) := by decide +kernel
theorem dX7_readPerson_3 : decode cX7_readPerson 3 = .ok (.invokevirtual 49, 3) := by decide +kernel
theorem dX7_readPerson_6 : decode cX7_readPerson 6 = .ok (.ifCond .ne 9, 3) := by decide +kernel
theorem dX7_readPerson_9 : decode cX7_readPerson 9 = .ok (.aload_n 0, 1) := by decide +kernel
theorem dX7_readPerson_10 : decode cX7_readPerson 10 = .ok (.iconst 1, 1) := by decide +kernel
theorem dX7_readPerson_11 : decode cX7_readPerson 11 = .ok (.invokevirtual 53, 3) := by decide +kernel
theorem dX7_readPerson_14 : decode cX7_readPerson 14 = .ok (.ireturn, 1) := by decide +kernel
theorem dX7_readPerson_15 : decode cX7_readPerson 15 = .ok (.aload_n 0, 1) := by decide +kernel
theorem dX7_readPerson_16 : decode cX7_readPerson 16 = .ok (.getfield 25, 3) := by decide +kernel
theorem dX7_readPerson_19 : decode cX7_readPerson 19 = .ok (.aload_n 0, 1) := by decide +kernel
theorem dX7_readPerson_20 : decode cX7_readPerson 20 = .ok (.getfield 21, 3) := by decide +kernel
theorem dX7_readPerson_23 : decode cX7_readPerson 23 = .ok (.arraylength, 1) := by decide +kernel
theorem dX7_readPerson_24 : decode cX7_readPerson 24 = .ok (.if_icmp .lt 9, 3) := by decide +kernel
theorem dX7_readPerson_27 : decode cX7_readPerson 27 = .ok (.aload_n 0, 1) := by decide +kernel
theorem dX7_readPerson_28 : decode cX7_readPerson 28 = .ok (.iconst 3, 1) := by decide +kernel
theorem dX7_readPerson_29 : decode cX7_readPerson 29 = .ok (.invokevirtual 53, 3) := by decide +kernel
theorem dX7_readPerson_32 : decode cX7_readPerson 32 = .ok (.ireturn, 1) := by decide +kernel
theorem dX7_readPerson_33 : decode cX7_readPerson 33 = .ok (.aload_n 0, 1) := by decide +kernel
theorem dX7_readPerson_34 : decode cX7_readPerson 34 = .ok (.invokevirtual 40, 3) := by decide +kernel
theorem dX7_readPerson_37 : decode cX7_readPerson 37 = .ok (.aload_n 0, 1) := by decide +kernel
theorem dX7_readPerson_38 : decode cX7_readPerson 38 = .ok (.invokevirtual 57, 3) := by decide +kernel
theorem dX7_readPerson_41 : decode cX7_readPerson 41 = .ok (.istore_n 1, 1) := by decide +kernel
theorem dX7_readPerson_42 : decode cX7_readPerson 42 = .ok (.iload_n 1, 1) := by decide +kernel
theorem dX7_readPerson_43 : decode cX7_readPerson 43 = .ok (.ifCond .ne 9, 3) := by decide +kernel
theorem dX7_readPerson_46 : decode cX7_readPerson 46 = .ok (.aload_n 0, 1) := by decide +kernel
theorem dX7_readPerson_47 : decode cX7_readPerson 47 = .ok (.iconst 1, 1) := by decide +kernel
theorem dX7_readPerson_48 : decode cX7_readPerson 48 = .ok (.invokevirtual 53, 3) := by decide +kernel
theorem dX7_readPerson_51 : decode cX7_readPerson 51 = .ok (.ireturn, 1) := by decide +kernel
theorem dX7_readPerson_52 : decode cX7_readPerson 52 = .ok (.aload_n 0, 1) := by decide +kernel
theorem dX7_readPerson_53 : decode cX7_readPerson 53 = .ok (.invokevirtual 40, 3) := by decide +kernel
theorem dX7_readPerson_56 : decode cX7_readPerson 56 = .ok (.aload_n 0, 1) := by decide +kernel
theorem dX7_readPerson_57 : decode cX7_readPerson 57 = .ok (.iconst 5, 1) := by decide +kernel
theorem dX7_readPerson_58 : decode cX7_readPerson 58 = .ok (.invokevirtual 61, 3) := by decide +kernel
theorem dX7_readPerson_61 : decode cX7_readPerson 61 = .ok (.ifCond .ne 5, 3) := by decide +kernel
theorem dX7_readPerson_64 : decode cX7_readPerson 64 = .ok (.iconst 0, 1) := by decide +kernel
theorem dX7_readPerson_65 : decode cX7_readPerson 65 = .ok (.ireturn, 1) := by decide +kernel
theorem dX7_readPerson_66 : decode cX7_readPerson 66 = .ok (.aload_n 0, 1) := by decide +kernel
theorem dX7_readPerson_67 : decode cX7_readPerson 67 = .ok (.invokevirtual 64, 3) := by decide +kernel
theorem dX7_readPerson_70 : decode cX7_readPerson 70 = .ok (.istore_n 2, 1) := by decide +kernel
theorem dX7_readPerson_71 : decode cX7_readPerson 71 = .ok (.aload_n 0, 1) := by decide +kernel
theorem dX7_readPerson_72 : decode cX7_readPerson 72 = .ok (.invokevirtual 40, 3) := by decide +kernel
theorem dX7_readPerson_75 : decode cX7_readPerson 75 = .ok (.aload_n 0, 1) := by decide +kernel
theorem dX7_readPerson_76 : decode cX7_readPerson 76 = .ok (.bipush 9, 2) := by decide +kernel
theorem dX7_readPerson_78 : decode cX7_readPerson 78 = .ok (.invokevirtual 61, 3) := by decide +kernel
theorem dX7_readPerson_81 : decode cX7_readPerson 81 = .ok (.ifCond .ne 5, 3) := by decide +kernel
theorem dX7_readPerson_84 : decode cX7_readPerson 84 = .ok (.iconst 0, 1) := by decide +kernel
theorem dX7_readPerson_85 : decode cX7_readPerson 85 = .ok (.ireturn, 1) := by decide +kernel
theorem dX7_readPerson_86 : decode cX7_readPerson 86 = .ok (.aload_n 0, 1) := by decide +kernel
theorem dX7_readPerson_87 : decode cX7_readPerson 87 = .ok (.invokevirtual 64, 3) := by decide +kernel
theorem dX7_readPerson_90 : decode cX7_readPerson 90 = .ok (.istore_n 3, 1) := by decide +kernel
theorem dX7_readPerson_91 : decode cX7_readPerson 91 = .ok (.aload_n 0, 1) := by decide +kernel
theorem dX7_readPerson_92 : decode cX7_readPerson 92 = .ok (.invokevirtual 40, 3) := by decide +kernel
theorem dX7_readPerson_95 : decode cX7_readPerson 95 = .ok (.aload_n 0, 1) := by decide +kernel
theorem dX7_readPerson_96 : decode cX7_readPerson 96 = .ok (.getfield 31, 3) := by decide +kernel
theorem dX7_readPerson_99 : decode cX7_readPerson 99 = .ok (.iconst 3, 1) := by decide +kernel
theorem dX7_readPerson_100 : decode cX7_readPerson 100 = .ok (.if_icmp .eq 9, 3) := by decide +kernel
theorem dX7_readPerson_103 : decode cX7_readPerson 103 = .ok (.aload_n 0, 1) := by decide +kernel
theorem dX7_readPerson_104 : decode cX7_readPerson 104 = .ok (.iconst 1, 1) := by decide +kernel
theorem dX7_readPerson_105 : decode cX7_readPerson 105 = .ok (.invokevirtual 53, 3) := by decide +kernel
theorem dX7_readPerson_108 : decode cX7_readPerson 108 = .ok (.ireturn, 1) := by decide +kernel
theorem dX7_readPerson_109 : decode cX7_readPerson 109 = .ok (.aload_n 0, 1) := by decide +kernel
theorem dX7_readPerson_110 : decode cX7_readPerson 110 = .ok (.getfield 21, 3) := by decide +kernel
theorem dX7_readPerson_113 : decode cX7_readPerson 113 = .ok (.aload_n 0, 1) := by decide +kernel
theorem dX7_readPerson_114 : decode cX7_readPerson 114 = .ok (.getfield 25, 3) := by decide +kernel
theorem dX7_readPerson_117 : decode cX7_readPerson 117 = .ok (.iload_n 1, 1) := by decide +kernel
theorem dX7_readPerson_118 : decode cX7_readPerson 118 = .ok (.aload_n 0, 1) := by decide +kernel
theorem dX7_readPerson_119 : decode cX7_readPerson 119 = .ok (.getfield 25, 3) := by decide +kernel
theorem dX7_readPerson_122 : decode cX7_readPerson 122 = .ok (.iload_n 2, 1) := by decide +kernel
theorem dX7_readPerson_123 : decode cX7_readPerson 123 = .ok (.iload_n 3, 1) := by decide +kernel
theorem dX7_readPerson_124 : decode cX7_readPerson 124 = .ok (.invokestatic 67, 3) := by decide +kernel
theorem dX7_readPerson_127 : decode cX7_readPerson 127 = .ok (.aastore, 1) := by decide +kernel
theorem dX7_readPerson_128 : decode cX7_readPerson 128 = .ok (.aload_n 0, 1) := by decide +kernel
theorem dX7_readPerson_129 : decode cX7_readPerson 129 = .ok (.dup, 1) := by decide +kernel
theorem dX7_readPerson_130 : decode cX7_readPerson 130 = .ok (.getfield 25, 3) := by decide +kernel
theorem dX7_readPerson_133 : decode cX7_readPerson 133 = .ok (.iconst 1, 1) := by decide +kernel
theorem dX7_readPerson_134 : decode cX7_readPerson 134 = .ok (.iadd, 1) := by decide +kernel
theorem dX7_readPerson_135 : decode cX7_readPerson 135 = .ok (.putfield 25, 3) := by decide +kernel
theorem dX7_readPerson_138 : decode cX7_readPerson 138 = .ok (.aload_n 0, 1) := by decide +kernel
theorem dX7_readPerson_139 : decode cX7_readPerson 139 = .ok (.invokevirtual 40, 3) := by decide +kernel
theorem dX7_readPerson_142 : decode cX7_readPerson 142 = .ok (.iconst 1, 1) := by decide +kernel
theorem dX7_readPerson_143 : decode cX7_readPerson 143 = .ok (.ireturn, 1) := by decide +kernel
theorem dX7_faulty_0 : decode cX7_faulty 0 = .ok (.aload_n 0, 1) := by decide +kernel
theorem dX7_faulty_1 : decode cX7_faulty 1 = .ok (.iload_n 1, 1) := by decide +kernel
theorem dX7_faulty_2 : decode cX7_faulty 2 = .ok (.putfield 28, 3) := by decide +kernel
theorem dX7_faulty_5 : decode cX7_faulty 5 = .ok (.iconst 0, 1) := by decide +kernel
theorem dX7_faulty_6 : decode cX7_faulty 6 = .ok (.ireturn, 1) := by decide +kernel
theorem dX7_isNumberUpTo_0 : decode cX7_isNumberUpTo 0 = .ok (.aload_n 0, 1) := by decide +kernel
theorem dX7_isNumberUpTo_1 : decode cX7_isNumberUpTo 1 = .ok (.getfield 31, 3) := by decide +kernel
theorem dX7_isNumberUpTo_4 : decode cX7_isNumberUpTo 4 = .ok (.iconst 2, 1) := by decide +kernel
theorem dX7_isNumberUpTo_5 : decode cX7_isNumberUpTo 5 = .ok (.if_icmp .eq 9, 3) := by decide +kernel
theorem dX7_isNumberUpTo_8 : decode cX7_isNumberUpTo 8 = .ok (.aload_n 0, 1) := by decide +kernel
theorem dX7_isNumberUpTo_9 : decode cX7_isNumberUpTo 9 = .ok (.iconst 1, 1) := by decide +kernel
theorem dX7_isNumberUpTo_10 : decode cX7_isNumberUpTo 10 = .ok (.invokevirtual 53, 3) := by decide +kernel
theorem dX7_isNumberUpTo_13 : decode cX7_isNumberUpTo 13 = .ok (.ireturn, 1) := by decide +kernel
theorem dX7_isNumberUpTo_14 : decode cX7_isNumberUpTo 14 = .ok (.aload_n 0, 1) := by decide +kernel
theorem dX7_isNumberUpTo_15 : decode cX7_isNumberUpTo 15 = .ok (.invokevirtual 64, 3) := by decide +kernel
theorem dX7_isNumberUpTo_18 : decode cX7_isNumberUpTo 18 = .ok (.iload_n 1, 1) := by decide +kernel
theorem dX7_isNumberUpTo_19 : decode cX7_isNumberUpTo 19 = .ok (.if_icmp .le 11, 3) := by decide +kernel
theorem dX7_isNumberUpTo_22 : decode cX7_isNumberUpTo 22 = .ok (.aload_n 0, 1) := by decide +kernel
theorem dX7_isNumberUpTo_23 : decode cX7_isNumberUpTo 23 = .ok (.iconst 2, 1) := by decide +kernel
theorem dX7_isNumberUpTo_24 : decode cX7_isNumberUpTo 24 = .ok (.invokevirtual 53, 3) := by decide +kernel
theorem dX7_isNumberUpTo_27 : decode cX7_isNumberUpTo 27 = .ok (.ifCond .eq 7, 3) := by decide +kernel
theorem dX7_isNumberUpTo_30 : decode cX7_isNumberUpTo 30 = .ok (.iconst 1, 1) := by decide +kernel
theorem dX7_isNumberUpTo_31 : decode cX7_isNumberUpTo 31 = .ok (.goto 4, 3) := by decide +kernel
theorem dX7_isNumberUpTo_34 : decode cX7_isNumberUpTo 34 = .ok (.iconst 0, 1) := by decide +kernel
theorem dX7_isNumberUpTo_35 : decode cX7_isNumberUpTo 35 = .ok (.ireturn, 1) := by decide +kernel
theorem dX7_kindAtHand_0 : decode cX7_kindAtHand 0 = .ok (.aload_n 0, 1) := by decide +kernel
theorem dX7_kindAtHand_1 : decode cX7_kindAtHand 1 = .ok (.ldc 71, 2) := by decide +kernel
theorem dX7_kindAtHand_3 : decode cX7_kindAtHand 3 = .ok (.invokevirtual 49, 3) := by decide +kernel
