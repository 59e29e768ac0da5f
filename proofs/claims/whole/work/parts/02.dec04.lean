theorem dX12_person_1 : decode cX12_person 1 = .ok (.iconst 0, 1) := by decide +kernel
theorem dX12_person_2 : decode cX12_person 2 = .ok (.putfield 44, 3) := by decide +kernel
theorem dX12_person_5 : decode cX12_person 5 = .ok (.aload_n 0, 1) := by decide +kernel
theorem dX12_person_6 : decode cX12_person 6 = .ok (.iload_n 1, 1) := by decide +kernel
theorem dX12_person_7 : decode cX12_person 7 = .ok (.invokevirtual 212, 3) := by decide +kernel
theorem dX12_person_10 : decode cX12_person 10 = .ok (.ifCond .eq 15, 3) := by decide +kernel
theorem dX12_person_13 : decode cX12_person 13 = .ok (.iload_n 2, 1) := by decide +kernel
theorem dX12_person_14 : decode cX12_person 14 = .ok (.i2l, 1) := by decide +kernel
theorem dX12_person_15 : decode cX12_person 15 = .ok (.lconst 0, 1) := by decide +kernel
theorem dX12_person_16 : decode cX12_person 16 = .ok (.ldc2_w 62, 3) := by decide +kernel
theorem dX12_person_19 : decode cX12_person 19 = .ok (.invokestatic 54, 3) := by decide +kernel
theorem dX12_person_22 : decode cX12_person 22 = .ok (.ifCond .ne 6, 3) := by decide +kernel
theorem dX12_person_25 : decode cX12_person 25 = .ok (.ldc 64, 2) := by decide +kernel
theorem dX12_person_27 : decode cX12_person 27 = .ok (.ireturn, 1) := by decide +kernel
theorem dX12_person_28 : decode cX12_person 28 = .ok (.iload_n 2, 1) := by decide +kernel
theorem dX12_person_29 : decode cX12_person 29 = .ok (.iconst 2, 1) := by decide +kernel
theorem dX12_person_30 : decode cX12_person 30 = .ok (.if_icmp .ne 16, 3) := by decide +kernel
theorem dX12_person_33 : decode cX12_person 33 = .ok (.aload_n 0, 1) := by decide +kernel
theorem dX12_person_34 : decode cX12_person 34 = .ok (.getfield 19, 3) := by decide +kernel
theorem dX12_person_37 : decode cX12_person 37 = .ok (.iconst 2, 1) := by decide +kernel
theorem dX12_person_38 : decode cX12_person 38 = .ok (.iaload, 1) := by decide +kernel
theorem dX12_person_39 : decode cX12_person 39 = .ok (.iload_n 1, 1) := by decide +kernel
theorem dX12_person_40 : decode cX12_person 40 = .ok (.ishr, 1) := by decide +kernel
theorem dX12_person_41 : decode cX12_person 41 = .ok (.iconst 1, 1) := by decide +kernel
theorem dX12_person_42 : decode cX12_person 42 = .ok (.iand, 1) := by decide +kernel
theorem dX12_person_43 : decode cX12_person 43 = .ok (.goto 11, 3) := by decide +kernel
theorem dX12_person_46 : decode cX12_person 46 = .ok (.aload_n 0, 1) := by decide +kernel
theorem dX12_person_47 : decode cX12_person 47 = .ok (.iload_n 1, 1) := by decide +kernel
theorem dX12_person_48 : decode cX12_person 48 = .ok (.iconst 1, 1) := by decide +kernel
theorem dX12_person_49 : decode cX12_person 49 = .ok (.iload_n 2, 1) := by decide +kernel
theorem dX12_person_50 : decode cX12_person 50 = .ok (.iadd, 1) := by decide +kernel
theorem dX12_person_51 : decode cX12_person 51 = .ok (.invokevirtual 163, 3) := by decide +kernel
theorem dX12_person_54 : decode cX12_person 54 = .ok (.ireturn, 1) := by decide +kernel
theorem dX12_done_0 : decode cX12_done 0 = .ok (.aload_n 0, 1) := by decide +kernel
theorem dX12_done_1 : decode cX12_done 1 = .ok (.iconst 0, 1) := by decide +kernel
theorem dX12_done_2 : decode cX12_done 2 = .ok (.putfield 44, 3) := by decide +kernel
theorem dX12_done_5 : decode cX12_done 5 = .ok (.aload_n 0, 1) := by decide +kernel
theorem dX12_done_6 : decode cX12_done 6 = .ok (.invokevirtual 180, 3) := by decide +kernel
theorem dX12_done_9 : decode cX12_done 9 = .ok (.ifCond .ne 8, 3) := by decide +kernel
theorem dX12_done_12 : decode cX12_done 12 = .ok (.ldc 184, 2) := by decide +kernel
theorem dX12_done_14 : decode cX12_done 14 = .ok (.goto 29, 3) := by decide +kernel
theorem dX12_done_17 : decode cX12_done 17 = .ok (.aload_n 0, 1) := by decide +kernel
theorem dX12_done_18 : decode cX12_done 18 = .ok (.iload_n 1, 1) := by decide +kernel
theorem dX12_done_19 : decode cX12_done 19 = .ok (.invokevirtual 185, 3) := by decide +kernel
theorem dX12_done_22 : decode cX12_done 22 = .ok (.ifCond .eq 19, 3) := by decide +kernel
theorem dX12_done_25 : decode cX12_done 25 = .ok (.aload_n 0, 1) := by decide +kernel
theorem dX12_done_26 : decode cX12_done 26 = .ok (.iload_n 1, 1) := by decide +kernel
theorem dX12_done_27 : decode cX12_done 27 = .ok (.aload_n 0, 1) := by decide +kernel
theorem dX12_done_28 : decode cX12_done 28 = .ok (.getfield 19, 3) := by decide +kernel
theorem dX12_done_31 : decode cX12_done 31 = .ok (.iconst 2, 1) := by decide +kernel
theorem dX12_done_32 : decode cX12_done 32 = .ok (.iaload, 1) := by decide +kernel
theorem dX12_done_33 : decode cX12_done 33 = .ok (.iconst (-1), 1) := by decide +kernel
theorem dX12_done_34 : decode cX12_done 34 = .ok (.iconst 0, 1) := by decide +kernel
theorem dX12_done_35 : decode cX12_done 35 = .ok (.invokevirtual 173, 3) := by decide +kernel
theorem dX12_done_38 : decode cX12_done 38 = .ok (.goto 5, 3) := by decide +kernel
theorem dX12_done_41 : decode cX12_done 41 = .ok (.ldc 64, 2) := by decide +kernel
theorem dX12_done_43 : decode cX12_done 43 = .ok (.ireturn, 1) := by decide +kernel
theorem dX12_agreeing_0 : decode cX12_agreeing 0 = .ok (.aload_n 0, 1) := by decide +kernel
theorem dX12_agreeing_1 : decode cX12_agreeing 1 = .ok (.iconst 0, 1) := by decide +kernel
theorem dX12_agreeing_2 : decode cX12_agreeing 2 = .ok (.putfield 44, 3) := by decide +kernel
theorem dX12_agreeing_5 : decode cX12_agreeing 5 = .ok (.aload_n 0, 1) := by decide +kernel
theorem dX12_agreeing_6 : decode cX12_agreeing 6 = .ok (.invokevirtual 180, 3) := by decide +kernel
theorem dX12_agreeing_9 : decode cX12_agreeing 9 = .ok (.ifCond .ne 6, 3) := by decide +kernel
theorem dX12_agreeing_12 : decode cX12_agreeing 12 = .ok (.ldc 184, 2) := by decide +kernel
theorem dX12_agreeing_14 : decode cX12_agreeing 14 = .ok (.ireturn, 1) := by decide +kernel
theorem dX12_agreeing_15 : decode cX12_agreeing 15 = .ok (.iload_n 1, 1) := by decide +kernel
theorem dX12_agreeing_16 : decode cX12_agreeing 16 = .ok (.iconst (-1), 1) := by decide +kernel
theorem dX12_agreeing_17 : decode cX12_agreeing 17 = .ok (.if_icmp .ge 6, 3) := by decide +kernel
theorem dX12_agreeing_20 : decode cX12_agreeing 20 = .ok (.ldc 64, 2) := by decide +kernel
theorem dX12_agreeing_22 : decode cX12_agreeing 22 = .ok (.ireturn, 1) := by decide +kernel
theorem dX12_agreeing_23 : decode cX12_agreeing 23 = .ok (.iconst 0, 1) := by decide +kernel
theorem dX12_agreeing_24 : decode cX12_agreeing 24 = .ok (.istore_n 2, 1) := by decide +kernel
theorem dX12_agreeing_25 : decode cX12_agreeing 25 = .ok (.iconst 0, 1) := by decide +kernel
theorem dX12_agreeing_26 : decode cX12_agreeing 26 = .ok (.istore_n 3, 1) := by decide +kernel
theorem dX12_agreeing_27 : decode cX12_agreeing 27 = .ok (.iload_n 3, 1) := by decide +kernel
theorem dX12_agreeing_28 : decode cX12_agreeing 28 = .ok (.aload_n 0, 1) := by decide +kernel
theorem dX12_agreeing_29 : decode cX12_agreeing 29 = .ok (.invokevirtual 160, 3) := by decide +kernel
theorem dX12_agreeing_32 : decode cX12_agreeing 32 = .ok (.if_icmp .gt 33, 3) := by decide +kernel
theorem dX12_agreeing_35 : decode cX12_agreeing 35 = .ok (.aload_n 0, 1) := by decide +kernel
theorem dX12_agreeing_36 : decode cX12_agreeing 36 = .ok (.iload_n 3, 1) := by decide +kernel
theorem dX12_agreeing_37 : decode cX12_agreeing 37 = .ok (.aload_n 0, 1) := by decide +kernel
theorem dX12_agreeing_38 : decode cX12_agreeing 38 = .ok (.getfield 19, 3) := by decide +kernel
theorem dX12_agreeing_41 : decode cX12_agreeing 41 = .ok (.iconst 2, 1) := by decide +kernel
theorem dX12_agreeing_42 : decode cX12_agreeing 42 = .ok (.iaload, 1) := by decide +kernel
theorem dX12_agreeing_43 : decode cX12_agreeing 43 = .ok (.invokevirtual 188, 3) := by decide +kernel
theorem dX12_agreeing_46 : decode cX12_agreeing 46 = .ok (.ifCond .eq 13, 3) := by decide +kernel
theorem dX12_agreeing_49 : decode cX12_agreeing 49 = .ok (.iload_n 2, 1) := by decide +kernel
theorem dX12_agreeing_50 : decode cX12_agreeing 50 = .ok (.iload_n 1, 1) := by decide +kernel
theorem dX12_agreeing_51 : decode cX12_agreeing 51 = .ok (.if_icmp .ne 5, 3) := by decide +kernel
theorem dX12_agreeing_54 : decode cX12_agreeing 54 = .ok (.iload_n 3, 1) := by decide +kernel
theorem dX12_agreeing_55 : decode cX12_agreeing 55 = .ok (.ireturn, 1) := by decide +kernel
theorem dX12_agreeing_56 : decode cX12_agreeing 56 = .ok (.iinc 2 1, 3) := by decide +kernel
theorem dX12_agreeing_59 : decode cX12_agreeing 59 = .ok (.iinc 3 1, 3) := by decide +kernel
theorem dX12_agreeing_62 : decode cX12_agreeing 62 = .ok (.goto (-35), 3) := by decide +kernel
theorem dX12_agreeing_65 : decode cX12_agreeing 65 = .ok (.iload_n 1, 1) := by decide +kernel
theorem dX12_agreeing_66 : decode cX12_agreeing 66 = .ok (.ifCond .ge 7, 3) := by decide +kernel
theorem dX12_agreeing_69 : decode cX12_agreeing 69 = .ok (.iload_n 2, 1) := by decide +kernel
theorem dX12_agreeing_70 : decode cX12_agreeing 70 = .ok (.goto 5, 3) := by decide +kernel
theorem dX12_agreeing_73 : decode cX12_agreeing 73 = .ok (.ldc 80, 2) := by decide +kernel
theorem dX12_agreeing_75 : decode cX12_agreeing 75 = .ok (.ireturn, 1) := by decide +kernel
theorem dX12_fullest_0 : decode cX12_fullest 0 = .ok (.aload_n 0, 1) := by decide +kernel
theorem dX12_fullest_1 : decode cX12_fullest 1 = .ok (.iconst 0, 1) := by decide +kernel
theorem dX12_fullest_2 : decode cX12_fullest 2 = .ok (.putfield 44, 3) := by decide +kernel
theorem dX12_fullest_5 : decode cX12_fullest 5 = .ok (.aload_n 0, 1) := by decide +kernel
theorem dX12_fullest_6 : decode cX12_fullest 6 = .ok (.invokevirtual 180, 3) := by decide +kernel
theorem dX12_fullest_9 : decode cX12_fullest 9 = .ok (.ifCond .ne 6, 3) := by decide +kernel
theorem dX12_fullest_12 : decode cX12_fullest 12 = .ok (.ldc 184, 2) := by decide +kernel
theorem dX12_fullest_14 : decode cX12_fullest 14 = .ok (.ireturn, 1) := by decide +kernel
theorem dX12_fullest_15 : decode cX12_fullest 15 = .ok (.ldc 80, 2) := by decide +kernel
theorem dX12_fullest_17 : decode cX12_fullest 17 = .ok (.istore_n 1, 1) := by decide +kernel
theorem dX12_fullest_18 : decode cX12_fullest 18 = .ok (.iconst 0, 1) := by decide +kernel
theorem dX12_fullest_19 : decode cX12_fullest 19 = .ok (.istore_n 2, 1) := by decide +kernel
theorem dX12_fullest_20 : decode cX12_fullest 20 = .ok (.iload_n 2, 1) := by decide +kernel
theorem dX12_fullest_21 : decode cX12_fullest 21 = .ok (.aload_n 0, 1) := by decide +kernel
theorem dX12_fullest_22 : decode cX12_fullest 22 = .ok (.invokevirtual 160, 3) := by decide +kernel
theorem dX12_fullest_25 : decode cX12_fullest 25 = .ok (.if_icmp .gt 42, 3) := by decide +kernel
theorem dX12_fullest_28 : decode cX12_fullest 28 = .ok (.aload_n 0, 1) := by decide +kernel
theorem dX12_fullest_29 : decode cX12_fullest 29 = .ok (.iload_n 2, 1) := by decide +kernel
theorem dX12_fullest_30 : decode cX12_fullest 30 = .ok (.aload_n 0, 1) := by decide +kernel
theorem dX12_fullest_31 : decode cX12_fullest 31 = .ok (.getfield 19, 3) := by decide +kernel
theorem dX12_fullest_34 : decode cX12_fullest 34 = .ok (.iconst 2, 1) := by decide +kernel
theorem dX12_fullest_35 : decode cX12_fullest 35 = .ok (.iaload, 1) := by decide +kernel
theorem dX12_fullest_36 : decode cX12_fullest 36 = .ok (.invokevirtual 188, 3) := by decide +kernel
theorem dX12_fullest_39 : decode cX12_fullest 39 = .ok (.ifCond .eq 22, 3) := by decide +kernel
theorem dX12_fullest_42 : decode cX12_fullest 42 = .ok (.iload_n 1, 1) := by decide +kernel
theorem dX12_fullest_43 : decode cX12_fullest 43 = .ok (.ldc 80, 2) := by decide +kernel
theorem dX12_fullest_45 : decode cX12_fullest 45 = .ok (.if_icmp .eq 14, 3) := by decide +kernel
theorem dX12_fullest_48 : decode cX12_fullest 48 = .ok (.iload_n 2, 1) := by decide +kernel
theorem dX12_fullest_49 : decode cX12_fullest 49 = .ok (.invokestatic 166, 3) := by decide +kernel
theorem dX12_fullest_52 : decode cX12_fullest 52 = .ok (.iload_n 1, 1) := by decide +kernel
theorem dX12_fullest_53 : decode cX12_fullest 53 = .ok (.invokestatic 166, 3) := by decide +kernel
theorem dX12_fullest_56 : decode cX12_fullest 56 = .ok (.if_icmp .le 5, 3) := by decide +kernel
theorem dX12_fullest_59 : decode cX12_fullest 59 = .ok (.iload_n 2, 1) := by decide +kernel
theorem dX12_fullest_60 : decode cX12_fullest 60 = .ok (.istore_n 1, 1) := by decide +kernel
theorem dX12_fullest_61 : decode cX12_fullest 61 = .ok (.iinc 2 1, 3) := by decide +kernel
theorem dX12_fullest_64 : decode cX12_fullest 64 = .ok (.goto (-44), 3) := by decide +kernel
theorem dX12_fullest_67 : decode cX12_fullest 67 = .ok (.iload_n 1, 1) := by decide +kernel
theorem dX12_fullest_68 : decode cX12_fullest 68 = .ok (.ireturn, 1) := by decide +kernel
theorem dX12_hasAny_0 : decode cX12_hasAny 0 = .ok (.iconst 0, 1) := by decide +kernel
theorem dX12_hasAny_1 : decode cX12_hasAny 1 = .ok (.istore_n 3, 1) := by decide +kernel
theorem dX12_hasAny_2 : decode cX12_hasAny 2 = .ok (.iconst 0, 1) := by decide +kernel
theorem dX12_hasAny_3 : decode cX12_hasAny 3 = .ok (.istore 4, 2) := by decide +kernel
theorem dX12_hasAny_5 : decode cX12_hasAny 5 = .ok (.iload 4, 2) := by decide +kernel
theorem dX12_hasAny_7 : decode cX12_hasAny 7 = .ok (.aload_n 0, 1) := by decide +kernel
theorem dX12_hasAny_8 : decode cX12_hasAny 8 = .ok (.invokevirtual 160, 3) := by decide +kernel
theorem dX12_hasAny_11 : decode cX12_hasAny 11 = .ok (.if_icmp .gt 38, 3) := by decide +kernel
theorem dX12_hasAny_14 : decode cX12_hasAny 14 = .ok (.iload_n 3, 1) := by decide +kernel
theorem dX12_hasAny_15 : decode cX12_hasAny 15 = .ok (.ifCond .ne 34, 3) := by decide +kernel
theorem dX12_hasAny_18 : decode cX12_hasAny 18 = .ok (.aload_n 0, 1) := by decide +kernel
theorem dX12_hasAny_19 : decode cX12_hasAny 19 = .ok (.iload 4, 2) := by decide +kernel
theorem dX12_hasAny_21 : decode cX12_hasAny 21 = .ok (.aload_n 0, 1) := by decide +kernel
theorem dX12_hasAny_22 : decode cX12_hasAny 22 = .ok (.getfield 19, 3) := by decide +kernel
theorem dX12_hasAny_25 : decode cX12_hasAny 25 = .ok (.iconst 2, 1) := by decide +kernel
theorem dX12_hasAny_26 : decode cX12_hasAny 26 = .ok (.iaload, 1) := by decide +kernel
theorem dX12_hasAny_27 : decode cX12_hasAny 27 = .ok (.iload_n 1, 1) := by decide +kernel
theorem dX12_hasAny_28 : decode cX12_hasAny 28 = .ok (.iload_n 2, 1) := by decide +kernel
theorem dX12_hasAny_29 : decode cX12_hasAny 29 = .ok (.invokevirtual 173, 3) := by decide +kernel
theorem dX12_hasAny_32 : decode cX12_hasAny 32 = .ok (.iload 4, 2) := by decide +kernel
theorem dX12_hasAny_34 : decode cX12_hasAny 34 = .ok (.if_icmp .ne 7, 3) := by decide +kernel
theorem dX12_hasAny_37 : decode cX12_hasAny 37 = .ok (.iconst 1, 1) := by decide +kernel
theorem dX12_hasAny_38 : decode cX12_hasAny 38 = .ok (.goto 4, 3) := by decide +kernel
theorem dX12_hasAny_41 : decode cX12_hasAny 41 = .ok (.iconst 0, 1) := by decide +kernel
theorem dX12_hasAny_42 : decode cX12_hasAny 42 = .ok (.istore_n 3, 1) := by decide +kernel
theorem dX12_hasAny_43 : decode cX12_hasAny 43 = .ok (.iinc 4 1, 3) := by decide +kernel
theorem dX12_hasAny_46 : decode cX12_hasAny 46 = .ok (.goto (-41), 3) := by decide +kernel
theorem dX12_hasAny_49 : decode cX12_hasAny 49 = .ok (.iload_n 3, 1) := by decide +kernel
theorem dX12_hasAny_50 : decode cX12_hasAny 50 = .ok (.ireturn, 1) := by decide +kernel
theorem dX12_culprits_0 : decode cX12_culprits 0 = .ok (.aload_n 0, 1) := by decide +kernel
theorem dX12_culprits_1 : decode cX12_culprits 1 = .ok (.iconst 0, 1) := by decide +kernel
theorem dX12_culprits_2 : decode cX12_culprits 2 = .ok (.putfield 44, 3) := by decide +kernel
theorem dX12_culprits_5 : decode cX12_culprits 5 = .ok (.aload_n 0, 1) := by decide +kernel
theorem dX12_culprits_6 : decode cX12_culprits 6 = .ok (.invokevirtual 180, 3) := by decide +kernel
theorem dX12_culprits_9 : decode cX12_culprits 9 = .ok (.ifCond .ne 6, 3) := by decide +kernel
theorem dX12_culprits_12 : decode cX12_culprits 12 = .ok (.ldc 184, 2) := by decide +kernel
theorem dX12_culprits_14 : decode cX12_culprits 14 = .ok (.ireturn, 1) := by decide +kernel
theorem dX12_culprits_15 : decode cX12_culprits 15 = .ok (.iload_n 1, 1) := by decide +kernel
theorem dX12_culprits_16 : decode cX12_culprits 16 = .ok (.i2l, 1) := by decide +kernel
theorem dX12_culprits_17 : decode cX12_culprits 17 = .ok (.lconst 0, 1) := by decide +kernel
theorem dX12_culprits_18 : decode cX12_culprits 18 = .ok (.lconst 1, 1) := by decide +kernel
theorem dX12_culprits_19 : decode cX12_culprits 19 = .ok (.invokestatic 54, 3) := by decide +kernel
theorem dX12_culprits_22 : decode cX12_culprits 22 = .ok (.ifCond .ne 6, 3) := by decide +kernel
theorem dX12_culprits_25 : decode cX12_culprits 25 = .ok (.ldc 64, 2) := by decide +kernel
theorem dX12_culprits_27 : decode cX12_culprits 27 = .ok (.ireturn, 1) := by decide +kernel
theorem dX12_culprits_28 : decode cX12_culprits 28 = .ok (.iconst 0, 1) := by decide +kernel
theorem dX12_culprits_29 : decode cX12_culprits 29 = .ok (.istore_n 2, 1) := by decide +kernel
theorem dX12_culprits_30 : decode cX12_culprits 30 = .ok (.iconst 0, 1) := by decide +kernel
theorem dX12_culprits_31 : decode cX12_culprits 31 = .ok (.istore_n 3, 1) := by decide +kernel
theorem dX12_culprits_32 : decode cX12_culprits 32 = .ok (.iload_n 3, 1) := by decide +kernel
theorem dX12_culprits_33 : decode cX12_culprits 33 = .ok (.aload_n 0, 1) := by decide +kernel
theorem dX12_culprits_34 : decode cX12_culprits 34 = .ok (.getfield 19, 3) := by decide +kernel
theorem dX12_culprits_37 : decode cX12_culprits 37 = .ok (.iconst 0, 1) := by decide +kernel
theorem dX12_culprits_38 : decode cX12_culprits 38 = .ok (.iaload, 1) := by decide +kernel
theorem dX12_culprits_39 : decode cX12_culprits 39 = .ok (.if_icmp .ge 62, 3) := by decide +kernel
theorem dX12_culprits_42 : decode cX12_culprits 42 = .ok (.iload_n 1, 1) := by decide +kernel
theorem dX12_culprits_43 : decode cX12_culprits 43 = .ok (.ifCond .ne 12, 3) := by decide +kernel
theorem dX12_culprits_46 : decode cX12_culprits 46 = .ok (.aload_n 0, 1) := by decide +kernel
theorem dX12_culprits_47 : decode cX12_culprits 47 = .ok (.iload_n 3, 1) := by decide +kernel
theorem dX12_culprits_48 : decode cX12_culprits 48 = .ok (.iconst 0, 1) := by decide +kernel
theorem dX12_culprits_49 : decode cX12_culprits 49 = .ok (.invokevirtual 215, 3) := by decide +kernel
theorem dX12_culprits_52 : decode cX12_culprits 52 = .ok (.goto 26, 3) := by decide +kernel
theorem dX12_culprits_55 : decode cX12_culprits 55 = .ok (.aload_n 0, 1) := by decide +kernel
theorem dX12_culprits_56 : decode cX12_culprits 56 = .ok (.iload_n 3, 1) := by decide +kernel
theorem dX12_culprits_57 : decode cX12_culprits 57 = .ok (.iconst 1, 1) := by decide +kernel
theorem dX12_culprits_58 : decode cX12_culprits 58 = .ok (.invokevirtual 215, 3) := by decide +kernel
theorem dX12_culprits_61 : decode cX12_culprits 61 = .ok (.ifCond .eq 12, 3) := by decide +kernel
theorem dX12_culprits_64 : decode cX12_culprits 64 = .ok (.aload_n 0, 1) := by decide +kernel
theorem dX12_culprits_65 : decode cX12_culprits 65 = .ok (.iload_n 3, 1) := by decide +kernel
theorem dX12_culprits_66 : decode cX12_culprits 66 = .ok (.iconst 2, 1) := by decide +kernel
theorem dX12_culprits_67 : decode cX12_culprits 67 = .ok (.invokevirtual 215, 3) := by decide +kernel
theorem dX12_culprits_70 : decode cX12_culprits 70 = .ok (.ifCond .ne 7, 3) := by decide +kernel
theorem dX12_culprits_73 : decode cX12_culprits 73 = .ok (.iconst 1, 1) := by decide +kernel
theorem dX12_culprits_74 : decode cX12_culprits 74 = .ok (.goto 4, 3) := by decide +kernel
theorem dX12_culprits_77 : decode cX12_culprits 77 = .ok (.iconst 0, 1) := by decide +kernel
theorem dX12_culprits_78 : decode cX12_culprits 78 = .ok (.istore 4, 2) := by decide +kernel
theorem dX12_culprits_80 : decode cX12_culprits 80 = .ok (.iload_n 2, 1) := by decide +kernel
theorem dX12_culprits_81 : decode cX12_culprits 81 = .ok (.iload 4, 2) := by decide +kernel
theorem dX12_culprits_83 : decode cX12_culprits 83 = .ok (.ifCond .eq 9, 3) := by decide +kernel
theorem dX12_culprits_86 : decode cX12_culprits 86 = .ok (.iconst 1, 1) := by decide +kernel
theorem dX12_culprits_87 : decode cX12_culprits 87 = .ok (.iload_n 3, 1) := by decide +kernel
theorem dX12_culprits_88 : decode cX12_culprits 88 = .ok (.ishl, 1) := by decide +kernel
theorem dX12_culprits_89 : decode cX12_culprits 89 = .ok (.goto 4, 3) := by decide +kernel
theorem dX12_culprits_92 : decode cX12_culprits 92 = .ok (.iconst 0, 1) := by decide +kernel
theorem dX12_culprits_93 : decode cX12_culprits 93 = .ok (.ior, 1) := by decide +kernel
theorem dX12_culprits_94 : decode cX12_culprits 94 = .ok (.istore_n 2, 1) := by decide +kernel
theorem dX12_culprits_95 : decode cX12_culprits 95 = .ok (.iinc 3 1, 3) := by decide +kernel
theorem dX12_culprits_98 : decode cX12_culprits 98 = .ok (.goto (-66), 3) := by decide +kernel
theorem dX12_culprits_101 : decode cX12_culprits 101 = .ok (.iload_n 2, 1) := by decide +kernel
theorem dX12_culprits_102 : decode cX12_culprits 102 = .ok (.ireturn, 1) := by decide +kernel
theorem dX12_layChains_0 : decode cX12_layChains 0 = .ok (.iconst 0, 1) := by decide +kernel
theorem dX12_layChains_1 : decode cX12_layChains 1 = .ok (.istore_n 1, 1) := by decide +kernel
theorem dX12_layChains_2 : decode cX12_layChains 2 = .ok (.iload_n 1, 1) := by decide +kernel
theorem dX12_layChains_3 : decode cX12_layChains 3 = .ok (.aload_n 0, 1) := by decide +kernel
theorem dX12_layChains_4 : decode cX12_layChains 4 = .ok (.invokevirtual 160, 3) := by decide +kernel
theorem dX12_layChains_7 : decode cX12_layChains 7 = .ok (.if_icmp .gt 16, 3) := by decide +kernel
theorem dX12_layChains_10 : decode cX12_layChains 10 = .ok (.aload_n 0, 1) := by decide +kernel
theorem dX12_layChains_11 : decode cX12_layChains 11 = .ok (.getfield 31, 3) := by decide +kernel
theorem dX12_layChains_14 : decode cX12_layChains 14 = .ok (.iload_n 1, 1) := by decide +kernel
theorem dX12_layChains_15 : decode cX12_layChains 15 = .ok (.iconst 1, 1) := by decide +kernel
theorem dX12_layChains_16 : decode cX12_layChains 16 = .ok (.iastore, 1) := by decide +kernel
theorem dX12_layChains_17 : decode cX12_layChains 17 = .ok (.iinc 1 1, 3) := by decide +kernel
theorem dX12_layChains_20 : decode cX12_layChains 20 = .ok (.goto (-18), 3) := by decide +kernel
theorem dX12_layChains_23 : decode cX12_layChains 23 = .ok (.iconst 1, 1) := by decide +kernel
theorem dX12_layChains_24 : decode cX12_layChains 24 = .ok (.istore_n 1, 1) := by decide +kernel
theorem dX12_layChains_25 : decode cX12_layChains 25 = .ok (.iload_n 1, 1) := by decide +kernel
theorem dX12_layChains_26 : decode cX12_layChains 26 = .ok (.iconst 5, 1) := by decide +kernel
theorem dX12_layChains_27 : decode cX12_layChains 27 = .ok (.if_icmp .gt 88, 3) := by decide +kernel
theorem dX12_layChains_30 : decode cX12_layChains 30 = .ok (.iconst 0, 1) := by decide +kernel
theorem dX12_layChains_31 : decode cX12_layChains 31 = .ok (.istore_n 2, 1) := by decide +kernel
theorem dX12_layChains_32 : decode cX12_layChains 32 = .ok (.iload_n 2, 1) := by decide +kernel
theorem dX12_layChains_33 : decode cX12_layChains 33 = .ok (.aload_n 0, 1) := by decide +kernel
theorem dX12_layChains_34 : decode cX12_layChains 34 = .ok (.invokevirtual 160, 3) := by decide +kernel
theorem dX12_layChains_37 : decode cX12_layChains 37 = .ok (.if_icmp .gt 72, 3) := by decide +kernel
theorem dX12_layChains_40 : decode cX12_layChains 40 = .ok (.iconst 0, 1) := by decide +kernel
theorem dX12_layChains_41 : decode cX12_layChains 41 = .ok (.istore_n 3, 1) := by decide +kernel
theorem dX12_layChains_42 : decode cX12_layChains 42 = .ok (.iconst 0, 1) := by decide +kernel
theorem dX12_layChains_43 : decode cX12_layChains 43 = .ok (.istore 4, 2) := by decide +kernel
theorem dX12_layChains_45 : decode cX12_layChains 45 = .ok (.iload 4, 2) := by decide +kernel
theorem dX12_layChains_47 : decode cX12_layChains 47 = .ok (.aload_n 0, 1) := by decide +kernel
theorem dX12_layChains_48 : decode cX12_layChains 48 = .ok (.invokevirtual 160, 3) := by decide +kernel
theorem dX12_layChains_51 : decode cX12_layChains 51 = .ok (.if_icmp .gt 40, 3) := by decide +kernel
theorem dX12_layChains_54 : decode cX12_layChains 54 = .ok (.iload_n 3, 1) := by decide +kernel
theorem dX12_layChains_55 : decode cX12_layChains 55 = .ok (.aload_n 0, 1) := by decide +kernel
theorem dX12_layChains_56 : decode cX12_layChains 56 = .ok (.iload 4, 2) := by decide +kernel
theorem dX12_layChains_58 : decode cX12_layChains 58 = .ok (.iload_n 2, 1) := by decide +kernel
theorem dX12_layChains_59 : decode cX12_layChains 59 = .ok (.invokevirtual 188, 3) := by decide +kernel
theorem dX12_layChains_62 : decode cX12_layChains 62 = .ok (.ifCond .eq 20, 3) := by decide +kernel
theorem dX12_layChains_65 : decode cX12_layChains 65 = .ok (.aload_n 0, 1) := by decide +kernel
theorem dX12_layChains_66 : decode cX12_layChains 66 = .ok (.getfield 31, 3) := by decide +kernel
theorem dX12_layChains_69 : decode cX12_layChains 69 = .ok (.bipush 64, 2) := by decide +kernel
theorem dX12_layChains_71 : decode cX12_layChains 71 = .ok (.iload_n 1, 1) := by decide +kernel
theorem dX12_layChains_72 : decode cX12_layChains 72 = .ok (.iconst 1, 1) := by decide +kernel
theorem dX12_layChains_73 : decode cX12_layChains 73 = .ok (.isub, 1) := by decide +kernel
theorem dX12_layChains_74 : decode cX12_layChains 74 = .ok (.imul, 1) := by decide +kernel
theorem dX12_layChains_75 : decode cX12_layChains 75 = .ok (.iload 4, 2) := by decide +kernel
theorem dX12_layChains_77 : decode cX12_layChains 77 = .ok (.iadd, 1) := by decide +kernel
theorem dX12_layChains_78 : decode cX12_layChains 78 = .ok (.iaload, 1) := by decide +kernel
theorem dX12_layChains_79 : decode cX12_layChains 79 = .ok (.goto 4, 3) := by decide +kernel
theorem dX12_layChains_82 : decode cX12_layChains 82 = .ok (.iconst 0, 1) := by decide +kernel
theorem dX12_layChains_83 : decode cX12_layChains 83 = .ok (.iadd, 1) := by decide +kernel
theorem dX12_layChains_84 : decode cX12_layChains 84 = .ok (.istore_n 3, 1) := by decide +kernel
theorem dX12_layChains_85 : decode cX12_layChains 85 = .ok (.iinc 4 1, 3) := by decide +kernel
theorem dX12_layChains_88 : decode cX12_layChains 88 = .ok (.goto (-43), 3) := by decide +kernel
theorem dX12_layChains_91 : decode cX12_layChains 91 = .ok (.aload_n 0, 1) := by decide +kernel
theorem dX12_layChains_92 : decode cX12_layChains 92 = .ok (.getfield 31, 3) := by decide +kernel
theorem dX12_layChains_95 : decode cX12_layChains 95 = .ok (.bipush 64, 2) := by decide +kernel
theorem dX12_layChains_97 : decode cX12_layChains 97 = .ok (.iload_n 1, 1) := by decide +kernel
theorem dX12_layChains_98 : decode cX12_layChains 98 = .ok (.imul, 1) := by decide +kernel
theorem dX12_layChains_99 : decode cX12_layChains 99 = .ok (.iload_n 2, 1) := by decide +kernel
theorem dX12_layChains_100 : decode cX12_layChains 100 = .ok (.iadd, 1) := by decide +kernel
theorem dX12_layChains_101 : decode cX12_layChains 101 = .ok (.iload_n 3, 1) := by decide +kernel
theorem dX12_layChains_102 : decode cX12_layChains 102 = .ok (.iastore, 1) := by decide +kernel
theorem dX12_layChains_103 : decode cX12_layChains 103 = .ok (.iinc 2 1, 3) := by decide +kernel
theorem dX12_layChains_106 : decode cX12_layChains 106 = .ok (.goto (-74), 3) := by decide +kernel
theorem dX12_layChains_109 : decode cX12_layChains 109 = .ok (.iinc 1 1, 3) := by decide +kernel
theorem dX12_layChains_112 : decode cX12_layChains 112 = .ok (.goto (-87), 3) := by decide +kernel
theorem dX12_layChains_115 : decode cX12_layChains 115 = .ok (.return_, 1) := by decide +kernel
theorem dX12_chains_0 : decode cX12_chains 0 = .ok (.aload_n 0, 1) := by decide +kernel
theorem dX12_chains_1 : decode cX12_chains 1 = .ok (.iconst 0, 1) := by decide +kernel
theorem dX12_chains_2 : decode cX12_chains 2 = .ok (.putfield 44, 3) := by decide +kernel
theorem dX12_chains_5 : decode cX12_chains 5 = .ok (.aload_n 0, 1) := by decide +kernel
theorem dX12_chains_6 : decode cX12_chains 6 = .ok (.invokevirtual 180, 3) := by decide +kernel
theorem dX12_chains_9 : decode cX12_chains 9 = .ok (.ifCond .ne 6, 3) := by decide +kernel
theorem dX12_chains_12 : decode cX12_chains 12 = .ok (.ldc 184, 2) := by decide +kernel
theorem dX12_chains_14 : decode cX12_chains 14 = .ok (.ireturn, 1) := by decide +kernel
theorem dX12_chains_15 : decode cX12_chains 15 = .ok (.iload_n 1, 1) := by decide +kernel
theorem dX12_chains_16 : decode cX12_chains 16 = .ok (.i2l, 1) := by decide +kernel
theorem dX12_chains_17 : decode cX12_chains 17 = .ok (.lconst 1, 1) := by decide +kernel
theorem dX12_chains_18 : decode cX12_chains 18 = .ok (.ldc2_w 218, 3) := by decide +kernel
theorem dX12_chains_21 : decode cX12_chains 21 = .ok (.invokestatic 54, 3) := by decide +kernel
theorem dX12_chains_24 : decode cX12_chains 24 = .ok (.ifCond .eq 8, 3) := by decide +kernel
theorem dX12_chains_27 : decode cX12_chains 27 = .ok (.iload_n 2, 1) := by decide +kernel
theorem dX12_chains_28 : decode cX12_chains 28 = .ok (.iconst (-1), 1) := by decide +kernel
theorem dX12_chains_29 : decode cX12_chains 29 = .ok (.if_icmp .ge 6, 3) := by decide +kernel
theorem dX12_chains_32 : decode cX12_chains 32 = .ok (.ldc 64, 2) := by decide +kernel
theorem dX12_chains_34 : decode cX12_chains 34 = .ok (.ireturn, 1) := by decide +kernel
theorem dX12_chains_35 : decode cX12_chains 35 = .ok (.aload_n 0, 1) := by decide +kernel
theorem dX12_chains_36 : decode cX12_chains 36 = .ok (.invokevirtual 220, 3) := by decide +kernel
theorem dX12_chains_39 : decode cX12_chains 39 = .ok (.aload_n 0, 1) := by decide +kernel
theorem dX12_chains_40 : decode cX12_chains 40 = .ok (.getfield 19, 3) := by decide +kernel
theorem dX12_chains_43 : decode cX12_chains 43 = .ok (.iconst 2, 1) := by decide +kernel
theorem dX12_chains_44 : decode cX12_chains 44 = .ok (.iaload, 1) := by decide +kernel
theorem dX12_chains_45 : decode cX12_chains 45 = .ok (.istore_n 3, 1) := by decide +kernel
theorem dX12_chains_46 : decode cX12_chains 46 = .ok (.iload_n 2, 1) := by decide +kernel
theorem dX12_chains_47 : decode cX12_chains 47 = .ok (.ifCond .ge 15, 3) := by decide +kernel
theorem dX12_chains_50 : decode cX12_chains 50 = .ok (.aload_n 0, 1) := by decide +kernel
theorem dX12_chains_51 : decode cX12_chains 51 = .ok (.getfield 31, 3) := by decide +kernel
theorem dX12_chains_54 : decode cX12_chains 54 = .ok (.bipush 64, 2) := by decide +kernel
theorem dX12_chains_56 : decode cX12_chains 56 = .ok (.iload_n 1, 1) := by decide +kernel
theorem dX12_chains_57 : decode cX12_chains 57 = .ok (.imul, 1) := by decide +kernel
theorem dX12_chains_58 : decode cX12_chains 58 = .ok (.iload_n 3, 1) := by decide +kernel
theorem dX12_chains_59 : decode cX12_chains 59 = .ok (.iadd, 1) := by decide +kernel
theorem dX12_chains_60 : decode cX12_chains 60 = .ok (.iaload, 1) := by decide +kernel
theorem dX12_chains_61 : decode cX12_chains 61 = .ok (.ireturn, 1) := by decide +kernel
theorem dX12_chains_62 : decode cX12_chains 62 = .ok (.iload_n 2, 1) := by decide +kernel
theorem dX12_chains_63 : decode cX12_chains 63 = .ok (.iload_n 1, 1) := by decide +kernel
theorem dX12_chains_64 : decode cX12_chains 64 = .ok (.if_icmp .ge 17, 3) := by decide +kernel
theorem dX12_chains_67 : decode cX12_chains 67 = .ok (.aload_n 0, 1) := by decide +kernel
theorem dX12_chains_68 : decode cX12_chains 68 = .ok (.getfield 31, 3) := by decide +kernel
theorem dX12_chains_71 : decode cX12_chains 71 = .ok (.bipush 64, 2) := by decide +kernel
theorem dX12_chains_73 : decode cX12_chains 73 = .ok (.iload_n 1, 1) := by decide +kernel
theorem dX12_chains_74 : decode cX12_chains 74 = .ok (.imul, 1) := by decide +kernel
theorem dX12_chains_75 : decode cX12_chains 75 = .ok (.iload_n 3, 1) := by decide +kernel
theorem dX12_chains_76 : decode cX12_chains 76 = .ok (.iadd, 1) := by decide +kernel
theorem dX12_chains_77 : decode cX12_chains 77 = .ok (.iaload, 1) := by decide +kernel
theorem dX12_chains_78 : decode cX12_chains 78 = .ok (.ifCond .ne 6, 3) := by decide +kernel
theorem dX12_chains_81 : decode cX12_chains 81 = .ok (.ldc 80, 2) := by decide +kernel
theorem dX12_chains_83 : decode cX12_chains 83 = .ok (.ireturn, 1) := by decide +kernel
theorem dX12_chains_84 : decode cX12_chains 84 = .ok (.iconst 0, 1) := by decide +kernel
theorem dX12_chains_85 : decode cX12_chains 85 = .ok (.istore 4, 2) := by decide +kernel
theorem dX12_chains_87 : decode cX12_chains 87 = .ok (.iload 4, 2) := by decide +kernel
theorem dX12_chains_89 : decode cX12_chains 89 = .ok (.iload_n 2, 1) := by decide +kernel
theorem dX12_chains_90 : decode cX12_chains 90 = .ok (.if_icmp .gt 51, 3) := by decide +kernel
theorem dX12_chains_93 : decode cX12_chains 93 = .ok (.iconst 0, 1) := by decide +kernel
theorem dX12_chains_94 : decode cX12_chains 94 = .ok (.istore 5, 2) := by decide +kernel
theorem dX12_chains_96 : decode cX12_chains 96 = .ok (.aload_n 0, 1) := by decide +kernel
theorem dX12_chains_97 : decode cX12_chains 97 = .ok (.iload 5, 2) := by decide +kernel
theorem dX12_chains_99 : decode cX12_chains 99 = .ok (.iload_n 3, 1) := by decide +kernel
theorem dX12_chains_100 : decode cX12_chains 100 = .ok (.invokevirtual 188, 3) := by decide +kernel
theorem dX12_chains_103 : decode cX12_chains 103 = .ok (.ifCond .eq 23, 3) := by decide +kernel
theorem dX12_chains_106 : decode cX12_chains 106 = .ok (.aload_n 0, 1) := by decide +kernel
theorem dX12_chains_107 : decode cX12_chains 107 = .ok (.getfield 31, 3) := by decide +kernel
theorem dX12_chains_110 : decode cX12_chains 110 = .ok (.bipush 64, 2) := by decide +kernel
theorem dX12_chains_112 : decode cX12_chains 112 = .ok (.iload_n 1, 1) := by decide +kernel
theorem dX12_chains_113 : decode cX12_chains 113 = .ok (.iload 4, 2) := by decide +kernel
theorem dX12_chains_115 : decode cX12_chains 115 = .ok (.isub, 1) := by decide +kernel
theorem dX12_chains_116 : decode cX12_chains 116 = .ok (.iconst 1, 1) := by decide +kernel
theorem dX12_chains_117 : decode cX12_chains 117 = .ok (.isub, 1) := by decide +kernel
theorem dX12_chains_118 : decode cX12_chains 118 = .ok (.imul, 1) := by decide +kernel
theorem dX12_chains_119 : decode cX12_chains 119 = .ok (.iload 5, 2) := by decide +kernel
theorem dX12_chains_121 : decode cX12_chains 121 = .ok (.iadd, 1) := by decide +kernel
theorem dX12_chains_122 : decode cX12_chains 122 = .ok (.iaload, 1) := by decide +kernel
theorem dX12_chains_123 : decode cX12_chains 123 = .ok (.ifCond .ne 9, 3) := by decide +kernel
theorem dX12_chains_126 : decode cX12_chains 126 = .ok (.iinc 5 1, 3) := by decide +kernel
theorem dX12_chains_129 : decode cX12_chains 129 = .ok (.goto (-33), 3) := by decide +kernel
theorem dX12_chains_132 : decode cX12_chains 132 = .ok (.iload 5, 2) := by decide +kernel
theorem dX12_chains_134 : decode cX12_chains 134 = .ok (.istore_n 3, 1) := by decide +kernel
theorem dX12_chains_135 : decode cX12_chains 135 = .ok (.iinc 4 1, 3) := by decide +kernel
theorem dX12_chains_138 : decode cX12_chains 138 = .ok (.goto (-51), 3) := by decide +kernel
theorem dX12_chains_141 : decode cX12_chains 141 = .ok (.iload_n 3, 1) := by decide +kernel
theorem dX12_chains_142 : decode cX12_chains 142 = .ok (.ireturn, 1) := by decide +kernel
theorem dX12_breaks_0 : decode cX12_breaks 0 = .ok (.aload_n 0, 1) := by decide +kernel
theorem dX12_breaks_1 : decode cX12_breaks 1 = .ok (.iconst 0, 1) := by decide +kernel
theorem dX12_breaks_2 : decode cX12_breaks 2 = .ok (.putfield 44, 3) := by decide +kernel
theorem dX12_breaks_5 : decode cX12_breaks 5 = .ok (.aload_n 0, 1) := by decide +kernel
theorem dX12_breaks_6 : decode cX12_breaks 6 = .ok (.invokevirtual 180, 3) := by decide +kernel
theorem dX12_breaks_9 : decode cX12_breaks 9 = .ok (.ifCond .ne 6, 3) := by decide +kernel
theorem dX12_breaks_12 : decode cX12_breaks 12 = .ok (.ldc 184, 2) := by decide +kernel
theorem dX12_breaks_14 : decode cX12_breaks 14 = .ok (.ireturn, 1) := by decide +kernel
theorem dX12_breaks_15 : decode cX12_breaks 15 = .ok (.iload_n 1, 1) := by decide +kernel
theorem dX12_breaks_16 : decode cX12_breaks 16 = .ok (.invokestatic 58, 3) := by decide +kernel
theorem dX12_breaks_19 : decode cX12_breaks 19 = .ok (.ifCond .eq 15, 3) := by decide +kernel
theorem dX12_breaks_22 : decode cX12_breaks 22 = .ok (.iload_n 3, 1) := by decide +kernel
theorem dX12_breaks_23 : decode cX12_breaks 23 = .ok (.i2l, 1) := by decide +kernel
theorem dX12_breaks_24 : decode cX12_breaks 24 = .ok (.lconst 0, 1) := by decide +kernel
theorem dX12_breaks_25 : decode cX12_breaks 25 = .ok (.ldc2_w 223, 3) := by decide +kernel
theorem dX12_breaks_28 : decode cX12_breaks 28 = .ok (.invokestatic 54, 3) := by decide +kernel
theorem dX12_breaks_31 : decode cX12_breaks 31 = .ok (.ifCond .ne 6, 3) := by decide +kernel
theorem dX12_breaks_34 : decode cX12_breaks 34 = .ok (.ldc 64, 2) := by decide +kernel
theorem dX12_breaks_36 : decode cX12_breaks 36 = .ok (.ireturn, 1) := by decide +kernel
theorem dX12_breaks_37 : decode cX12_breaks 37 = .ok (.aload_n 0, 1) := by decide +kernel
theorem dX12_breaks_38 : decode cX12_breaks 38 = .ok (.iload_n 1, 1) := by decide +kernel
theorem dX12_breaks_39 : decode cX12_breaks 39 = .ok (.iload_n 2, 1) := by decide +kernel
theorem dX12_breaks_40 : decode cX12_breaks 40 = .ok (.iload_n 3, 1) := by decide +kernel
theorem dX12_breaks_41 : decode cX12_breaks 41 = .ok (.invokevirtual 197, 3) := by decide +kernel
theorem dX12_breaks_44 : decode cX12_breaks 44 = .ok (.istore 4, 2) := by decide +kernel
theorem dX12_breaks_46 : decode cX12_breaks 46 = .ok (.iload 4, 2) := by decide +kernel
theorem dX12_breaks_48 : decode cX12_breaks 48 = .ok (.ifCond .le 10, 3) := by decide +kernel
theorem dX12_breaks_51 : decode cX12_breaks 51 = .ok (.aload_n 0, 1) := by decide +kernel
theorem dX12_breaks_52 : decode cX12_breaks 52 = .ok (.iload 4, 2) := by decide +kernel
theorem dX12_breaks_54 : decode cX12_breaks 54 = .ok (.invokevirtual 65, 3) := by decide +kernel
theorem dX12_breaks_57 : decode cX12_breaks 57 = .ok (.ireturn, 1) := by decide +kernel
theorem dX12_breaks_58 : decode cX12_breaks 58 = .ok (.bipush 40, 2) := by decide +kernel
theorem dX12_breaks_60 : decode cX12_breaks 60 = .ok (.iload_n 1, 1) := by decide +kernel
theorem dX12_breaks_61 : decode cX12_breaks 61 = .ok (.imul, 1) := by decide +kernel
theorem dX12_breaks_62 : decode cX12_breaks 62 = .ok (.iload_n 2, 1) := by decide +kernel
theorem dX12_breaks_63 : decode cX12_breaks 63 = .ok (.iadd, 1) := by decide +kernel
theorem dX12_breaks_64 : decode cX12_breaks 64 = .ok (.istore 5, 2) := by decide +kernel
theorem dX12_breaks_66 : decode cX12_breaks 66 = .ok (.aload_n 0, 1) := by decide +kernel
theorem dX12_breaks_67 : decode cX12_breaks 67 = .ok (.iload 5, 2) := by decide +kernel
theorem dX12_breaks_69 : decode cX12_breaks 69 = .ok (.iload_n 3, 1) := by decide +kernel
theorem dX12_breaks_70 : decode cX12_breaks 70 = .ok (.invokevirtual 201, 3) := by decide +kernel
theorem dX12_breaks_73 : decode cX12_breaks 73 = .ok (.ifCond .ne 6, 3) := by decide +kernel
theorem dX12_breaks_76 : decode cX12_breaks 76 = .ok (.ldc 64, 2) := by decide +kernel
theorem dX12_breaks_78 : decode cX12_breaks 78 = .ok (.ireturn, 1) := by decide +kernel
theorem dX12_breaks_79 : decode cX12_breaks 79 = .ok (.aload_n 0, 1) := by decide +kernel
theorem dX12_breaks_80 : decode cX12_breaks 80 = .ok (.iconst 0, 1) := by decide +kernel
theorem dX12_breaks_81 : decode cX12_breaks 81 = .ok (.putfield 48, 3) := by decide +kernel
theorem dX12_breaks_84 : decode cX12_breaks 84 = .ok (.aload_n 0, 1) := by decide +kernel
theorem dX12_breaks_85 : decode cX12_breaks 85 = .ok (.getfield 19, 3) := by decide +kernel
theorem dX12_breaks_88 : decode cX12_breaks 88 = .ok (.iconst 2, 1) := by decide +kernel
theorem dX12_breaks_89 : decode cX12_breaks 89 = .ok (.iaload, 1) := by decide +kernel
theorem dX12_breaks_90 : decode cX12_breaks 90 = .ok (.istore 6, 2) := by decide +kernel
theorem dX12_breaks_92 : decode cX12_breaks 92 = .ok (.iconst 0, 1) := by decide +kernel
theorem dX12_breaks_93 : decode cX12_breaks 93 = .ok (.istore 7, 2) := by decide +kernel
theorem dX12_breaks_95 : decode cX12_breaks 95 = .ok (.iload 7, 2) := by decide +kernel
theorem dX12_breaks_97 : decode cX12_breaks 97 = .ok (.iload_n 3, 1) := by decide +kernel
theorem dX12_breaks_98 : decode cX12_breaks 98 = .ok (.if_icmp .ge 43, 3) := by decide +kernel
theorem dX12_breaks_101 : decode cX12_breaks 101 = .ok (.aload_n 0, 1) := by decide +kernel
theorem dX12_breaks_102 : decode cX12_breaks 102 = .ok (.aload_n 0, 1) := by decide +kernel
theorem dX12_breaks_103 : decode cX12_breaks 103 = .ok (.getfield 16, 3) := by decide +kernel
theorem dX12_breaks_106 : decode cX12_breaks 106 = .ok (.iload 5, 2) := by decide +kernel
theorem dX12_breaks_108 : decode cX12_breaks 108 = .ok (.iload 7, 2) := by decide +kernel
theorem dX12_breaks_110 : decode cX12_breaks 110 = .ok (.iadd, 1) := by decide +kernel
theorem dX12_breaks_111 : decode cX12_breaks 111 = .ok (.iaload, 1) := by decide +kernel
theorem dX12_breaks_112 : decode cX12_breaks 112 = .ok (.iload 6, 2) := by decide +kernel
theorem dX12_breaks_114 : decode cX12_breaks 114 = .ok (.invokevirtual 188, 3) := by decide +kernel
theorem dX12_breaks_117 : decode cX12_breaks 117 = .ok (.ifCond .ne 6, 3) := by decide +kernel
theorem dX12_breaks_120 : decode cX12_breaks 120 = .ok (.iload 7, 2) := by decide +kernel
theorem dX12_breaks_122 : decode cX12_breaks 122 = .ok (.ireturn, 1) := by decide +kernel
theorem dX12_breaks_123 : decode cX12_breaks 123 = .ok (.aload_n 0, 1) := by decide +kernel
theorem dX12_breaks_124 : decode cX12_breaks 124 = .ok (.getfield 16, 3) := by decide +kernel
theorem dX12_breaks_127 : decode cX12_breaks 127 = .ok (.iload 5, 2) := by decide +kernel
theorem dX12_breaks_129 : decode cX12_breaks 129 = .ok (.iload 7, 2) := by decide +kernel
theorem dX12_breaks_131 : decode cX12_breaks 131 = .ok (.iadd, 1) := by decide +kernel
theorem dX12_breaks_132 : decode cX12_breaks 132 = .ok (.iaload, 1) := by decide +kernel
theorem dX12_breaks_133 : decode cX12_breaks 133 = .ok (.istore 6, 2) := by decide +kernel
theorem dX12_breaks_135 : decode cX12_breaks 135 = .ok (.iinc 7 1, 3) := by decide +kernel
theorem dX12_breaks_138 : decode cX12_breaks 138 = .ok (.goto (-43), 3) := by decide +kernel
theorem dX12_breaks_141 : decode cX12_breaks 141 = .ok (.ldc 80, 2) := by decide +kernel
theorem dX12_breaks_143 : decode cX12_breaks 143 = .ok (.ireturn, 1) := by decide +kernel
theorem dX12_oddsOf_0 : decode cX12_oddsOf 0 = .ok (.aload_n 0, 1) := by decide +kernel
theorem dX12_oddsOf_1 : decode cX12_oddsOf 1 = .ok (.iload_n 1, 1) := by decide +kernel
theorem dX12_oddsOf_2 : decode cX12_oddsOf 2 = .ok (.aload_n 0, 1) := by decide +kernel
theorem dX12_oddsOf_3 : decode cX12_oddsOf 3 = .ok (.getfield 19, 3) := by decide +kernel
theorem dX12_oddsOf_6 : decode cX12_oddsOf 6 = .ok (.iconst 2, 1) := by decide +kernel
theorem dX12_oddsOf_7 : decode cX12_oddsOf 7 = .ok (.iaload, 1) := by decide +kernel
theorem dX12_oddsOf_8 : decode cX12_oddsOf 8 = .ok (.iconst (-1), 1) := by decide +kernel
theorem dX12_oddsOf_9 : decode cX12_oddsOf 9 = .ok (.iconst 0, 1) := by decide +kernel
theorem dX12_oddsOf_10 : decode cX12_oddsOf 10 = .ok (.invokevirtual 173, 3) := by decide +kernel
theorem dX12_oddsOf_13 : decode cX12_oddsOf 13 = .ok (.istore_n 3, 1) := by decide +kernel
theorem dX12_oddsOf_14 : decode cX12_oddsOf 14 = .ok (.iconst 1, 1) := by decide +kernel
theorem dX12_oddsOf_15 : decode cX12_oddsOf 15 = .ok (.istore 4, 2) := by decide +kernel
theorem dX12_oddsOf_17 : decode cX12_oddsOf 17 = .ok (.iconst 0, 1) := by decide +kernel
theorem dX12_oddsOf_18 : decode cX12_oddsOf 18 = .ok (.istore 5, 2) := by decide +kernel
theorem dX12_oddsOf_20 : decode cX12_oddsOf 20 = .ok (.iload 5, 2) := by decide +kernel
theorem dX12_oddsOf_22 : decode cX12_oddsOf 22 = .ok (.aload_n 0, 1) := by decide +kernel
theorem dX12_oddsOf_23 : decode cX12_oddsOf 23 = .ok (.getfield 19, 3) := by decide +kernel
theorem dX12_oddsOf_26 : decode cX12_oddsOf 26 = .ok (.iconst 0, 1) := by decide +kernel
theorem dX12_oddsOf_27 : decode cX12_oddsOf 27 = .ok (.iaload, 1) := by decide +kernel
theorem dX12_oddsOf_28 : decode cX12_oddsOf 28 = .ok (.if_icmp .ge 89, 3) := by decide +kernel
theorem dX12_oddsOf_31 : decode cX12_oddsOf 31 = .ok (.iload_n 3, 1) := by decide +kernel
theorem dX12_oddsOf_32 : decode cX12_oddsOf 32 = .ok (.iload 5, 2) := by decide +kernel
theorem dX12_oddsOf_34 : decode cX12_oddsOf 34 = .ok (.ishr, 1) := by decide +kernel
theorem dX12_oddsOf_35 : decode cX12_oddsOf 35 = .ok (.iconst 1, 1) := by decide +kernel
theorem dX12_oddsOf_36 : decode cX12_oddsOf 36 = .ok (.iand, 1) := by decide +kernel
theorem dX12_oddsOf_37 : decode cX12_oddsOf 37 = .ok (.iload_n 2, 1) := by decide +kernel
theorem dX12_oddsOf_38 : decode cX12_oddsOf 38 = .ok (.iload 5, 2) := by decide +kernel
theorem dX12_oddsOf_40 : decode cX12_oddsOf 40 = .ok (.ishr, 1) := by decide +kernel
theorem dX12_oddsOf_41 : decode cX12_oddsOf 41 = .ok (.iconst 1, 1) := by decide +kernel
theorem dX12_oddsOf_42 : decode cX12_oddsOf 42 = .ok (.iand, 1) := by decide +kernel
theorem dX12_oddsOf_43 : decode cX12_oddsOf 43 = .ok (.if_icmp .ne 7, 3) := by decide +kernel
theorem dX12_oddsOf_46 : decode cX12_oddsOf 46 = .ok (.iconst 1, 1) := by decide +kernel
theorem dX12_oddsOf_47 : decode cX12_oddsOf 47 = .ok (.goto 4, 3) := by decide +kernel
theorem dX12_oddsOf_50 : decode cX12_oddsOf 50 = .ok (.iconst 0, 1) := by decide +kernel
theorem dX12_oddsOf_51 : decode cX12_oddsOf 51 = .ok (.istore 6, 2) := by decide +kernel
theorem dX12_oddsOf_53 : decode cX12_oddsOf 53 = .ok (.aload_n 0, 1) := by decide +kernel
theorem dX12_oddsOf_54 : decode cX12_oddsOf 54 = .ok (.iload 5, 2) := by decide +kernel
theorem dX12_oddsOf_56 : decode cX12_oddsOf 56 = .ok (.iconst 0, 1) := by decide +kernel
theorem dX12_oddsOf_57 : decode cX12_oddsOf 57 = .ok (.invokevirtual 163, 3) := by decide +kernel
theorem dX12_oddsOf_60 : decode cX12_oddsOf 60 = .ok (.iconst 3, 1) := by decide +kernel
theorem dX12_oddsOf_61 : decode cX12_oddsOf 61 = .ok (.if_icmp .ne 31, 3) := by decide +kernel
theorem dX12_oddsOf_64 : decode cX12_oddsOf 64 = .ok (.iload 6, 2) := by decide +kernel
theorem dX12_oddsOf_66 : decode cX12_oddsOf 66 = .ok (.ifCond .eq 16, 3) := by decide +kernel
theorem dX12_oddsOf_69 : decode cX12_oddsOf 69 = .ok (.bipush 10, 2) := by decide +kernel
theorem dX12_oddsOf_71 : decode cX12_oddsOf 71 = .ok (.aload_n 0, 1) := by decide +kernel
theorem dX12_oddsOf_72 : decode cX12_oddsOf 72 = .ok (.iload 5, 2) := by decide +kernel
theorem dX12_oddsOf_74 : decode cX12_oddsOf 74 = .ok (.iconst 2, 1) := by decide +kernel
theorem dX12_oddsOf_75 : decode cX12_oddsOf 75 = .ok (.invokevirtual 163, 3) := by decide +kernel
theorem dX12_oddsOf_78 : decode cX12_oddsOf 78 = .ok (.isub, 1) := by decide +kernel
theorem dX12_oddsOf_79 : decode cX12_oddsOf 79 = .ok (.goto 23, 3) := by decide +kernel
theorem dX12_oddsOf_82 : decode cX12_oddsOf 82 = .ok (.aload_n 0, 1) := by decide +kernel
theorem dX12_oddsOf_83 : decode cX12_oddsOf 83 = .ok (.iload 5, 2) := by decide +kernel
theorem dX12_oddsOf_85 : decode cX12_oddsOf 85 = .ok (.iconst 2, 1) := by decide +kernel
theorem dX12_oddsOf_86 : decode cX12_oddsOf 86 = .ok (.invokevirtual 163, 3) := by decide +kernel
theorem dX12_oddsOf_89 : decode cX12_oddsOf 89 = .ok (.goto 13, 3) := by decide +kernel
theorem dX12_oddsOf_92 : decode cX12_oddsOf 92 = .ok (.iload 6, 2) := by decide +kernel
theorem dX12_oddsOf_94 : decode cX12_oddsOf 94 = .ok (.ifCond .eq 7, 3) := by decide +kernel
theorem dX12_oddsOf_97 : decode cX12_oddsOf 97 = .ok (.iconst 1, 1) := by decide +kernel
theorem dX12_oddsOf_98 : decode cX12_oddsOf 98 = .ok (.goto 4, 3) := by decide +kernel
theorem dX12_oddsOf_101 : decode cX12_oddsOf 101 = .ok (.iconst 0, 1) := by decide +kernel
theorem dX12_oddsOf_102 : decode cX12_oddsOf 102 = .ok (.istore 7, 2) := by decide +kernel
theorem dX12_oddsOf_104 : decode cX12_oddsOf 104 = .ok (.iload 4, 2) := by decide +kernel
theorem dX12_oddsOf_106 : decode cX12_oddsOf 106 = .ok (.iload 7, 2) := by decide +kernel
theorem dX12_oddsOf_108 : decode cX12_oddsOf 108 = .ok (.imul, 1) := by decide +kernel
theorem dX12_oddsOf_109 : decode cX12_oddsOf 109 = .ok (.istore 4, 2) := by decide +kernel
theorem dX12_oddsOf_111 : decode cX12_oddsOf 111 = .ok (.iinc 5 1, 3) := by decide +kernel
theorem dX12_oddsOf_114 : decode cX12_oddsOf 114 = .ok (.goto (-94), 3) := by decide +kernel
theorem dX12_oddsOf_117 : decode cX12_oddsOf 117 = .ok (.iload 4, 2) := by decide +kernel
theorem dX12_oddsOf_119 : decode cX12_oddsOf 119 = .ok (.ireturn, 1) := by decide +kernel
theorem dX12_oddsIn_0 : decode cX12_oddsIn 0 = .ok (.iconst 1, 1) := by decide +kernel
theorem dX12_oddsIn_1 : decode cX12_oddsIn 1 = .ok (.istore_n 1, 1) := by decide +kernel
theorem dX12_oddsIn_2 : decode cX12_oddsIn 2 = .ok (.iconst 0, 1) := by decide +kernel
theorem dX12_oddsIn_3 : decode cX12_oddsIn 3 = .ok (.istore_n 2, 1) := by decide +kernel
theorem dX12_oddsIn_4 : decode cX12_oddsIn 4 = .ok (.iload_n 2, 1) := by decide +kernel
theorem dX12_oddsIn_5 : decode cX12_oddsIn 5 = .ok (.aload_n 0, 1) := by decide +kernel
theorem dX12_oddsIn_6 : decode cX12_oddsIn 6 = .ok (.getfield 19, 3) := by decide +kernel
theorem dX12_oddsIn_9 : decode cX12_oddsIn 9 = .ok (.iconst 0, 1) := by decide +kernel
theorem dX12_oddsIn_10 : decode cX12_oddsIn 10 = .ok (.iaload, 1) := by decide +kernel
theorem dX12_oddsIn_11 : decode cX12_oddsIn 11 = .ok (.if_icmp .ge 28, 3) := by decide +kernel
theorem dX12_oddsIn_14 : decode cX12_oddsIn 14 = .ok (.iload_n 1, 1) := by decide +kernel
theorem dX12_oddsIn_15 : decode cX12_oddsIn 15 = .ok (.aload_n 0, 1) := by decide +kernel
theorem dX12_oddsIn_16 : decode cX12_oddsIn 16 = .ok (.iload_n 2, 1) := by decide +kernel
theorem dX12_oddsIn_17 : decode cX12_oddsIn 17 = .ok (.iconst 0, 1) := by decide +kernel
theorem dX12_oddsIn_18 : decode cX12_oddsIn 18 = .ok (.invokevirtual 163, 3) := by decide +kernel
theorem dX12_oddsIn_21 : decode cX12_oddsIn 21 = .ok (.iconst 3, 1) := by decide +kernel
theorem dX12_oddsIn_22 : decode cX12_oddsIn 22 = .ok (.if_icmp .ne 8, 3) := by decide +kernel
theorem dX12_oddsIn_25 : decode cX12_oddsIn 25 = .ok (.bipush 10, 2) := by decide +kernel
theorem dX12_oddsIn_27 : decode cX12_oddsIn 27 = .ok (.goto 4, 3) := by decide +kernel
theorem dX12_oddsIn_30 : decode cX12_oddsIn 30 = .ok (.iconst 1, 1) := by decide +kernel
theorem dX12_oddsIn_31 : decode cX12_oddsIn 31 = .ok (.imul, 1) := by decide +kernel
theorem dX12_oddsIn_32 : decode cX12_oddsIn 32 = .ok (.istore_n 1, 1) := by decide +kernel
theorem dX12_oddsIn_33 : decode cX12_oddsIn 33 = .ok (.iinc 2 1, 3) := by decide +kernel
theorem dX12_oddsIn_36 : decode cX12_oddsIn 36 = .ok (.goto (-32), 3) := by decide +kernel
theorem dX12_oddsIn_39 : decode cX12_oddsIn 39 = .ok (.iload_n 1, 1) := by decide +kernel
theorem dX12_oddsIn_40 : decode cX12_oddsIn 40 = .ok (.ireturn, 1) := by decide +kernel
theorem dX12_comes_0 : decode cX12_comes 0 = .ok (.aload_n 0, 1) := by decide +kernel
theorem dX12_comes_1 : decode cX12_comes 1 = .ok (.iconst 0, 1) := by decide +kernel
theorem dX12_comes_2 : decode cX12_comes 2 = .ok (.putfield 44, 3) := by decide +kernel
theorem dX12_comes_5 : decode cX12_comes 5 = .ok (.aload_n 0, 1) := by decide +kernel
theorem dX12_comes_6 : decode cX12_comes 6 = .ok (.invokevirtual 180, 3) := by decide +kernel
theorem dX12_comes_9 : decode cX12_comes 9 = .ok (.ifCond .ne 6, 3) := by decide +kernel
theorem dX12_comes_12 : decode cX12_comes 12 = .ok (.ldc 184, 2) := by decide +kernel
theorem dX12_comes_14 : decode cX12_comes 14 = .ok (.ireturn, 1) := by decide +kernel
theorem dX12_comes_15 : decode cX12_comes 15 = .ok (.aload_n 0, 1) := by decide +kernel
theorem dX12_comes_16 : decode cX12_comes 16 = .ok (.iload_n 1, 1) := by decide +kernel
theorem dX12_comes_17 : decode cX12_comes 17 = .ok (.invokevirtual 185, 3) := by decide +kernel
theorem dX12_comes_20 : decode cX12_comes 20 = .ok (.ifCond .eq 21, 3) := by decide +kernel
theorem dX12_comes_23 : decode cX12_comes 23 = .ok (.aload_n 0, 1) := by decide +kernel
theorem dX12_comes_24 : decode cX12_comes 24 = .ok (.iload_n 2, 1) := by decide +kernel
theorem dX12_comes_25 : decode cX12_comes 25 = .ok (.invokevirtual 185, 3) := by decide +kernel
theorem dX12_comes_28 : decode cX12_comes 28 = .ok (.ifCond .eq 13, 3) := by decide +kernel
theorem dX12_comes_31 : decode cX12_comes 31 = .ok (.iload_n 3, 1) := by decide +kernel
theorem dX12_comes_32 : decode cX12_comes 32 = .ok (.i2l, 1) := by decide +kernel
theorem dX12_comes_33 : decode cX12_comes 33 = .ok (.lconst 0, 1) := by decide +kernel
theorem dX12_comes_34 : decode cX12_comes 34 = .ok (.lconst 1, 1) := by decide +kernel
theorem dX12_comes_35 : decode cX12_comes 35 = .ok (.invokestatic 54, 3) := by decide +kernel
theorem dX12_comes_38 : decode cX12_comes 38 = .ok (.ifCond .ne 6, 3) := by decide +kernel
theorem dX12_comes_41 : decode cX12_comes 41 = .ok (.ldc 64, 2) := by decide +kernel
theorem dX12_comes_43 : decode cX12_comes 43 = .ok (.ireturn, 1) := by decide +kernel
theorem dX12_comes_44 : decode cX12_comes 44 = .ok (.aload_n 0, 1) := by decide +kernel
theorem dX12_comes_45 : decode cX12_comes 45 = .ok (.iload_n 1, 1) := by decide +kernel
theorem dX12_comes_46 : decode cX12_comes 46 = .ok (.iload_n 2, 1) := by decide +kernel
theorem dX12_comes_47 : decode cX12_comes 47 = .ok (.invokevirtual 225, 3) := by decide +kernel
theorem dX12_comes_50 : decode cX12_comes 50 = .ok (.istore 4, 2) := by decide +kernel
theorem dX12_comes_52 : decode cX12_comes 52 = .ok (.iload 4, 2) := by decide +kernel
theorem dX12_comes_54 : decode cX12_comes 54 = .ok (.istore 5, 2) := by decide +kernel
theorem dX12_comes_56 : decode cX12_comes 56 = .ok (.aload_n 0, 1) := by decide +kernel
theorem dX12_comes_57 : decode cX12_comes 57 = .ok (.invokevirtual 228, 3) := by decide +kernel
theorem dX12_comes_60 : decode cX12_comes 60 = .ok (.istore 6, 2) := by decide +kernel
theorem dX12_comes_62 : decode cX12_comes 62 = .ok (.iload 6, 2) := by decide +kernel
theorem dX12_comes_64 : decode cX12_comes 64 = .ok (.ifCond .eq 21, 3) := by decide +kernel
theorem dX12_comes_67 : decode cX12_comes 67 = .ok (.iload 5, 2) := by decide +kernel
theorem dX12_comes_69 : decode cX12_comes 69 = .ok (.iload 6, 2) := by decide +kernel
theorem dX12_comes_71 : decode cX12_comes 71 = .ok (.irem, 1) := by decide +kernel
theorem dX12_comes_72 : decode cX12_comes 72 = .ok (.istore 7, 2) := by decide +kernel
theorem dX12_comes_74 : decode cX12_comes 74 = .ok (.iload 6, 2) := by decide +kernel
theorem dX12_comes_76 : decode cX12_comes 76 = .ok (.istore 5, 2) := by decide +kernel
theorem dX12_comes_78 : decode cX12_comes 78 = .ok (.iload 7, 2) := by decide +kernel
theorem dX12_comes_80 : decode cX12_comes 80 = .ok (.istore 6, 2) := by decide +kernel
theorem dX12_comes_82 : decode cX12_comes 82 = .ok (.goto (-20), 3) := by decide +kernel
theorem dX12_comes_85 : decode cX12_comes 85 = .ok (.iload_n 3, 1) := by decide +kernel
theorem dX12_comes_86 : decode cX12_comes 86 = .ok (.ifCond .ne 8, 3) := by decide +kernel
theorem dX12_comes_89 : decode cX12_comes 89 = .ok (.iload 4, 2) := by decide +kernel
theorem dX12_comes_91 : decode cX12_comes 91 = .ok (.goto 7, 3) := by decide +kernel
theorem dX12_comes_94 : decode cX12_comes 94 = .ok (.aload_n 0, 1) := by decide +kernel
theorem dX12_comes_95 : decode cX12_comes 95 = .ok (.invokevirtual 228, 3) := by decide +kernel
theorem dX12_comes_98 : decode cX12_comes 98 = .ok (.iload 5, 2) := by decide +kernel
theorem dX12_comes_100 : decode cX12_comes 100 = .ok (.idiv, 1) := by decide +kernel
theorem dX12_comes_101 : decode cX12_comes 101 = .ok (.ireturn, 1) := by decide +kernel
theorem dX12_likeliest_0 : decode cX12_likeliest 0 = .ok (.aload_n 0, 1) := by decide +kernel
theorem dX12_likeliest_1 : decode cX12_likeliest 1 = .ok (.iconst 0, 1) := by decide +kernel
theorem dX12_likeliest_2 : decode cX12_likeliest 2 = .ok (.putfield 44, 3) := by decide +kernel
theorem dX12_likeliest_5 : decode cX12_likeliest 5 = .ok (.aload_n 0, 1) := by decide +kernel
theorem dX12_likeliest_6 : decode cX12_likeliest 6 = .ok (.invokevirtual 180, 3) := by decide +kernel
theorem dX12_likeliest_9 : decode cX12_likeliest 9 = .ok (.ifCond .ne 6, 3) := by decide +kernel
theorem dX12_likeliest_12 : decode cX12_likeliest 12 = .ok (.ldc 184, 2) := by decide +kernel
theorem dX12_likeliest_14 : decode cX12_likeliest 14 = .ok (.ireturn, 1) := by decide +kernel
theorem dX12_likeliest_15 : decode cX12_likeliest 15 = .ok (.iconst 0, 1) := by decide +kernel
theorem dX12_likeliest_16 : decode cX12_likeliest 16 = .ok (.istore_n 1, 1) := by decide +kernel
theorem dX12_likeliest_17 : decode cX12_likeliest 17 = .ok (.iconst 1, 1) := by decide +kernel
theorem dX12_likeliest_18 : decode cX12_likeliest 18 = .ok (.istore_n 2, 1) := by decide +kernel
theorem dX12_likeliest_19 : decode cX12_likeliest 19 = .ok (.iload_n 2, 1) := by decide +kernel
theorem dX12_likeliest_20 : decode cX12_likeliest 20 = .ok (.aload_n 0, 1) := by decide +kernel
theorem dX12_likeliest_21 : decode cX12_likeliest 21 = .ok (.invokevirtual 160, 3) := by decide +kernel
theorem dX12_likeliest_24 : decode cX12_likeliest 24 = .ok (.if_icmp .gt 30, 3) := by decide +kernel
theorem dX12_likeliest_27 : decode cX12_likeliest 27 = .ok (.aload_n 0, 1) := by decide +kernel
theorem dX12_likeliest_28 : decode cX12_likeliest 28 = .ok (.iload_n 2, 1) := by decide +kernel
theorem dX12_likeliest_29 : decode cX12_likeliest 29 = .ok (.iload_n 2, 1) := by decide +kernel
theorem dX12_likeliest_30 : decode cX12_likeliest 30 = .ok (.invokevirtual 225, 3) := by decide +kernel
theorem dX12_likeliest_33 : decode cX12_likeliest 33 = .ok (.aload_n 0, 1) := by decide +kernel
theorem dX12_likeliest_34 : decode cX12_likeliest 34 = .ok (.iload_n 1, 1) := by decide +kernel
theorem dX12_likeliest_35 : decode cX12_likeliest 35 = .ok (.iload_n 1, 1) := by decide +kernel
theorem dX12_likeliest_36 : decode cX12_likeliest 36 = .ok (.invokevirtual 225, 3) := by decide +kernel
theorem dX12_likeliest_39 : decode cX12_likeliest 39 = .ok (.if_icmp .le 7, 3) := by decide +kernel
theorem dX12_likeliest_42 : decode cX12_likeliest 42 = .ok (.iload_n 2, 1) := by decide +kernel
theorem dX12_likeliest_43 : decode cX12_likeliest 43 = .ok (.goto 4, 3) := by decide +kernel
theorem dX12_likeliest_46 : decode cX12_likeliest 46 = .ok (.iload_n 1, 1) := by decide +kernel
theorem dX12_likeliest_47 : decode cX12_likeliest 47 = .ok (.istore_n 1, 1) := by decide +kernel
theorem dX12_likeliest_48 : decode cX12_likeliest 48 = .ok (.iinc 2 1, 3) := by decide +kernel
theorem dX12_likeliest_51 : decode cX12_likeliest 51 = .ok (.goto (-32), 3) := by decide +kernel
theorem dX12_likeliest_54 : decode cX12_likeliest 54 = .ok (.iload_n 1, 1) := by decide +kernel
theorem dX12_likeliest_55 : decode cX12_likeliest 55 = .ok (.ireturn, 1) := by decide +kernel
theorem dX12_lost_0 : decode cX12_lost 0 = .ok (.aload_n 0, 1) := by decide +kernel
theorem dX12_lost_1 : decode cX12_lost 1 = .ok (.iconst 0, 1) := by decide +kernel
theorem dX12_lost_2 : decode cX12_lost 2 = .ok (.putfield 44, 3) := by decide +kernel
theorem dX12_lost_5 : decode cX12_lost 5 = .ok (.aload_n 0, 1) := by decide +kernel
theorem dX12_lost_6 : decode cX12_lost 6 = .ok (.invokevirtual 180, 3) := by decide +kernel
theorem dX12_lost_9 : decode cX12_lost 9 = .ok (.ifCond .ne 6, 3) := by decide +kernel
theorem dX12_lost_12 : decode cX12_lost 12 = .ok (.ldc 184, 2) := by decide +kernel
theorem dX12_lost_14 : decode cX12_lost 14 = .ok (.ireturn, 1) := by decide +kernel
theorem dX12_lost_15 : decode cX12_lost 15 = .ok (.aload_n 0, 1) := by decide +kernel
theorem dX12_lost_16 : decode cX12_lost 16 = .ok (.iload_n 1, 1) := by decide +kernel
theorem dX12_lost_17 : decode cX12_lost 17 = .ok (.invokevirtual 185, 3) := by decide +kernel
theorem dX12_lost_20 : decode cX12_lost 20 = .ok (.ifCond .eq 13, 3) := by decide +kernel
theorem dX12_lost_23 : decode cX12_lost 23 = .ok (.iload_n 2, 1) := by decide +kernel
theorem dX12_lost_24 : decode cX12_lost 24 = .ok (.i2l, 1) := by decide +kernel
theorem dX12_lost_25 : decode cX12_lost 25 = .ok (.lconst 0, 1) := by decide +kernel
theorem dX12_lost_26 : decode cX12_lost 26 = .ok (.lconst 1, 1) := by decide +kernel
theorem dX12_lost_27 : decode cX12_lost 27 = .ok (.invokestatic 54, 3) := by decide +kernel
theorem dX12_lost_30 : decode cX12_lost 30 = .ok (.ifCond .ne 6, 3) := by decide +kernel
theorem dX12_lost_33 : decode cX12_lost 33 = .ok (.ldc 64, 2) := by decide +kernel
theorem dX12_lost_35 : decode cX12_lost 35 = .ok (.ireturn, 1) := by decide +kernel
theorem dX12_lost_36 : decode cX12_lost 36 = .ok (.iconst 0, 1) := by decide +kernel
theorem dX12_lost_37 : decode cX12_lost 37 = .ok (.istore_n 3, 1) := by decide +kernel
theorem dX12_lost_38 : decode cX12_lost 38 = .ok (.ldc 80, 2) := by decide +kernel
theorem dX12_lost_40 : decode cX12_lost 40 = .ok (.istore 4, 2) := by decide +kernel
theorem dX12_lost_42 : decode cX12_lost 42 = .ok (.aload_n 0, 1) := by decide +kernel
theorem dX12_lost_43 : decode cX12_lost 43 = .ok (.invokevirtual 160, 3) := by decide +kernel
theorem dX12_lost_46 : decode cX12_lost 46 = .ok (.istore 5, 2) := by decide +kernel
theorem dX12_lost_48 : decode cX12_lost 48 = .ok (.iload 5, 2) := by decide +kernel
theorem dX12_lost_50 : decode cX12_lost 50 = .ok (.ifCond .lt 34, 3) := by decide +kernel
theorem dX12_lost_53 : decode cX12_lost 53 = .ok (.aload_n 0, 1) := by decide +kernel
theorem dX12_lost_54 : decode cX12_lost 54 = .ok (.iload 5, 2) := by decide +kernel
theorem dX12_lost_56 : decode cX12_lost 56 = .ok (.aload_n 0, 1) := by decide +kernel
theorem dX12_lost_57 : decode cX12_lost 57 = .ok (.getfield 19, 3) := by decide +kernel
theorem dX12_lost_60 : decode cX12_lost 60 = .ok (.iconst 2, 1) := by decide +kernel
theorem dX12_lost_61 : decode cX12_lost 61 = .ok (.iaload, 1) := by decide +kernel
theorem dX12_lost_62 : decode cX12_lost 62 = .ok (.iconst (-1), 1) := by decide +kernel
theorem dX12_lost_63 : decode cX12_lost 63 = .ok (.iconst 0, 1) := by decide +kernel
theorem dX12_lost_64 : decode cX12_lost 64 = .ok (.invokevirtual 173, 3) := by decide +kernel
theorem dX12_lost_67 : decode cX12_lost 67 = .ok (.iload_n 1, 1) := by decide +kernel
theorem dX12_lost_68 : decode cX12_lost 68 = .ok (.if_icmp .ne 10, 3) := by decide +kernel
theorem dX12_lost_71 : decode cX12_lost 71 = .ok (.iinc 3 1, 3) := by decide +kernel
theorem dX12_lost_74 : decode cX12_lost 74 = .ok (.iload 5, 2) := by decide +kernel
theorem dX12_lost_76 : decode cX12_lost 76 = .ok (.istore 4, 2) := by decide +kernel
theorem dX12_lost_78 : decode cX12_lost 78 = .ok (.iinc 5 (-1), 3) := by decide +kernel
theorem dX12_lost_81 : decode cX12_lost 81 = .ok (.goto (-33), 3) := by decide +kernel
theorem dX12_lost_84 : decode cX12_lost 84 = .ok (.iload_n 2, 1) := by decide +kernel
theorem dX12_lost_85 : decode cX12_lost 85 = .ok (.ifCond .ne 7, 3) := by decide +kernel
theorem dX12_lost_88 : decode cX12_lost 88 = .ok (.iload_n 3, 1) := by decide +kernel
theorem dX12_lost_89 : decode cX12_lost 89 = .ok (.goto 5, 3) := by decide +kernel
theorem dX12_lost_92 : decode cX12_lost 92 = .ok (.iload 4, 2) := by decide +kernel
theorem dX12_lost_94 : decode cX12_lost 94 = .ok (.ireturn, 1) := by decide +kernel
theorem dX12_readBy_0 : decode cX12_readBy 0 = .ok (.aload_n 0, 1) := by decide +kernel
theorem dX12_readBy_1 : decode cX12_readBy 1 = .ok (.iconst 0, 1) := by decide +kernel
theorem dX12_readBy_2 : decode cX12_readBy 2 = .ok (.putfield 44, 3) := by decide +kernel
theorem dX12_readBy_5 : decode cX12_readBy 5 = .ok (.aload_n 0, 1) := by decide +kernel
theorem dX12_readBy_6 : decode cX12_readBy 6 = .ok (.invokevirtual 180, 3) := by decide +kernel
theorem dX12_readBy_9 : decode cX12_readBy 9 = .ok (.ifCond .ne 6, 3) := by decide +kernel
theorem dX12_readBy_12 : decode cX12_readBy 12 = .ok (.ldc 184, 2) := by decide +kernel
theorem dX12_readBy_14 : decode cX12_readBy 14 = .ok (.ireturn, 1) := by decide +kernel
theorem dX12_readBy_15 : decode cX12_readBy 15 = .ok (.aload_n 0, 1) := by decide +kernel
theorem dX12_readBy_16 : decode cX12_readBy 16 = .ok (.iload_n 1, 1) := by decide +kernel
theorem dX12_readBy_17 : decode cX12_readBy 17 = .ok (.invokevirtual 185, 3) := by decide +kernel
theorem dX12_readBy_20 : decode cX12_readBy 20 = .ok (.ifCond .eq 13, 3) := by decide +kernel
theorem dX12_readBy_23 : decode cX12_readBy 23 = .ok (.iload_n 2, 1) := by decide +kernel
theorem dX12_readBy_24 : decode cX12_readBy 24 = .ok (.i2l, 1) := by decide +kernel
theorem dX12_readBy_25 : decode cX12_readBy 25 = .ok (.lconst 0, 1) := by decide +kernel
theorem dX12_readBy_26 : decode cX12_readBy 26 = .ok (.lconst 1, 1) := by decide +kernel
theorem dX12_readBy_27 : decode cX12_readBy 27 = .ok (.invokestatic 54, 3) := by decide +kernel
theorem dX12_readBy_30 : decode cX12_readBy 30 = .ok (.ifCond .ne 6, 3) := by decide +kernel
theorem dX12_readBy_33 : decode cX12_readBy 33 = .ok (.ldc 64, 2) := by decide +kernel
theorem dX12_readBy_35 : decode cX12_readBy 35 = .ok (.ireturn, 1) := by decide +kernel
theorem dX12_readBy_36 : decode cX12_readBy 36 = .ok (.iconst 0, 1) := by decide +kernel
theorem dX12_readBy_37 : decode cX12_readBy 37 = .ok (.istore_n 3, 1) := by decide +kernel
theorem dX12_readBy_38 : decode cX12_readBy 38 = .ok (.ldc 80, 2) := by decide +kernel
theorem dX12_readBy_40 : decode cX12_readBy 40 = .ok (.istore 4, 2) := by decide +kernel
theorem dX12_readBy_42 : decode cX12_readBy 42 = .ok (.aload_n 0, 1) := by decide +kernel
theorem dX12_readBy_43 : decode cX12_readBy 43 = .ok (.invokevirtual 160, 3) := by decide +kernel
theorem dX12_readBy_46 : decode cX12_readBy 46 = .ok (.istore 5, 2) := by decide +kernel
theorem dX12_readBy_48 : decode cX12_readBy 48 = .ok (.iload 5, 2) := by decide +kernel
theorem dX12_readBy_50 : decode cX12_readBy 50 = .ok (.ifCond .lt 52, 3) := by decide +kernel
theorem dX12_readBy_53 : decode cX12_readBy 53 = .ok (.aload_n 0, 1) := by decide +kernel
theorem dX12_readBy_54 : decode cX12_readBy 54 = .ok (.iload 5, 2) := by decide +kernel
theorem dX12_readBy_56 : decode cX12_readBy 56 = .ok (.aload_n 0, 1) := by decide +kernel
theorem dX12_readBy_57 : decode cX12_readBy 57 = .ok (.getfield 19, 3) := by decide +kernel
theorem dX12_readBy_60 : decode cX12_readBy 60 = .ok (.iconst 2, 1) := by decide +kernel
theorem dX12_readBy_61 : decode cX12_readBy 61 = .ok (.iaload, 1) := by decide +kernel
theorem dX12_readBy_62 : decode cX12_readBy 62 = .ok (.iconst (-1), 1) := by decide +kernel
theorem dX12_readBy_63 : decode cX12_readBy 63 = .ok (.iconst 0, 1) := by decide +kernel
theorem dX12_readBy_64 : decode cX12_readBy 64 = .ok (.invokevirtual 173, 3) := by decide +kernel
theorem dX12_readBy_67 : decode cX12_readBy 67 = .ok (.iload_n 1, 1) := by decide +kernel
theorem dX12_readBy_68 : decode cX12_readBy 68 = .ok (.iand, 1) := by decide +kernel
theorem dX12_readBy_69 : decode cX12_readBy 69 = .ok (.aload_n 0, 1) := by decide +kernel
theorem dX12_readBy_70 : decode cX12_readBy 70 = .ok (.getfield 19, 3) := by decide +kernel
theorem dX12_readBy_73 : decode cX12_readBy 73 = .ok (.iconst 2, 1) := by decide +kernel
theorem dX12_readBy_74 : decode cX12_readBy 74 = .ok (.iaload, 1) := by decide +kernel
theorem dX12_readBy_75 : decode cX12_readBy 75 = .ok (.iload_n 1, 1) := by decide +kernel
theorem dX12_readBy_76 : decode cX12_readBy 76 = .ok (.iconst (-1), 1) := by decide +kernel
theorem dX12_readBy_77 : decode cX12_readBy 77 = .ok (.ixor, 1) := by decide +kernel
theorem dX12_readBy_78 : decode cX12_readBy 78 = .ok (.iand, 1) := by decide +kernel
theorem dX12_readBy_79 : decode cX12_readBy 79 = .ok (.ior, 1) := by decide +kernel
theorem dX12_readBy_80 : decode cX12_readBy 80 = .ok (.istore 6, 2) := by decide +kernel
theorem dX12_readBy_82 : decode cX12_readBy 82 = .ok (.iload 6, 2) := by decide +kernel
theorem dX12_readBy_84 : decode cX12_readBy 84 = .ok (.iload 5, 2) := by decide +kernel
theorem dX12_readBy_86 : decode cX12_readBy 86 = .ok (.if_icmp .ne 10, 3) := by decide +kernel
theorem dX12_readBy_89 : decode cX12_readBy 89 = .ok (.iinc 3 1, 3) := by decide +kernel
theorem dX12_readBy_92 : decode cX12_readBy 92 = .ok (.iload 5, 2) := by decide +kernel
theorem dX12_readBy_94 : decode cX12_readBy 94 = .ok (.istore 4, 2) := by decide +kernel
theorem dX12_readBy_96 : decode cX12_readBy 96 = .ok (.iinc 5 (-1), 3) := by decide +kernel
theorem dX12_readBy_99 : decode cX12_readBy 99 = .ok (.goto (-51), 3) := by decide +kernel
theorem dX12_readBy_102 : decode cX12_readBy 102 = .ok (.iload_n 2, 1) := by decide +kernel
theorem dX12_readBy_103 : decode cX12_readBy 103 = .ok (.ifCond .ne 7, 3) := by decide +kernel
theorem dX12_readBy_106 : decode cX12_readBy 106 = .ok (.iload_n 3, 1) := by decide +kernel
theorem dX12_readBy_107 : decode cX12_readBy 107 = .ok (.goto 5, 3) := by decide +kernel
theorem dX12_readBy_110 : decode cX12_readBy 110 = .ok (.iload 4, 2) := by decide +kernel
theorem dX12_readBy_112 : decode cX12_readBy 112 = .ok (.ireturn, 1) := by decide +kernel
theorem dX12_image_0 : decode cX12_image 0 = .ok (.aload_n 0, 1) := by decide +kernel
theorem dX12_image_1 : decode cX12_image 1 = .ok (.iconst 0, 1) := by decide +kernel
theorem dX12_image_2 : decode cX12_image 2 = .ok (.putfield 44, 3) := by decide +kernel
theorem dX12_image_5 : decode cX12_image 5 = .ok (.iload_n 1, 1) := by decide +kernel
theorem dX12_image_6 : decode cX12_image 6 = .ok (.i2l, 1) := by decide +kernel
theorem dX12_image_7 : decode cX12_image 7 = .ok (.lconst 0, 1) := by decide +kernel
theorem dX12_image_8 : decode cX12_image 8 = .ok (.lconst 1, 1) := by decide +kernel
theorem dX12_image_9 : decode cX12_image 9 = .ok (.invokestatic 54, 3) := by decide +kernel
theorem dX12_image_12 : decode cX12_image 12 = .ok (.ifCond .ne 6, 3) := by decide +kernel
theorem dX12_image_15 : decode cX12_image 15 = .ok (.ldc 64, 2) := by decide +kernel
theorem dX12_image_17 : decode cX12_image 17 = .ok (.ireturn, 1) := by decide +kernel
theorem dX12_image_18 : decode cX12_image 18 = .ok (.aload_n 0, 1) := by decide +kernel
theorem dX12_image_19 : decode cX12_image 19 = .ok (.invokevirtual 180, 3) := by decide +kernel
theorem dX12_image_22 : decode cX12_image 22 = .ok (.ifCond .ne 6, 3) := by decide +kernel
theorem dX12_image_25 : decode cX12_image 25 = .ok (.ldc 184, 2) := by decide +kernel
theorem dX12_image_27 : decode cX12_image 27 = .ok (.ireturn, 1) := by decide +kernel
theorem dX12_image_28 : decode cX12_image 28 = .ok (.iconst 0, 1) := by decide +kernel
theorem dX12_image_29 : decode cX12_image 29 = .ok (.istore_n 2, 1) := by decide +kernel
theorem dX12_image_30 : decode cX12_image 30 = .ok (.iload_n 2, 1) := by decide +kernel
theorem dX12_image_31 : decode cX12_image 31 = .ok (.bipush 21, 2) := by decide +kernel
theorem dX12_image_33 : decode cX12_image 33 = .ok (.if_icmp .ge 26, 3) := by decide +kernel
theorem dX12_image_36 : decode cX12_image 36 = .ok (.aload_n 0, 1) := by decide +kernel
theorem dX12_image_37 : decode cX12_image 37 = .ok (.getfield 38, 3) := by decide +kernel
theorem dX12_image_40 : decode cX12_image 40 = .ok (.bipush 21, 2) := by decide +kernel
theorem dX12_image_42 : decode cX12_image 42 = .ok (.iload_n 1, 1) := by decide +kernel
theorem dX12_image_43 : decode cX12_image 43 = .ok (.imul, 1) := by decide +kernel
theorem dX12_image_44 : decode cX12_image 44 = .ok (.iload_n 2, 1) := by decide +kernel
theorem dX12_image_45 : decode cX12_image 45 = .ok (.iadd, 1) := by decide +kernel
theorem dX12_image_46 : decode cX12_image 46 = .ok (.aload_n 0, 1) := by decide +kernel
theorem dX12_image_47 : decode cX12_image 47 = .ok (.getfield 19, 3) := by decide +kernel
theorem dX12_image_50 : decode cX12_image 50 = .ok (.iload_n 2, 1) := by decide +kernel
theorem dX12_image_51 : decode cX12_image 51 = .ok (.iaload, 1) := by decide +kernel
theorem dX12_image_52 : decode cX12_image 52 = .ok (.iastore, 1) := by decide +kernel
theorem dX12_image_53 : decode cX12_image 53 = .ok (.iinc 2 1, 3) := by decide +kernel
theorem dX12_image_56 : decode cX12_image 56 = .ok (.goto (-26), 3) := by decide +kernel
theorem dX12_image_59 : decode cX12_image 59 = .ok (.aload_n 0, 1) := by decide +kernel
theorem dX12_image_60 : decode cX12_image 60 = .ok (.getfield 34, 3) := by decide +kernel
theorem dX12_image_63 : decode cX12_image 63 = .ok (.iload_n 1, 1) := by decide +kernel
theorem dX12_image_64 : decode cX12_image 64 = .ok (.iconst 1, 1) := by decide +kernel
theorem dX12_image_65 : decode cX12_image 65 = .ok (.bastore, 1) := by decide +kernel
theorem dX12_image_66 : decode cX12_image 66 = .ok (.iconst 1, 1) := by decide +kernel
theorem dX12_image_67 : decode cX12_image 67 = .ok (.ireturn, 1) := by decide +kernel
theorem dX12_restore_0 : decode cX12_restore 0 = .ok (.aload_n 0, 1) := by decide +kernel
theorem dX12_restore_1 : decode cX12_restore 1 = .ok (.iconst 0, 1) := by decide +kernel
theorem dX12_restore_2 : decode cX12_restore 2 = .ok (.putfield 44, 3) := by decide +kernel
theorem dX12_restore_5 : decode cX12_restore 5 = .ok (.iload_n 1, 1) := by decide +kernel
theorem dX12_restore_6 : decode cX12_restore 6 = .ok (.i2l, 1) := by decide +kernel
theorem dX12_restore_7 : decode cX12_restore 7 = .ok (.lconst 0, 1) := by decide +kernel
theorem dX12_restore_8 : decode cX12_restore 8 = .ok (.lconst 1, 1) := by decide +kernel
theorem dX12_restore_9 : decode cX12_restore 9 = .ok (.invokestatic 54, 3) := by decide +kernel
theorem dX12_restore_12 : decode cX12_restore 12 = .ok (.ifCond .ne 6, 3) := by decide +kernel
theorem dX12_restore_15 : decode cX12_restore 15 = .ok (.ldc 64, 2) := by decide +kernel
theorem dX12_restore_17 : decode cX12_restore 17 = .ok (.ireturn, 1) := by decide +kernel
theorem dX12_restore_18 : decode cX12_restore 18 = .ok (.aload_n 0, 1) := by decide +kernel
theorem dX12_restore_19 : decode cX12_restore 19 = .ok (.getfield 34, 3) := by decide +kernel
theorem dX12_restore_22 : decode cX12_restore 22 = .ok (.iload_n 1, 1) := by decide +kernel
theorem dX12_restore_23 : decode cX12_restore 23 = .ok (.baload, 1) := by decide +kernel
theorem dX12_restore_24 : decode cX12_restore 24 = .ok (.ifCond .ne 6, 3) := by decide +kernel
theorem dX12_restore_27 : decode cX12_restore 27 = .ok (.ldc 184, 2) := by decide +kernel
theorem dX12_restore_29 : decode cX12_restore 29 = .ok (.ireturn, 1) := by decide +kernel
theorem dX12_restore_30 : decode cX12_restore 30 = .ok (.iconst 0, 1) := by decide +kernel
theorem dX12_restore_31 : decode cX12_restore 31 = .ok (.istore_n 2, 1) := by decide +kernel
theorem dX12_restore_32 : decode cX12_restore 32 = .ok (.iload_n 2, 1) := by decide +kernel
theorem dX12_restore_33 : decode cX12_restore 33 = .ok (.bipush 21, 2) := by decide +kernel
theorem dX12_restore_35 : decode cX12_restore 35 = .ok (.if_icmp .ge 26, 3) := by decide +kernel
theorem dX12_restore_38 : decode cX12_restore 38 = .ok (.aload_n 0, 1) := by decide +kernel
theorem dX12_restore_39 : decode cX12_restore 39 = .ok (.getfield 19, 3) := by decide +kernel
theorem dX12_restore_42 : decode cX12_restore 42 = .ok (.iload_n 2, 1) := by decide +kernel
theorem dX12_restore_43 : decode cX12_restore 43 = .ok (.aload_n 0, 1) := by decide +kernel
theorem dX12_restore_44 : decode cX12_restore 44 = .ok (.getfield 38, 3) := by decide +kernel
theorem dX12_restore_47 : decode cX12_restore 47 = .ok (.bipush 21, 2) := by decide +kernel
theorem dX12_restore_49 : decode cX12_restore 49 = .ok (.iload_n 1, 1) := by decide +kernel
theorem dX12_restore_50 : decode cX12_restore 50 = .ok (.imul, 1) := by decide +kernel
theorem dX12_restore_51 : decode cX12_restore 51 = .ok (.iload_n 2, 1) := by decide +kernel
theorem dX12_restore_52 : decode cX12_restore 52 = .ok (.iadd, 1) := by decide +kernel
theorem dX12_restore_53 : decode cX12_restore 53 = .ok (.iaload, 1) := by decide +kernel
theorem dX12_restore_54 : decode cX12_restore 54 = .ok (.iastore, 1) := by decide +kernel
theorem dX12_restore_55 : decode cX12_restore 55 = .ok (.iinc 2 1, 3) := by decide +kernel
theorem dX12_restore_58 : decode cX12_restore 58 = .ok (.goto (-26), 3) := by decide +kernel
theorem dX12_restore_61 : decode cX12_restore 61 = .ok (.aload_n 0, 1) := by decide +kernel
theorem dX12_restore_62 : decode cX12_restore 62 = .ok (.iconst 0, 1) := by decide +kernel
theorem dX12_restore_63 : decode cX12_restore 63 = .ok (.putfield 157, 3) := by decide +kernel
theorem dX12_restore_66 : decode cX12_restore 66 = .ok (.iconst 1, 1) := by decide +kernel
theorem dX12_restore_67 : decode cX12_restore 67 = .ok (.ireturn, 1) := by decide +kernel
theorem dX12_isOf_0 : decode cX12_isOf 0 = .ok (.iload_n 1, 1) := by decide +kernel
theorem dX12_isOf_1 : decode cX12_isOf 1 = .ok (.ifCond .eq 28, 3) := by decide +kernel
theorem dX12_isOf_4 : decode cX12_isOf 4 = .ok (.iload_n 0, 1) := by decide +kernel
theorem dX12_isOf_5 : decode cX12_isOf 5 = .ok (.iload_n 1, 1) := by decide +kernel
theorem dX12_isOf_6 : decode cX12_isOf 6 = .ok (.if_icmp .eq 23, 3) := by decide +kernel
theorem dX12_isOf_9 : decode cX12_isOf 9 = .ok (.iload_n 1, 1) := by decide +kernel
theorem dX12_isOf_10 : decode cX12_isOf 10 = .ok (.iconst 1, 1) := by decide +kernel
theorem dX12_isOf_11 : decode cX12_isOf 11 = .ok (.if_icmp .ne 8, 3) := by decide +kernel
theorem dX12_isOf_14 : decode cX12_isOf 14 = .ok (.iload_n 0, 1) := by decide +kernel
theorem dX12_isOf_15 : decode cX12_isOf 15 = .ok (.iconst 4, 1) := by decide +kernel
theorem dX12_isOf_16 : decode cX12_isOf 16 = .ok (.if_icmp .lt 13, 3) := by decide +kernel
theorem dX12_isOf_19 : decode cX12_isOf 19 = .ok (.iload_n 1, 1) := by decide +kernel
theorem dX12_isOf_20 : decode cX12_isOf 20 = .ok (.iconst 4, 1) := by decide +kernel
theorem dX12_isOf_21 : decode cX12_isOf 21 = .ok (.if_icmp .ne 12, 3) := by decide +kernel
theorem dX12_isOf_24 : decode cX12_isOf 24 = .ok (.iload_n 0, 1) := by decide +kernel
theorem dX12_isOf_25 : decode cX12_isOf 25 = .ok (.iconst 5, 1) := by decide +kernel
theorem dX12_isOf_26 : decode cX12_isOf 26 = .ok (.if_icmp .ne 7, 3) := by decide +kernel
theorem dX12_isOf_29 : decode cX12_isOf 29 = .ok (.iconst 1, 1) := by decide +kernel
theorem dX12_isOf_30 : decode cX12_isOf 30 = .ok (.goto 4, 3) := by decide +kernel
theorem dX12_isOf_33 : decode cX12_isOf 33 = .ok (.iconst 0, 1) := by decide +kernel
theorem dX12_isOf_34 : decode cX12_isOf 34 = .ok (.ireturn, 1) := by decide +kernel
theorem dX12_kind_0 : decode cX12_kind 0 = .ok (.aload_n 0, 1) := by decide +kernel
theorem dX12_kind_1 : decode cX12_kind 1 = .ok (.iconst 0, 1) := by decide +kernel
theorem dX12_kind_2 : decode cX12_kind 2 = .ok (.putfield 44, 3) := by decide +kernel
theorem dX12_kind_5 : decode cX12_kind 5 = .ok (.aload_n 0, 1) := by decide +kernel
theorem dX12_kind_6 : decode cX12_kind 6 = .ok (.iload_n 1, 1) := by decide +kernel
theorem dX12_kind_7 : decode cX12_kind 7 = .ok (.invokevirtual 212, 3) := by decide +kernel
theorem dX12_kind_10 : decode cX12_kind 10 = .ok (.ifCond .eq 12, 3) := by decide +kernel
theorem dX12_kind_13 : decode cX12_kind 13 = .ok (.aload_n 0, 1) := by decide +kernel
theorem dX12_kind_14 : decode cX12_kind 14 = .ok (.iload_n 1, 1) := by decide +kernel
theorem dX12_kind_15 : decode cX12_kind 15 = .ok (.iconst 0, 1) := by decide +kernel
theorem dX12_kind_16 : decode cX12_kind 16 = .ok (.invokevirtual 163, 3) := by decide +kernel
theorem dX12_kind_19 : decode cX12_kind 19 = .ok (.goto 5, 3) := by decide +kernel
theorem dX12_kind_22 : decode cX12_kind 22 = .ok (.ldc 64, 2) := by decide +kernel
theorem dX12_kind_24 : decode cX12_kind 24 = .ok (.ireturn, 1) := by decide +kernel
theorem dX12_as_0 : decode cX12_as 0 = .ok (.aload_n 0, 1) := by decide +kernel
theorem dX12_as_1 : decode cX12_as 1 = .ok (.iconst 0, 1) := by decide +kernel
theorem dX12_as_2 : decode cX12_as 2 = .ok (.putfield 44, 3) := by decide +kernel
theorem dX12_as_5 : decode cX12_as 5 = .ok (.aload_n 0, 1) := by decide +kernel
theorem dX12_as_6 : decode cX12_as 6 = .ok (.iload_n 1, 1) := by decide +kernel
theorem dX12_as_7 : decode cX12_as 7 = .ok (.invokevirtual 212, 3) := by decide +kernel
theorem dX12_as_10 : decode cX12_as 10 = .ok (.ifCond .eq 15, 3) := by decide +kernel
theorem dX12_as_13 : decode cX12_as 13 = .ok (.iload_n 2, 1) := by decide +kernel
theorem dX12_as_14 : decode cX12_as 14 = .ok (.i2l, 1) := by decide +kernel
theorem dX12_as_15 : decode cX12_as 15 = .ok (.lconst 0, 1) := by decide +kernel
theorem dX12_as_16 : decode cX12_as 16 = .ok (.ldc2_w 218, 3) := by decide +kernel
theorem dX12_as_19 : decode cX12_as 19 = .ok (.invokestatic 54, 3) := by decide +kernel
theorem dX12_as_22 : decode cX12_as 22 = .ok (.ifCond .ne 6, 3) := by decide +kernel
theorem dX12_as_25 : decode cX12_as 25 = .ok (.ldc 64, 2) := by decide +kernel
theorem dX12_as_27 : decode cX12_as 27 = .ok (.ireturn, 1) := by decide +kernel
theorem dX12_as_28 : decode cX12_as 28 = .ok (.aload_n 0, 1) := by decide +kernel
theorem dX12_as_29 : decode cX12_as 29 = .ok (.iconst 0, 1) := by decide +kernel
theorem dX12_as_30 : decode cX12_as 30 = .ok (.putfield 48, 3) := by decide +kernel
theorem dX12_as_33 : decode cX12_as 33 = .ok (.aload_n 0, 1) := by decide +kernel
theorem dX12_as_34 : decode cX12_as 34 = .ok (.iload_n 1, 1) := by decide +kernel
theorem dX12_as_35 : decode cX12_as 35 = .ok (.iconst 0, 1) := by decide +kernel
theorem dX12_as_36 : decode cX12_as 36 = .ok (.invokevirtual 163, 3) := by decide +kernel
theorem dX12_as_39 : decode cX12_as 39 = .ok (.iload_n 2, 1) := by decide +kernel
theorem dX12_as_40 : decode cX12_as 40 = .ok (.invokestatic 231, 3) := by decide +kernel
theorem dX12_as_43 : decode cX12_as 43 = .ok (.ifCond .eq 7, 3) := by decide +kernel
theorem dX12_as_46 : decode cX12_as 46 = .ok (.iload_n 1, 1) := by decide +kernel
theorem dX12_as_47 : decode cX12_as 47 = .ok (.goto 8, 3) := by decide +kernel
theorem dX12_as_50 : decode cX12_as 50 = .ok (.aload_n 0, 1) := by decide +kernel
theorem dX12_as_51 : decode cX12_as 51 = .ok (.iconst 3, 1) := by decide +kernel
theorem dX12_as_52 : decode cX12_as 52 = .ok (.invokevirtual 65, 3) := by decide +kernel
theorem dX12_as_55 : decode cX12_as 55 = .ok (.ireturn, 1) := by decide +kernel
theorem dX12_began_0 : decode cX12_began 0 = .ok (.aload_n 0, 1) := by decide +kernel
theorem dX12_began_1 : decode cX12_began 1 = .ok (.getfield 234, 3) := by decide +kernel
theorem dX12_began_4 : decode cX12_began 4 = .ok (.bipush 16, 2) := by decide +kernel
theorem dX12_began_6 : decode cX12_began 6 = .ok (.if_icmp .ge 23, 3) := by decide +kernel
theorem dX12_began_9 : decode cX12_began 9 = .ok (.aload_n 0, 1) := by decide +kernel
theorem dX12_began_10 : decode cX12_began 10 = .ok (.getfield 41, 3) := by decide +kernel
theorem dX12_began_13 : decode cX12_began 13 = .ok (.aload_n 0, 1) := by decide +kernel
theorem dX12_began_14 : decode cX12_began 14 = .ok (.getfield 234, 3) := by decide +kernel
theorem dX12_began_17 : decode cX12_began 17 = .ok (.iload_n 1, 1) := by decide +kernel
theorem dX12_began_18 : decode cX12_began 18 = .ok (.iastore, 1) := by decide +kernel
theorem dX12_began_19 : decode cX12_began 19 = .ok (.aload_n 0, 1) := by decide +kernel
theorem dX12_began_20 : decode cX12_began 20 = .ok (.dup, 1) := by decide +kernel
theorem dX12_began_21 : decode cX12_began 21 = .ok (.getfield 234, 3) := by decide +kernel
theorem dX12_began_24 : decode cX12_began 24 = .ok (.iconst 1, 1) := by decide +kernel
theorem dX12_began_25 : decode cX12_began 25 = .ok (.iadd, 1) := by decide +kernel
theorem dX12_began_26 : decode cX12_began 26 = .ok (.putfield 234, 3) := by decide +kernel
theorem dX12_began_29 : decode cX12_began 29 = .ok (.return_, 1) := by decide +kernel
theorem dX12_plainSize_0 : decode cX12_plainSize 0 = .ok (.aload_n 0, 1) := by decide +kernel
theorem dX12_plainSize_1 : decode cX12_plainSize 1 = .ok (.bipush 10, 2) := by decide +kernel
theorem dX12_plainSize_3 : decode cX12_plainSize 3 = .ok (.invokevirtual 237, 3) := by decide +kernel
theorem dX12_plainSize_6 : decode cX12_plainSize 6 = .ok (.aload_n 0, 1) := by decide +kernel
theorem dX12_plainSize_7 : decode cX12_plainSize 7 = .ok (.iload_n 1, 1) := by decide +kernel
theorem dX12_plainSize_8 : decode cX12_plainSize 8 = .ok (.iconst 2, 1) := by decide +kernel
theorem dX12_plainSize_9 : decode cX12_plainSize 9 = .ok (.invokevirtual 163, 3) := by decide +kernel
theorem dX12_plainSize_12 : decode cX12_plainSize 12 = .ok (.ireturn, 1) := by decide +kernel
theorem dX12_crowdSize_0 : decode cX12_crowdSize 0 = .ok (.aload_n 0, 1) := by decide +kernel
theorem dX12_crowdSize_1 : decode cX12_crowdSize 1 = .ok (.iload_n 1, 1) := by decide +kernel
theorem dX12_crowdSize_2 : decode cX12_crowdSize 2 = .ok (.iconst 0, 1) := by decide +kernel
theorem dX12_crowdSize_3 : decode cX12_crowdSize 3 = .ok (.invokevirtual 163, 3) := by decide +kernel
theorem dX12_crowdSize_6 : decode cX12_crowdSize 6 = .ok (.iconst 5, 1) := by decide +kernel
theorem dX12_crowdSize_7 : decode cX12_crowdSize 7 = .ok (.if_icmp .ne 9, 3) := by decide +kernel
theorem dX12_crowdSize_10 : decode cX12_crowdSize 10 = .ok (.aload_n 0, 1) := by decide +kernel
theorem dX12_crowdSize_11 : decode cX12_crowdSize 11 = .ok (.bipush 14, 2) := by decide +kernel
theorem dX12_crowdSize_13 : decode cX12_crowdSize 13 = .ok (.invokevirtual 237, 3) := by decide +kernel
theorem dX12_crowdSize_16 : decode cX12_crowdSize 16 = .ok (.aload_n 0, 1) := by decide +kernel
theorem dX12_crowdSize_17 : decode cX12_crowdSize 17 = .ok (.bipush 13, 2) := by decide +kernel
theorem dX12_crowdSize_19 : decode cX12_crowdSize 19 = .ok (.invokevirtual 237, 3) := by decide +kernel
theorem dX12_crowdSize_22 : decode cX12_crowdSize 22 = .ok (.aload_n 0, 1) := by decide +kernel
theorem dX12_crowdSize_23 : decode cX12_crowdSize 23 = .ok (.iload_n 1, 1) := by decide +kernel
theorem dX12_crowdSize_24 : decode cX12_crowdSize 24 = .ok (.invokevirtual 240, 3) := by decide +kernel
theorem dX12_crowdSize_27 : decode cX12_crowdSize 27 = .ok (.bipush 100, 2) := by decide +kernel
theorem dX12_crowdSize_29 : decode cX12_crowdSize 29 = .ok (.isub, 1) := by decide +kernel
theorem dX12_crowdSize_30 : decode cX12_crowdSize 30 = .ok (.istore_n 2, 1) := by decide +kernel
theorem dX12_crowdSize_31 : decode cX12_crowdSize 31 = .ok (.aload_n 0, 1) := by decide +kernel
theorem dX12_crowdSize_32 : decode cX12_crowdSize 32 = .ok (.iload_n 1, 1) := by decide +kernel
theorem dX12_crowdSize_33 : decode cX12_crowdSize 33 = .ok (.iconst 0, 1) := by decide +kernel
theorem dX12_crowdSize_34 : decode cX12_crowdSize 34 = .ok (.invokevirtual 163, 3) := by decide +kernel
theorem dX12_crowdSize_37 : decode cX12_crowdSize 37 = .ok (.iconst 5, 1) := by decide +kernel
theorem dX12_crowdSize_38 : decode cX12_crowdSize 38 = .ok (.if_icmp .ne 9, 3) := by decide +kernel
theorem dX12_crowdSize_41 : decode cX12_crowdSize 41 = .ok (.iconst 2, 1) := by decide +kernel
theorem dX12_crowdSize_42 : decode cX12_crowdSize 42 = .ok (.iload_n 2, 1) := by decide +kernel
theorem dX12_crowdSize_43 : decode cX12_crowdSize 43 = .ok (.imul, 1) := by decide +kernel
theorem dX12_crowdSize_44 : decode cX12_crowdSize 44 = .ok (.goto 4, 3) := by decide +kernel
theorem dX12_crowdSize_47 : decode cX12_crowdSize 47 = .ok (.iload_n 2, 1) := by decide +kernel
theorem dX12_crowdSize_48 : decode cX12_crowdSize 48 = .ok (.ireturn, 1) := by decide +kernel
theorem dX12_markOf_0 : decode cX12_markOf 0 = .ok (.aload_n 0, 1) := by decide +kernel
theorem dX12_markOf_1 : decode cX12_markOf 1 = .ok (.iload_n 1, 1) := by decide +kernel
theorem dX12_markOf_2 : decode cX12_markOf 2 = .ok (.iconst 0, 1) := by decide +kernel
theorem dX12_markOf_3 : decode cX12_markOf 3 = .ok (.invokevirtual 163, 3) := by decide +kernel
theorem dX12_markOf_6 : decode cX12_markOf 6 = .ok (.istore_n 2, 1) := by decide +kernel
theorem dX12_markOf_7 : decode cX12_markOf 7 = .ok (.iload_n 2, 1) := by decide +kernel
theorem dX12_markOf_8 : decode cX12_markOf 8 = .ok (.iconst 4, 1) := by decide +kernel
theorem dX12_markOf_9 : decode cX12_markOf 9 = .ok (.if_icmp .lt 23, 3) := by decide +kernel
theorem dX12_markOf_12 : decode cX12_markOf 12 = .ok (.aload_n 0, 1) := by decide +kernel
theorem dX12_markOf_13 : decode cX12_markOf 13 = .ok (.bipush 23, 2) := by decide +kernel
theorem dX12_markOf_15 : decode cX12_markOf 15 = .ok (.invokevirtual 237, 3) := by decide +kernel
theorem dX12_markOf_18 : decode cX12_markOf 18 = .ok (.aload_n 0, 1) := by decide +kernel
theorem dX12_markOf_19 : decode cX12_markOf 19 = .ok (.bipush 20, 2) := by decide +kernel
theorem dX12_markOf_21 : decode cX12_markOf 21 = .ok (.invokevirtual 237, 3) := by decide +kernel
theorem dX12_markOf_24 : decode cX12_markOf 24 = .ok (.iload_n 1, 1) := by decide +kernel
theorem dX12_markOf_25 : decode cX12_markOf 25 = .ok (.aload_n 0, 1) := by decide +kernel
theorem dX12_markOf_26 : decode cX12_markOf 26 = .ok (.iload_n 1, 1) := by decide +kernel
theorem dX12_markOf_27 : decode cX12_markOf 27 = .ok (.invokevirtual 243, 3) := by decide +kernel
theorem dX12_markOf_30 : decode cX12_markOf 30 = .ok (.isub, 1) := by decide +kernel
theorem dX12_markOf_31 : decode cX12_markOf 31 = .ok (.ireturn, 1) := by decide +kernel
theorem dX12_markOf_32 : decode cX12_markOf 32 = .ok (.iload_n 2, 1) := by decide +kernel
theorem dX12_markOf_33 : decode cX12_markOf 33 = .ok (.iconst 1, 1) := by decide +kernel
theorem dX12_markOf_34 : decode cX12_markOf 34 = .ok (.if_icmp .eq 19, 3) := by decide +kernel
theorem dX12_markOf_37 : decode cX12_markOf 37 = .ok (.aload_n 0, 1) := by decide +kernel
theorem dX12_markOf_38 : decode cX12_markOf 38 = .ok (.iload_n 2, 1) := by decide +kernel
theorem dX12_markOf_39 : decode cX12_markOf 39 = .ok (.iconst 3, 1) := by decide +kernel
theorem dX12_markOf_40 : decode cX12_markOf 40 = .ok (.if_icmp .ne 8, 3) := by decide +kernel
theorem dX12_markOf_43 : decode cX12_markOf 43 = .ok (.bipush 22, 2) := by decide +kernel
theorem dX12_markOf_45 : decode cX12_markOf 45 = .ok (.goto 5, 3) := by decide +kernel
theorem dX12_markOf_48 : decode cX12_markOf 48 = .ok (.bipush 24, 2) := by decide +kernel
theorem dX12_markOf_50 : decode cX12_markOf 50 = .ok (.invokevirtual 237, 3) := by decide +kernel
theorem dX12_markOf_53 : decode cX12_markOf 53 = .ok (.aload_n 0, 1) := by decide +kernel
theorem dX12_markOf_54 : decode cX12_markOf 54 = .ok (.bipush 21, 2) := by decide +kernel
theorem dX12_markOf_56 : decode cX12_markOf 56 = .ok (.invokevirtual 237, 3) := by decide +kernel
theorem dX12_markOf_59 : decode cX12_markOf 59 = .ok (.aload_n 0, 1) := by decide +kernel
theorem dX12_markOf_60 : decode cX12_markOf 60 = .ok (.bipush 20, 2) := by decide +kernel
theorem dX12_markOf_62 : decode cX12_markOf 62 = .ok (.invokevirtual 237, 3) := by decide +kernel
theorem dX12_markOf_65 : decode cX12_markOf 65 = .ok (.iload_n 1, 1) := by decide +kernel
theorem dX12_markOf_66 : decode cX12_markOf 66 = .ok (.aload_n 0, 1) := by decide +kernel
theorem dX12_markOf_67 : decode cX12_markOf 67 = .ok (.iload_n 1, 1) := by decide +kernel
theorem dX12_markOf_68 : decode cX12_markOf 68 = .ok (.iconst 1, 1) := by decide +kernel
theorem dX12_markOf_69 : decode cX12_markOf 69 = .ok (.invokevirtual 163, 3) := by decide +kernel
theorem dX12_markOf_72 : decode cX12_markOf 72 = .ok (.iadd, 1) := by decide +kernel
theorem dX12_markOf_73 : decode cX12_markOf 73 = .ok (.istore_n 3, 1) := by decide +kernel
theorem dX12_markOf_74 : decode cX12_markOf 74 = .ok (.iload_n 2, 1) := by decide +kernel
theorem dX12_markOf_75 : decode cX12_markOf 75 = .ok (.iconst 1, 1) := by decide +kernel
theorem dX12_markOf_76 : decode cX12_markOf 76 = .ok (.if_icmp .ne 7, 3) := by decide +kernel
theorem dX12_markOf_79 : decode cX12_markOf 79 = .ok (.iload_n 3, 1) := by decide +kernel
theorem dX12_markOf_80 : decode cX12_markOf 80 = .ok (.goto 19, 3) := by decide +kernel
theorem dX12_markOf_83 : decode cX12_markOf 83 = .ok (.iload_n 2, 1) := by decide +kernel
theorem dX12_markOf_84 : decode cX12_markOf 84 = .ok (.iconst 3, 1) := by decide +kernel
theorem dX12_markOf_85 : decode cX12_markOf 85 = .ok (.if_icmp .ne 11, 3) := by decide +kernel
theorem dX12_markOf_88 : decode cX12_markOf 88 = .ok (.iload_n 3, 1) := by decide +kernel
theorem dX12_markOf_89 : decode cX12_markOf 89 = .ok (.sipush 1000, 3) := by decide +kernel
theorem dX12_markOf_92 : decode cX12_markOf 92 = .ok (.isub, 1) := by decide +kernel
theorem dX12_markOf_93 : decode cX12_markOf 93 = .ok (.goto 6, 3) := by decide +kernel
theorem dX12_markOf_96 : decode cX12_markOf 96 = .ok (.iconst 2, 1) := by decide +kernel
theorem dX12_markOf_97 : decode cX12_markOf 97 = .ok (.iload_n 3, 1) := by decide +kernel
theorem dX12_markOf_98 : decode cX12_markOf 98 = .ok (.imul, 1) := by decide +kernel
theorem dX12_markOf_99 : decode cX12_markOf 99 = .ok (.ireturn, 1) := by decide +kernel
theorem dX12_sizeOf_0 : decode cX12_sizeOf 0 = .ok (.aload_n 0, 1) := by decide +kernel
theorem dX12_sizeOf_1 : decode cX12_sizeOf 1 = .ok (.iload_n 1, 1) := by decide +kernel
theorem dX12_sizeOf_2 : decode cX12_sizeOf 2 = .ok (.iconst 0, 1) := by decide +kernel
theorem dX12_sizeOf_3 : decode cX12_sizeOf 3 = .ok (.invokevirtual 163, 3) := by decide +kernel
theorem dX12_sizeOf_6 : decode cX12_sizeOf 6 = .ok (.istore_n 2, 1) := by decide +kernel
theorem dX12_sizeOf_7 : decode cX12_sizeOf 7 = .ok (.iload_n 2, 1) := by decide +kernel
theorem dX12_sizeOf_8 : decode cX12_sizeOf 8 = .ok (.iconst 4, 1) := by decide +kernel
theorem dX12_sizeOf_9 : decode cX12_sizeOf 9 = .ok (.if_icmp .lt 9, 3) := by decide +kernel
theorem dX12_sizeOf_12 : decode cX12_sizeOf 12 = .ok (.aload_n 0, 1) := by decide +kernel
theorem dX12_sizeOf_13 : decode cX12_sizeOf 13 = .ok (.iload_n 1, 1) := by decide +kernel
theorem dX12_sizeOf_14 : decode cX12_sizeOf 14 = .ok (.invokevirtual 243, 3) := by decide +kernel
theorem dX12_sizeOf_17 : decode cX12_sizeOf 17 = .ok (.ireturn, 1) := by decide +kernel
theorem dX12_sizeOf_18 : decode cX12_sizeOf 18 = .ok (.iload_n 2, 1) := by decide +kernel
theorem dX12_sizeOf_19 : decode cX12_sizeOf 19 = .ok (.iconst 2, 1) := by decide +kernel
theorem dX12_sizeOf_20 : decode cX12_sizeOf 20 = .ok (.if_icmp .ne 9, 3) := by decide +kernel
theorem dX12_sizeOf_23 : decode cX12_sizeOf 23 = .ok (.aload_n 0, 1) := by decide +kernel
theorem dX12_sizeOf_24 : decode cX12_sizeOf 24 = .ok (.bipush 12, 2) := by decide +kernel
theorem dX12_sizeOf_26 : decode cX12_sizeOf 26 = .ok (.invokevirtual 237, 3) := by decide +kernel
theorem dX12_sizeOf_29 : decode cX12_sizeOf 29 = .ok (.aload_n 0, 1) := by decide +kernel
theorem dX12_sizeOf_30 : decode cX12_sizeOf 30 = .ok (.bipush 11, 2) := by decide +kernel
theorem dX12_sizeOf_32 : decode cX12_sizeOf 32 = .ok (.invokevirtual 237, 3) := by decide +kernel
theorem dX12_sizeOf_35 : decode cX12_sizeOf 35 = .ok (.aload_n 0, 1) := by decide +kernel
theorem dX12_sizeOf_36 : decode cX12_sizeOf 36 = .ok (.iload_n 1, 1) := by decide +kernel
theorem dX12_sizeOf_37 : decode cX12_sizeOf 37 = .ok (.invokevirtual 240, 3) := by decide +kernel
theorem dX12_sizeOf_40 : decode cX12_sizeOf 40 = .ok (.istore_n 3, 1) := by decide +kernel
theorem dX12_sizeOf_41 : decode cX12_sizeOf 41 = .ok (.iload_n 3, 1) := by decide +kernel
theorem dX12_sizeOf_42 : decode cX12_sizeOf 42 = .ok (.aload_n 0, 1) := by decide +kernel
theorem dX12_sizeOf_43 : decode cX12_sizeOf 43 = .ok (.iload_n 1, 1) := by decide +kernel
theorem dX12_sizeOf_44 : decode cX12_sizeOf 44 = .ok (.invokevirtual 246, 3) := by decide +kernel
theorem dX12_sizeOf_47 : decode cX12_sizeOf 47 = .ok (.iadd, 1) := by decide +kernel
theorem dX12_sizeOf_48 : decode cX12_sizeOf 48 = .ok (.istore_n 3, 1) := by decide +kernel
theorem dX12_sizeOf_49 : decode cX12_sizeOf 49 = .ok (.iload_n 2, 1) := by decide +kernel
theorem dX12_sizeOf_50 : decode cX12_sizeOf 50 = .ok (.iconst 2, 1) := by decide +kernel
theorem dX12_sizeOf_51 : decode cX12_sizeOf 51 = .ok (.if_icmp .ne 8, 3) := by decide +kernel
theorem dX12_sizeOf_54 : decode cX12_sizeOf 54 = .ok (.iload_n 3, 1) := by decide +kernel
theorem dX12_sizeOf_55 : decode cX12_sizeOf 55 = .ok (.ineg, 1) := by decide +kernel
theorem dX12_sizeOf_56 : decode cX12_sizeOf 56 = .ok (.goto 4, 3) := by decide +kernel
theorem dX12_sizeOf_59 : decode cX12_sizeOf 59 = .ok (.iload_n 3, 1) := by decide +kernel
theorem dX12_sizeOf_60 : decode cX12_sizeOf 60 = .ok (.ireturn, 1) := by decide +kernel
theorem dX12_ask_0 : decode cX12_ask 0 = .ok (.aload_n 0, 1) := by decide +kernel
theorem dX12_ask_1 : decode cX12_ask 1 = .ok (.iconst 0, 1) := by decide +kernel
theorem dX12_ask_2 : decode cX12_ask 2 = .ok (.putfield 44, 3) := by decide +kernel
theorem dX12_ask_5 : decode cX12_ask 5 = .ok (.aload_n 0, 1) := by decide +kernel
theorem dX12_ask_6 : decode cX12_ask 6 = .ok (.iload_n 1, 1) := by decide +kernel
theorem dX12_ask_7 : decode cX12_ask 7 = .ok (.invokevirtual 212, 3) := by decide +kernel
theorem dX12_ask_10 : decode cX12_ask 10 = .ok (.ifCond .eq 13, 3) := by decide +kernel
theorem dX12_ask_13 : decode cX12_ask 13 = .ok (.iload_n 2, 1) := by decide +kernel
theorem dX12_ask_14 : decode cX12_ask 14 = .ok (.i2l, 1) := by decide +kernel
theorem dX12_ask_15 : decode cX12_ask 15 = .ok (.lconst 0, 1) := by decide +kernel
theorem dX12_ask_16 : decode cX12_ask 16 = .ok (.lconst 1, 1) := by decide +kernel
theorem dX12_ask_17 : decode cX12_ask 17 = .ok (.invokestatic 54, 3) := by decide +kernel
theorem dX12_ask_20 : decode cX12_ask 20 = .ok (.ifCond .ne 6, 3) := by decide +kernel
theorem dX12_ask_23 : decode cX12_ask 23 = .ok (.ldc 64, 2) := by decide +kernel
theorem dX12_ask_25 : decode cX12_ask 25 = .ok (.ireturn, 1) := by decide +kernel
theorem dX12_ask_26 : decode cX12_ask 26 = .ok (.aload_n 0, 1) := by decide +kernel
theorem dX12_ask_27 : decode cX12_ask 27 = .ok (.iconst 0, 1) := by decide +kernel
theorem dX12_ask_28 : decode cX12_ask 28 = .ok (.putfield 234, 3) := by decide +kernel
theorem dX12_ask_31 : decode cX12_ask 31 = .ok (.iload_n 2, 1) := by decide +kernel
theorem dX12_ask_32 : decode cX12_ask 32 = .ok (.ifCond .ne 11, 3) := by decide +kernel
theorem dX12_ask_35 : decode cX12_ask 35 = .ok (.aload_n 0, 1) := by decide +kernel
theorem dX12_ask_36 : decode cX12_ask 36 = .ok (.iload_n 1, 1) := by decide +kernel
theorem dX12_ask_37 : decode cX12_ask 37 = .ok (.invokevirtual 249, 3) := by decide +kernel
theorem dX12_ask_40 : decode cX12_ask 40 = .ok (.goto 8, 3) := by decide +kernel
theorem dX12_ask_43 : decode cX12_ask 43 = .ok (.aload_n 0, 1) := by decide +kernel
theorem dX12_ask_44 : decode cX12_ask 44 = .ok (.iload_n 1, 1) := by decide +kernel
theorem dX12_ask_45 : decode cX12_ask 45 = .ok (.invokevirtual 246, 3) := by decide +kernel
theorem dX12_ask_48 : decode cX12_ask 48 = .ok (.ireturn, 1) := by decide +kernel
theorem dX12_trace_0 : decode cX12_trace 0 = .ok (.aload_n 0, 1) := by decide +kernel
theorem dX12_trace_1 : decode cX12_trace 1 = .ok (.iconst 0, 1) := by decide +kernel
theorem dX12_trace_2 : decode cX12_trace 2 = .ok (.putfield 44, 3) := by decide +kernel
theorem dX12_trace_5 : decode cX12_trace 5 = .ok (.iload_n 1, 1) := by decide +kernel
theorem dX12_trace_6 : decode cX12_trace 6 = .ok (.i2l, 1) := by decide +kernel
theorem dX12_trace_7 : decode cX12_trace 7 = .ok (.lconst 0, 1) := by decide +kernel
theorem dX12_trace_8 : decode cX12_trace 8 = .ok (.aload_n 0, 1) := by decide +kernel
theorem dX12_trace_9 : decode cX12_trace 9 = .ok (.getfield 234, 3) := by decide +kernel
theorem dX12_trace_12 : decode cX12_trace 12 = .ok (.iconst 1, 1) := by decide +kernel
theorem dX12_trace_13 : decode cX12_trace 13 = .ok (.isub, 1) := by decide +kernel
theorem dX12_trace_14 : decode cX12_trace 14 = .ok (.i2l, 1) := by decide +kernel
