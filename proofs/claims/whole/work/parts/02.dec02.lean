theorem dX11_posts_71 : decode cX11_posts 71 = .ok (.getfield 12, 3) := by decide +kernel
theorem dX11_posts_74 : decode cX11_posts 74 = .ok (.iload_n 1, 1) := by decide +kernel
theorem dX11_posts_75 : decode cX11_posts 75 = .ok (.iload_n 2, 1) := by decide +kernel
theorem dX11_posts_76 : decode cX11_posts 76 = .ok (.iload 5, 2) := by decide +kernel
theorem dX11_posts_78 : decode cX11_posts 78 = .ok (.iadd, 1) := by decide +kernel
theorem dX11_posts_79 : decode cX11_posts 79 = .ok (.invokevirtual 145, 3) := by decide +kernel
theorem dX11_posts_82 : decode cX11_posts 82 = .ok (.invokevirtual 137, 3) := by decide +kernel
theorem dX11_posts_85 : decode cX11_posts 85 = .ok (.iinc 5 1, 3) := by decide +kernel
theorem dX11_posts_88 : decode cX11_posts 88 = .ok (.goto (-47), 3) := by decide +kernel
theorem dX11_posts_91 : decode cX11_posts 91 = .ok (.aload_n 0, 1) := by decide +kernel
theorem dX11_posts_92 : decode cX11_posts 92 = .ok (.iload 5, 2) := by decide +kernel
theorem dX11_posts_94 : decode cX11_posts 94 = .ok (.invokevirtual 75, 3) := by decide +kernel
theorem dX11_posts_97 : decode cX11_posts 97 = .ok (.ireturn, 1) := by decide +kernel
theorem dX11_lots_0 : decode cX11_lots 0 = .ok (.aload_n 0, 1) := by decide +kernel
theorem dX11_lots_1 : decode cX11_lots 1 = .ok (.getfield 26, 3) := by decide +kernel
theorem dX11_lots_4 : decode cX11_lots 4 = .ok (.invokevirtual 123, 3) := by decide +kernel
theorem dX11_lots_7 : decode cX11_lots 7 = .ok (.ifCond .eq 6, 3) := by decide +kernel
theorem dX11_lots_10 : decode cX11_lots 10 = .ok (.ldc 127, 2) := by decide +kernel
theorem dX11_lots_12 : decode cX11_lots 12 = .ok (.ireturn, 1) := by decide +kernel
theorem dX11_lots_13 : decode cX11_lots 13 = .ok (.aload_n 0, 1) := by decide +kernel
theorem dX11_lots_14 : decode cX11_lots 14 = .ok (.getfield 26, 3) := by decide +kernel
theorem dX11_lots_17 : decode cX11_lots 17 = .ok (.iload_n 1, 1) := by decide +kernel
theorem dX11_lots_18 : decode cX11_lots 18 = .ok (.invokevirtual 128, 3) := by decide +kernel
theorem dX11_lots_21 : decode cX11_lots 21 = .ok (.ifCond .eq 14, 3) := by decide +kernel
theorem dX11_lots_24 : decode cX11_lots 24 = .ok (.iload_n 2, 1) := by decide +kernel
theorem dX11_lots_25 : decode cX11_lots 25 = .ok (.iconst 1, 1) := by decide +kernel
theorem dX11_lots_26 : decode cX11_lots 26 = .ok (.if_icmp .lt 9, 3) := by decide +kernel
theorem dX11_lots_29 : decode cX11_lots 29 = .ok (.iload_n 2, 1) := by decide +kernel
theorem dX11_lots_30 : decode cX11_lots 30 = .ok (.ldc 149, 2) := by decide +kernel
theorem dX11_lots_32 : decode cX11_lots 32 = .ok (.if_icmp .le 6, 3) := by decide +kernel
theorem dX11_lots_35 : decode cX11_lots 35 = .ok (.ldc 66, 2) := by decide +kernel
theorem dX11_lots_37 : decode cX11_lots 37 = .ok (.ireturn, 1) := by decide +kernel
theorem dX11_lots_38 : decode cX11_lots 38 = .ok (.aload_n 0, 1) := by decide +kernel
theorem dX11_lots_39 : decode cX11_lots 39 = .ok (.getfield 26, 3) := by decide +kernel
theorem dX11_lots_42 : decode cX11_lots 42 = .ok (.invokevirtual 134, 3) := by decide +kernel
theorem dX11_lots_45 : decode cX11_lots 45 = .ok (.sipush 9999, 3) := by decide +kernel
theorem dX11_lots_48 : decode cX11_lots 48 = .ok (.if_icmp .lt 6, 3) := by decide +kernel
theorem dX11_lots_51 : decode cX11_lots 51 = .ok (.ldc 107, 2) := by decide +kernel
theorem dX11_lots_53 : decode cX11_lots 53 = .ok (.ireturn, 1) := by decide +kernel
theorem dX11_lots_54 : decode cX11_lots 54 = .ok (.aload_n 0, 1) := by decide +kernel
theorem dX11_lots_55 : decode cX11_lots 55 = .ok (.aload_n 0, 1) := by decide +kernel
theorem dX11_lots_56 : decode cX11_lots 56 = .ok (.getfield 26, 3) := by decide +kernel
theorem dX11_lots_59 : decode cX11_lots 59 = .ok (.iload_n 1, 1) := by decide +kernel
theorem dX11_lots_60 : decode cX11_lots 60 = .ok (.iload_n 2, 1) := by decide +kernel
theorem dX11_lots_61 : decode cX11_lots 61 = .ok (.invokevirtual 150, 3) := by decide +kernel
theorem dX11_lots_64 : decode cX11_lots 64 = .ok (.invokevirtual 137, 3) := by decide +kernel
theorem dX11_lots_67 : decode cX11_lots 67 = .ok (.aload_n 0, 1) := by decide +kernel
theorem dX11_lots_68 : decode cX11_lots 68 = .ok (.getfield 26, 3) := by decide +kernel
theorem dX11_lots_71 : decode cX11_lots 71 = .ok (.invokevirtual 153, 3) := by decide +kernel
theorem dX11_lots_74 : decode cX11_lots 74 = .ok (.ireturn, 1) := by decide +kernel
theorem dX11_undo_0 : decode cX11_undo 0 = .ok (.aload_n 0, 1) := by decide +kernel
theorem dX11_undo_1 : decode cX11_undo 1 = .ok (.getfield 52, 3) := by decide +kernel
theorem dX11_undo_4 : decode cX11_undo 4 = .ok (.iconst 1, 1) := by decide +kernel
theorem dX11_undo_5 : decode cX11_undo 5 = .ok (.if_icmp .lt 15, 3) := by decide +kernel
theorem dX11_undo_8 : decode cX11_undo 8 = .ok (.aload_n 0, 1) := by decide +kernel
theorem dX11_undo_9 : decode cX11_undo 9 = .ok (.getfield 52, 3) := by decide +kernel
theorem dX11_undo_12 : decode cX11_undo 12 = .ok (.aload_n 0, 1) := by decide +kernel
theorem dX11_undo_13 : decode cX11_undo 13 = .ok (.getfield 48, 3) := by decide +kernel
theorem dX11_undo_16 : decode cX11_undo 16 = .ok (.arraylength, 1) := by decide +kernel
theorem dX11_undo_17 : decode cX11_undo 17 = .ok (.if_icmp .le 6, 3) := by decide +kernel
theorem dX11_undo_20 : decode cX11_undo 20 = .ok (.ldc 127, 2) := by decide +kernel
theorem dX11_undo_22 : decode cX11_undo 22 = .ok (.ireturn, 1) := by decide +kernel
theorem dX11_undo_23 : decode cX11_undo 23 = .ok (.aload_n 0, 1) := by decide +kernel
theorem dX11_undo_24 : decode cX11_undo 24 = .ok (.dup, 1) := by decide +kernel
theorem dX11_undo_25 : decode cX11_undo 25 = .ok (.getfield 52, 3) := by decide +kernel
theorem dX11_undo_28 : decode cX11_undo 28 = .ok (.iconst 1, 1) := by decide +kernel
theorem dX11_undo_29 : decode cX11_undo 29 = .ok (.isub, 1) := by decide +kernel
theorem dX11_undo_30 : decode cX11_undo 30 = .ok (.putfield 52, 3) := by decide +kernel
theorem dX11_undo_33 : decode cX11_undo 33 = .ok (.aload_n 0, 1) := by decide +kernel
theorem dX11_undo_34 : decode cX11_undo 34 = .ok (.getfield 26, 3) := by decide +kernel
theorem dX11_undo_37 : decode cX11_undo 37 = .ok (.aload_n 0, 1) := by decide +kernel
theorem dX11_undo_38 : decode cX11_undo 38 = .ok (.getfield 48, 3) := by decide +kernel
theorem dX11_undo_41 : decode cX11_undo 41 = .ok (.aload_n 0, 1) := by decide +kernel
theorem dX11_undo_42 : decode cX11_undo 42 = .ok (.getfield 52, 3) := by decide +kernel
theorem dX11_undo_45 : decode cX11_undo 45 = .ok (.iaload, 1) := by decide +kernel
theorem dX11_undo_46 : decode cX11_undo 46 = .ok (.invokevirtual 156, 3) := by decide +kernel
theorem dX11_undo_49 : decode cX11_undo 49 = .ok (.aload_n 0, 1) := by decide +kernel
theorem dX11_undo_50 : decode cX11_undo 50 = .ok (.getfield 52, 3) := by decide +kernel
theorem dX11_undo_53 : decode cX11_undo 53 = .ok (.ireturn, 1) := by decide +kernel
theorem dX11_person_0 : decode cX11_person 0 = .ok (.aload_n 0, 1) := by decide +kernel
theorem dX11_person_1 : decode cX11_person 1 = .ok (.getfield 26, 3) := by decide +kernel
theorem dX11_person_4 : decode cX11_person 4 = .ok (.iload_n 1, 1) := by decide +kernel
theorem dX11_person_5 : decode cX11_person 5 = .ok (.invokevirtual 159, 3) := by decide +kernel
theorem dX11_person_8 : decode cX11_person 8 = .ok (.astore_n 3, 1) := by decide +kernel
theorem dX11_person_9 : decode cX11_person 9 = .ok (.aload_n 3, 1) := by decide +kernel
theorem dX11_person_10 : decode cX11_person 10 = .ok (.ifnonnull 6, 3) := by decide +kernel
theorem dX11_person_13 : decode cX11_person 13 = .ok (.ldc 66, 2) := by decide +kernel
theorem dX11_person_15 : decode cX11_person 15 = .ok (.ireturn, 1) := by decide +kernel
theorem dX11_person_16 : decode cX11_person 16 = .ok (.iload_n 2, 1) := by decide +kernel
theorem dX11_person_17 : decode cX11_person 17 = .ok (.tableswitch 57 0 2 #[27, 32, 37], 27) := by decide +kernel
theorem dX11_person_44 : decode cX11_person 44 = .ok (.aload_n 3, 1) := by decide +kernel
theorem dX11_person_45 : decode cX11_person 45 = .ok (.getfield 163, 3) := by decide +kernel
theorem dX11_person_48 : decode cX11_person 48 = .ok (.ireturn, 1) := by decide +kernel
theorem dX11_person_49 : decode cX11_person 49 = .ok (.aload_n 3, 1) := by decide +kernel
theorem dX11_person_50 : decode cX11_person 50 = .ok (.getfield 168, 3) := by decide +kernel
theorem dX11_person_53 : decode cX11_person 53 = .ok (.ireturn, 1) := by decide +kernel
theorem dX11_person_54 : decode cX11_person 54 = .ok (.aload_n 0, 1) := by decide +kernel
theorem dX11_person_55 : decode cX11_person 55 = .ok (.getfield 26, 3) := by decide +kernel
theorem dX11_person_58 : decode cX11_person 58 = .ok (.invokevirtual 153, 3) := by decide +kernel
theorem dX11_person_61 : decode cX11_person 61 = .ok (.iload_n 1, 1) := by decide +kernel
theorem dX11_person_62 : decode cX11_person 62 = .ok (.invokestatic 171, 3) := by decide +kernel
theorem dX11_person_65 : decode cX11_person 65 = .ok (.ifCond .eq 7, 3) := by decide +kernel
theorem dX11_person_68 : decode cX11_person 68 = .ok (.iconst 1, 1) := by decide +kernel
theorem dX11_person_69 : decode cX11_person 69 = .ok (.goto 4, 3) := by decide +kernel
theorem dX11_person_72 : decode cX11_person 72 = .ok (.iconst 0, 1) := by decide +kernel
theorem dX11_person_73 : decode cX11_person 73 = .ok (.ireturn, 1) := by decide +kernel
theorem dX11_person_74 : decode cX11_person 74 = .ok (.ldc 66, 2) := by decide +kernel
theorem dX11_person_76 : decode cX11_person 76 = .ok (.ireturn, 1) := by decide +kernel
theorem dX11_done_0 : decode cX11_done 0 = .ok (.aload_n 0, 1) := by decide +kernel
theorem dX11_done_1 : decode cX11_done 1 = .ok (.getfield 26, 3) := by decide +kernel
theorem dX11_done_4 : decode cX11_done 4 = .ok (.invokevirtual 123, 3) := by decide +kernel
theorem dX11_done_7 : decode cX11_done 7 = .ok (.ifCond .eq 6, 3) := by decide +kernel
theorem dX11_done_10 : decode cX11_done 10 = .ok (.ldc 127, 2) := by decide +kernel
theorem dX11_done_12 : decode cX11_done 12 = .ok (.ireturn, 1) := by decide +kernel
theorem dX11_done_13 : decode cX11_done 13 = .ok (.aload_n 0, 1) := by decide +kernel
theorem dX11_done_14 : decode cX11_done 14 = .ok (.getfield 26, 3) := by decide +kernel
theorem dX11_done_17 : decode cX11_done 17 = .ok (.iload_n 1, 1) := by decide +kernel
theorem dX11_done_18 : decode cX11_done 18 = .ok (.invokevirtual 128, 3) := by decide +kernel
theorem dX11_done_21 : decode cX11_done 21 = .ok (.ifCond .eq 14, 3) := by decide +kernel
theorem dX11_done_24 : decode cX11_done 24 = .ok (.aload_n 0, 1) := by decide +kernel
theorem dX11_done_25 : decode cX11_done 25 = .ok (.getfield 26, 3) := by decide +kernel
theorem dX11_done_28 : decode cX11_done 28 = .ok (.iload_n 1, 1) := by decide +kernel
theorem dX11_done_29 : decode cX11_done 29 = .ok (.invokevirtual 174, 3) := by decide +kernel
theorem dX11_done_32 : decode cX11_done 32 = .ok (.goto 5, 3) := by decide +kernel
theorem dX11_done_35 : decode cX11_done 35 = .ok (.ldc 66, 2) := by decide +kernel
theorem dX11_done_37 : decode cX11_done 37 = .ok (.ireturn, 1) := by decide +kernel
theorem dX11_agreeing_0 : decode cX11_agreeing 0 = .ok (.aload_n 0, 1) := by decide +kernel
theorem dX11_agreeing_1 : decode cX11_agreeing 1 = .ok (.getfield 26, 3) := by decide +kernel
theorem dX11_agreeing_4 : decode cX11_agreeing 4 = .ok (.invokevirtual 123, 3) := by decide +kernel
theorem dX11_agreeing_7 : decode cX11_agreeing 7 = .ok (.ifCond .eq 6, 3) := by decide +kernel
theorem dX11_agreeing_10 : decode cX11_agreeing 10 = .ok (.ldc 127, 2) := by decide +kernel
theorem dX11_agreeing_12 : decode cX11_agreeing 12 = .ok (.ireturn, 1) := by decide +kernel
theorem dX11_agreeing_13 : decode cX11_agreeing 13 = .ok (.iload_n 1, 1) := by decide +kernel
theorem dX11_agreeing_14 : decode cX11_agreeing 14 = .ok (.iconst (-1), 1) := by decide +kernel
theorem dX11_agreeing_15 : decode cX11_agreeing 15 = .ok (.if_icmp .ge 6, 3) := by decide +kernel
theorem dX11_agreeing_18 : decode cX11_agreeing 18 = .ok (.ldc 66, 2) := by decide +kernel
theorem dX11_agreeing_20 : decode cX11_agreeing 20 = .ok (.ireturn, 1) := by decide +kernel
theorem dX11_agreeing_21 : decode cX11_agreeing 21 = .ok (.iload_n 1, 1) := by decide +kernel
theorem dX11_agreeing_22 : decode cX11_agreeing 22 = .ok (.iconst (-1), 1) := by decide +kernel
theorem dX11_agreeing_23 : decode cX11_agreeing 23 = .ok (.if_icmp .ne 17, 3) := by decide +kernel
theorem dX11_agreeing_26 : decode cX11_agreeing 26 = .ok (.aload_n 0, 1) := by decide +kernel
theorem dX11_agreeing_27 : decode cX11_agreeing 27 = .ok (.getfield 37, 3) := by decide +kernel
theorem dX11_agreeing_30 : decode cX11_agreeing 30 = .ok (.aload_n 0, 1) := by decide +kernel
theorem dX11_agreeing_31 : decode cX11_agreeing 31 = .ok (.getfield 26, 3) := by decide +kernel
theorem dX11_agreeing_34 : decode cX11_agreeing 34 = .ok (.invokevirtual 177, 3) := by decide +kernel
theorem dX11_agreeing_37 : decode cX11_agreeing 37 = .ok (.goto 15, 3) := by decide +kernel
theorem dX11_agreeing_40 : decode cX11_agreeing 40 = .ok (.aload_n 0, 1) := by decide +kernel
theorem dX11_agreeing_41 : decode cX11_agreeing 41 = .ok (.getfield 37, 3) := by decide +kernel
theorem dX11_agreeing_44 : decode cX11_agreeing 44 = .ok (.aload_n 0, 1) := by decide +kernel
theorem dX11_agreeing_45 : decode cX11_agreeing 45 = .ok (.getfield 26, 3) := by decide +kernel
theorem dX11_agreeing_48 : decode cX11_agreeing 48 = .ok (.iload_n 1, 1) := by decide +kernel
theorem dX11_agreeing_49 : decode cX11_agreeing 49 = .ok (.invokevirtual 181, 3) := by decide +kernel
theorem dX11_agreeing_52 : decode cX11_agreeing 52 = .ok (.ireturn, 1) := by decide +kernel
theorem dX11_fullest_0 : decode cX11_fullest 0 = .ok (.aload_n 0, 1) := by decide +kernel
theorem dX11_fullest_1 : decode cX11_fullest 1 = .ok (.getfield 26, 3) := by decide +kernel
theorem dX11_fullest_4 : decode cX11_fullest 4 = .ok (.invokevirtual 123, 3) := by decide +kernel
theorem dX11_fullest_7 : decode cX11_fullest 7 = .ok (.ifCond .eq 8, 3) := by decide +kernel
theorem dX11_fullest_10 : decode cX11_fullest 10 = .ok (.ldc 127, 2) := by decide +kernel
theorem dX11_fullest_12 : decode cX11_fullest 12 = .ok (.goto 14, 3) := by decide +kernel
theorem dX11_fullest_15 : decode cX11_fullest 15 = .ok (.aload_n 0, 1) := by decide +kernel
theorem dX11_fullest_16 : decode cX11_fullest 16 = .ok (.getfield 37, 3) := by decide +kernel
theorem dX11_fullest_19 : decode cX11_fullest 19 = .ok (.aload_n 0, 1) := by decide +kernel
theorem dX11_fullest_20 : decode cX11_fullest 20 = .ok (.getfield 26, 3) := by decide +kernel
theorem dX11_fullest_23 : decode cX11_fullest 23 = .ok (.invokevirtual 185, 3) := by decide +kernel
theorem dX11_fullest_26 : decode cX11_fullest 26 = .ok (.ireturn, 1) := by decide +kernel
theorem dX11_culprits_0 : decode cX11_culprits 0 = .ok (.aload_n 0, 1) := by decide +kernel
theorem dX11_culprits_1 : decode cX11_culprits 1 = .ok (.getfield 26, 3) := by decide +kernel
theorem dX11_culprits_4 : decode cX11_culprits 4 = .ok (.invokevirtual 123, 3) := by decide +kernel
theorem dX11_culprits_7 : decode cX11_culprits 7 = .ok (.ifCond .eq 6, 3) := by decide +kernel
theorem dX11_culprits_10 : decode cX11_culprits 10 = .ok (.ldc 127, 2) := by decide +kernel
theorem dX11_culprits_12 : decode cX11_culprits 12 = .ok (.ireturn, 1) := by decide +kernel
theorem dX11_culprits_13 : decode cX11_culprits 13 = .ok (.iload_n 1, 1) := by decide +kernel
theorem dX11_culprits_14 : decode cX11_culprits 14 = .ok (.lookupswitch 50 #[(0, 26), (1, 38)], 26) := by decide +kernel
theorem dX11_culprits_40 : decode cX11_culprits 40 = .ok (.aload_n 0, 1) := by decide +kernel
theorem dX11_culprits_41 : decode cX11_culprits 41 = .ok (.getfield 37, 3) := by decide +kernel
theorem dX11_culprits_44 : decode cX11_culprits 44 = .ok (.aload_n 0, 1) := by decide +kernel
theorem dX11_culprits_45 : decode cX11_culprits 45 = .ok (.getfield 26, 3) := by decide +kernel
theorem dX11_culprits_48 : decode cX11_culprits 48 = .ok (.invokevirtual 188, 3) := by decide +kernel
theorem dX11_culprits_51 : decode cX11_culprits 51 = .ok (.ireturn, 1) := by decide +kernel
theorem dX11_culprits_52 : decode cX11_culprits 52 = .ok (.aload_n 0, 1) := by decide +kernel
theorem dX11_culprits_53 : decode cX11_culprits 53 = .ok (.getfield 37, 3) := by decide +kernel
theorem dX11_culprits_56 : decode cX11_culprits 56 = .ok (.aload_n 0, 1) := by decide +kernel
theorem dX11_culprits_57 : decode cX11_culprits 57 = .ok (.getfield 26, 3) := by decide +kernel
theorem dX11_culprits_60 : decode cX11_culprits 60 = .ok (.invokevirtual 191, 3) := by decide +kernel
theorem dX11_culprits_63 : decode cX11_culprits 63 = .ok (.ireturn, 1) := by decide +kernel
theorem dX11_culprits_64 : decode cX11_culprits 64 = .ok (.ldc 66, 2) := by decide +kernel
theorem dX11_culprits_66 : decode cX11_culprits 66 = .ok (.ireturn, 1) := by decide +kernel
theorem dX11_chains_0 : decode cX11_chains 0 = .ok (.aload_n 0, 1) := by decide +kernel
theorem dX11_chains_1 : decode cX11_chains 1 = .ok (.getfield 26, 3) := by decide +kernel
theorem dX11_chains_4 : decode cX11_chains 4 = .ok (.invokevirtual 123, 3) := by decide +kernel
theorem dX11_chains_7 : decode cX11_chains 7 = .ok (.ifCond .eq 6, 3) := by decide +kernel
theorem dX11_chains_10 : decode cX11_chains 10 = .ok (.ldc 127, 2) := by decide +kernel
theorem dX11_chains_12 : decode cX11_chains 12 = .ok (.ireturn, 1) := by decide +kernel
theorem dX11_chains_13 : decode cX11_chains 13 = .ok (.iload_n 1, 1) := by decide +kernel
theorem dX11_chains_14 : decode cX11_chains 14 = .ok (.iconst 1, 1) := by decide +kernel
theorem dX11_chains_15 : decode cX11_chains 15 = .ok (.if_icmp .lt 13, 3) := by decide +kernel
theorem dX11_chains_18 : decode cX11_chains 18 = .ok (.iload_n 1, 1) := by decide +kernel
theorem dX11_chains_19 : decode cX11_chains 19 = .ok (.iconst 5, 1) := by decide +kernel
theorem dX11_chains_20 : decode cX11_chains 20 = .ok (.if_icmp .gt 8, 3) := by decide +kernel
theorem dX11_chains_23 : decode cX11_chains 23 = .ok (.iload_n 2, 1) := by decide +kernel
theorem dX11_chains_24 : decode cX11_chains 24 = .ok (.iconst (-1), 1) := by decide +kernel
theorem dX11_chains_25 : decode cX11_chains 25 = .ok (.if_icmp .ge 6, 3) := by decide +kernel
theorem dX11_chains_28 : decode cX11_chains 28 = .ok (.ldc 66, 2) := by decide +kernel
theorem dX11_chains_30 : decode cX11_chains 30 = .ok (.ireturn, 1) := by decide +kernel
theorem dX11_chains_31 : decode cX11_chains 31 = .ok (.aload_n 0, 1) := by decide +kernel
theorem dX11_chains_32 : decode cX11_chains 32 = .ok (.getfield 37, 3) := by decide +kernel
theorem dX11_chains_35 : decode cX11_chains 35 = .ok (.aload_n 0, 1) := by decide +kernel
theorem dX11_chains_36 : decode cX11_chains 36 = .ok (.getfield 26, 3) := by decide +kernel
theorem dX11_chains_39 : decode cX11_chains 39 = .ok (.iload_n 1, 1) := by decide +kernel
theorem dX11_chains_40 : decode cX11_chains 40 = .ok (.invokevirtual 194, 3) := by decide +kernel
theorem dX11_chains_43 : decode cX11_chains 43 = .ok (.istore_n 3, 1) := by decide +kernel
theorem dX11_chains_44 : decode cX11_chains 44 = .ok (.iload_n 2, 1) := by decide +kernel
theorem dX11_chains_45 : decode cX11_chains 45 = .ok (.iconst (-1), 1) := by decide +kernel
theorem dX11_chains_46 : decode cX11_chains 46 = .ok (.if_icmp .ne 5, 3) := by decide +kernel
theorem dX11_chains_49 : decode cX11_chains 49 = .ok (.iload_n 3, 1) := by decide +kernel
theorem dX11_chains_50 : decode cX11_chains 50 = .ok (.ireturn, 1) := by decide +kernel
theorem dX11_chains_51 : decode cX11_chains 51 = .ok (.iload_n 3, 1) := by decide +kernel
theorem dX11_chains_52 : decode cX11_chains 52 = .ok (.ifCond .eq 8, 3) := by decide +kernel
theorem dX11_chains_55 : decode cX11_chains 55 = .ok (.iload_n 2, 1) := by decide +kernel
theorem dX11_chains_56 : decode cX11_chains 56 = .ok (.iload_n 1, 1) := by decide +kernel
theorem dX11_chains_57 : decode cX11_chains 57 = .ok (.if_icmp .lt 8, 3) := by decide +kernel
theorem dX11_chains_60 : decode cX11_chains 60 = .ok (.ldc 197, 2) := by decide +kernel
theorem dX11_chains_62 : decode cX11_chains 62 = .ok (.goto 16, 3) := by decide +kernel
theorem dX11_chains_65 : decode cX11_chains 65 = .ok (.aload_n 0, 1) := by decide +kernel
theorem dX11_chains_66 : decode cX11_chains 66 = .ok (.getfield 37, 3) := by decide +kernel
theorem dX11_chains_69 : decode cX11_chains 69 = .ok (.aload_n 0, 1) := by decide +kernel
theorem dX11_chains_70 : decode cX11_chains 70 = .ok (.getfield 26, 3) := by decide +kernel
theorem dX11_chains_73 : decode cX11_chains 73 = .ok (.iload_n 1, 1) := by decide +kernel
theorem dX11_chains_74 : decode cX11_chains 74 = .ok (.iload_n 2, 1) := by decide +kernel
theorem dX11_chains_75 : decode cX11_chains 75 = .ok (.invokevirtual 198, 3) := by decide +kernel
theorem dX11_chains_78 : decode cX11_chains 78 = .ok (.ireturn, 1) := by decide +kernel
theorem dX11_breaks_0 : decode cX11_breaks 0 = .ok (.aload_n 0, 1) := by decide +kernel
theorem dX11_breaks_1 : decode cX11_breaks 1 = .ok (.iload_n 1, 1) := by decide +kernel
theorem dX11_breaks_2 : decode cX11_breaks 2 = .ok (.iload_n 2, 1) := by decide +kernel
theorem dX11_breaks_3 : decode cX11_breaks 3 = .ok (.iload_n 3, 1) := by decide +kernel
theorem dX11_breaks_4 : decode cX11_breaks 4 = .ok (.iconst 0, 1) := by decide +kernel
theorem dX11_breaks_5 : decode cX11_breaks 5 = .ok (.bipush 40, 2) := by decide +kernel
theorem dX11_breaks_7 : decode cX11_breaks 7 = .ok (.invokevirtual 141, 3) := by decide +kernel
theorem dX11_breaks_10 : decode cX11_breaks 10 = .ok (.istore 4, 2) := by decide +kernel
theorem dX11_breaks_12 : decode cX11_breaks 12 = .ok (.iload 4, 2) := by decide +kernel
theorem dX11_breaks_14 : decode cX11_breaks 14 = .ok (.ifCond .eq 6, 3) := by decide +kernel
theorem dX11_breaks_17 : decode cX11_breaks 17 = .ok (.iload 4, 2) := by decide +kernel
theorem dX11_breaks_19 : decode cX11_breaks 19 = .ok (.ireturn, 1) := by decide +kernel
theorem dX11_breaks_20 : decode cX11_breaks 20 = .ok (.aload_n 0, 1) := by decide +kernel
theorem dX11_breaks_21 : decode cX11_breaks 21 = .ok (.getfield 26, 3) := by decide +kernel
theorem dX11_breaks_24 : decode cX11_breaks 24 = .ok (.invokevirtual 153, 3) := by decide +kernel
theorem dX11_breaks_27 : decode cX11_breaks 27 = .ok (.istore 5, 2) := by decide +kernel
theorem dX11_breaks_29 : decode cX11_breaks 29 = .ok (.iconst 0, 1) := by decide +kernel
theorem dX11_breaks_30 : decode cX11_breaks 30 = .ok (.istore 6, 2) := by decide +kernel
theorem dX11_breaks_32 : decode cX11_breaks 32 = .ok (.iload 6, 2) := by decide +kernel
theorem dX11_breaks_34 : decode cX11_breaks 34 = .ok (.iload_n 3, 1) := by decide +kernel
theorem dX11_breaks_35 : decode cX11_breaks 35 = .ok (.if_icmp .ge 48, 3) := by decide +kernel
theorem dX11_breaks_38 : decode cX11_breaks 38 = .ok (.aload_n 0, 1) := by decide +kernel
theorem dX11_breaks_39 : decode cX11_breaks 39 = .ok (.getfield 12, 3) := by decide +kernel
theorem dX11_breaks_42 : decode cX11_breaks 42 = .ok (.iload_n 1, 1) := by decide +kernel
theorem dX11_breaks_43 : decode cX11_breaks 43 = .ok (.iload_n 2, 1) := by decide +kernel
theorem dX11_breaks_44 : decode cX11_breaks 44 = .ok (.iload 6, 2) := by decide +kernel
theorem dX11_breaks_46 : decode cX11_breaks 46 = .ok (.iadd, 1) := by decide +kernel
theorem dX11_breaks_47 : decode cX11_breaks 47 = .ok (.invokevirtual 145, 3) := by decide +kernel
theorem dX11_breaks_50 : decode cX11_breaks 50 = .ok (.istore 7, 2) := by decide +kernel
theorem dX11_breaks_52 : decode cX11_breaks 52 = .ok (.aload_n 0, 1) := by decide +kernel
theorem dX11_breaks_53 : decode cX11_breaks 53 = .ok (.getfield 26, 3) := by decide +kernel
theorem dX11_breaks_56 : decode cX11_breaks 56 = .ok (.iload 7, 2) := by decide +kernel
theorem dX11_breaks_58 : decode cX11_breaks 58 = .ok (.iload 5, 2) := by decide +kernel
theorem dX11_breaks_60 : decode cX11_breaks 60 = .ok (.invokevirtual 202, 3) := by decide +kernel
theorem dX11_breaks_63 : decode cX11_breaks 63 = .ok (.ifCond .ne 10, 3) := by decide +kernel
theorem dX11_breaks_66 : decode cX11_breaks 66 = .ok (.aload_n 0, 1) := by decide +kernel
theorem dX11_breaks_67 : decode cX11_breaks 67 = .ok (.iload 6, 2) := by decide +kernel
theorem dX11_breaks_69 : decode cX11_breaks 69 = .ok (.invokevirtual 75, 3) := by decide +kernel
theorem dX11_breaks_72 : decode cX11_breaks 72 = .ok (.ireturn, 1) := by decide +kernel
theorem dX11_breaks_73 : decode cX11_breaks 73 = .ok (.iload 7, 2) := by decide +kernel
theorem dX11_breaks_75 : decode cX11_breaks 75 = .ok (.istore 5, 2) := by decide +kernel
theorem dX11_breaks_77 : decode cX11_breaks 77 = .ok (.iinc 6 1, 3) := by decide +kernel
theorem dX11_breaks_80 : decode cX11_breaks 80 = .ok (.goto (-48), 3) := by decide +kernel
theorem dX11_breaks_83 : decode cX11_breaks 83 = .ok (.aload_n 0, 1) := by decide +kernel
theorem dX11_breaks_84 : decode cX11_breaks 84 = .ok (.ldc 197, 2) := by decide +kernel
theorem dX11_breaks_86 : decode cX11_breaks 86 = .ok (.invokevirtual 75, 3) := by decide +kernel
theorem dX11_breaks_89 : decode cX11_breaks 89 = .ok (.ireturn, 1) := by decide +kernel
theorem dX11_comes_0 : decode cX11_comes 0 = .ok (.aload_n 0, 1) := by decide +kernel
theorem dX11_comes_1 : decode cX11_comes 1 = .ok (.getfield 26, 3) := by decide +kernel
theorem dX11_comes_4 : decode cX11_comes 4 = .ok (.invokevirtual 123, 3) := by decide +kernel
theorem dX11_comes_7 : decode cX11_comes 7 = .ok (.ifCond .eq 6, 3) := by decide +kernel
theorem dX11_comes_10 : decode cX11_comes 10 = .ok (.ldc 127, 2) := by decide +kernel
theorem dX11_comes_12 : decode cX11_comes 12 = .ok (.ireturn, 1) := by decide +kernel
theorem dX11_comes_13 : decode cX11_comes 13 = .ok (.aload_n 0, 1) := by decide +kernel
theorem dX11_comes_14 : decode cX11_comes 14 = .ok (.getfield 26, 3) := by decide +kernel
theorem dX11_comes_17 : decode cX11_comes 17 = .ok (.iload_n 1, 1) := by decide +kernel
theorem dX11_comes_18 : decode cX11_comes 18 = .ok (.invokevirtual 128, 3) := by decide +kernel
theorem dX11_comes_21 : decode cX11_comes 21 = .ok (.ifCond .eq 23, 3) := by decide +kernel
theorem dX11_comes_24 : decode cX11_comes 24 = .ok (.aload_n 0, 1) := by decide +kernel
theorem dX11_comes_25 : decode cX11_comes 25 = .ok (.getfield 26, 3) := by decide +kernel
theorem dX11_comes_28 : decode cX11_comes 28 = .ok (.iload_n 2, 1) := by decide +kernel
theorem dX11_comes_29 : decode cX11_comes 29 = .ok (.invokevirtual 128, 3) := by decide +kernel
theorem dX11_comes_32 : decode cX11_comes 32 = .ok (.ifCond .eq 12, 3) := by decide +kernel
theorem dX11_comes_35 : decode cX11_comes 35 = .ok (.iload_n 3, 1) := by decide +kernel
theorem dX11_comes_36 : decode cX11_comes 36 = .ok (.ifCond .lt 8, 3) := by decide +kernel
theorem dX11_comes_39 : decode cX11_comes 39 = .ok (.iload_n 3, 1) := by decide +kernel
theorem dX11_comes_40 : decode cX11_comes 40 = .ok (.iconst 1, 1) := by decide +kernel
theorem dX11_comes_41 : decode cX11_comes 41 = .ok (.if_icmp .le 6, 3) := by decide +kernel
theorem dX11_comes_44 : decode cX11_comes 44 = .ok (.ldc 66, 2) := by decide +kernel
theorem dX11_comes_46 : decode cX11_comes 46 = .ok (.ireturn, 1) := by decide +kernel
theorem dX11_comes_47 : decode cX11_comes 47 = .ok (.aload_n 0, 1) := by decide +kernel
theorem dX11_comes_48 : decode cX11_comes 48 = .ok (.getfield 26, 3) := by decide +kernel
theorem dX11_comes_51 : decode cX11_comes 51 = .ok (.iload_n 1, 1) := by decide +kernel
theorem dX11_comes_52 : decode cX11_comes 52 = .ok (.iload_n 2, 1) := by decide +kernel
theorem dX11_comes_53 : decode cX11_comes 53 = .ok (.invokevirtual 205, 3) := by decide +kernel
theorem dX11_comes_56 : decode cX11_comes 56 = .ok (.istore 4, 2) := by decide +kernel
theorem dX11_comes_58 : decode cX11_comes 58 = .ok (.aload_n 0, 1) := by decide +kernel
theorem dX11_comes_59 : decode cX11_comes 59 = .ok (.getfield 26, 3) := by decide +kernel
theorem dX11_comes_62 : decode cX11_comes 62 = .ok (.invokevirtual 208, 3) := by decide +kernel
theorem dX11_comes_65 : decode cX11_comes 65 = .ok (.istore 5, 2) := by decide +kernel
theorem dX11_comes_67 : decode cX11_comes 67 = .ok (.iload 4, 2) := by decide +kernel
theorem dX11_comes_69 : decode cX11_comes 69 = .ok (.iload 5, 2) := by decide +kernel
theorem dX11_comes_71 : decode cX11_comes 71 = .ok (.invokestatic 211, 3) := by decide +kernel
theorem dX11_comes_74 : decode cX11_comes 74 = .ok (.istore 6, 2) := by decide +kernel
theorem dX11_comes_76 : decode cX11_comes 76 = .ok (.iload 6, 2) := by decide +kernel
theorem dX11_comes_78 : decode cX11_comes 78 = .ok (.iconst 1, 1) := by decide +kernel
theorem dX11_comes_79 : decode cX11_comes 79 = .ok (.if_icmp .ge 6, 3) := by decide +kernel
theorem dX11_comes_82 : decode cX11_comes 82 = .ok (.ldc 197, 2) := by decide +kernel
theorem dX11_comes_84 : decode cX11_comes 84 = .ok (.ireturn, 1) := by decide +kernel
theorem dX11_comes_85 : decode cX11_comes 85 = .ok (.iload_n 3, 1) := by decide +kernel
theorem dX11_comes_86 : decode cX11_comes 86 = .ok (.ifCond .ne 8, 3) := by decide +kernel
theorem dX11_comes_89 : decode cX11_comes 89 = .ok (.iload 4, 2) := by decide +kernel
theorem dX11_comes_91 : decode cX11_comes 91 = .ok (.goto 5, 3) := by decide +kernel
theorem dX11_comes_94 : decode cX11_comes 94 = .ok (.iload 5, 2) := by decide +kernel
theorem dX11_comes_96 : decode cX11_comes 96 = .ok (.iload 6, 2) := by decide +kernel
theorem dX11_comes_98 : decode cX11_comes 98 = .ok (.idiv, 1) := by decide +kernel
theorem dX11_comes_99 : decode cX11_comes 99 = .ok (.ireturn, 1) := by decide +kernel
theorem dX11_likeliest_0 : decode cX11_likeliest 0 = .ok (.aload_n 0, 1) := by decide +kernel
theorem dX11_likeliest_1 : decode cX11_likeliest 1 = .ok (.getfield 26, 3) := by decide +kernel
theorem dX11_likeliest_4 : decode cX11_likeliest 4 = .ok (.invokevirtual 123, 3) := by decide +kernel
theorem dX11_likeliest_7 : decode cX11_likeliest 7 = .ok (.ifCond .eq 8, 3) := by decide +kernel
theorem dX11_likeliest_10 : decode cX11_likeliest 10 = .ok (.ldc 127, 2) := by decide +kernel
theorem dX11_likeliest_12 : decode cX11_likeliest 12 = .ok (.goto 14, 3) := by decide +kernel
theorem dX11_likeliest_15 : decode cX11_likeliest 15 = .ok (.aload_n 0, 1) := by decide +kernel
theorem dX11_likeliest_16 : decode cX11_likeliest 16 = .ok (.getfield 37, 3) := by decide +kernel
theorem dX11_likeliest_19 : decode cX11_likeliest 19 = .ok (.aload_n 0, 1) := by decide +kernel
theorem dX11_likeliest_20 : decode cX11_likeliest 20 = .ok (.getfield 26, 3) := by decide +kernel
theorem dX11_likeliest_23 : decode cX11_likeliest 23 = .ok (.invokevirtual 214, 3) := by decide +kernel
theorem dX11_likeliest_26 : decode cX11_likeliest 26 = .ok (.ireturn, 1) := by decide +kernel
theorem dX11_lost_0 : decode cX11_lost 0 = .ok (.aload_n 0, 1) := by decide +kernel
theorem dX11_lost_1 : decode cX11_lost 1 = .ok (.getfield 26, 3) := by decide +kernel
theorem dX11_lost_4 : decode cX11_lost 4 = .ok (.invokevirtual 123, 3) := by decide +kernel
theorem dX11_lost_7 : decode cX11_lost 7 = .ok (.ifCond .eq 6, 3) := by decide +kernel
theorem dX11_lost_10 : decode cX11_lost 10 = .ok (.ldc 127, 2) := by decide +kernel
theorem dX11_lost_12 : decode cX11_lost 12 = .ok (.ireturn, 1) := by decide +kernel
theorem dX11_lost_13 : decode cX11_lost 13 = .ok (.aload_n 0, 1) := by decide +kernel
theorem dX11_lost_14 : decode cX11_lost 14 = .ok (.getfield 26, 3) := by decide +kernel
theorem dX11_lost_17 : decode cX11_lost 17 = .ok (.iload_n 1, 1) := by decide +kernel
theorem dX11_lost_18 : decode cX11_lost 18 = .ok (.invokevirtual 128, 3) := by decide +kernel
theorem dX11_lost_21 : decode cX11_lost 21 = .ok (.ifCond .eq 12, 3) := by decide +kernel
theorem dX11_lost_24 : decode cX11_lost 24 = .ok (.iload_n 2, 1) := by decide +kernel
theorem dX11_lost_25 : decode cX11_lost 25 = .ok (.ifCond .lt 8, 3) := by decide +kernel
theorem dX11_lost_28 : decode cX11_lost 28 = .ok (.iload_n 2, 1) := by decide +kernel
theorem dX11_lost_29 : decode cX11_lost 29 = .ok (.iconst 1, 1) := by decide +kernel
theorem dX11_lost_30 : decode cX11_lost 30 = .ok (.if_icmp .le 6, 3) := by decide +kernel
theorem dX11_lost_33 : decode cX11_lost 33 = .ok (.ldc 66, 2) := by decide +kernel
theorem dX11_lost_35 : decode cX11_lost 35 = .ok (.ireturn, 1) := by decide +kernel
theorem dX11_lost_36 : decode cX11_lost 36 = .ok (.iload_n 2, 1) := by decide +kernel
theorem dX11_lost_37 : decode cX11_lost 37 = .ok (.ifCond .ne 18, 3) := by decide +kernel
theorem dX11_lost_40 : decode cX11_lost 40 = .ok (.aload_n 0, 1) := by decide +kernel
theorem dX11_lost_41 : decode cX11_lost 41 = .ok (.getfield 37, 3) := by decide +kernel
theorem dX11_lost_44 : decode cX11_lost 44 = .ok (.aload_n 0, 1) := by decide +kernel
theorem dX11_lost_45 : decode cX11_lost 45 = .ok (.getfield 26, 3) := by decide +kernel
theorem dX11_lost_48 : decode cX11_lost 48 = .ok (.iload_n 1, 1) := by decide +kernel
theorem dX11_lost_49 : decode cX11_lost 49 = .ok (.invokevirtual 217, 3) := by decide +kernel
theorem dX11_lost_52 : decode cX11_lost 52 = .ok (.goto 15, 3) := by decide +kernel
theorem dX11_lost_55 : decode cX11_lost 55 = .ok (.aload_n 0, 1) := by decide +kernel
theorem dX11_lost_56 : decode cX11_lost 56 = .ok (.getfield 37, 3) := by decide +kernel
theorem dX11_lost_59 : decode cX11_lost 59 = .ok (.aload_n 0, 1) := by decide +kernel
theorem dX11_lost_60 : decode cX11_lost 60 = .ok (.getfield 26, 3) := by decide +kernel
theorem dX11_lost_63 : decode cX11_lost 63 = .ok (.iload_n 1, 1) := by decide +kernel
theorem dX11_lost_64 : decode cX11_lost 64 = .ok (.invokevirtual 220, 3) := by decide +kernel
theorem dX11_lost_67 : decode cX11_lost 67 = .ok (.ireturn, 1) := by decide +kernel
theorem dX11_readBy_0 : decode cX11_readBy 0 = .ok (.aload_n 0, 1) := by decide +kernel
theorem dX11_readBy_1 : decode cX11_readBy 1 = .ok (.getfield 26, 3) := by decide +kernel
theorem dX11_readBy_4 : decode cX11_readBy 4 = .ok (.invokevirtual 123, 3) := by decide +kernel
theorem dX11_readBy_7 : decode cX11_readBy 7 = .ok (.ifCond .eq 6, 3) := by decide +kernel
theorem dX11_readBy_10 : decode cX11_readBy 10 = .ok (.ldc 127, 2) := by decide +kernel
theorem dX11_readBy_12 : decode cX11_readBy 12 = .ok (.ireturn, 1) := by decide +kernel
theorem dX11_readBy_13 : decode cX11_readBy 13 = .ok (.aload_n 0, 1) := by decide +kernel
theorem dX11_readBy_14 : decode cX11_readBy 14 = .ok (.getfield 26, 3) := by decide +kernel
theorem dX11_readBy_17 : decode cX11_readBy 17 = .ok (.iload_n 1, 1) := by decide +kernel
theorem dX11_readBy_18 : decode cX11_readBy 18 = .ok (.invokevirtual 128, 3) := by decide +kernel
theorem dX11_readBy_21 : decode cX11_readBy 21 = .ok (.ifCond .eq 12, 3) := by decide +kernel
theorem dX11_readBy_24 : decode cX11_readBy 24 = .ok (.iload_n 2, 1) := by decide +kernel
theorem dX11_readBy_25 : decode cX11_readBy 25 = .ok (.ifCond .lt 8, 3) := by decide +kernel
theorem dX11_readBy_28 : decode cX11_readBy 28 = .ok (.iload_n 2, 1) := by decide +kernel
theorem dX11_readBy_29 : decode cX11_readBy 29 = .ok (.iconst 1, 1) := by decide +kernel
theorem dX11_readBy_30 : decode cX11_readBy 30 = .ok (.if_icmp .le 6, 3) := by decide +kernel
theorem dX11_readBy_33 : decode cX11_readBy 33 = .ok (.ldc 66, 2) := by decide +kernel
theorem dX11_readBy_35 : decode cX11_readBy 35 = .ok (.ireturn, 1) := by decide +kernel
theorem dX11_readBy_36 : decode cX11_readBy 36 = .ok (.iload_n 2, 1) := by decide +kernel
theorem dX11_readBy_37 : decode cX11_readBy 37 = .ok (.ifCond .ne 18, 3) := by decide +kernel
theorem dX11_readBy_40 : decode cX11_readBy 40 = .ok (.aload_n 0, 1) := by decide +kernel
theorem dX11_readBy_41 : decode cX11_readBy 41 = .ok (.getfield 37, 3) := by decide +kernel
theorem dX11_readBy_44 : decode cX11_readBy 44 = .ok (.aload_n 0, 1) := by decide +kernel
theorem dX11_readBy_45 : decode cX11_readBy 45 = .ok (.getfield 26, 3) := by decide +kernel
theorem dX11_readBy_48 : decode cX11_readBy 48 = .ok (.iload_n 1, 1) := by decide +kernel
theorem dX11_readBy_49 : decode cX11_readBy 49 = .ok (.invokevirtual 223, 3) := by decide +kernel
theorem dX11_readBy_52 : decode cX11_readBy 52 = .ok (.goto 15, 3) := by decide +kernel
theorem dX11_readBy_55 : decode cX11_readBy 55 = .ok (.aload_n 0, 1) := by decide +kernel
theorem dX11_readBy_56 : decode cX11_readBy 56 = .ok (.getfield 37, 3) := by decide +kernel
theorem dX11_readBy_59 : decode cX11_readBy 59 = .ok (.aload_n 0, 1) := by decide +kernel
theorem dX11_readBy_60 : decode cX11_readBy 60 = .ok (.getfield 26, 3) := by decide +kernel
theorem dX11_readBy_63 : decode cX11_readBy 63 = .ok (.iload_n 1, 1) := by decide +kernel
theorem dX11_readBy_64 : decode cX11_readBy 64 = .ok (.invokevirtual 226, 3) := by decide +kernel
theorem dX11_readBy_67 : decode cX11_readBy 67 = .ok (.ireturn, 1) := by decide +kernel
theorem dX11_image_0 : decode cX11_image 0 = .ok (.aload_n 0, 1) := by decide +kernel
theorem dX11_image_1 : decode cX11_image 1 = .ok (.iload_n 1, 1) := by decide +kernel
theorem dX11_image_2 : decode cX11_image 2 = .ok (.invokevirtual 229, 3) := by decide +kernel
theorem dX11_image_5 : decode cX11_image 5 = .ok (.astore_n 2, 1) := by decide +kernel
theorem dX11_image_6 : decode cX11_image 6 = .ok (.aload_n 2, 1) := by decide +kernel
theorem dX11_image_7 : decode cX11_image 7 = .ok (.ifnonnull 6, 3) := by decide +kernel
theorem dX11_image_10 : decode cX11_image 10 = .ok (.ldc 66, 2) := by decide +kernel
theorem dX11_image_12 : decode cX11_image 12 = .ok (.ireturn, 1) := by decide +kernel
theorem dX11_image_13 : decode cX11_image 13 = .ok (.aload_n 0, 1) := by decide +kernel
theorem dX11_image_14 : decode cX11_image 14 = .ok (.getfield 26, 3) := by decide +kernel
theorem dX11_image_17 : decode cX11_image 17 = .ok (.invokevirtual 123, 3) := by decide +kernel
theorem dX11_image_20 : decode cX11_image 20 = .ok (.ifCond .eq 6, 3) := by decide +kernel
theorem dX11_image_23 : decode cX11_image 23 = .ok (.ldc 127, 2) := by decide +kernel
theorem dX11_image_25 : decode cX11_image 25 = .ok (.ireturn, 1) := by decide +kernel
theorem dX11_image_26 : decode cX11_image 26 = .ok (.aload_n 2, 1) := by decide +kernel
theorem dX11_image_27 : decode cX11_image 27 = .ok (.aload_n 0, 1) := by decide +kernel
theorem dX11_image_28 : decode cX11_image 28 = .ok (.getfield 26, 3) := by decide +kernel
theorem dX11_image_31 : decode cX11_image 31 = .ok (.invokevirtual 233, 3) := by decide +kernel
theorem dX11_image_34 : decode cX11_image 34 = .ok (.iconst 1, 1) := by decide +kernel
theorem dX11_image_35 : decode cX11_image 35 = .ok (.ireturn, 1) := by decide +kernel
theorem dX11_restore_0 : decode cX11_restore 0 = .ok (.aload_n 0, 1) := by decide +kernel
theorem dX11_restore_1 : decode cX11_restore 1 = .ok (.iload_n 1, 1) := by decide +kernel
theorem dX11_restore_2 : decode cX11_restore 2 = .ok (.invokevirtual 229, 3) := by decide +kernel
theorem dX11_restore_5 : decode cX11_restore 5 = .ok (.astore_n 2, 1) := by decide +kernel
theorem dX11_restore_6 : decode cX11_restore 6 = .ok (.aload_n 2, 1) := by decide +kernel
theorem dX11_restore_7 : decode cX11_restore 7 = .ok (.ifnonnull 6, 3) := by decide +kernel
theorem dX11_restore_10 : decode cX11_restore 10 = .ok (.ldc 66, 2) := by decide +kernel
theorem dX11_restore_12 : decode cX11_restore 12 = .ok (.ireturn, 1) := by decide +kernel
theorem dX11_restore_13 : decode cX11_restore 13 = .ok (.aload_n 2, 1) := by decide +kernel
theorem dX11_restore_14 : decode cX11_restore 14 = .ok (.invokevirtual 123, 3) := by decide +kernel
theorem dX11_restore_17 : decode cX11_restore 17 = .ok (.ifCond .eq 6, 3) := by decide +kernel
theorem dX11_restore_20 : decode cX11_restore 20 = .ok (.ldc 127, 2) := by decide +kernel
theorem dX11_restore_22 : decode cX11_restore 22 = .ok (.ireturn, 1) := by decide +kernel
theorem dX11_restore_23 : decode cX11_restore 23 = .ok (.aload_n 0, 1) := by decide +kernel
theorem dX11_restore_24 : decode cX11_restore 24 = .ok (.getfield 26, 3) := by decide +kernel
theorem dX11_restore_27 : decode cX11_restore 27 = .ok (.aload_n 2, 1) := by decide +kernel
theorem dX11_restore_28 : decode cX11_restore 28 = .ok (.invokevirtual 233, 3) := by decide +kernel
theorem dX11_restore_31 : decode cX11_restore 31 = .ok (.aload_n 0, 1) := by decide +kernel
theorem dX11_restore_32 : decode cX11_restore 32 = .ok (.iconst 0, 1) := by decide +kernel
theorem dX11_restore_33 : decode cX11_restore 33 = .ok (.putfield 52, 3) := by decide +kernel
theorem dX11_restore_36 : decode cX11_restore 36 = .ok (.iconst 1, 1) := by decide +kernel
theorem dX11_restore_37 : decode cX11_restore 37 = .ok (.ireturn, 1) := by decide +kernel
theorem dX11_kind_0 : decode cX11_kind 0 = .ok (.aload_n 0, 1) := by decide +kernel
theorem dX11_kind_1 : decode cX11_kind 1 = .ok (.getfield 26, 3) := by decide +kernel
theorem dX11_kind_4 : decode cX11_kind 4 = .ok (.iload_n 1, 1) := by decide +kernel
theorem dX11_kind_5 : decode cX11_kind 5 = .ok (.invokevirtual 159, 3) := by decide +kernel
theorem dX11_kind_8 : decode cX11_kind 8 = .ok (.astore_n 2, 1) := by decide +kernel
theorem dX11_kind_9 : decode cX11_kind 9 = .ok (.aload_n 2, 1) := by decide +kernel
theorem dX11_kind_10 : decode cX11_kind 10 = .ok (.ifnonnull 8, 3) := by decide +kernel
theorem dX11_kind_13 : decode cX11_kind 13 = .ok (.ldc 66, 2) := by decide +kernel
theorem dX11_kind_15 : decode cX11_kind 15 = .ok (.goto 7, 3) := by decide +kernel
theorem dX11_kind_18 : decode cX11_kind 18 = .ok (.aload_n 2, 1) := by decide +kernel
theorem dX11_kind_19 : decode cX11_kind 19 = .ok (.invokevirtual 237, 3) := by decide +kernel
theorem dX11_kind_22 : decode cX11_kind 22 = .ok (.ireturn, 1) := by decide +kernel
theorem dX11_as_0 : decode cX11_as 0 = .ok (.aload_n 0, 1) := by decide +kernel
theorem dX11_as_1 : decode cX11_as 1 = .ok (.getfield 26, 3) := by decide +kernel
theorem dX11_as_4 : decode cX11_as 4 = .ok (.iload_n 1, 1) := by decide +kernel
theorem dX11_as_5 : decode cX11_as 5 = .ok (.invokevirtual 159, 3) := by decide +kernel
theorem dX11_as_8 : decode cX11_as 8 = .ok (.astore_n 3, 1) := by decide +kernel
theorem dX11_as_9 : decode cX11_as 9 = .ok (.aload_n 3, 1) := by decide +kernel
theorem dX11_as_10 : decode cX11_as 10 = .ok (.ifnull 12, 3) := by decide +kernel
theorem dX11_as_13 : decode cX11_as 13 = .ok (.iload_n 2, 1) := by decide +kernel
theorem dX11_as_14 : decode cX11_as 14 = .ok (.ifCond .lt 8, 3) := by decide +kernel
theorem dX11_as_17 : decode cX11_as 17 = .ok (.iload_n 2, 1) := by decide +kernel
theorem dX11_as_18 : decode cX11_as 18 = .ok (.iconst 5, 1) := by decide +kernel
theorem dX11_as_19 : decode cX11_as 19 = .ok (.if_icmp .le 6, 3) := by decide +kernel
theorem dX11_as_22 : decode cX11_as 22 = .ok (.ldc 66, 2) := by decide +kernel
theorem dX11_as_24 : decode cX11_as 24 = .ok (.ireturn, 1) := by decide +kernel
theorem dX11_as_25 : decode cX11_as 25 = .ok (.aload_n 3, 1) := by decide +kernel
theorem dX11_as_26 : decode cX11_as 26 = .ok (.iload_n 2, 1) := by decide +kernel
theorem dX11_as_27 : decode cX11_as 27 = .ok (.invokestatic 240, 3) := by decide +kernel
theorem dX11_as_30 : decode cX11_as 30 = .ok (.ifCond .eq 14, 3) := by decide +kernel
theorem dX11_as_33 : decode cX11_as 33 = .ok (.aload_n 0, 1) := by decide +kernel
theorem dX11_as_34 : decode cX11_as 34 = .ok (.aload_n 3, 1) := by decide +kernel
theorem dX11_as_35 : decode cX11_as 35 = .ok (.getfield 244, 3) := by decide +kernel
theorem dX11_as_38 : decode cX11_as 38 = .ok (.invokevirtual 75, 3) := by decide +kernel
theorem dX11_as_41 : decode cX11_as 41 = .ok (.goto 8, 3) := by decide +kernel
theorem dX11_as_44 : decode cX11_as 44 = .ok (.aload_n 0, 1) := by decide +kernel
theorem dX11_as_45 : decode cX11_as 45 = .ok (.iconst 3, 1) := by decide +kernel
theorem dX11_as_46 : decode cX11_as 46 = .ok (.invokevirtual 67, 3) := by decide +kernel
theorem dX11_as_49 : decode cX11_as 49 = .ok (.ireturn, 1) := by decide +kernel
theorem dX11_ask_0 : decode cX11_ask 0 = .ok (.aload_n 0, 1) := by decide +kernel
theorem dX11_ask_1 : decode cX11_ask 1 = .ok (.getfield 26, 3) := by decide +kernel
theorem dX11_ask_4 : decode cX11_ask 4 = .ok (.iload_n 1, 1) := by decide +kernel
theorem dX11_ask_5 : decode cX11_ask 5 = .ok (.invokevirtual 159, 3) := by decide +kernel
theorem dX11_ask_8 : decode cX11_ask 8 = .ok (.astore_n 3, 1) := by decide +kernel
theorem dX11_ask_9 : decode cX11_ask 9 = .ok (.aload_n 3, 1) := by decide +kernel
theorem dX11_ask_10 : decode cX11_ask 10 = .ok (.ifnull 12, 3) := by decide +kernel
theorem dX11_ask_13 : decode cX11_ask 13 = .ok (.iload_n 2, 1) := by decide +kernel
theorem dX11_ask_14 : decode cX11_ask 14 = .ok (.ifCond .lt 8, 3) := by decide +kernel
theorem dX11_ask_17 : decode cX11_ask 17 = .ok (.iload_n 2, 1) := by decide +kernel
theorem dX11_ask_18 : decode cX11_ask 18 = .ok (.iconst 1, 1) := by decide +kernel
theorem dX11_ask_19 : decode cX11_ask 19 = .ok (.if_icmp .le 6, 3) := by decide +kernel
theorem dX11_ask_22 : decode cX11_ask 22 = .ok (.ldc 66, 2) := by decide +kernel
theorem dX11_ask_24 : decode cX11_ask 24 = .ok (.ireturn, 1) := by decide +kernel
theorem dX11_ask_25 : decode cX11_ask 25 = .ok (.aload_n 0, 1) := by decide +kernel
theorem dX11_ask_26 : decode cX11_ask 26 = .ok (.getfield 44, 3) := by decide +kernel
theorem dX11_ask_29 : decode cX11_ask 29 = .ok (.invokevirtual 247, 3) := by decide +kernel
theorem dX11_ask_32 : decode cX11_ask 32 = .ok (.iload_n 2, 1) := by decide +kernel
theorem dX11_ask_33 : decode cX11_ask 33 = .ok (.ifCond .ne 14, 3) := by decide +kernel
theorem dX11_ask_36 : decode cX11_ask 36 = .ok (.aload_n 3, 1) := by decide +kernel
theorem dX11_ask_37 : decode cX11_ask 37 = .ok (.aload_n 0, 1) := by decide +kernel
theorem dX11_ask_38 : decode cX11_ask 38 = .ok (.getfield 44, 3) := by decide +kernel
theorem dX11_ask_41 : decode cX11_ask 41 = .ok (.invokevirtual 250, 3) := by decide +kernel
theorem dX11_ask_44 : decode cX11_ask 44 = .ok (.goto 11, 3) := by decide +kernel
theorem dX11_ask_47 : decode cX11_ask 47 = .ok (.aload_n 3, 1) := by decide +kernel
theorem dX11_ask_48 : decode cX11_ask 48 = .ok (.aload_n 0, 1) := by decide +kernel
theorem dX11_ask_49 : decode cX11_ask 49 = .ok (.getfield 44, 3) := by decide +kernel
theorem dX11_ask_52 : decode cX11_ask 52 = .ok (.invokevirtual 253, 3) := by decide +kernel
theorem dX11_ask_55 : decode cX11_ask 55 = .ok (.ireturn, 1) := by decide +kernel
theorem dX11_trace_0 : decode cX11_trace 0 = .ok (.aload_n 0, 1) := by decide +kernel
theorem dX11_trace_1 : decode cX11_trace 1 = .ok (.getfield 44, 3) := by decide +kernel
theorem dX11_trace_4 : decode cX11_trace 4 = .ok (.iload_n 1, 1) := by decide +kernel
theorem dX11_trace_5 : decode cX11_trace 5 = .ok (.invokevirtual 256, 3) := by decide +kernel
theorem dX11_trace_8 : decode cX11_trace 8 = .ok (.ireturn, 1) := by decide +kernel
theorem dX11_count_0 : decode cX11_count 0 = .ok (.iload_n 1, 1) := by decide +kernel
theorem dX11_count_1 : decode cX11_count 1 = .ok (.tableswitch 84 0 5 #[39, 47, 55, 63, 71, 76], 39) := by decide +kernel
theorem dX11_count_40 : decode cX11_count 40 = .ok (.aload_n 0, 1) := by decide +kernel
theorem dX11_count_41 : decode cX11_count 41 = .ok (.getfield 12, 3) := by decide +kernel
theorem dX11_count_44 : decode cX11_count 44 = .ok (.invokevirtual 259, 3) := by decide +kernel
theorem dX11_count_47 : decode cX11_count 47 = .ok (.ireturn, 1) := by decide +kernel
theorem dX11_count_48 : decode cX11_count 48 = .ok (.aload_n 0, 1) := by decide +kernel
theorem dX11_count_49 : decode cX11_count 49 = .ok (.getfield 26, 3) := by decide +kernel
theorem dX11_count_52 : decode cX11_count 52 = .ok (.invokevirtual 117, 3) := by decide +kernel
theorem dX11_count_55 : decode cX11_count 55 = .ok (.ireturn, 1) := by decide +kernel
theorem dX11_count_56 : decode cX11_count 56 = .ok (.aload_n 0, 1) := by decide +kernel
theorem dX11_count_57 : decode cX11_count 57 = .ok (.getfield 26, 3) := by decide +kernel
theorem dX11_count_60 : decode cX11_count 60 = .ok (.invokevirtual 134, 3) := by decide +kernel
theorem dX11_count_63 : decode cX11_count 63 = .ok (.ireturn, 1) := by decide +kernel
theorem dX11_count_64 : decode cX11_count 64 = .ok (.aload_n 0, 1) := by decide +kernel
theorem dX11_count_65 : decode cX11_count 65 = .ok (.getfield 26, 3) := by decide +kernel
theorem dX11_count_68 : decode cX11_count 68 = .ok (.invokevirtual 153, 3) := by decide +kernel
theorem dX11_count_71 : decode cX11_count 71 = .ok (.ireturn, 1) := by decide +kernel
theorem dX11_count_72 : decode cX11_count 72 = .ok (.aload_n 0, 1) := by decide +kernel
theorem dX11_count_73 : decode cX11_count 73 = .ok (.getfield 52, 3) := by decide +kernel
theorem dX11_count_76 : decode cX11_count 76 = .ok (.ireturn, 1) := by decide +kernel
theorem dX11_count_77 : decode cX11_count 77 = .ok (.aload_n 0, 1) := by decide +kernel
theorem dX11_count_78 : decode cX11_count 78 = .ok (.getfield 19, 3) := by decide +kernel
theorem dX11_count_81 : decode cX11_count 81 = .ok (.invokevirtual 262, 3) := by decide +kernel
theorem dX11_count_84 : decode cX11_count 84 = .ok (.ireturn, 1) := by decide +kernel
theorem dX11_count_85 : decode cX11_count 85 = .ok (.ldc 66, 2) := by decide +kernel
theorem dX11_count_87 : decode cX11_count 87 = .ok (.ireturn, 1) := by decide +kernel
theorem dX11_status_0 : decode cX11_status 0 = .ok (.aload_n 0, 1) := by decide +kernel
theorem dX11_status_1 : decode cX11_status 1 = .ok (.getfield 56, 3) := by decide +kernel
theorem dX11_status_4 : decode cX11_status 4 = .ok (.ireturn, 1) := by decide +kernel
theorem dX11_found_0 : decode cX11_found 0 = .ok (.aload_n 0, 1) := by decide +kernel
theorem dX11_found_1 : decode cX11_found 1 = .ok (.iload_n 1, 1) := by decide +kernel
theorem dX11_found_2 : decode cX11_found 2 = .ok (.putfield 56, 3) := by decide +kernel
theorem dX11_found_5 : decode cX11_found 5 = .ok (.ldc_w 263, 3) := by decide +kernel
theorem dX11_found_8 : decode cX11_found 8 = .ok (.iload_n 1, 1) := by decide +kernel
theorem dX11_found_9 : decode cX11_found 9 = .ok (.isub, 1) := by decide +kernel
theorem dX11_found_10 : decode cX11_found 10 = .ok (.ireturn, 1) := by decide +kernel
theorem dX11_fine_0 : decode cX11_fine 0 = .ok (.aload_n 0, 1) := by decide +kernel
theorem dX11_fine_1 : decode cX11_fine 1 = .ok (.iconst 0, 1) := by decide +kernel
theorem dX11_fine_2 : decode cX11_fine 2 = .ok (.putfield 56, 3) := by decide +kernel
theorem dX11_fine_5 : decode cX11_fine 5 = .ok (.iload_n 1, 1) := by decide +kernel
theorem dX11_fine_6 : decode cX11_fine 6 = .ok (.ireturn, 1) := by decide +kernel
theorem dX11_refusalOfLetters_0 : decode cX11_refusalOfLetters 0 = .ok (.aload_n 0, 1) := by decide +kernel
theorem dX11_refusalOfLetters_1 : decode cX11_refusalOfLetters 1 = .ok (.getfield 26, 3) := by decide +kernel
theorem dX11_refusalOfLetters_4 : decode cX11_refusalOfLetters 4 = .ok (.invokevirtual 123, 3) := by decide +kernel
theorem dX11_refusalOfLetters_7 : decode cX11_refusalOfLetters 7 = .ok (.ifCond .eq 6, 3) := by decide +kernel
theorem dX11_refusalOfLetters_10 : decode cX11_refusalOfLetters 10 = .ok (.ldc 127, 2) := by decide +kernel
theorem dX11_refusalOfLetters_12 : decode cX11_refusalOfLetters 12 = .ok (.ireturn, 1) := by decide +kernel
theorem dX11_refusalOfLetters_13 : decode cX11_refusalOfLetters 13 = .ok (.aload_n 0, 1) := by decide +kernel
theorem dX11_refusalOfLetters_14 : decode cX11_refusalOfLetters 14 = .ok (.getfield 12, 3) := by decide +kernel
theorem dX11_refusalOfLetters_17 : decode cX11_refusalOfLetters 17 = .ok (.iload_n 1, 1) := by decide +kernel
theorem dX11_refusalOfLetters_18 : decode cX11_refusalOfLetters 18 = .ok (.invokevirtual 59, 3) := by decide +kernel
theorem dX11_refusalOfLetters_21 : decode cX11_refusalOfLetters 21 = .ok (.ifCond .eq 15, 3) := by decide +kernel
theorem dX11_refusalOfLetters_24 : decode cX11_refusalOfLetters 24 = .ok (.iload_n 3, 1) := by decide +kernel
theorem dX11_refusalOfLetters_25 : decode cX11_refusalOfLetters 25 = .ok (.iload 4, 2) := by decide +kernel
theorem dX11_refusalOfLetters_27 : decode cX11_refusalOfLetters 27 = .ok (.if_icmp .lt 9, 3) := by decide +kernel
theorem dX11_refusalOfLetters_30 : decode cX11_refusalOfLetters 30 = .ok (.iload_n 3, 1) := by decide +kernel
theorem dX11_refusalOfLetters_31 : decode cX11_refusalOfLetters 31 = .ok (.iload 5, 2) := by decide +kernel
theorem dX11_refusalOfLetters_33 : decode cX11_refusalOfLetters 33 = .ok (.if_icmp .le 6, 3) := by decide +kernel
theorem dX11_refusalOfLetters_36 : decode cX11_refusalOfLetters 36 = .ok (.ldc 66, 2) := by decide +kernel
theorem dX11_refusalOfLetters_38 : decode cX11_refusalOfLetters 38 = .ok (.ireturn, 1) := by decide +kernel
theorem dX11_refusalOfLetters_39 : decode cX11_refusalOfLetters 39 = .ok (.aload_n 0, 1) := by decide +kernel
theorem dX11_refusalOfLetters_40 : decode cX11_refusalOfLetters 40 = .ok (.getfield 12, 3) := by decide +kernel
theorem dX11_refusalOfLetters_43 : decode cX11_refusalOfLetters 43 = .ok (.iload_n 1, 1) := by decide +kernel
theorem dX11_refusalOfLetters_44 : decode cX11_refusalOfLetters 44 = .ok (.invokevirtual 78, 3) := by decide +kernel
theorem dX11_refusalOfLetters_47 : decode cX11_refusalOfLetters 47 = .ok (.ifCond .eq 9, 3) := by decide +kernel
theorem dX11_refusalOfLetters_50 : decode cX11_refusalOfLetters 50 = .ok (.aload_n 0, 1) := by decide +kernel
theorem dX11_refusalOfLetters_51 : decode cX11_refusalOfLetters 51 = .ok (.iconst 1, 1) := by decide +kernel
theorem dX11_refusalOfLetters_52 : decode cX11_refusalOfLetters 52 = .ok (.invokevirtual 67, 3) := by decide +kernel
theorem dX11_refusalOfLetters_55 : decode cX11_refusalOfLetters 55 = .ok (.ireturn, 1) := by decide +kernel
theorem dX11_refusalOfLetters_56 : decode cX11_refusalOfLetters 56 = .ok (.aload_n 0, 1) := by decide +kernel
theorem dX11_refusalOfLetters_57 : decode cX11_refusalOfLetters 57 = .ok (.getfield 12, 3) := by decide +kernel
theorem dX11_refusalOfLetters_60 : decode cX11_refusalOfLetters 60 = .ok (.iload_n 1, 1) := by decide +kernel
theorem dX11_refusalOfLetters_61 : decode cX11_refusalOfLetters 61 = .ok (.iload_n 2, 1) := by decide +kernel
theorem dX11_refusalOfLetters_62 : decode cX11_refusalOfLetters 62 = .ok (.iload_n 3, 1) := by decide +kernel
theorem dX11_refusalOfLetters_63 : decode cX11_refusalOfLetters 63 = .ok (.invokevirtual 81, 3) := by decide +kernel
theorem dX11_refusalOfLetters_66 : decode cX11_refusalOfLetters 66 = .ok (.ifCond .ne 9, 3) := by decide +kernel
theorem dX11_refusalOfLetters_69 : decode cX11_refusalOfLetters 69 = .ok (.aload_n 0, 1) := by decide +kernel
theorem dX11_refusalOfLetters_70 : decode cX11_refusalOfLetters 70 = .ok (.iconst 2, 1) := by decide +kernel
theorem dX11_refusalOfLetters_71 : decode cX11_refusalOfLetters 71 = .ok (.invokevirtual 67, 3) := by decide +kernel
theorem dX11_refusalOfLetters_74 : decode cX11_refusalOfLetters 74 = .ok (.ireturn, 1) := by decide +kernel
theorem dX11_refusalOfLetters_75 : decode cX11_refusalOfLetters 75 = .ok (.iconst 0, 1) := by decide +kernel
theorem dX11_refusalOfLetters_76 : decode cX11_refusalOfLetters 76 = .ok (.istore 6, 2) := by decide +kernel
theorem dX11_refusalOfLetters_78 : decode cX11_refusalOfLetters 78 = .ok (.iload 6, 2) := by decide +kernel
theorem dX11_refusalOfLetters_80 : decode cX11_refusalOfLetters 80 = .ok (.iload_n 3, 1) := by decide +kernel
theorem dX11_refusalOfLetters_81 : decode cX11_refusalOfLetters 81 = .ok (.if_icmp .ge 34, 3) := by decide +kernel
theorem dX11_refusalOfLetters_84 : decode cX11_refusalOfLetters 84 = .ok (.aload_n 0, 1) := by decide +kernel
theorem dX11_refusalOfLetters_85 : decode cX11_refusalOfLetters 85 = .ok (.getfield 26, 3) := by decide +kernel
theorem dX11_refusalOfLetters_88 : decode cX11_refusalOfLetters 88 = .ok (.aload_n 0, 1) := by decide +kernel
theorem dX11_refusalOfLetters_89 : decode cX11_refusalOfLetters 89 = .ok (.getfield 12, 3) := by decide +kernel
theorem dX11_refusalOfLetters_92 : decode cX11_refusalOfLetters 92 = .ok (.iload_n 1, 1) := by decide +kernel
theorem dX11_refusalOfLetters_93 : decode cX11_refusalOfLetters 93 = .ok (.iload_n 2, 1) := by decide +kernel
theorem dX11_refusalOfLetters_94 : decode cX11_refusalOfLetters 94 = .ok (.iload 6, 2) := by decide +kernel
theorem dX11_refusalOfLetters_96 : decode cX11_refusalOfLetters 96 = .ok (.iadd, 1) := by decide +kernel
theorem dX11_refusalOfLetters_97 : decode cX11_refusalOfLetters 97 = .ok (.invokevirtual 145, 3) := by decide +kernel
theorem dX11_refusalOfLetters_100 : decode cX11_refusalOfLetters 100 = .ok (.invokevirtual 128, 3) := by decide +kernel
theorem dX11_refusalOfLetters_103 : decode cX11_refusalOfLetters 103 = .ok (.ifCond .ne 6, 3) := by decide +kernel
theorem dX11_refusalOfLetters_106 : decode cX11_refusalOfLetters 106 = .ok (.ldc 66, 2) := by decide +kernel
theorem dX11_refusalOfLetters_108 : decode cX11_refusalOfLetters 108 = .ok (.ireturn, 1) := by decide +kernel
theorem dX11_refusalOfLetters_109 : decode cX11_refusalOfLetters 109 = .ok (.iinc 6 1, 3) := by decide +kernel
theorem dX11_refusalOfLetters_112 : decode cX11_refusalOfLetters 112 = .ok (.goto (-34), 3) := by decide +kernel
theorem dX11_refusalOfLetters_115 : decode cX11_refusalOfLetters 115 = .ok (.iconst 0, 1) := by decide +kernel
theorem dX11_refusalOfLetters_116 : decode cX11_refusalOfLetters 116 = .ok (.ireturn, 1) := by decide +kernel
theorem dX11_act_0 : decode cX11_act 0 = .ok (.aload_n 0, 1) := by decide +kernel
theorem dX11_act_1 : decode cX11_act 1 = .ok (.getfield 52, 3) := by decide +kernel
theorem dX11_act_4 : decode cX11_act 4 = .ok (.aload_n 0, 1) := by decide +kernel
theorem dX11_act_5 : decode cX11_act 5 = .ok (.getfield 48, 3) := by decide +kernel
theorem dX11_act_8 : decode cX11_act 8 = .ok (.arraylength, 1) := by decide +kernel
theorem dX11_act_9 : decode cX11_act 9 = .ok (.if_icmp .lt 34, 3) := by decide +kernel
theorem dX11_act_12 : decode cX11_act 12 = .ok (.aload_n 0, 1) := by decide +kernel
theorem dX11_act_13 : decode cX11_act 13 = .ok (.getfield 48, 3) := by decide +kernel
theorem dX11_act_16 : decode cX11_act 16 = .ok (.iconst 1, 1) := by decide +kernel
theorem dX11_act_17 : decode cX11_act 17 = .ok (.aload_n 0, 1) := by decide +kernel
theorem dX11_act_18 : decode cX11_act 18 = .ok (.getfield 48, 3) := by decide +kernel
theorem dX11_act_21 : decode cX11_act 21 = .ok (.iconst 0, 1) := by decide +kernel
theorem dX11_act_22 : decode cX11_act 22 = .ok (.aload_n 0, 1) := by decide +kernel
theorem dX11_act_23 : decode cX11_act 23 = .ok (.getfield 48, 3) := by decide +kernel
theorem dX11_act_26 : decode cX11_act 26 = .ok (.arraylength, 1) := by decide +kernel
theorem dX11_act_27 : decode cX11_act 27 = .ok (.iconst 1, 1) := by decide +kernel
theorem dX11_act_28 : decode cX11_act 28 = .ok (.isub, 1) := by decide +kernel
theorem dX11_act_29 : decode cX11_act 29 = .ok (.invokestatic 264, 3) := by decide +kernel
theorem dX11_act_32 : decode cX11_act 32 = .ok (.aload_n 0, 1) := by decide +kernel
theorem dX11_act_33 : decode cX11_act 33 = .ok (.aload_n 0, 1) := by decide +kernel
theorem dX11_act_34 : decode cX11_act 34 = .ok (.getfield 48, 3) := by decide +kernel
theorem dX11_act_37 : decode cX11_act 37 = .ok (.arraylength, 1) := by decide +kernel
theorem dX11_act_38 : decode cX11_act 38 = .ok (.iconst 1, 1) := by decide +kernel
theorem dX11_act_39 : decode cX11_act 39 = .ok (.isub, 1) := by decide +kernel
theorem dX11_act_40 : decode cX11_act 40 = .ok (.putfield 52, 3) := by decide +kernel
theorem dX11_act_43 : decode cX11_act 43 = .ok (.aload_n 0, 1) := by decide +kernel
theorem dX11_act_44 : decode cX11_act 44 = .ok (.getfield 48, 3) := by decide +kernel
theorem dX11_act_47 : decode cX11_act 47 = .ok (.aload_n 0, 1) := by decide +kernel
theorem dX11_act_48 : decode cX11_act 48 = .ok (.getfield 52, 3) := by decide +kernel
theorem dX11_act_51 : decode cX11_act 51 = .ok (.aload_n 0, 1) := by decide +kernel
theorem dX11_act_52 : decode cX11_act 52 = .ok (.getfield 26, 3) := by decide +kernel
theorem dX11_act_55 : decode cX11_act 55 = .ok (.invokevirtual 153, 3) := by decide +kernel
theorem dX11_act_58 : decode cX11_act 58 = .ok (.iastore, 1) := by decide +kernel
theorem dX11_act_59 : decode cX11_act 59 = .ok (.aload_n 0, 1) := by decide +kernel
theorem dX11_act_60 : decode cX11_act 60 = .ok (.dup, 1) := by decide +kernel
theorem dX11_act_61 : decode cX11_act 61 = .ok (.getfield 52, 3) := by decide +kernel
theorem dX11_act_64 : decode cX11_act 64 = .ok (.iconst 1, 1) := by decide +kernel
theorem dX11_act_65 : decode cX11_act 65 = .ok (.iadd, 1) := by decide +kernel
theorem dX11_act_66 : decode cX11_act 66 = .ok (.putfield 52, 3) := by decide +kernel
theorem dX11_act_69 : decode cX11_act 69 = .ok (.aload_n 0, 1) := by decide +kernel
theorem dX11_act_70 : decode cX11_act 70 = .ok (.getfield 26, 3) := by decide +kernel
theorem dX11_act_73 : decode cX11_act 73 = .ok (.iload_n 1, 1) := by decide +kernel
theorem dX11_act_74 : decode cX11_act 74 = .ok (.invokevirtual 270, 3) := by decide +kernel
theorem dX11_act_77 : decode cX11_act 77 = .ok (.return_, 1) := by decide +kernel
theorem dX11_imageAt_0 : decode cX11_imageAt 0 = .ok (.iload_n 1, 1) := by decide +kernel
theorem dX11_imageAt_1 : decode cX11_imageAt 1 = .ok (.ifCond .lt 12, 3) := by decide +kernel
theorem dX11_imageAt_4 : decode cX11_imageAt 4 = .ok (.iload_n 1, 1) := by decide +kernel
theorem dX11_imageAt_5 : decode cX11_imageAt 5 = .ok (.aload_n 0, 1) := by decide +kernel
theorem dX11_imageAt_6 : decode cX11_imageAt 6 = .ok (.getfield 30, 3) := by decide +kernel
theorem dX11_imageAt_9 : decode cX11_imageAt 9 = .ok (.arraylength, 1) := by decide +kernel
theorem dX11_imageAt_10 : decode cX11_imageAt 10 = .ok (.if_icmp .lt 7, 3) := by decide +kernel
theorem dX11_imageAt_13 : decode cX11_imageAt 13 = .ok (.aconst_null, 1) := by decide +kernel
theorem dX11_imageAt_14 : decode cX11_imageAt 14 = .ok (.goto 9, 3) := by decide +kernel
theorem dX11_imageAt_17 : decode cX11_imageAt 17 = .ok (.aload_n 0, 1) := by decide +kernel
theorem dX11_imageAt_18 : decode cX11_imageAt 18 = .ok (.getfield 30, 3) := by decide +kernel
theorem dX11_imageAt_21 : decode cX11_imageAt 21 = .ok (.iload_n 1, 1) := by decide +kernel
theorem dX11_imageAt_22 : decode cX11_imageAt 22 = .ok (.aaload, 1) := by decide +kernel
theorem dX11_imageAt_23 : decode cX11_imageAt 23 = .ok (.areturn, 1) := by decide +kernel
theorem dX11_holds_0 : decode cX11_holds 0 = .ok (.iload_n 0, 1) := by decide +kernel
theorem dX11_holds_1 : decode cX11_holds 1 = .ok (.iload_n 1, 1) := by decide +kernel
theorem dX11_holds_2 : decode cX11_holds 2 = .ok (.ishr, 1) := by decide +kernel
theorem dX11_holds_3 : decode cX11_holds 3 = .ok (.iconst 1, 1) := by decide +kernel
theorem dX11_holds_4 : decode cX11_holds 4 = .ok (.iand, 1) := by decide +kernel
theorem dX11_holds_5 : decode cX11_holds 5 = .ok (.ifCond .eq 7, 3) := by decide +kernel
theorem dX11_holds_8 : decode cX11_holds 8 = .ok (.iconst 1, 1) := by decide +kernel
theorem dX11_holds_9 : decode cX11_holds 9 = .ok (.goto 4, 3) := by decide +kernel
theorem dX11_holds_12 : decode cX11_holds 12 = .ok (.iconst 0, 1) := by decide +kernel
theorem dX11_holds_13 : decode cX11_holds 13 = .ok (.ireturn, 1) := by decide +kernel
theorem dX11_isOf_0 : decode cX11_isOf 0 = .ok (.iload_n 1, 1) := by decide +kernel
theorem dX11_isOf_1 : decode cX11_isOf 1 = .ok (.tableswitch 66 0 5 #[39, 41, 46, 51, 56, 61], 39) := by decide +kernel
theorem dX11_isOf_40 : decode cX11_isOf 40 = .ok (.iconst 1, 1) := by decide +kernel
theorem dX11_isOf_41 : decode cX11_isOf 41 = .ok (.ireturn, 1) := by decide +kernel
theorem dX11_isOf_42 : decode cX11_isOf 42 = .ok (.aload_n 0, 1) := by decide +kernel
theorem dX11_isOf_43 : decode cX11_isOf 43 = .ok (.instanceof 273, 3) := by decide +kernel
theorem dX11_isOf_46 : decode cX11_isOf 46 = .ok (.ireturn, 1) := by decide +kernel
theorem dX11_isOf_47 : decode cX11_isOf 47 = .ok (.aload_n 0, 1) := by decide +kernel
theorem dX11_isOf_48 : decode cX11_isOf 48 = .ok (.instanceof 275, 3) := by decide +kernel
theorem dX11_isOf_51 : decode cX11_isOf 51 = .ok (.ireturn, 1) := by decide +kernel
theorem dX11_isOf_52 : decode cX11_isOf 52 = .ok (.aload_n 0, 1) := by decide +kernel
theorem dX11_isOf_53 : decode cX11_isOf 53 = .ok (.instanceof 277, 3) := by decide +kernel
theorem dX11_isOf_56 : decode cX11_isOf 56 = .ok (.ireturn, 1) := by decide +kernel
theorem dX11_isOf_57 : decode cX11_isOf 57 = .ok (.aload_n 0, 1) := by decide +kernel
theorem dX11_isOf_58 : decode cX11_isOf 58 = .ok (.instanceof 279, 3) := by decide +kernel
theorem dX11_isOf_61 : decode cX11_isOf 61 = .ok (.ireturn, 1) := by decide +kernel
theorem dX11_isOf_62 : decode cX11_isOf 62 = .ok (.aload_n 0, 1) := by decide +kernel
theorem dX11_isOf_63 : decode cX11_isOf 63 = .ok (.instanceof 281, 3) := by decide +kernel
theorem dX11_isOf_66 : decode cX11_isOf 66 = .ok (.ireturn, 1) := by decide +kernel
theorem dX11_isOf_67 : decode cX11_isOf 67 = .ok (.iconst 0, 1) := by decide +kernel
theorem dX11_isOf_68 : decode cX11_isOf 68 = .ok (.ireturn, 1) := by decide +kernel
theorem dX11_commonDivisor_0 : decode cX11_commonDivisor 0 = .ok (.iload_n 0, 1) := by decide +kernel
theorem dX11_commonDivisor_1 : decode cX11_commonDivisor 1 = .ok (.istore_n 2, 1) := by decide +kernel
theorem dX11_commonDivisor_2 : decode cX11_commonDivisor 2 = .ok (.iload_n 1, 1) := by decide +kernel
theorem dX11_commonDivisor_3 : decode cX11_commonDivisor 3 = .ok (.istore_n 3, 1) := by decide +kernel
theorem dX11_commonDivisor_4 : decode cX11_commonDivisor 4 = .ok (.iconst 0, 1) := by decide +kernel
theorem dX11_commonDivisor_5 : decode cX11_commonDivisor 5 = .ok (.istore 4, 2) := by decide +kernel
theorem dX11_commonDivisor_7 : decode cX11_commonDivisor 7 = .ok (.iload 4, 2) := by decide +kernel
theorem dX11_commonDivisor_9 : decode cX11_commonDivisor 9 = .ok (.bipush 64, 2) := by decide +kernel
theorem dX11_commonDivisor_11 : decode cX11_commonDivisor 11 = .ok (.if_icmp .ge 23, 3) := by decide +kernel
theorem dX11_commonDivisor_14 : decode cX11_commonDivisor 14 = .ok (.iload_n 3, 1) := by decide +kernel
theorem dX11_commonDivisor_15 : decode cX11_commonDivisor 15 = .ok (.ifCond .eq 19, 3) := by decide +kernel
theorem dX11_commonDivisor_18 : decode cX11_commonDivisor 18 = .ok (.iload_n 2, 1) := by decide +kernel
theorem dX11_commonDivisor_19 : decode cX11_commonDivisor 19 = .ok (.iload_n 3, 1) := by decide +kernel
theorem dX11_commonDivisor_20 : decode cX11_commonDivisor 20 = .ok (.irem, 1) := by decide +kernel
theorem dX11_commonDivisor_21 : decode cX11_commonDivisor 21 = .ok (.istore 5, 2) := by decide +kernel
theorem dX11_commonDivisor_23 : decode cX11_commonDivisor 23 = .ok (.iload_n 3, 1) := by decide +kernel
theorem dX11_commonDivisor_24 : decode cX11_commonDivisor 24 = .ok (.istore_n 2, 1) := by decide +kernel
theorem dX11_commonDivisor_25 : decode cX11_commonDivisor 25 = .ok (.iload 5, 2) := by decide +kernel
theorem dX11_commonDivisor_27 : decode cX11_commonDivisor 27 = .ok (.istore_n 3, 1) := by decide +kernel
theorem dX11_commonDivisor_28 : decode cX11_commonDivisor 28 = .ok (.iinc 4 1, 3) := by decide +kernel
theorem dX11_commonDivisor_31 : decode cX11_commonDivisor 31 = .ok (.goto (-24), 3) := by decide +kernel
theorem dX11_commonDivisor_34 : decode cX11_commonDivisor 34 = .ok (.iload_n 2, 1) := by decide +kernel
theorem dX11_commonDivisor_35 : decode cX11_commonDivisor 35 = .ok (.ireturn, 1) := by decide +kernel
theorem dX12_init_0 : decode cX12_init 0 = .ok (.aload_n 0, 1) := by decide +kernel
theorem dX12_init_1 : decode cX12_init 1 = .ok (.invokespecial 1, 3) := by decide +kernel
theorem dX12_init_4 : decode cX12_init 4 = .ok (.aload_n 0, 1) := by decide +kernel
theorem dX12_init_5 : decode cX12_init 5 = .ok (.bipush 8, 2) := by decide +kernel
theorem dX12_init_7 : decode cX12_init 7 = .ok (.newarray .int, 2) := by decide +kernel
theorem dX12_init_9 : decode cX12_init 9 = .ok (.dup, 1) := by decide +kernel
theorem dX12_init_10 : decode cX12_init 10 = .ok (.iconst 0, 1) := by decide +kernel
theorem dX12_init_11 : decode cX12_init 11 = .ok (.iconst (-1), 1) := by decide +kernel
theorem dX12_init_12 : decode cX12_init 12 = .ok (.iastore, 1) := by decide +kernel
theorem dX12_init_13 : decode cX12_init 13 = .ok (.dup, 1) := by decide +kernel
theorem dX12_init_14 : decode cX12_init 14 = .ok (.iconst 1, 1) := by decide +kernel
theorem dX12_init_15 : decode cX12_init 15 = .ok (.iconst (-1), 1) := by decide +kernel
theorem dX12_init_16 : decode cX12_init 16 = .ok (.iastore, 1) := by decide +kernel
theorem dX12_init_17 : decode cX12_init 17 = .ok (.dup, 1) := by decide +kernel
theorem dX12_init_18 : decode cX12_init 18 = .ok (.iconst 2, 1) := by decide +kernel
theorem dX12_init_19 : decode cX12_init 19 = .ok (.iconst (-1), 1) := by decide +kernel
theorem dX12_init_20 : decode cX12_init 20 = .ok (.iastore, 1) := by decide +kernel
theorem dX12_init_21 : decode cX12_init 21 = .ok (.dup, 1) := by decide +kernel
theorem dX12_init_22 : decode cX12_init 22 = .ok (.iconst 3, 1) := by decide +kernel
theorem dX12_init_23 : decode cX12_init 23 = .ok (.iconst (-1), 1) := by decide +kernel
theorem dX12_init_24 : decode cX12_init 24 = .ok (.iastore, 1) := by decide +kernel
theorem dX12_init_25 : decode cX12_init 25 = .ok (.dup, 1) := by decide +kernel
theorem dX12_init_26 : decode cX12_init 26 = .ok (.iconst 4, 1) := by decide +kernel
theorem dX12_init_27 : decode cX12_init 27 = .ok (.iconst (-1), 1) := by decide +kernel
theorem dX12_init_28 : decode cX12_init 28 = .ok (.iastore, 1) := by decide +kernel
theorem dX12_init_29 : decode cX12_init 29 = .ok (.dup, 1) := by decide +kernel
theorem dX12_init_30 : decode cX12_init 30 = .ok (.iconst 5, 1) := by decide +kernel
theorem dX12_init_31 : decode cX12_init 31 = .ok (.iconst (-1), 1) := by decide +kernel
theorem dX12_init_32 : decode cX12_init 32 = .ok (.iastore, 1) := by decide +kernel
theorem dX12_init_33 : decode cX12_init 33 = .ok (.dup, 1) := by decide +kernel
theorem dX12_init_34 : decode cX12_init 34 = .ok (.bipush 6, 2) := by decide +kernel
theorem dX12_init_36 : decode cX12_init 36 = .ok (.iconst (-1), 1) := by decide +kernel
theorem dX12_init_37 : decode cX12_init 37 = .ok (.iastore, 1) := by decide +kernel
theorem dX12_init_38 : decode cX12_init 38 = .ok (.dup, 1) := by decide +kernel
theorem dX12_init_39 : decode cX12_init 39 = .ok (.bipush 7, 2) := by decide +kernel
theorem dX12_init_41 : decode cX12_init 41 = .ok (.iconst (-1), 1) := by decide +kernel
theorem dX12_init_42 : decode cX12_init 42 = .ok (.iastore, 1) := by decide +kernel
theorem dX12_init_43 : decode cX12_init 43 = .ok (.putfield 7, 3) := by decide +kernel
theorem dX12_init_46 : decode cX12_init 46 = .ok (.aload_n 0, 1) := by decide +kernel
theorem dX12_init_47 : decode cX12_init 47 = .ok (.bipush 8, 2) := by decide +kernel
theorem dX12_init_49 : decode cX12_init 49 = .ok (.newarray .int, 2) := by decide +kernel
theorem dX12_init_51 : decode cX12_init 51 = .ok (.putfield 13, 3) := by decide +kernel
theorem dX12_init_54 : decode cX12_init 54 = .ok (.aload_n 0, 1) := by decide +kernel
theorem dX12_init_55 : decode cX12_init 55 = .ok (.sipush 320, 3) := by decide +kernel
theorem dX12_init_58 : decode cX12_init 58 = .ok (.newarray .int, 2) := by decide +kernel
theorem dX12_init_60 : decode cX12_init 60 = .ok (.putfield 16, 3) := by decide +kernel
theorem dX12_init_63 : decode cX12_init 63 = .ok (.aload_n 0, 1) := by decide +kernel
theorem dX12_init_64 : decode cX12_init 64 = .ok (.bipush 21, 2) := by decide +kernel
theorem dX12_init_66 : decode cX12_init 66 = .ok (.newarray .int, 2) := by decide +kernel
theorem dX12_init_68 : decode cX12_init 68 = .ok (.putfield 19, 3) := by decide +kernel
theorem dX12_init_71 : decode cX12_init 71 = .ok (.aload_n 0, 1) := by decide +kernel
theorem dX12_init_72 : decode cX12_init 72 = .ok (.bipush 21, 2) := by decide +kernel
theorem dX12_init_74 : decode cX12_init 74 = .ok (.newarray .int, 2) := by decide +kernel
theorem dX12_init_76 : decode cX12_init 76 = .ok (.putfield 22, 3) := by decide +kernel
theorem dX12_init_79 : decode cX12_init 79 = .ok (.aload_n 0, 1) := by decide +kernel
theorem dX12_init_80 : decode cX12_init 80 = .ok (.sipush 504, 3) := by decide +kernel
theorem dX12_init_83 : decode cX12_init 83 = .ok (.newarray .int, 2) := by decide +kernel
theorem dX12_init_85 : decode cX12_init 85 = .ok (.putfield 25, 3) := by decide +kernel
theorem dX12_init_88 : decode cX12_init 88 = .ok (.aload_n 0, 1) := by decide +kernel
theorem dX12_init_89 : decode cX12_init 89 = .ok (.sipush 300, 3) := by decide +kernel
theorem dX12_init_92 : decode cX12_init 92 = .ok (.newarray .int, 2) := by decide +kernel
theorem dX12_init_94 : decode cX12_init 94 = .ok (.putfield 28, 3) := by decide +kernel
theorem dX12_init_97 : decode cX12_init 97 = .ok (.aload_n 0, 1) := by decide +kernel
theorem dX12_init_98 : decode cX12_init 98 = .ok (.sipush 384, 3) := by decide +kernel
theorem dX12_init_101 : decode cX12_init 101 = .ok (.newarray .int, 2) := by decide +kernel
theorem dX12_init_103 : decode cX12_init 103 = .ok (.putfield 31, 3) := by decide +kernel
theorem dX12_init_106 : decode cX12_init 106 = .ok (.aload_n 0, 1) := by decide +kernel
theorem dX12_init_107 : decode cX12_init 107 = .ok (.iconst 2, 1) := by decide +kernel
theorem dX12_init_108 : decode cX12_init 108 = .ok (.newarray .boolean, 2) := by decide +kernel
theorem dX12_init_110 : decode cX12_init 110 = .ok (.putfield 34, 3) := by decide +kernel
theorem dX12_init_113 : decode cX12_init 113 = .ok (.aload_n 0, 1) := by decide +kernel
theorem dX12_init_114 : decode cX12_init 114 = .ok (.bipush 42, 2) := by decide +kernel
theorem dX12_init_116 : decode cX12_init 116 = .ok (.newarray .int, 2) := by decide +kernel
theorem dX12_init_118 : decode cX12_init 118 = .ok (.putfield 38, 3) := by decide +kernel
theorem dX12_init_121 : decode cX12_init 121 = .ok (.aload_n 0, 1) := by decide +kernel
theorem dX12_init_122 : decode cX12_init 122 = .ok (.bipush 16, 2) := by decide +kernel
theorem dX12_init_124 : decode cX12_init 124 = .ok (.newarray .int, 2) := by decide +kernel
theorem dX12_init_126 : decode cX12_init 126 = .ok (.putfield 41, 3) := by decide +kernel
theorem dX12_init_129 : decode cX12_init 129 = .ok (.return_, 1) := by decide +kernel
theorem dX12_in_0 : decode cX12_in 0 = .ok (.lload_n 0, 1) := by decide +kernel
theorem dX12_in_1 : decode cX12_in 1 = .ok (.lload_n 2, 1) := by decide +kernel
theorem dX12_in_2 : decode cX12_in 2 = .ok (.lcmp, 1) := by decide +kernel
theorem dX12_in_3 : decode cX12_in 3 = .ok (.ifCond .lt 14, 3) := by decide +kernel
theorem dX12_in_6 : decode cX12_in 6 = .ok (.lload_n 0, 1) := by decide +kernel
theorem dX12_in_7 : decode cX12_in 7 = .ok (.lload 4, 2) := by decide +kernel
theorem dX12_in_9 : decode cX12_in 9 = .ok (.lcmp, 1) := by decide +kernel
theorem dX12_in_10 : decode cX12_in 10 = .ok (.ifCond .gt 7, 3) := by decide +kernel
theorem dX12_in_13 : decode cX12_in 13 = .ok (.iconst 1, 1) := by decide +kernel
theorem dX12_in_14 : decode cX12_in 14 = .ok (.goto 4, 3) := by decide +kernel
theorem dX12_in_17 : decode cX12_in 17 = .ok (.iconst 0, 1) := by decide +kernel
theorem dX12_in_18 : decode cX12_in 18 = .ok (.ireturn, 1) := by decide +kernel
theorem dX12_finding_0 : decode cX12_finding 0 = .ok (.aload_n 0, 1) := by decide +kernel
theorem dX12_finding_1 : decode cX12_finding 1 = .ok (.iload_n 1, 1) := by decide +kernel
theorem dX12_finding_2 : decode cX12_finding 2 = .ok (.putfield 48, 3) := by decide +kernel
theorem dX12_finding_5 : decode cX12_finding 5 = .ok (.ldc 51, 2) := by decide +kernel
theorem dX12_finding_7 : decode cX12_finding 7 = .ok (.iload_n 1, 1) := by decide +kernel
theorem dX12_finding_8 : decode cX12_finding 8 = .ok (.isub, 1) := by decide +kernel
theorem dX12_finding_9 : decode cX12_finding 9 = .ok (.ireturn, 1) := by decide +kernel
theorem dX12_isRow_0 : decode cX12_isRow 0 = .ok (.iload_n 0, 1) := by decide +kernel
theorem dX12_isRow_1 : decode cX12_isRow 1 = .ok (.i2l, 1) := by decide +kernel
theorem dX12_isRow_2 : decode cX12_isRow 2 = .ok (.lconst 0, 1) := by decide +kernel
theorem dX12_isRow_3 : decode cX12_isRow 3 = .ok (.ldc2_w 52, 3) := by decide +kernel
theorem dX12_isRow_6 : decode cX12_isRow 6 = .ok (.invokestatic 54, 3) := by decide +kernel
theorem dX12_isRow_9 : decode cX12_isRow 9 = .ok (.ireturn, 1) := by decide +kernel
theorem dX12_row_0 : decode cX12_row 0 = .ok (.aload_n 0, 1) := by decide +kernel
theorem dX12_row_1 : decode cX12_row 1 = .ok (.iconst 0, 1) := by decide +kernel
theorem dX12_row_2 : decode cX12_row 2 = .ok (.putfield 44, 3) := by decide +kernel
theorem dX12_row_5 : decode cX12_row 5 = .ok (.iload_n 1, 1) := by decide +kernel
theorem dX12_row_6 : decode cX12_row 6 = .ok (.invokestatic 58, 3) := by decide +kernel
theorem dX12_row_9 : decode cX12_row 9 = .ok (.ifCond .eq 21, 3) := by decide +kernel
theorem dX12_row_12 : decode cX12_row 12 = .ok (.iload_n 2, 1) := by decide +kernel
theorem dX12_row_13 : decode cX12_row 13 = .ok (.i2l, 1) := by decide +kernel
theorem dX12_row_14 : decode cX12_row 14 = .ok (.lconst 0, 1) := by decide +kernel
theorem dX12_row_15 : decode cX12_row 15 = .ok (.ldc2_w 62, 3) := by decide +kernel
theorem dX12_row_18 : decode cX12_row 18 = .ok (.invokestatic 54, 3) := by decide +kernel
theorem dX12_row_21 : decode cX12_row 21 = .ok (.ifCond .eq 9, 3) := by decide +kernel
theorem dX12_row_24 : decode cX12_row 24 = .ok (.iload_n 3, 1) := by decide +kernel
theorem dX12_row_25 : decode cX12_row 25 = .ok (.bipush 40, 2) := by decide +kernel
theorem dX12_row_27 : decode cX12_row 27 = .ok (.if_icmp .le 6, 3) := by decide +kernel
theorem dX12_row_30 : decode cX12_row 30 = .ok (.ldc 64, 2) := by decide +kernel
theorem dX12_row_32 : decode cX12_row 32 = .ok (.ireturn, 1) := by decide +kernel
theorem dX12_row_33 : decode cX12_row 33 = .ok (.aload_n 0, 1) := by decide +kernel
theorem dX12_row_34 : decode cX12_row 34 = .ok (.iconst 0, 1) := by decide +kernel
theorem dX12_row_35 : decode cX12_row 35 = .ok (.putfield 48, 3) := by decide +kernel
theorem dX12_row_38 : decode cX12_row 38 = .ok (.iload_n 3, 1) := by decide +kernel
theorem dX12_row_39 : decode cX12_row 39 = .ok (.ifCond .ge 9, 3) := by decide +kernel
theorem dX12_row_42 : decode cX12_row 42 = .ok (.aload_n 0, 1) := by decide +kernel
theorem dX12_row_43 : decode cX12_row 43 = .ok (.iconst 4, 1) := by decide +kernel
theorem dX12_row_44 : decode cX12_row 44 = .ok (.invokevirtual 65, 3) := by decide +kernel
theorem dX12_row_47 : decode cX12_row 47 = .ok (.ireturn, 1) := by decide +kernel
theorem dX12_row_48 : decode cX12_row 48 = .ok (.aload_n 0, 1) := by decide +kernel
theorem dX12_row_49 : decode cX12_row 49 = .ok (.getfield 7, 3) := by decide +kernel
theorem dX12_row_52 : decode cX12_row 52 = .ok (.iload_n 1, 1) := by decide +kernel
theorem dX12_row_53 : decode cX12_row 53 = .ok (.iload_n 2, 1) := by decide +kernel
theorem dX12_row_54 : decode cX12_row 54 = .ok (.iastore, 1) := by decide +kernel
theorem dX12_row_55 : decode cX12_row 55 = .ok (.aload_n 0, 1) := by decide +kernel
theorem dX12_row_56 : decode cX12_row 56 = .ok (.getfield 13, 3) := by decide +kernel
theorem dX12_row_59 : decode cX12_row 59 = .ok (.iload_n 1, 1) := by decide +kernel
theorem dX12_row_60 : decode cX12_row 60 = .ok (.iload_n 3, 1) := by decide +kernel
theorem dX12_row_61 : decode cX12_row 61 = .ok (.iastore, 1) := by decide +kernel
theorem dX12_row_62 : decode cX12_row 62 = .ok (.iconst 0, 1) := by decide +kernel
theorem dX12_row_63 : decode cX12_row 63 = .ok (.istore 4, 2) := by decide +kernel
theorem dX12_row_65 : decode cX12_row 65 = .ok (.iload 4, 2) := by decide +kernel
theorem dX12_row_67 : decode cX12_row 67 = .ok (.bipush 40, 2) := by decide +kernel
theorem dX12_row_69 : decode cX12_row 69 = .ok (.if_icmp .ge 22, 3) := by decide +kernel
theorem dX12_row_72 : decode cX12_row 72 = .ok (.aload_n 0, 1) := by decide +kernel
theorem dX12_row_73 : decode cX12_row 73 = .ok (.getfield 16, 3) := by decide +kernel
theorem dX12_row_76 : decode cX12_row 76 = .ok (.bipush 40, 2) := by decide +kernel
theorem dX12_row_78 : decode cX12_row 78 = .ok (.iload_n 1, 1) := by decide +kernel
theorem dX12_row_79 : decode cX12_row 79 = .ok (.imul, 1) := by decide +kernel
theorem dX12_row_80 : decode cX12_row 80 = .ok (.iload 4, 2) := by decide +kernel
theorem dX12_row_82 : decode cX12_row 82 = .ok (.iadd, 1) := by decide +kernel
theorem dX12_row_83 : decode cX12_row 83 = .ok (.iconst 0, 1) := by decide +kernel
theorem dX12_row_84 : decode cX12_row 84 = .ok (.iastore, 1) := by decide +kernel
theorem dX12_row_85 : decode cX12_row 85 = .ok (.iinc 4 1, 3) := by decide +kernel
theorem dX12_row_88 : decode cX12_row 88 = .ok (.goto (-23), 3) := by decide +kernel
theorem dX12_row_91 : decode cX12_row 91 = .ok (.iload_n 3, 1) := by decide +kernel
theorem dX12_row_92 : decode cX12_row 92 = .ok (.ireturn, 1) := by decide +kernel
theorem dX12_set_0 : decode cX12_set 0 = .ok (.aload_n 0, 1) := by decide +kernel
theorem dX12_set_1 : decode cX12_set 1 = .ok (.iconst 0, 1) := by decide +kernel
theorem dX12_set_2 : decode cX12_set 2 = .ok (.putfield 44, 3) := by decide +kernel
theorem dX12_set_5 : decode cX12_set 5 = .ok (.iload_n 1, 1) := by decide +kernel
theorem dX12_set_6 : decode cX12_set 6 = .ok (.invokestatic 58, 3) := by decide +kernel
theorem dX12_set_9 : decode cX12_set 9 = .ok (.ifCond .ne 6, 3) := by decide +kernel
theorem dX12_set_12 : decode cX12_set 12 = .ok (.ldc 64, 2) := by decide +kernel
theorem dX12_set_14 : decode cX12_set 14 = .ok (.ireturn, 1) := by decide +kernel
theorem dX12_set_15 : decode cX12_set 15 = .ok (.aload_n 0, 1) := by decide +kernel
theorem dX12_set_16 : decode cX12_set 16 = .ok (.iconst 0, 1) := by decide +kernel
theorem dX12_set_17 : decode cX12_set 17 = .ok (.putfield 48, 3) := by decide +kernel
theorem dX12_set_20 : decode cX12_set 20 = .ok (.aload_n 0, 1) := by decide +kernel
theorem dX12_set_21 : decode cX12_set 21 = .ok (.getfield 7, 3) := by decide +kernel
theorem dX12_set_24 : decode cX12_set 24 = .ok (.iload_n 1, 1) := by decide +kernel
theorem dX12_set_25 : decode cX12_set 25 = .ok (.iaload, 1) := by decide +kernel
theorem dX12_set_26 : decode cX12_set 26 = .ok (.ifCond .ge 9, 3) := by decide +kernel
theorem dX12_set_29 : decode cX12_set 29 = .ok (.aload_n 0, 1) := by decide +kernel
theorem dX12_set_30 : decode cX12_set 30 = .ok (.iconst 1, 1) := by decide +kernel
theorem dX12_set_31 : decode cX12_set 31 = .ok (.invokevirtual 65, 3) := by decide +kernel
theorem dX12_set_34 : decode cX12_set 34 = .ok (.ireturn, 1) := by decide +kernel
theorem dX12_set_35 : decode cX12_set 35 = .ok (.iload_n 2, 1) := by decide +kernel
theorem dX12_set_36 : decode cX12_set 36 = .ok (.i2l, 1) := by decide +kernel
theorem dX12_set_37 : decode cX12_set 37 = .ok (.lconst 0, 1) := by decide +kernel
theorem dX12_set_38 : decode cX12_set 38 = .ok (.aload_n 0, 1) := by decide +kernel
theorem dX12_set_39 : decode cX12_set 39 = .ok (.getfield 13, 3) := by decide +kernel
theorem dX12_set_42 : decode cX12_set 42 = .ok (.iload_n 1, 1) := by decide +kernel
theorem dX12_set_43 : decode cX12_set 43 = .ok (.iaload, 1) := by decide +kernel
theorem dX12_set_44 : decode cX12_set 44 = .ok (.iconst 1, 1) := by decide +kernel
theorem dX12_set_45 : decode cX12_set 45 = .ok (.isub, 1) := by decide +kernel
theorem dX12_set_46 : decode cX12_set 46 = .ok (.i2l, 1) := by decide +kernel
theorem dX12_set_47 : decode cX12_set 47 = .ok (.invokestatic 54, 3) := by decide +kernel
theorem dX12_set_50 : decode cX12_set 50 = .ok (.ifCond .ne 9, 3) := by decide +kernel
theorem dX12_set_53 : decode cX12_set 53 = .ok (.aload_n 0, 1) := by decide +kernel
theorem dX12_set_54 : decode cX12_set 54 = .ok (.iconst 2, 1) := by decide +kernel
theorem dX12_set_55 : decode cX12_set 55 = .ok (.invokevirtual 65, 3) := by decide +kernel
theorem dX12_set_58 : decode cX12_set 58 = .ok (.ireturn, 1) := by decide +kernel
theorem dX12_set_59 : decode cX12_set 59 = .ok (.aload_n 0, 1) := by decide +kernel
theorem dX12_set_60 : decode cX12_set 60 = .ok (.getfield 16, 3) := by decide +kernel
theorem dX12_set_63 : decode cX12_set 63 = .ok (.bipush 40, 2) := by decide +kernel
theorem dX12_set_65 : decode cX12_set 65 = .ok (.iload_n 1, 1) := by decide +kernel
theorem dX12_set_66 : decode cX12_set 66 = .ok (.imul, 1) := by decide +kernel
theorem dX12_set_67 : decode cX12_set 67 = .ok (.iload_n 2, 1) := by decide +kernel
theorem dX12_set_68 : decode cX12_set 68 = .ok (.iadd, 1) := by decide +kernel
theorem dX12_set_69 : decode cX12_set 69 = .ok (.aload_n 0, 1) := by decide +kernel
theorem dX12_set_70 : decode cX12_set 70 = .ok (.getfield 7, 3) := by decide +kernel
theorem dX12_set_73 : decode cX12_set 73 = .ok (.iload_n 1, 1) := by decide +kernel
theorem dX12_set_74 : decode cX12_set 74 = .ok (.iaload, 1) := by decide +kernel
theorem dX12_set_75 : decode cX12_set 75 = .ok (.ifCond .ne 8, 3) := by decide +kernel
theorem dX12_set_78 : decode cX12_set 78 = .ok (.iload_n 3, 1) := by decide +kernel
theorem dX12_set_79 : decode cX12_set 79 = .ok (.i2b, 1) := by decide +kernel
theorem dX12_set_80 : decode cX12_set 80 = .ok (.goto 19, 3) := by decide +kernel
theorem dX12_set_83 : decode cX12_set 83 = .ok (.aload_n 0, 1) := by decide +kernel
theorem dX12_set_84 : decode cX12_set 84 = .ok (.getfield 7, 3) := by decide +kernel
theorem dX12_set_87 : decode cX12_set 87 = .ok (.iload_n 1, 1) := by decide +kernel
theorem dX12_set_88 : decode cX12_set 88 = .ok (.iaload, 1) := by decide +kernel
theorem dX12_set_89 : decode cX12_set 89 = .ok (.iconst 1, 1) := by decide +kernel
theorem dX12_set_90 : decode cX12_set 90 = .ok (.if_icmp .ne 8, 3) := by decide +kernel
theorem dX12_set_93 : decode cX12_set 93 = .ok (.iload_n 3, 1) := by decide +kernel
theorem dX12_set_94 : decode cX12_set 94 = .ok (.i2s, 1) := by decide +kernel
theorem dX12_set_95 : decode cX12_set 95 = .ok (.goto 4, 3) := by decide +kernel
theorem dX12_set_98 : decode cX12_set 98 = .ok (.iload_n 3, 1) := by decide +kernel
theorem dX12_set_99 : decode cX12_set 99 = .ok (.iastore, 1) := by decide +kernel
theorem dX12_set_100 : decode cX12_set 100 = .ok (.aload_n 0, 1) := by decide +kernel
theorem dX12_set_101 : decode cX12_set 101 = .ok (.getfield 16, 3) := by decide +kernel
theorem dX12_set_104 : decode cX12_set 104 = .ok (.bipush 40, 2) := by decide +kernel
theorem dX12_set_106 : decode cX12_set 106 = .ok (.iload_n 1, 1) := by decide +kernel
theorem dX12_set_107 : decode cX12_set 107 = .ok (.imul, 1) := by decide +kernel
theorem dX12_set_108 : decode cX12_set 108 = .ok (.iload_n 2, 1) := by decide +kernel
theorem dX12_set_109 : decode cX12_set 109 = .ok (.iadd, 1) := by decide +kernel
theorem dX12_set_110 : decode cX12_set 110 = .ok (.iaload, 1) := by decide +kernel
theorem dX12_set_111 : decode cX12_set 111 = .ok (.ireturn, 1) := by decide +kernel
theorem dX12_copy_0 : decode cX12_copy 0 = .ok (.aload_n 0, 1) := by decide +kernel
theorem dX12_copy_1 : decode cX12_copy 1 = .ok (.iconst 0, 1) := by decide +kernel
theorem dX12_copy_2 : decode cX12_copy 2 = .ok (.putfield 44, 3) := by decide +kernel
theorem dX12_copy_5 : decode cX12_copy 5 = .ok (.iload_n 1, 1) := by decide +kernel
theorem dX12_copy_6 : decode cX12_copy 6 = .ok (.invokestatic 58, 3) := by decide +kernel
theorem dX12_copy_9 : decode cX12_copy 9 = .ok (.ifCond .eq 10, 3) := by decide +kernel
theorem dX12_copy_12 : decode cX12_copy 12 = .ok (.iload_n 3, 1) := by decide +kernel
theorem dX12_copy_13 : decode cX12_copy 13 = .ok (.invokestatic 58, 3) := by decide +kernel
theorem dX12_copy_16 : decode cX12_copy 16 = .ok (.ifCond .ne 6, 3) := by decide +kernel
theorem dX12_copy_19 : decode cX12_copy 19 = .ok (.ldc 64, 2) := by decide +kernel
theorem dX12_copy_21 : decode cX12_copy 21 = .ok (.ireturn, 1) := by decide +kernel
theorem dX12_copy_22 : decode cX12_copy 22 = .ok (.aload_n 0, 1) := by decide +kernel
theorem dX12_copy_23 : decode cX12_copy 23 = .ok (.iconst 0, 1) := by decide +kernel
theorem dX12_copy_24 : decode cX12_copy 24 = .ok (.putfield 48, 3) := by decide +kernel
theorem dX12_copy_27 : decode cX12_copy 27 = .ok (.aload_n 0, 1) := by decide +kernel
theorem dX12_copy_28 : decode cX12_copy 28 = .ok (.getfield 7, 3) := by decide +kernel
theorem dX12_copy_31 : decode cX12_copy 31 = .ok (.iload_n 1, 1) := by decide +kernel
theorem dX12_copy_32 : decode cX12_copy 32 = .ok (.iaload, 1) := by decide +kernel
theorem dX12_copy_33 : decode cX12_copy 33 = .ok (.ifCond .lt 12, 3) := by decide +kernel
theorem dX12_copy_36 : decode cX12_copy 36 = .ok (.aload_n 0, 1) := by decide +kernel
theorem dX12_copy_37 : decode cX12_copy 37 = .ok (.getfield 7, 3) := by decide +kernel
theorem dX12_copy_40 : decode cX12_copy 40 = .ok (.iload_n 3, 1) := by decide +kernel
theorem dX12_copy_41 : decode cX12_copy 41 = .ok (.iaload, 1) := by decide +kernel
theorem dX12_copy_42 : decode cX12_copy 42 = .ok (.ifCond .ge 9, 3) := by decide +kernel
theorem dX12_copy_45 : decode cX12_copy 45 = .ok (.aload_n 0, 1) := by decide +kernel
theorem dX12_copy_46 : decode cX12_copy 46 = .ok (.iconst 1, 1) := by decide +kernel
theorem dX12_copy_47 : decode cX12_copy 47 = .ok (.invokevirtual 65, 3) := by decide +kernel
theorem dX12_copy_50 : decode cX12_copy 50 = .ok (.ireturn, 1) := by decide +kernel
theorem dX12_copy_51 : decode cX12_copy 51 = .ok (.aload_n 0, 1) := by decide +kernel
theorem dX12_copy_52 : decode cX12_copy 52 = .ok (.getfield 7, 3) := by decide +kernel
theorem dX12_copy_55 : decode cX12_copy 55 = .ok (.iload_n 1, 1) := by decide +kernel
theorem dX12_copy_56 : decode cX12_copy 56 = .ok (.iaload, 1) := by decide +kernel
theorem dX12_copy_57 : decode cX12_copy 57 = .ok (.aload_n 0, 1) := by decide +kernel
theorem dX12_copy_58 : decode cX12_copy 58 = .ok (.getfield 7, 3) := by decide +kernel
theorem dX12_copy_61 : decode cX12_copy 61 = .ok (.iload_n 3, 1) := by decide +kernel
theorem dX12_copy_62 : decode cX12_copy 62 = .ok (.iaload, 1) := by decide +kernel
theorem dX12_copy_63 : decode cX12_copy 63 = .ok (.if_icmp .eq 9, 3) := by decide +kernel
theorem dX12_copy_66 : decode cX12_copy 66 = .ok (.aload_n 0, 1) := by decide +kernel
theorem dX12_copy_67 : decode cX12_copy 67 = .ok (.iconst 5, 1) := by decide +kernel
theorem dX12_copy_68 : decode cX12_copy 68 = .ok (.invokevirtual 65, 3) := by decide +kernel
theorem dX12_copy_71 : decode cX12_copy 71 = .ok (.ireturn, 1) := by decide +kernel
theorem dX12_copy_72 : decode cX12_copy 72 = .ok (.iload_n 2, 1) := by decide +kernel
theorem dX12_copy_73 : decode cX12_copy 73 = .ok (.ifCond .lt 48, 3) := by decide +kernel
theorem dX12_copy_76 : decode cX12_copy 76 = .ok (.iload 4, 2) := by decide +kernel
theorem dX12_copy_78 : decode cX12_copy 78 = .ok (.ifCond .lt 43, 3) := by decide +kernel
theorem dX12_copy_81 : decode cX12_copy 81 = .ok (.iload 5, 2) := by decide +kernel
theorem dX12_copy_83 : decode cX12_copy 83 = .ok (.ifCond .lt 38, 3) := by decide +kernel
theorem dX12_copy_86 : decode cX12_copy 86 = .ok (.iload_n 2, 1) := by decide +kernel
theorem dX12_copy_87 : decode cX12_copy 87 = .ok (.i2l, 1) := by decide +kernel
theorem dX12_copy_88 : decode cX12_copy 88 = .ok (.iload 5, 2) := by decide +kernel
theorem dX12_copy_90 : decode cX12_copy 90 = .ok (.i2l, 1) := by decide +kernel
theorem dX12_copy_91 : decode cX12_copy 91 = .ok (.ladd, 1) := by decide +kernel
theorem dX12_copy_92 : decode cX12_copy 92 = .ok (.aload_n 0, 1) := by decide +kernel
theorem dX12_copy_93 : decode cX12_copy 93 = .ok (.getfield 13, 3) := by decide +kernel
theorem dX12_copy_96 : decode cX12_copy 96 = .ok (.iload_n 1, 1) := by decide +kernel
theorem dX12_copy_97 : decode cX12_copy 97 = .ok (.iaload, 1) := by decide +kernel
theorem dX12_copy_98 : decode cX12_copy 98 = .ok (.i2l, 1) := by decide +kernel
theorem dX12_copy_99 : decode cX12_copy 99 = .ok (.lcmp, 1) := by decide +kernel
theorem dX12_copy_100 : decode cX12_copy 100 = .ok (.ifCond .gt 21, 3) := by decide +kernel
theorem dX12_copy_103 : decode cX12_copy 103 = .ok (.iload 4, 2) := by decide +kernel
theorem dX12_copy_105 : decode cX12_copy 105 = .ok (.i2l, 1) := by decide +kernel
theorem dX12_copy_106 : decode cX12_copy 106 = .ok (.iload 5, 2) := by decide +kernel
theorem dX12_copy_108 : decode cX12_copy 108 = .ok (.i2l, 1) := by decide +kernel
theorem dX12_copy_109 : decode cX12_copy 109 = .ok (.ladd, 1) := by decide +kernel
theorem dX12_copy_110 : decode cX12_copy 110 = .ok (.aload_n 0, 1) := by decide +kernel
theorem dX12_copy_111 : decode cX12_copy 111 = .ok (.getfield 13, 3) := by decide +kernel
theorem dX12_copy_114 : decode cX12_copy 114 = .ok (.iload_n 3, 1) := by decide +kernel
theorem dX12_copy_115 : decode cX12_copy 115 = .ok (.iaload, 1) := by decide +kernel
theorem dX12_copy_116 : decode cX12_copy 116 = .ok (.i2l, 1) := by decide +kernel
theorem dX12_copy_117 : decode cX12_copy 117 = .ok (.lcmp, 1) := by decide +kernel
theorem dX12_copy_118 : decode cX12_copy 118 = .ok (.ifCond .le 9, 3) := by decide +kernel
theorem dX12_copy_121 : decode cX12_copy 121 = .ok (.aload_n 0, 1) := by decide +kernel
theorem dX12_copy_122 : decode cX12_copy 122 = .ok (.iconst 2, 1) := by decide +kernel
theorem dX12_copy_123 : decode cX12_copy 123 = .ok (.invokevirtual 65, 3) := by decide +kernel
theorem dX12_copy_126 : decode cX12_copy 126 = .ok (.ireturn, 1) := by decide +kernel
theorem dX12_copy_127 : decode cX12_copy 127 = .ok (.iload_n 2, 1) := by decide +kernel
theorem dX12_copy_128 : decode cX12_copy 128 = .ok (.iload 4, 2) := by decide +kernel
theorem dX12_copy_130 : decode cX12_copy 130 = .ok (.if_icmp .lt 7, 3) := by decide +kernel
theorem dX12_copy_133 : decode cX12_copy 133 = .ok (.iconst 1, 1) := by decide +kernel
theorem dX12_copy_134 : decode cX12_copy 134 = .ok (.goto 4, 3) := by decide +kernel
theorem dX12_copy_137 : decode cX12_copy 137 = .ok (.iconst 0, 1) := by decide +kernel
theorem dX12_copy_138 : decode cX12_copy 138 = .ok (.istore 6, 2) := by decide +kernel
theorem dX12_copy_140 : decode cX12_copy 140 = .ok (.iconst 0, 1) := by decide +kernel
theorem dX12_copy_141 : decode cX12_copy 141 = .ok (.istore 7, 2) := by decide +kernel
theorem dX12_copy_143 : decode cX12_copy 143 = .ok (.iload 7, 2) := by decide +kernel
theorem dX12_copy_145 : decode cX12_copy 145 = .ok (.iload 5, 2) := by decide +kernel
theorem dX12_copy_147 : decode cX12_copy 147 = .ok (.if_icmp .ge 57, 3) := by decide +kernel
theorem dX12_copy_150 : decode cX12_copy 150 = .ok (.iload 6, 2) := by decide +kernel
theorem dX12_copy_152 : decode cX12_copy 152 = .ok (.ifCond .eq 8, 3) := by decide +kernel
theorem dX12_copy_155 : decode cX12_copy 155 = .ok (.iload 7, 2) := by decide +kernel
theorem dX12_copy_157 : decode cX12_copy 157 = .ok (.goto 10, 3) := by decide +kernel
theorem dX12_copy_160 : decode cX12_copy 160 = .ok (.iload 5, 2) := by decide +kernel
theorem dX12_copy_162 : decode cX12_copy 162 = .ok (.iconst 1, 1) := by decide +kernel
theorem dX12_copy_163 : decode cX12_copy 163 = .ok (.isub, 1) := by decide +kernel
theorem dX12_copy_164 : decode cX12_copy 164 = .ok (.iload 7, 2) := by decide +kernel
theorem dX12_copy_166 : decode cX12_copy 166 = .ok (.isub, 1) := by decide +kernel
theorem dX12_copy_167 : decode cX12_copy 167 = .ok (.istore 8, 2) := by decide +kernel
theorem dX12_copy_169 : decode cX12_copy 169 = .ok (.aload_n 0, 1) := by decide +kernel
theorem dX12_copy_170 : decode cX12_copy 170 = .ok (.getfield 16, 3) := by decide +kernel
theorem dX12_copy_173 : decode cX12_copy 173 = .ok (.bipush 40, 2) := by decide +kernel
theorem dX12_copy_175 : decode cX12_copy 175 = .ok (.iload_n 3, 1) := by decide +kernel
theorem dX12_copy_176 : decode cX12_copy 176 = .ok (.imul, 1) := by decide +kernel
theorem dX12_copy_177 : decode cX12_copy 177 = .ok (.iload 4, 2) := by decide +kernel
theorem dX12_copy_179 : decode cX12_copy 179 = .ok (.iadd, 1) := by decide +kernel
theorem dX12_copy_180 : decode cX12_copy 180 = .ok (.iload 8, 2) := by decide +kernel
theorem dX12_copy_182 : decode cX12_copy 182 = .ok (.iadd, 1) := by decide +kernel
theorem dX12_copy_183 : decode cX12_copy 183 = .ok (.aload_n 0, 1) := by decide +kernel
theorem dX12_copy_184 : decode cX12_copy 184 = .ok (.getfield 16, 3) := by decide +kernel
theorem dX12_copy_187 : decode cX12_copy 187 = .ok (.bipush 40, 2) := by decide +kernel
theorem dX12_copy_189 : decode cX12_copy 189 = .ok (.iload_n 1, 1) := by decide +kernel
theorem dX12_copy_190 : decode cX12_copy 190 = .ok (.imul, 1) := by decide +kernel
theorem dX12_copy_191 : decode cX12_copy 191 = .ok (.iload_n 2, 1) := by decide +kernel
theorem dX12_copy_192 : decode cX12_copy 192 = .ok (.iadd, 1) := by decide +kernel
theorem dX12_copy_193 : decode cX12_copy 193 = .ok (.iload 8, 2) := by decide +kernel
theorem dX12_copy_195 : decode cX12_copy 195 = .ok (.iadd, 1) := by decide +kernel
theorem dX12_copy_196 : decode cX12_copy 196 = .ok (.iaload, 1) := by decide +kernel
theorem dX12_copy_197 : decode cX12_copy 197 = .ok (.iastore, 1) := by decide +kernel
theorem dX12_copy_198 : decode cX12_copy 198 = .ok (.iinc 7 1, 3) := by decide +kernel
theorem dX12_copy_201 : decode cX12_copy 201 = .ok (.goto (-58), 3) := by decide +kernel
theorem dX12_copy_204 : decode cX12_copy 204 = .ok (.iload 5, 2) := by decide +kernel
theorem dX12_copy_206 : decode cX12_copy 206 = .ok (.ireturn, 1) := by decide +kernel
theorem dX12_drop_0 : decode cX12_drop 0 = .ok (.aload_n 0, 1) := by decide +kernel
theorem dX12_drop_1 : decode cX12_drop 1 = .ok (.iconst 0, 1) := by decide +kernel
theorem dX12_drop_2 : decode cX12_drop 2 = .ok (.putfield 44, 3) := by decide +kernel
theorem dX12_drop_5 : decode cX12_drop 5 = .ok (.iload_n 1, 1) := by decide +kernel
theorem dX12_drop_6 : decode cX12_drop 6 = .ok (.invokestatic 58, 3) := by decide +kernel
theorem dX12_drop_9 : decode cX12_drop 9 = .ok (.ifCond .ne 6, 3) := by decide +kernel
theorem dX12_drop_12 : decode cX12_drop 12 = .ok (.ldc 64, 2) := by decide +kernel
theorem dX12_drop_14 : decode cX12_drop 14 = .ok (.ireturn, 1) := by decide +kernel
theorem dX12_drop_15 : decode cX12_drop 15 = .ok (.aload_n 0, 1) := by decide +kernel
theorem dX12_drop_16 : decode cX12_drop 16 = .ok (.iconst 0, 1) := by decide +kernel
theorem dX12_drop_17 : decode cX12_drop 17 = .ok (.putfield 48, 3) := by decide +kernel
theorem dX12_drop_20 : decode cX12_drop 20 = .ok (.aload_n 0, 1) := by decide +kernel
