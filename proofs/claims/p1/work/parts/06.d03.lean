theorem dX7_below_4 : decode cX7_below 4 = .ok (.aload_n 0, 1) := by decide +kernel
theorem dX7_below_5 : decode cX7_below 5 = .ok (.invokevirtual 146, 3) := by decide +kernel
theorem dX7_below_8 : decode cX7_below 8 = .ok (.istore_n 1, 1) := by decide +kernel
theorem dX7_below_9 : decode cX7_below 9 = .ok (.aload_n 0, 1) := by decide +kernel
theorem dX7_below_10 : decode cX7_below 10 = .ok (.getfield 100, 3) := by decide +kernel
theorem dX7_below_13 : decode cX7_below 13 = .ok (.ifCond .ne 16, 3) := by decide +kernel
theorem dX7_below_29 : decode cX7_below 29 = .ok (.aload_n 0, 1) := by decide +kernel
theorem dX7_below_30 : decode cX7_below 30 = .ok (.dup, 1) := by decide +kernel
theorem dX7_below_31 : decode cX7_below 31 = .ok (.getfield 94, 3) := by decide +kernel
theorem dX7_below_34 : decode cX7_below 34 = .ok (.iconst 1, 1) := by decide +kernel
theorem dX7_below_35 : decode cX7_below 35 = .ok (.iadd, 1) := by decide +kernel
theorem dX7_below_36 : decode cX7_below 36 = .ok (.putfield 94, 3) := by decide +kernel
theorem dX7_below_39 : decode cX7_below 39 = .ok (.aload_n 0, 1) := by decide +kernel
theorem dX7_below_40 : decode cX7_below 40 = .ok (.getfield 100, 3) := by decide +kernel
theorem dX7_below_43 : decode cX7_below 43 = .ok (.ifCond .eq 7, 3) := by decide +kernel
theorem dX7_below_46 : decode cX7_below 46 = .ok (.iconst 0, 1) := by decide +kernel
theorem dX7_below_47 : decode cX7_below 47 = .ok (.goto 7, 3) := by decide +kernel
theorem dX7_below_54 : decode cX7_below 54 = .ok (.istore_n 2, 1) := by decide +kernel
theorem dX7_below_55 : decode cX7_below 55 = .ok (.aload_n 0, 1) := by decide +kernel
theorem dX7_below_56 : decode cX7_below 56 = .ok (.getfield 100, 3) := by decide +kernel
theorem dX7_below_59 : decode cX7_below 59 = .ok (.ifCond .ne 15, 3) := by decide +kernel
theorem dX7_below_74 : decode cX7_below 74 = .ok (.aload_n 0, 1) := by decide +kernel
theorem dX7_below_75 : decode cX7_below 75 = .ok (.aload_n 0, 1) := by decide +kernel
theorem dX7_below_76 : decode cX7_below 76 = .ok (.getfield 100, 3) := by decide +kernel
theorem dX7_below_79 : decode cX7_below 79 = .ok (.iconst 0, 1) := by decide +kernel
theorem dX7_below_80 : decode cX7_below 80 = .ok (.invokevirtual 84, 3) := by decide +kernel
theorem dX7_below_83 : decode cX7_below 83 = .ok (.ifCond .eq 5, 3) := by decide +kernel
theorem dX7_below_86 : decode cX7_below 86 = .ok (.iconst 0, 1) := by decide +kernel
theorem dX7_below_87 : decode cX7_below 87 = .ok (.ireturn, 1) := by decide +kernel
theorem dX7_place_0 : decode cX7_place 0 = .ok (.aload_n 0, 1) := by decide +kernel
theorem dX7_place_1 : decode cX7_place 1 = .ok (.iconst 0, 1) := by decide +kernel
theorem dX7_place_2 : decode cX7_place 2 = .ok (.putfield 78, 3) := by decide +kernel
theorem dX7_place_5 : decode cX7_place 5 = .ok (.aload_n 0, 1) := by decide +kernel
theorem dX7_place_6 : decode cX7_place 6 = .ok (.getfield 13, 3) := by decide +kernel
theorem dX7_place_9 : decode cX7_place 9 = .ok (.ireturn, 1) := by decide +kernel
theorem dX7_size_0 : decode cX7_size 0 = .ok (.aload_n 0, 1) := by decide +kernel
theorem dX7_size_1 : decode cX7_size 1 = .ok (.iconst 0, 1) := by decide +kernel
theorem dX7_size_2 : decode cX7_size 2 = .ok (.putfield 78, 3) := by decide +kernel
theorem dX7_size_5 : decode cX7_size 5 = .ok (.aload_n 0, 1) := by decide +kernel
theorem dX7_size_6 : decode cX7_size 6 = .ok (.getfield 164, 3) := by decide +kernel
theorem dX7_size_9 : decode cX7_size 9 = .ok (.ireturn, 1) := by decide +kernel
theorem dX7_unknowns_0 : decode cX7_unknowns 0 = .ok (.aload_n 0, 1) := by decide +kernel
theorem dX7_unknowns_1 : decode cX7_unknowns 1 = .ok (.iconst 0, 1) := by decide +kernel
theorem dX7_unknowns_2 : decode cX7_unknowns 2 = .ok (.putfield 78, 3) := by decide +kernel
theorem dX7_unknowns_5 : decode cX7_unknowns 5 = .ok (.aload_n 0, 1) := by decide +kernel
theorem dX7_unknowns_6 : decode cX7_unknowns 6 = .ok (.getfield 152, 3) := by decide +kernel
theorem dX7_unknowns_9 : decode cX7_unknowns 9 = .ok (.ireturn, 1) := by decide +kernel
theorem dX7_solved_0 : decode cX7_solved 0 = .ok (.aload_n 0, 1) := by decide +kernel
theorem dX7_solved_1 : decode cX7_solved 1 = .ok (.iconst 0, 1) := by decide +kernel
theorem dX7_solved_2 : decode cX7_solved 2 = .ok (.putfield 78, 3) := by decide +kernel
theorem dX7_solved_5 : decode cX7_solved 5 = .ok (.aload_n 0, 1) := by decide +kernel
theorem dX7_solved_6 : decode cX7_solved 6 = .ok (.getfield 155, 3) := by decide +kernel
theorem dX7_solved_9 : decode cX7_solved 9 = .ok (.ireturn, 1) := by decide +kernel
theorem dX7_out_0 : decode cX7_out 0 = .ok (.aload_n 0, 1) := by decide +kernel
theorem dX7_out_1 : decode cX7_out 1 = .ok (.iload_n 1, 1) := by decide +kernel
theorem dX7_out_2 : decode cX7_out 2 = .ok (.ifCond .lt 11, 3) := by decide +kernel
theorem dX7_out_13 : decode cX7_out 13 = .ok (.iconst 1, 1) := by decide +kernel
theorem dX7_out_14 : decode cX7_out 14 = .ok (.goto 4, 3) := by decide +kernel
theorem dX7_out_18 : decode cX7_out 18 = .ok (.iconst 0, 1) := by decide +kernel
theorem dX7_out_19 : decode cX7_out 19 = .ok (.invokevirtual 84, 3) := by decide +kernel
theorem dX7_out_22 : decode cX7_out 22 = .ok (.ifCond .eq 5, 3) := by decide +kernel
theorem dX7_out_25 : decode cX7_out 25 = .ok (.iconst 0, 1) := by decide +kernel
theorem dX7_out_26 : decode cX7_out 26 = .ok (.ireturn, 1) := by decide +kernel
theorem dX7_out_5 : decode cX7_out 5 = .ok (.iload_n 1, 1) := by decide +kernel
theorem dX7_out_6 : decode cX7_out 6 = .ok (.aload_n 0, 1) := by decide +kernel
theorem dX7_out_7 : decode cX7_out 7 = .ok (.getfield 164, 3) := by decide +kernel
theorem dX7_out_10 : decode cX7_out 10 = .ok (.if_icmp .lt 7, 3) := by decide +kernel
theorem dX7_feed_0 : decode cX7_feed 0 = .ok (.iload_n 3, 1) := by decide +kernel
theorem dX7_feed_1 : decode cX7_feed 1 = .ok (.iconst 1, 1) := by decide +kernel
theorem dX7_feed_2 : decode cX7_feed 2 = .ok (.if_icmp .lt 9, 3) := by decide +kernel
theorem dX7_feed_11 : decode cX7_feed 11 = .ok (.iconst 1, 1) := by decide +kernel
theorem dX7_feed_12 : decode cX7_feed 12 = .ok (.goto 4, 3) := by decide +kernel
theorem dX7_feed_16 : decode cX7_feed 16 = .ok (.istore 4, 2) := by decide +kernel
theorem dX7_feed_18 : decode cX7_feed 18 = .ok (.aload_n 0, 1) := by decide +kernel
theorem dX7_feed_19 : decode cX7_feed 19 = .ok (.iload 4, 2) := by decide +kernel
theorem dX7_feed_21 : decode cX7_feed 21 = .ok (.iload 4, 2) := by decide +kernel
theorem dX7_feed_23 : decode cX7_feed 23 = .ok (.ifCond .ne 18, 3) := by decide +kernel
theorem dX7_feed_41 : decode cX7_feed 41 = .ok (.iconst 0, 1) := by decide +kernel
theorem dX7_feed_42 : decode cX7_feed 42 = .ok (.invokevirtual 84, 3) := by decide +kernel
theorem dX7_feed_45 : decode cX7_feed 45 = .ok (.ifCond .eq 5, 3) := by decide +kernel
theorem dX7_feed_48 : decode cX7_feed 48 = .ok (.iconst 0, 1) := by decide +kernel
theorem dX7_feed_49 : decode cX7_feed 49 = .ok (.ireturn, 1) := by decide +kernel
theorem dX7_feed_5 : decode cX7_feed 5 = .ok (.iload_n 3, 1) := by decide +kernel
theorem dX7_feed_6 : decode cX7_feed 6 = .ok (.bipush 8, 2) := by decide +kernel
theorem dX7_feed_8 : decode cX7_feed 8 = .ok (.if_icmp .le 7, 3) := by decide +kernel
theorem dX7_feed_55 : decode cX7_feed 55 = .ok (.iload 5, 2) := by decide +kernel
theorem dX7_feed_57 : decode cX7_feed 57 = .ok (.ifCond .lt 40, 3) := by decide +kernel
theorem dX7_feed_60 : decode cX7_feed 60 = .ok (.aload_n 0, 1) := by decide +kernel
theorem dX7_feed_61 : decode cX7_feed 61 = .ok (.getfield 7, 3) := by decide +kernel
theorem dX7_feed_64 : decode cX7_feed 64 = .ok (.aload_n 0, 1) := by decide +kernel
theorem dX7_feed_65 : decode cX7_feed 65 = .ok (.getfield 81, 3) := by decide +kernel
theorem dX7_feed_68 : decode cX7_feed 68 = .ok (.lload_n 1, 1) := by decide +kernel
theorem dX7_feed_69 : decode cX7_feed 69 = .ok (.bipush 8, 2) := by decide +kernel
theorem dX7_feed_71 : decode cX7_feed 71 = .ok (.iload 5, 2) := by decide +kernel
theorem dX7_feed_73 : decode cX7_feed 73 = .ok (.imul, 1) := by decide +kernel
theorem dX7_feed_74 : decode cX7_feed 74 = .ok (.lshr, 1) := by decide +kernel
theorem dX7_feed_75 : decode cX7_feed 75 = .ok (.l2i, 1) := by decide +kernel
theorem dX7_feed_76 : decode cX7_feed 76 = .ok (.sipush 255, 3) := by decide +kernel
theorem dX7_feed_79 : decode cX7_feed 79 = .ok (.iand, 1) := by decide +kernel
theorem dX7_feed_80 : decode cX7_feed 80 = .ok (.iastore, 1) := by decide +kernel
theorem dX7_feed_81 : decode cX7_feed 81 = .ok (.aload_n 0, 1) := by decide +kernel
theorem dX7_feed_82 : decode cX7_feed 82 = .ok (.dup, 1) := by decide +kernel
theorem dX7_feed_83 : decode cX7_feed 83 = .ok (.getfield 81, 3) := by decide +kernel
theorem dX7_feed_86 : decode cX7_feed 86 = .ok (.iconst 1, 1) := by decide +kernel
theorem dX7_feed_87 : decode cX7_feed 87 = .ok (.iadd, 1) := by decide +kernel
theorem dX7_feed_88 : decode cX7_feed 88 = .ok (.putfield 81, 3) := by decide +kernel
theorem dX7_feed_91 : decode cX7_feed 91 = .ok (.iinc 5 (-1), 3) := by decide +kernel
theorem dX7_feed_94 : decode cX7_feed 94 = .ok (.goto (-39), 3) := by decide +kernel
theorem dX7_feed_15 : decode cX7_feed 15 = .ok (.iconst 0, 1) := by decide +kernel
theorem dX7_feed_26 : decode cX7_feed 26 = .ok (.aload_n 0, 1) := by decide +kernel
theorem dX7_feed_27 : decode cX7_feed 27 = .ok (.getfield 81, 3) := by decide +kernel
theorem dX7_feed_30 : decode cX7_feed 30 = .ok (.iload_n 3, 1) := by decide +kernel
theorem dX7_feed_31 : decode cX7_feed 31 = .ok (.iadd, 1) := by decide +kernel
theorem dX7_feed_32 : decode cX7_feed 32 = .ok (.bipush 60, 2) := by decide +kernel
theorem dX7_feed_34 : decode cX7_feed 34 = .ok (.if_icmp .le 7, 3) := by decide +kernel
theorem dX7_feed_50 : decode cX7_feed 50 = .ok (.iload_n 3, 1) := by decide +kernel
theorem dX7_feed_51 : decode cX7_feed 51 = .ok (.iconst 1, 1) := by decide +kernel
theorem dX7_feed_52 : decode cX7_feed 52 = .ok (.isub, 1) := by decide +kernel
theorem dX7_feed_53 : decode cX7_feed 53 = .ok (.istore 5, 2) := by decide +kernel
theorem dX7_feed_97 : decode cX7_feed 97 = .ok (.aload_n 0, 1) := by decide +kernel
theorem dX7_feed_98 : decode cX7_feed 98 = .ok (.getfield 81, 3) := by decide +kernel
theorem dX7_feed_101 : decode cX7_feed 101 = .ok (.ireturn, 1) := by decide +kernel
theorem dX6_feed_0 : decode cX6_feed 0 = .ok (.iload_n 3, 1) := by decide +kernel
theorem dX6_feed_1 : decode cX6_feed 1 = .ok (.iconst 1, 1) := by decide +kernel
theorem dX6_feed_2 : decode cX6_feed 2 = .ok (.if_icmp .lt 9, 3) := by decide +kernel
theorem dX6_feed_11 : decode cX6_feed 11 = .ok (.new 52, 3) := by decide +kernel
theorem dX6_feed_14 : decode cX6_feed 14 = .ok (.dup, 1) := by decide +kernel
theorem dX6_feed_15 : decode cX6_feed 15 = .ok (.ldc 54, 2) := by decide +kernel
theorem dX6_feed_17 : decode cX6_feed 17 = .ok (.invokespecial 56, 3) := by decide +kernel
theorem dX6_feed_20 : decode cX6_feed 20 = .ok (.athrow, 1) := by decide +kernel
theorem dX6_feed_5 : decode cX6_feed 5 = .ok (.iload_n 3, 1) := by decide +kernel
theorem dX6_feed_6 : decode cX6_feed 6 = .ok (.bipush 8, 2) := by decide +kernel
theorem dX6_feed_8 : decode cX6_feed 8 = .ok (.if_icmp .le 13, 3) := by decide +kernel
theorem dX6_feed_50 : decode cX6_feed 50 = .ok (.iload 4, 2) := by decide +kernel
theorem dX6_feed_52 : decode cX6_feed 52 = .ok (.ifCond .lt 37, 3) := by decide +kernel
theorem dX6_feed_55 : decode cX6_feed 55 = .ok (.aload_n 0, 1) := by decide +kernel
theorem dX6_feed_56 : decode cX6_feed 56 = .ok (.getfield 9, 3) := by decide +kernel
theorem dX6_feed_59 : decode cX6_feed 59 = .ok (.aload_n 0, 1) := by decide +kernel
theorem dX6_feed_60 : decode cX6_feed 60 = .ok (.getfield 13, 3) := by decide +kernel
theorem dX6_feed_63 : decode cX6_feed 63 = .ok (.lload_n 1, 1) := by decide +kernel
theorem dX6_feed_64 : decode cX6_feed 64 = .ok (.iload 4, 2) := by decide +kernel
theorem dX6_feed_66 : decode cX6_feed 66 = .ok (.lushr, 1) := by decide +kernel
theorem dX6_feed_67 : decode cX6_feed 67 = .ok (.ldc2_w 64, 3) := by decide +kernel
theorem dX6_feed_70 : decode cX6_feed 70 = .ok (.land, 1) := by decide +kernel
theorem dX6_feed_71 : decode cX6_feed 71 = .ok (.l2i, 1) := by decide +kernel
theorem dX6_feed_72 : decode cX6_feed 72 = .ok (.iastore, 1) := by decide +kernel
theorem dX6_feed_73 : decode cX6_feed 73 = .ok (.aload_n 0, 1) := by decide +kernel
theorem dX6_feed_74 : decode cX6_feed 74 = .ok (.dup, 1) := by decide +kernel
theorem dX6_feed_75 : decode cX6_feed 75 = .ok (.getfield 13, 3) := by decide +kernel
theorem dX6_feed_78 : decode cX6_feed 78 = .ok (.iconst 1, 1) := by decide +kernel
theorem dX6_feed_79 : decode cX6_feed 79 = .ok (.iadd, 1) := by decide +kernel
theorem dX6_feed_80 : decode cX6_feed 80 = .ok (.putfield 13, 3) := by decide +kernel
theorem dX6_feed_83 : decode cX6_feed 83 = .ok (.iinc 4 (-8), 3) := by decide +kernel
theorem dX6_feed_86 : decode cX6_feed 86 = .ok (.goto (-36), 3) := by decide +kernel
theorem dX6_feed_21 : decode cX6_feed 21 = .ok (.aload_n 0, 1) := by decide +kernel
theorem dX6_feed_22 : decode cX6_feed 22 = .ok (.getfield 13, 3) := by decide +kernel
theorem dX6_feed_25 : decode cX6_feed 25 = .ok (.iload_n 3, 1) := by decide +kernel
theorem dX6_feed_26 : decode cX6_feed 26 = .ok (.iadd, 1) := by decide +kernel
theorem dX6_feed_27 : decode cX6_feed 27 = .ok (.bipush 60, 2) := by decide +kernel
theorem dX6_feed_29 : decode cX6_feed 29 = .ok (.if_icmp .le 13, 3) := by decide +kernel
theorem dX6_feed_42 : decode cX6_feed 42 = .ok (.bipush 8, 2) := by decide +kernel
theorem dX6_feed_44 : decode cX6_feed 44 = .ok (.iload_n 3, 1) := by decide +kernel
theorem dX6_feed_45 : decode cX6_feed 45 = .ok (.iconst 1, 1) := by decide +kernel
theorem dX6_feed_46 : decode cX6_feed 46 = .ok (.isub, 1) := by decide +kernel
theorem dX6_feed_47 : decode cX6_feed 47 = .ok (.imul, 1) := by decide +kernel
theorem dX6_feed_48 : decode cX6_feed 48 = .ok (.istore 4, 2) := by decide +kernel
theorem dX6_feed_89 : decode cX6_feed 89 = .ok (.aload_n 0, 1) := by decide +kernel
theorem dX6_feed_90 : decode cX6_feed 90 = .ok (.getfield 13, 3) := by decide +kernel
theorem dX6_feed_93 : decode cX6_feed 93 = .ok (.ireturn, 1) := by decide +kernel
theorem dX6_infer_0 : decode cX6_infer 0 = .ok (.aload_n 0, 1) := by decide +kernel
theorem dX6_infer_1 : decode cX6_infer 1 = .ok (.invokevirtual 66, 3) := by decide +kernel
theorem dX6_infer_4 : decode cX6_infer 4 = .ok (.aload_n 0, 1) := by decide +kernel
theorem dX6_infer_5 : decode cX6_infer 5 = .ok (.getfield 32, 3) := by decide +kernel
theorem dX6_infer_8 : decode cX6_infer 8 = .ok (.invokevirtual 69, 3) := by decide +kernel
theorem dX6_infer_11 : decode cX6_infer 11 = .ok (.istore_n 1, 1) := by decide +kernel
theorem dX6_infer_12 : decode cX6_infer 12 = .ok (.aload_n 0, 1) := by decide +kernel
theorem dX6_infer_13 : decode cX6_infer 13 = .ok (.aload_n 0, 1) := by decide +kernel
theorem dX6_infer_14 : decode cX6_infer 14 = .ok (.getfield 32, 3) := by decide +kernel
theorem dX6_infer_17 : decode cX6_infer 17 = .ok (.invokevirtual 73, 3) := by decide +kernel
theorem dX6_infer_20 : decode cX6_infer 20 = .ok (.putfield 17, 3) := by decide +kernel
theorem dX6_infer_23 : decode cX6_infer 23 = .ok (.aload_n 0, 1) := by decide +kernel
theorem dX6_infer_24 : decode cX6_infer 24 = .ok (.getfield 17, 3) := by decide +kernel
theorem dX6_infer_27 : decode cX6_infer 27 = .ok (.iconst (-1), 1) := by decide +kernel
theorem dX6_infer_28 : decode cX6_infer 28 = .ok (.if_icmp .eq 13, 3) := by decide +kernel
theorem dX6_infer_31 : decode cX6_infer 31 = .ok (.new 52, 3) := by decide +kernel
theorem dX6_infer_34 : decode cX6_infer 34 = .ok (.dup, 1) := by decide +kernel
theorem dX6_infer_35 : decode cX6_infer 35 = .ok (.ldc 75, 2) := by decide +kernel
theorem dX6_infer_37 : decode cX6_infer 37 = .ok (.invokespecial 56, 3) := by decide +kernel
theorem dX6_infer_40 : decode cX6_infer 40 = .ok (.athrow, 1) := by decide +kernel
theorem dX6_below_0 : decode cX6_below 0 = .ok (.aload_n 0, 1) := by decide +kernel
theorem dX6_below_1 : decode cX6_below 1 = .ok (.invokevirtual 66, 3) := by decide +kernel
theorem dX6_below_4 : decode cX6_below 4 = .ok (.aload_n 0, 1) := by decide +kernel
theorem dX6_below_5 : decode cX6_below 5 = .ok (.getfield 32, 3) := by decide +kernel
theorem dX6_below_8 : decode cX6_below 8 = .ok (.invokevirtual 91, 3) := by decide +kernel
theorem dX6_below_11 : decode cX6_below 11 = .ok (.istore_n 1, 1) := by decide +kernel
theorem dX6_below_12 : decode cX6_below 12 = .ok (.aload_n 0, 1) := by decide +kernel
theorem dX6_below_13 : decode cX6_below 13 = .ok (.getfield 32, 3) := by decide +kernel
theorem dX6_below_16 : decode cX6_below 16 = .ok (.invokevirtual 94, 3) := by decide +kernel
theorem dX6_below_19 : decode cX6_below 19 = .ok (.istore_n 2, 1) := by decide +kernel
theorem dX6_below_20 : decode cX6_below 20 = .ok (.aload_n 0, 1) := by decide +kernel
theorem dX6_below_21 : decode cX6_below 21 = .ok (.aload_n 0, 1) := by decide +kernel
theorem dX6_below_22 : decode cX6_below 22 = .ok (.getfield 32, 3) := by decide +kernel
theorem dX6_below_25 : decode cX6_below 25 = .ok (.invokevirtual 73, 3) := by decide +kernel
theorem dX6_below_28 : decode cX6_below 28 = .ok (.putfield 17, 3) := by decide +kernel
theorem dX6_below_31 : decode cX6_below 31 = .ok (.aload_n 0, 1) := by decide +kernel
theorem dX6_below_32 : decode cX6_below 32 = .ok (.getfield 17, 3) := by decide +kernel
theorem dX6_below_35 : decode cX6_below 35 = .ok (.iconst (-1), 1) := by decide +kernel
theorem dX6_below_36 : decode cX6_below 36 = .ok (.if_icmp .eq 13, 3) := by decide +kernel
theorem dX6_below_39 : decode cX6_below 39 = .ok (.new 52, 3) := by decide +kernel
theorem dX6_below_42 : decode cX6_below 42 = .ok (.dup, 1) := by decide +kernel
theorem dX6_below_43 : decode cX6_below 43 = .ok (.ldc 97, 2) := by decide +kernel
theorem dX6_below_45 : decode cX6_below 45 = .ok (.invokespecial 56, 3) := by decide +kernel
theorem dX6_below_48 : decode cX6_below 48 = .ok (.athrow, 1) := by decide +kernel
theorem dX6_out_0 : decode cX6_out 0 = .ok (.iload_n 1, 1) := by decide +kernel
theorem dX6_out_1 : decode cX6_out 1 = .ok (.ifCond .lt 14, 3) := by decide +kernel
theorem dX6_out_15 : decode cX6_out 15 = .ok (.new 106, 3) := by decide +kernel
theorem dX6_out_18 : decode cX6_out 18 = .ok (.dup, 1) := by decide +kernel
theorem dX6_out_19 : decode cX6_out 19 = .ok (.ldc 108, 2) := by decide +kernel
theorem dX6_out_21 : decode cX6_out 21 = .ok (.invokespecial 110, 3) := by decide +kernel
theorem dX6_out_24 : decode cX6_out 24 = .ok (.athrow, 1) := by decide +kernel
theorem dX6_out_4 : decode cX6_out 4 = .ok (.iload_n 1, 1) := by decide +kernel
theorem dX6_out_5 : decode cX6_out 5 = .ok (.aload_n 0, 1) := by decide +kernel
theorem dX6_out_6 : decode cX6_out 6 = .ok (.getfield 48, 3) := by decide +kernel
theorem dX6_out_9 : decode cX6_out 9 = .ok (.invokevirtual 103, 3) := by decide +kernel
theorem dX6_out_12 : decode cX6_out 12 = .ok (.if_icmp .lt 13, 3) := by decide +kernel
theorem dL_feed_0 : decode cL_feed 0 = .ok (.aload 4, 2) := by decide +kernel
theorem dL_feed_2 : decode cL_feed 2 = .ok (.iconst 0, 1) := by decide +kernel
theorem dL_feed_3 : decode cL_feed 3 = .ok (.aload_n 0, 1) := by decide +kernel
theorem dL_feed_4 : decode cL_feed 4 = .ok (.lload_n 1, 1) := by decide +kernel
theorem dL_feed_5 : decode cL_feed 5 = .ok (.iload_n 3, 1) := by decide +kernel
theorem dL_feed_6 : decode cL_feed 6 = .ok (.invokevirtual 7, 3) := by decide +kernel
theorem dL_feed_14 : decode cL_feed 14 = .ok (.astore 5, 2) := by decide +kernel
theorem dL_feed_16 : decode cL_feed 16 = .ok (.iconst 1, 1) := by decide +kernel
theorem dL_feed_17 : decode cL_feed 17 = .ok (.ireturn, 1) := by decide +kernel
theorem dL_feed_9 : decode cL_feed 9 = .ok (.i2l, 1) := by decide +kernel
theorem dL_feed_10 : decode cL_feed 10 = .ok (.lastore, 1) := by decide +kernel
theorem dL_feed_11 : decode cL_feed 11 = .ok (.goto 11, 3) := by decide +kernel
theorem dL_feed_22 : decode cL_feed 22 = .ok (.iconst 0, 1) := by decide +kernel
theorem dL_feed_23 : decode cL_feed 23 = .ok (.ireturn, 1) := by decide +kernel
theorem dL_infer_0 : decode cL_infer 0 = .ok (.aload_n 1, 1) := by decide +kernel
theorem dL_infer_1 : decode cL_infer 1 = .ok (.iconst 0, 1) := by decide +kernel
theorem dL_infer_2 : decode cL_infer 2 = .ok (.aload_n 0, 1) := by decide +kernel
theorem dL_infer_3 : decode cL_infer 3 = .ok (.invokevirtual 17, 3) := by decide +kernel
theorem dL_infer_18 : decode cL_infer 18 = .ok (.astore_n 2, 1) := by decide +kernel
theorem dL_infer_19 : decode cL_infer 19 = .ok (.iconst 1, 1) := by decide +kernel
theorem dL_infer_20 : decode cL_infer 20 = .ok (.ireturn, 1) := by decide +kernel
theorem dL_below_0 : decode cL_below 0 = .ok (.aload_n 1, 1) := by decide +kernel
theorem dL_below_1 : decode cL_below 1 = .ok (.iconst 0, 1) := by decide +kernel
theorem dL_below_2 : decode cL_below 2 = .ok (.aload_n 0, 1) := by decide +kernel
theorem dL_below_3 : decode cL_below 3 = .ok (.invokevirtual 21, 3) := by decide +kernel
theorem dL_below_18 : decode cL_below 18 = .ok (.astore_n 2, 1) := by decide +kernel
theorem dL_below_19 : decode cL_below 19 = .ok (.iconst 1, 1) := by decide +kernel
theorem dL_below_20 : decode cL_below 20 = .ok (.ireturn, 1) := by decide +kernel
theorem dL_out_0 : decode cL_out 0 = .ok (.aload_n 2, 1) := by decide +kernel
theorem dL_out_1 : decode cL_out 1 = .ok (.iconst 0, 1) := by decide +kernel
theorem dL_out_2 : decode cL_out 2 = .ok (.aload_n 0, 1) := by decide +kernel
theorem dL_out_3 : decode cL_out 3 = .ok (.iload_n 1, 1) := by decide +kernel
theorem dL_out_4 : decode cL_out 4 = .ok (.invokevirtual 24, 3) := by decide +kernel
theorem dL_out_12 : decode cL_out 12 = .ok (.astore_n 3, 1) := by decide +kernel
theorem dL_out_13 : decode cL_out 13 = .ok (.iconst 1, 1) := by decide +kernel
theorem dL_out_14 : decode cL_out 14 = .ok (.ireturn, 1) := by decide +kernel
theorem dL_law_394 : decode cL_law 394 = .ok (.iinc 4 4, 3) := by decide +kernel
theorem dL_law_397 : decode cL_law 397 = .ok (.goto (-374), 3) := by decide +kernel
theorem dL_law_23 : decode cL_law 23 = .ok (.iload 4, 2) := by decide +kernel
theorem dL_law_25 : decode cL_law 25 = .ok (.aload_n 0, 1) := by decide +kernel
theorem dL_law_26 : decode cL_law 26 = .ok (.arraylength, 1) := by decide +kernel
theorem dL_law_27 : decode cL_law 27 = .ok (.iconst 4, 1) := by decide +kernel
theorem dL_law_28 : decode cL_law 28 = .ok (.isub, 1) := by decide +kernel
theorem dL_law_29 : decode cL_law 29 = .ok (.if_icmp .gt 371, 3) := by decide +kernel
theorem dL_law_400 : decode cL_law 400 = .ok (.iconst 1, 1) := by decide +kernel
theorem dL_law_401 : decode cL_law 401 = .ok (.ireturn, 1) := by decide +kernel
theorem dL_law_286 : decode cL_law 286 = .ok (.aload_n 1, 1) := by decide +kernel
theorem dL_law_287 : decode cL_law 287 = .ok (.invokevirtual 53, 3) := by decide +kernel
theorem dL_law_290 : decode cL_law 290 = .ok (.aload_n 2, 1) := by decide +kernel
theorem dL_law_291 : decode cL_law 291 = .ok (.invokevirtual 56, 3) := by decide +kernel
theorem dL_law_294 : decode cL_law 294 = .ok (.if_icmp .eq 100, 3) := by decide +kernel
theorem dL_law_299 : decode cL_law 299 = .ok (.aload_n 1, 1) := by decide +kernel
theorem dL_law_300 : decode cL_law 300 = .ok (.invokevirtual 57, 3) := by decide +kernel
theorem dL_law_303 : decode cL_law 303 = .ok (.aload_n 2, 1) := by decide +kernel
theorem dL_law_304 : decode cL_law 304 = .ok (.invokevirtual 60, 3) := by decide +kernel
theorem dL_law_307 : decode cL_law 307 = .ok (.if_icmp .eq 87, 3) := by decide +kernel
theorem dL_law_368 : decode cL_law 368 = .ok (.aload_n 1, 1) := by decide +kernel
theorem dL_law_369 : decode cL_law 369 = .ok (.invokevirtual 65, 3) := by decide +kernel
theorem dL_law_372 : decode cL_law 372 = .ok (.aload_n 2, 1) := by decide +kernel
theorem dL_law_373 : decode cL_law 373 = .ok (.invokevirtual 68, 3) := by decide +kernel
theorem dL_law_376 : decode cL_law 376 = .ok (.if_icmp .eq 18, 3) := by decide +kernel
theorem dL_law_381 : decode cL_law 381 = .ok (.aload_n 1, 1) := by decide +kernel
theorem dL_law_382 : decode cL_law 382 = .ok (.invokevirtual 69, 3) := by decide +kernel
theorem dL_law_385 : decode cL_law 385 = .ok (.aload_n 2, 1) := by decide +kernel
theorem dL_law_386 : decode cL_law 386 = .ok (.invokevirtual 72, 3) := by decide +kernel
theorem dL_law_389 : decode cL_law 389 = .ok (.if_icmp .eq 5, 3) := by decide +kernel
theorem dL_law_184 : decode cL_law 184 = .ok (.aload_n 1, 1) := by decide +kernel
theorem dL_law_185 : decode cL_law 185 = .ok (.aload_n 3, 1) := by decide +kernel
theorem dL_law_186 : decode cL_law 186 = .ok (.invokestatic 46, 3) := by decide +kernel
theorem dL_law_189 : decode cL_law 189 = .ok (.istore 5, 2) := by decide +kernel
theorem dL_law_191 : decode cL_law 191 = .ok (.aload_n 2, 1) := by decide +kernel
theorem dL_law_192 : decode cL_law 192 = .ok (.invokevirtual 49, 3) := by decide +kernel
theorem dL_law_195 : decode cL_law 195 = .ok (.istore 6, 2) := by decide +kernel
theorem dL_law_197 : decode cL_law 197 = .ok (.aload_n 2, 1) := by decide +kernel
theorem dL_law_198 : decode cL_law 198 = .ok (.invokevirtual 42, 3) := by decide +kernel
theorem dL_law_201 : decode cL_law 201 = .ok (.iload 5, 2) := by decide +kernel
theorem dL_law_203 : decode cL_law 203 = .ok (.if_icmp .eq 5, 3) := by decide +kernel
theorem dL_law_208 : decode cL_law 208 = .ok (.iload 5, 2) := by decide +kernel
theorem dL_law_210 : decode cL_law 210 = .ok (.ifCond .ne 22, 3) := by decide +kernel
theorem dL_law_232 : decode cL_law 232 = .ok (.goto 162, 3) := by decide +kernel
theorem dL_law_235 : decode cL_law 235 = .ok (.aload_n 1, 1) := by decide +kernel
theorem dL_law_236 : decode cL_law 236 = .ok (.aload_n 3, 1) := by decide +kernel
theorem dL_law_237 : decode cL_law 237 = .ok (.invokestatic 50, 3) := by decide +kernel
theorem dL_law_240 : decode cL_law 240 = .ok (.istore 5, 2) := by decide +kernel
theorem dL_law_242 : decode cL_law 242 = .ok (.aload_n 2, 1) := by decide +kernel
theorem dL_law_243 : decode cL_law 243 = .ok (.invokevirtual 52, 3) := by decide +kernel
theorem dL_law_246 : decode cL_law 246 = .ok (.istore 6, 2) := by decide +kernel
theorem dL_law_248 : decode cL_law 248 = .ok (.aload_n 2, 1) := by decide +kernel
theorem dL_law_249 : decode cL_law 249 = .ok (.invokevirtual 42, 3) := by decide +kernel
theorem dL_law_252 : decode cL_law 252 = .ok (.iload 5, 2) := by decide +kernel
theorem dL_law_254 : decode cL_law 254 = .ok (.if_icmp .eq 5, 3) := by decide +kernel
theorem dL_law_259 : decode cL_law 259 = .ok (.iload 5, 2) := by decide +kernel
theorem dL_law_261 : decode cL_law 261 = .ok (.ifCond .ne 22, 3) := by decide +kernel
theorem dL_law_283 : decode cL_law 283 = .ok (.goto 111, 3) := by decide +kernel
theorem dL_law_312 : decode cL_law 312 = .ok (.aload_n 1, 1) := by decide +kernel
theorem dL_law_313 : decode cL_law 313 = .ok (.aload_n 0, 1) := by decide +kernel
theorem dL_law_314 : decode cL_law 314 = .ok (.iload 4, 2) := by decide +kernel
theorem dL_law_316 : decode cL_law 316 = .ok (.iconst 1, 1) := by decide +kernel
theorem dL_law_317 : decode cL_law 317 = .ok (.iadd, 1) := by decide +kernel
theorem dL_law_318 : decode cL_law 318 = .ok (.iaload, 1) := by decide +kernel
theorem dL_law_319 : decode cL_law 319 = .ok (.aload_n 3, 1) := by decide +kernel
theorem dL_law_320 : decode cL_law 320 = .ok (.invokestatic 61, 3) := by decide +kernel
theorem dL_law_323 : decode cL_law 323 = .ok (.istore 5, 2) := by decide +kernel
theorem dL_law_325 : decode cL_law 325 = .ok (.aload_n 2, 1) := by decide +kernel
theorem dL_law_326 : decode cL_law 326 = .ok (.aload_n 0, 1) := by decide +kernel
theorem dL_law_327 : decode cL_law 327 = .ok (.iload 4, 2) := by decide +kernel
theorem dL_law_329 : decode cL_law 329 = .ok (.iconst 1, 1) := by decide +kernel
theorem dL_law_330 : decode cL_law 330 = .ok (.iadd, 1) := by decide +kernel
theorem dL_law_331 : decode cL_law 331 = .ok (.iaload, 1) := by decide +kernel
theorem dL_law_332 : decode cL_law 332 = .ok (.invokevirtual 64, 3) := by decide +kernel
theorem dL_law_335 : decode cL_law 335 = .ok (.istore 6, 2) := by decide +kernel
theorem dL_law_337 : decode cL_law 337 = .ok (.aload_n 2, 1) := by decide +kernel
theorem dL_law_338 : decode cL_law 338 = .ok (.invokevirtual 42, 3) := by decide +kernel
theorem dL_law_341 : decode cL_law 341 = .ok (.iload 5, 2) := by decide +kernel
theorem dL_law_343 : decode cL_law 343 = .ok (.if_icmp .eq 5, 3) := by decide +kernel
theorem dL_law_348 : decode cL_law 348 = .ok (.iload 5, 2) := by decide +kernel
theorem dL_law_350 : decode cL_law 350 = .ok (.ifCond .ne 15, 3) := by decide +kernel
theorem dL_law_365 : decode cL_law 365 = .ok (.goto 29, 3) := by decide +kernel
theorem dL_law_84 : decode cL_law 84 = .ok (.aload_n 1, 1) := by decide +kernel
theorem dL_law_85 : decode cL_law 85 = .ok (.aload_n 0, 1) := by decide +kernel
theorem dL_law_86 : decode cL_law 86 = .ok (.iload 4, 2) := by decide +kernel
theorem dL_law_88 : decode cL_law 88 = .ok (.iconst 1, 1) := by decide +kernel
theorem dL_law_89 : decode cL_law 89 = .ok (.iadd, 1) := by decide +kernel
theorem dL_law_90 : decode cL_law 90 = .ok (.iaload, 1) := by decide +kernel
theorem dL_law_91 : decode cL_law 91 = .ok (.i2l, 1) := by decide +kernel
theorem dL_law_92 : decode cL_law 92 = .ok (.bipush 32, 2) := by decide +kernel
theorem dL_law_94 : decode cL_law 94 = .ok (.lshl, 1) := by decide +kernel
theorem dL_law_95 : decode cL_law 95 = .ok (.aload_n 0, 1) := by decide +kernel
theorem dL_law_96 : decode cL_law 96 = .ok (.iload 4, 2) := by decide +kernel
theorem dL_law_98 : decode cL_law 98 = .ok (.iconst 2, 1) := by decide +kernel
theorem dL_law_99 : decode cL_law 99 = .ok (.iadd, 1) := by decide +kernel
theorem dL_law_100 : decode cL_law 100 = .ok (.iaload, 1) := by decide +kernel
theorem dL_law_101 : decode cL_law 101 = .ok (.i2l, 1) := by decide +kernel
theorem dL_law_102 : decode cL_law 102 = .ok (.ldc2_w 34, 3) := by decide +kernel
theorem dL_law_105 : decode cL_law 105 = .ok (.land, 1) := by decide +kernel
theorem dL_law_106 : decode cL_law 106 = .ok (.lor, 1) := by decide +kernel
theorem dL_law_107 : decode cL_law 107 = .ok (.aload_n 0, 1) := by decide +kernel
theorem dL_law_108 : decode cL_law 108 = .ok (.iload 4, 2) := by decide +kernel
theorem dL_law_110 : decode cL_law 110 = .ok (.iconst 3, 1) := by decide +kernel
theorem dL_law_111 : decode cL_law 111 = .ok (.iadd, 1) := by decide +kernel
theorem dL_law_112 : decode cL_law 112 = .ok (.iaload, 1) := by decide +kernel
theorem dL_law_113 : decode cL_law 113 = .ok (.aload_n 3, 1) := by decide +kernel
theorem dL_law_114 : decode cL_law 114 = .ok (.invokestatic 36, 3) := by decide +kernel
theorem dL_law_117 : decode cL_law 117 = .ok (.istore 5, 2) := by decide +kernel
theorem dL_law_119 : decode cL_law 119 = .ok (.aload_n 2, 1) := by decide +kernel
theorem dL_law_120 : decode cL_law 120 = .ok (.aload_n 0, 1) := by decide +kernel
theorem dL_law_121 : decode cL_law 121 = .ok (.iload 4, 2) := by decide +kernel
theorem dL_law_123 : decode cL_law 123 = .ok (.iconst 1, 1) := by decide +kernel
theorem dL_law_124 : decode cL_law 124 = .ok (.iadd, 1) := by decide +kernel
theorem dL_law_125 : decode cL_law 125 = .ok (.iaload, 1) := by decide +kernel
theorem dL_law_126 : decode cL_law 126 = .ok (.i2l, 1) := by decide +kernel
theorem dL_law_127 : decode cL_law 127 = .ok (.bipush 32, 2) := by decide +kernel
theorem dL_law_129 : decode cL_law 129 = .ok (.lshl, 1) := by decide +kernel
theorem dL_law_130 : decode cL_law 130 = .ok (.aload_n 0, 1) := by decide +kernel
theorem dL_law_131 : decode cL_law 131 = .ok (.iload 4, 2) := by decide +kernel
theorem dL_law_133 : decode cL_law 133 = .ok (.iconst 2, 1) := by decide +kernel
theorem dL_law_134 : decode cL_law 134 = .ok (.iadd, 1) := by decide +kernel
theorem dL_law_135 : decode cL_law 135 = .ok (.iaload, 1) := by decide +kernel
theorem dL_law_136 : decode cL_law 136 = .ok (.i2l, 1) := by decide +kernel
theorem dL_law_137 : decode cL_law 137 = .ok (.ldc2_w 34, 3) := by decide +kernel
theorem dL_law_140 : decode cL_law 140 = .ok (.land, 1) := by decide +kernel
theorem dL_law_141 : decode cL_law 141 = .ok (.lor, 1) := by decide +kernel
theorem dL_law_142 : decode cL_law 142 = .ok (.aload_n 0, 1) := by decide +kernel
theorem dL_law_143 : decode cL_law 143 = .ok (.iload 4, 2) := by decide +kernel
theorem dL_law_145 : decode cL_law 145 = .ok (.iconst 3, 1) := by decide +kernel
theorem dL_law_146 : decode cL_law 146 = .ok (.iadd, 1) := by decide +kernel
theorem dL_law_147 : decode cL_law 147 = .ok (.iaload, 1) := by decide +kernel
theorem dL_law_148 : decode cL_law 148 = .ok (.invokevirtual 41, 3) := by decide +kernel
theorem dL_law_151 : decode cL_law 151 = .ok (.istore 6, 2) := by decide +kernel
theorem dL_law_153 : decode cL_law 153 = .ok (.aload_n 2, 1) := by decide +kernel
theorem dL_law_154 : decode cL_law 154 = .ok (.invokevirtual 42, 3) := by decide +kernel
theorem dL_law_157 : decode cL_law 157 = .ok (.iload 5, 2) := by decide +kernel
theorem dL_law_159 : decode cL_law 159 = .ok (.if_icmp .eq 5, 3) := by decide +kernel
theorem dL_law_164 : decode cL_law 164 = .ok (.iload 5, 2) := by decide +kernel
theorem dL_law_166 : decode cL_law 166 = .ok (.ifCond .ne 15, 3) := by decide +kernel
