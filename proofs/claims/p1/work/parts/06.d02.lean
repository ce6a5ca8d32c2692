theorem dX1_clear_14 : decode cX1_clear 14 = .ok (.putfield 25, 3) := by decide +kernel
theorem dX1_clear_17 : decode cX1_clear 17 = .ok (.aload_n 0, 1) := by decide +kernel
theorem dX1_clear_18 : decode cX1_clear 18 = .ok (.iconst (-1), 1) := by decide +kernel
theorem dX1_clear_19 : decode cX1_clear 19 = .ok (.putfield 29, 3) := by decide +kernel
theorem dX1_clear_22 : decode cX1_clear 22 = .ok (.aload_n 0, 1) := by decide +kernel
theorem dX1_clear_23 : decode cX1_clear 23 = .ok (.iconst 0, 1) := by decide +kernel
theorem dX1_clear_24 : decode cX1_clear 24 = .ok (.putfield 32, 3) := by decide +kernel
theorem dX1_clear_27 : decode cX1_clear 27 = .ok (.aload_n 0, 1) := by decide +kernel
theorem dX1_clear_28 : decode cX1_clear 28 = .ok (.iconst 0, 1) := by decide +kernel
theorem dX1_clear_29 : decode cX1_clear 29 = .ok (.putfield 35, 3) := by decide +kernel
theorem dX1_clear_32 : decode cX1_clear 32 = .ok (.return_, 1) := by decide +kernel
theorem dX3_clear_0 : decode cX3_clear 0 = .ok (.aload_n 0, 1) := by decide +kernel
theorem dX3_clear_1 : decode cX3_clear 1 = .ok (.iconst (-1), 1) := by decide +kernel
theorem dX3_clear_2 : decode cX3_clear 2 = .ok (.putfield 22, 3) := by decide +kernel
theorem dX3_clear_5 : decode cX3_clear 5 = .ok (.return_, 1) := by decide +kernel
theorem dX6_startText_0 : decode cX6_startText 0 = .ok (.aload_n 0, 1) := by decide +kernel
theorem dX6_startText_1 : decode cX6_startText 1 = .ok (.getfield 23, 3) := by decide +kernel
theorem dX6_startText_4 : decode cX6_startText 4 = .ok (.invokevirtual 121, 3) := by decide +kernel
theorem dX6_startText_7 : decode cX6_startText 7 = .ok (.aload_n 0, 1) := by decide +kernel
theorem dX6_startText_8 : decode cX6_startText 8 = .ok (.getfield 41, 3) := by decide +kernel
theorem dX6_startText_11 : decode cX6_startText 11 = .ok (.invokevirtual 124, 3) := by decide +kernel
theorem dX6_startText_14 : decode cX6_startText 14 = .ok (.aload_n 0, 1) := by decide +kernel
theorem dX6_startText_15 : decode cX6_startText 15 = .ok (.getfield 48, 3) := by decide +kernel
theorem dX6_startText_18 : decode cX6_startText 18 = .ok (.invokevirtual 125, 3) := by decide +kernel
theorem dX6_startText_21 : decode cX6_startText 21 = .ok (.aload_n 0, 1) := by decide +kernel
theorem dX6_startText_22 : decode cX6_startText 22 = .ok (.getfield 32, 3) := by decide +kernel
theorem dX6_startText_25 : decode cX6_startText 25 = .ok (.aload_n 0, 1) := by decide +kernel
theorem dX6_startText_26 : decode cX6_startText 26 = .ok (.getfield 13, 3) := by decide +kernel
theorem dX6_startText_29 : decode cX6_startText 29 = .ok (.invokevirtual 126, 3) := by decide +kernel
theorem dX6_startText_32 : decode cX6_startText 32 = .ok (.aload_n 0, 1) := by decide +kernel
theorem dX6_startText_33 : decode cX6_startText 33 = .ok (.iconst 0, 1) := by decide +kernel
theorem dX6_startText_34 : decode cX6_startText 34 = .ok (.putfield 13, 3) := by decide +kernel
theorem dX6_startText_37 : decode cX6_startText 37 = .ok (.return_, 1) := by decide +kernel
theorem dX4_peek_0 : decode cX4_peek 0 = .ok (.aload_n 0, 1) := by decide +kernel
theorem dX4_peek_1 : decode cX4_peek 1 = .ok (.getfield 25, 3) := by decide +kernel
theorem dX4_peek_4 : decode cX4_peek 4 = .ok (.aload_n 0, 1) := by decide +kernel
theorem dX4_peek_5 : decode cX4_peek 5 = .ok (.getfield 22, 3) := by decide +kernel
theorem dX4_peek_8 : decode cX4_peek 8 = .ok (.if_icmp .ge 30, 3) := by decide +kernel
theorem dX4_peek_38 : decode cX4_peek 38 = .ok (.aload_n 0, 1) := by decide +kernel
theorem dX4_peek_39 : decode cX4_peek 39 = .ok (.getfield 25, 3) := by decide +kernel
theorem dX4_peek_42 : decode cX4_peek 42 = .ok (.aload_n 0, 1) := by decide +kernel
theorem dX4_peek_43 : decode cX4_peek 43 = .ok (.getfield 22, 3) := by decide +kernel
theorem dX4_peek_46 : decode cX4_peek 46 = .ok (.if_icmp .ge 15, 3) := by decide +kernel
theorem dX4_peek_61 : decode cX4_peek 61 = .ok (.iconst (-1), 1) := by decide +kernel
theorem dX4_peek_62 : decode cX4_peek 62 = .ok (.ireturn, 1) := by decide +kernel
theorem dX4_refuse_0 : decode cX4_refuse 0 = .ok (.aload_n 0, 1) := by decide +kernel
theorem dX4_refuse_1 : decode cX4_refuse 1 = .ok (.aload_n 0, 1) := by decide +kernel
theorem dX4_refuse_2 : decode cX4_refuse 2 = .ok (.getfield 25, 3) := by decide +kernel
theorem dX4_refuse_5 : decode cX4_refuse 5 = .ok (.putfield 31, 3) := by decide +kernel
theorem dX4_refuse_8 : decode cX4_refuse 8 = .ok (.iconst (-1), 1) := by decide +kernel
theorem dX4_refuse_9 : decode cX4_refuse 9 = .ok (.ireturn, 1) := by decide +kernel
theorem dX4_isLetter_0 : decode cX4_isLetter 0 = .ok (.iload_n 0, 1) := by decide +kernel
theorem dX4_isLetter_1 : decode cX4_isLetter 1 = .ok (.bipush 97, 2) := by decide +kernel
theorem dX4_isLetter_3 : decode cX4_isLetter 3 = .ok (.if_icmp .lt 13, 3) := by decide +kernel
theorem dX4_isLetter_16 : decode cX4_isLetter 16 = .ok (.iconst 0, 1) := by decide +kernel
theorem dX4_isLetter_17 : decode cX4_isLetter 17 = .ok (.ireturn, 1) := by decide +kernel
theorem dX4_termAtom_0 : decode cX4_termAtom 0 = .ok (.aload_n 0, 1) := by decide +kernel
theorem dX4_termAtom_1 : decode cX4_termAtom 1 = .ok (.invokevirtual 57, 3) := by decide +kernel
theorem dX4_termAtom_4 : decode cX4_termAtom 4 = .ok (.istore_n 2, 1) := by decide +kernel
theorem dX4_termAtom_5 : decode cX4_termAtom 5 = .ok (.iload_n 1, 1) := by decide +kernel
theorem dX4_termAtom_6 : decode cX4_termAtom 6 = .ok (.bipush 40, 2) := by decide +kernel
theorem dX4_termAtom_8 : decode cX4_termAtom 8 = .ok (.if_icmp .le 8, 3) := by decide +kernel
theorem dX4_termAtom_16 : decode cX4_termAtom 16 = .ok (.iload_n 2, 1) := by decide +kernel
theorem dX4_termAtom_17 : decode cX4_termAtom 17 = .ok (.bipush 49, 2) := by decide +kernel
theorem dX4_termAtom_19 : decode cX4_termAtom 19 = .ok (.if_icmp .ne 25, 3) := by decide +kernel
theorem dX4_termAtom_44 : decode cX4_termAtom 44 = .ok (.iload_n 2, 1) := by decide +kernel
theorem dX4_termAtom_45 : decode cX4_termAtom 45 = .ok (.bipush 92, 2) := by decide +kernel
theorem dX4_termAtom_47 : decode cX4_termAtom 47 = .ok (.if_icmp .ne 9, 3) := by decide +kernel
theorem dX4_termAtom_56 : decode cX4_termAtom 56 = .ok (.iload_n 2, 1) := by decide +kernel
theorem dX4_termAtom_57 : decode cX4_termAtom 57 = .ok (.bipush 40, 2) := by decide +kernel
theorem dX4_termAtom_59 : decode cX4_termAtom 59 = .ok (.if_icmp .ne 9, 3) := by decide +kernel
theorem dX4_termAtom_68 : decode cX4_termAtom 68 = .ok (.iload_n 2, 1) := by decide +kernel
theorem dX4_termAtom_69 : decode cX4_termAtom 69 = .ok (.invokestatic 71, 3) := by decide +kernel
theorem dX4_termAtom_72 : decode cX4_termAtom 72 = .ok (.ifCond .eq 15, 3) := by decide +kernel
theorem dX4_termAtom_87 : decode cX4_termAtom 87 = .ok (.aload_n 0, 1) := by decide +kernel
theorem dX4_termAtom_88 : decode cX4_termAtom 88 = .ok (.invokevirtual 61, 3) := by decide +kernel
theorem dX4_termAtom_91 : decode cX4_termAtom 91 = .ok (.ireturn, 1) := by decide +kernel
theorem dX4_term_0 : decode cX4_term 0 = .ok (.aload_n 0, 1) := by decide +kernel
theorem dX4_term_1 : decode cX4_term 1 = .ok (.iload_n 1, 1) := by decide +kernel
theorem dX4_term_2 : decode cX4_term 2 = .ok (.invokevirtual 74, 3) := by decide +kernel
theorem dX4_term_5 : decode cX4_term 5 = .ok (.istore_n 2, 1) := by decide +kernel
theorem dX4_term_6 : decode cX4_term 6 = .ok (.iconst 1, 1) := by decide +kernel
theorem dX4_term_7 : decode cX4_term 7 = .ok (.istore_n 3, 1) := by decide +kernel
theorem dX4_term_8 : decode cX4_term 8 = .ok (.iload_n 3, 1) := by decide +kernel
theorem dX4_term_9 : decode cX4_term 9 = .ok (.bipush 60, 2) := by decide +kernel
theorem dX4_term_11 : decode cX4_term 11 = .ok (.if_icmp .gt 54, 3) := by decide +kernel
theorem dX4_term_14 : decode cX4_term 14 = .ok (.iload_n 2, 1) := by decide +kernel
theorem dX4_term_15 : decode cX4_term 15 = .ok (.iconst (-1), 1) := by decide +kernel
theorem dX4_term_16 : decode cX4_term 16 = .ok (.if_icmp .eq 49, 3) := by decide +kernel
theorem dX4_term_65 : decode cX4_term 65 = .ok (.iload_n 2, 1) := by decide +kernel
theorem dX4_term_66 : decode cX4_term 66 = .ok (.ireturn, 1) := by decide +kernel
theorem dX4_wholeTerm_0 : decode cX4_wholeTerm 0 = .ok (.aload_n 0, 1) := by decide +kernel
theorem dX4_wholeTerm_1 : decode cX4_wholeTerm 1 = .ok (.iconst 0, 1) := by decide +kernel
theorem dX4_wholeTerm_2 : decode cX4_wholeTerm 2 = .ok (.invokevirtual 53, 3) := by decide +kernel
theorem dX4_wholeTerm_5 : decode cX4_wholeTerm 5 = .ok (.istore_n 1, 1) := by decide +kernel
theorem dX4_wholeTerm_6 : decode cX4_wholeTerm 6 = .ok (.iload_n 1, 1) := by decide +kernel
theorem dX4_wholeTerm_7 : decode cX4_wholeTerm 7 = .ok (.iconst (-1), 1) := by decide +kernel
theorem dX4_wholeTerm_8 : decode cX4_wholeTerm 8 = .ok (.if_icmp .eq 18, 3) := by decide +kernel
theorem dX4_wholeTerm_26 : decode cX4_wholeTerm 26 = .ok (.iload_n 1, 1) := by decide +kernel
theorem dX4_wholeTerm_27 : decode cX4_wholeTerm 27 = .ok (.ireturn, 1) := by decide +kernel
theorem dX4_wrongAt_0 : decode cX4_wrongAt 0 = .ok (.aload_n 0, 1) := by decide +kernel
theorem dX4_wrongAt_1 : decode cX4_wrongAt 1 = .ok (.getfield 31, 3) := by decide +kernel
theorem dX4_wrongAt_4 : decode cX4_wrongAt 4 = .ok (.ireturn, 1) := by decide +kernel
theorem dX4_typeAtom_0 : decode cX4_typeAtom 0 = .ok (.aload_n 0, 1) := by decide +kernel
theorem dX4_typeAtom_1 : decode cX4_typeAtom 1 = .ok (.invokevirtual 57, 3) := by decide +kernel
theorem dX4_typeAtom_4 : decode cX4_typeAtom 4 = .ok (.istore_n 2, 1) := by decide +kernel
theorem dX4_typeAtom_5 : decode cX4_typeAtom 5 = .ok (.iload_n 1, 1) := by decide +kernel
theorem dX4_typeAtom_6 : decode cX4_typeAtom 6 = .ok (.bipush 40, 2) := by decide +kernel
theorem dX4_typeAtom_8 : decode cX4_typeAtom 8 = .ok (.if_icmp .le 8, 3) := by decide +kernel
theorem dX4_typeAtom_16 : decode cX4_typeAtom 16 = .ok (.iload_n 2, 1) := by decide +kernel
theorem dX4_typeAtom_17 : decode cX4_typeAtom 17 = .ok (.bipush 49, 2) := by decide +kernel
theorem dX4_typeAtom_19 : decode cX4_typeAtom 19 = .ok (.if_icmp .ne 15, 3) := by decide +kernel
theorem dX4_typeAtom_34 : decode cX4_typeAtom 34 = .ok (.iload_n 2, 1) := by decide +kernel
theorem dX4_typeAtom_35 : decode cX4_typeAtom 35 = .ok (.bipush 33, 2) := by decide +kernel
theorem dX4_typeAtom_37 : decode cX4_typeAtom 37 = .ok (.if_icmp .ne 9, 3) := by decide +kernel
theorem dX4_typeAtom_46 : decode cX4_typeAtom 46 = .ok (.iload_n 2, 1) := by decide +kernel
theorem dX4_typeAtom_47 : decode cX4_typeAtom 47 = .ok (.bipush 40, 2) := by decide +kernel
theorem dX4_typeAtom_49 : decode cX4_typeAtom 49 = .ok (.if_icmp .ne 9, 3) := by decide +kernel
theorem dX4_typeAtom_58 : decode cX4_typeAtom 58 = .ok (.iload_n 2, 1) := by decide +kernel
theorem dX4_typeAtom_59 : decode cX4_typeAtom 59 = .ok (.invokestatic 71, 3) := by decide +kernel
theorem dX4_typeAtom_62 : decode cX4_typeAtom 62 = .ok (.ifCond .eq 11, 3) := by decide +kernel
theorem dX4_typeAtom_73 : decode cX4_typeAtom 73 = .ok (.aload_n 0, 1) := by decide +kernel
theorem dX4_typeAtom_74 : decode cX4_typeAtom 74 = .ok (.invokevirtual 61, 3) := by decide +kernel
theorem dX4_typeAtom_77 : decode cX4_typeAtom 77 = .ok (.ireturn, 1) := by decide +kernel
theorem dX4_type_0 : decode cX4_type 0 = .ok (.aload_n 0, 1) := by decide +kernel
theorem dX4_type_1 : decode cX4_type 1 = .ok (.iload_n 1, 1) := by decide +kernel
theorem dX4_type_2 : decode cX4_type 2 = .ok (.invokevirtual 98, 3) := by decide +kernel
theorem dX4_type_5 : decode cX4_type 5 = .ok (.istore_n 2, 1) := by decide +kernel
theorem dX4_type_6 : decode cX4_type 6 = .ok (.iload_n 2, 1) := by decide +kernel
theorem dX4_type_7 : decode cX4_type 7 = .ok (.iconst (-1), 1) := by decide +kernel
theorem dX4_type_8 : decode cX4_type 8 = .ok (.if_icmp .eq 12, 3) := by decide +kernel
theorem dX4_type_20 : decode cX4_type 20 = .ok (.iload_n 2, 1) := by decide +kernel
theorem dX4_type_21 : decode cX4_type 21 = .ok (.ireturn, 1) := by decide +kernel
theorem dX4_typeBeforeSign_0 : decode cX4_typeBeforeSign 0 = .ok (.aload_n 0, 1) := by decide +kernel
theorem dX4_typeBeforeSign_1 : decode cX4_typeBeforeSign 1 = .ok (.iconst 0, 1) := by decide +kernel
theorem dX4_typeBeforeSign_2 : decode cX4_typeBeforeSign 2 = .ok (.invokevirtual 64, 3) := by decide +kernel
theorem dX4_typeBeforeSign_5 : decode cX4_typeBeforeSign 5 = .ok (.istore_n 1, 1) := by decide +kernel
theorem dX4_typeBeforeSign_6 : decode cX4_typeBeforeSign 6 = .ok (.iload_n 1, 1) := by decide +kernel
theorem dX4_typeBeforeSign_7 : decode cX4_typeBeforeSign 7 = .ok (.iconst (-1), 1) := by decide +kernel
theorem dX4_typeBeforeSign_8 : decode cX4_typeBeforeSign 8 = .ok (.if_icmp .ne 5, 3) := by decide +kernel
theorem dX4_typeBeforeSign_11 : decode cX4_typeBeforeSign 11 = .ok (.iconst (-1), 1) := by decide +kernel
theorem dX4_typeBeforeSign_12 : decode cX4_typeBeforeSign 12 = .ok (.ireturn, 1) := by decide +kernel
theorem dX4_typeBehindSign_0 : decode cX4_typeBehindSign 0 = .ok (.aload_n 0, 1) := by decide +kernel
theorem dX4_typeBehindSign_1 : decode cX4_typeBehindSign 1 = .ok (.getfield 31, 3) := by decide +kernel
theorem dX4_typeBehindSign_4 : decode cX4_typeBehindSign 4 = .ok (.iconst (-1), 1) := by decide +kernel
theorem dX4_typeBehindSign_5 : decode cX4_typeBehindSign 5 = .ok (.if_icmp .eq 5, 3) := by decide +kernel
theorem dX4_typeBehindSign_8 : decode cX4_typeBehindSign 8 = .ok (.iconst (-1), 1) := by decide +kernel
theorem dX4_typeBehindSign_9 : decode cX4_typeBehindSign 9 = .ok (.ireturn, 1) := by decide +kernel
theorem dX6_place_0 : decode cX6_place 0 = .ok (.aload_n 0, 1) := by decide +kernel
theorem dX6_place_1 : decode cX6_place 1 = .ok (.getfield 17, 3) := by decide +kernel
theorem dX6_place_4 : decode cX6_place 4 = .ok (.ireturn, 1) := by decide +kernel
theorem dX2_has_0 : decode cX2_has 0 = .ok (.iload_n 1, 1) := by decide +kernel
theorem dX2_has_1 : decode cX2_has 1 = .ok (.ifCond .lt 15, 3) := by decide +kernel
theorem dX2_has_16 : decode cX2_has 16 = .ok (.iconst 0, 1) := by decide +kernel
theorem dX2_has_17 : decode cX2_has 17 = .ok (.ireturn, 1) := by decide +kernel
theorem dX3_lengthOf_0 : decode cX3_lengthOf 0 = .ok (.aload_n 0, 1) := by decide +kernel
theorem dX3_lengthOf_1 : decode cX3_lengthOf 1 = .ok (.getfield 28, 3) := by decide +kernel
theorem dX3_lengthOf_4 : decode cX3_lengthOf 4 = .ok (.iload_n 1, 1) := by decide +kernel
theorem dX3_lengthOf_5 : decode cX3_lengthOf 5 = .ok (.invokevirtual 63, 3) := by decide +kernel
theorem dX3_lengthOf_8 : decode cX3_lengthOf 8 = .ok (.ifCond .eq 12, 3) := by decide +kernel
theorem dX3_lengthOf_20 : decode cX3_lengthOf 20 = .ok (.iconst 0, 1) := by decide +kernel
theorem dX3_lengthOf_21 : decode cX3_lengthOf 21 = .ok (.ireturn, 1) := by decide +kernel
theorem dX3_length_0 : decode cX3_length 0 = .ok (.aload_n 0, 1) := by decide +kernel
theorem dX3_length_1 : decode cX3_length 1 = .ok (.aload_n 0, 1) := by decide +kernel
theorem dX3_length_2 : decode cX3_length 2 = .ok (.getfield 22, 3) := by decide +kernel
theorem dX3_length_5 : decode cX3_length 5 = .ok (.invokevirtual 51, 3) := by decide +kernel
theorem dX3_length_8 : decode cX3_length 8 = .ok (.ireturn, 1) := by decide +kernel
theorem dX6_size_0 : decode cX6_size 0 = .ok (.aload_n 0, 1) := by decide +kernel
theorem dX6_size_1 : decode cX6_size 1 = .ok (.getfield 48, 3) := by decide +kernel
theorem dX6_size_4 : decode cX6_size 4 = .ok (.invokevirtual 103, 3) := by decide +kernel
theorem dX6_size_7 : decode cX6_size 7 = .ok (.ireturn, 1) := by decide +kernel
theorem dX1_madeUnknowns_0 : decode cX1_madeUnknowns 0 = .ok (.aload_n 0, 1) := by decide +kernel
theorem dX1_madeUnknowns_1 : decode cX1_madeUnknowns 1 = .ok (.getfield 32, 3) := by decide +kernel
theorem dX1_madeUnknowns_4 : decode cX1_madeUnknowns 4 = .ok (.ireturn, 1) := by decide +kernel
theorem dX1_solvedUnknowns_0 : decode cX1_solvedUnknowns 0 = .ok (.aload_n 0, 1) := by decide +kernel
theorem dX1_solvedUnknowns_1 : decode cX1_solvedUnknowns 1 = .ok (.getfield 35, 3) := by decide +kernel
theorem dX1_solvedUnknowns_4 : decode cX1_solvedUnknowns 4 = .ok (.ireturn, 1) := by decide +kernel
theorem dX6_unknowns_0 : decode cX6_unknowns 0 = .ok (.aload_n 0, 1) := by decide +kernel
theorem dX6_unknowns_1 : decode cX6_unknowns 1 = .ok (.getfield 41, 3) := by decide +kernel
theorem dX6_unknowns_4 : decode cX6_unknowns 4 = .ok (.invokevirtual 115, 3) := by decide +kernel
theorem dX6_unknowns_7 : decode cX6_unknowns 7 = .ok (.ireturn, 1) := by decide +kernel
theorem dX6_solved_0 : decode cX6_solved 0 = .ok (.aload_n 0, 1) := by decide +kernel
theorem dX6_solved_1 : decode cX6_solved 1 = .ok (.getfield 41, 3) := by decide +kernel
theorem dX6_solved_4 : decode cX6_solved 4 = .ok (.invokevirtual 118, 3) := by decide +kernel
theorem dX6_solved_7 : decode cX6_solved 7 = .ok (.ireturn, 1) := by decide +kernel
theorem dX7_thrown_0 : decode cX7_thrown 0 = .ok (.aload_n 0, 1) := by decide +kernel
theorem dX7_thrown_1 : decode cX7_thrown 1 = .ok (.getfield 78, 3) := by decide +kernel
theorem dX7_thrown_4 : decode cX7_thrown 4 = .ok (.ireturn, 1) := by decide +kernel
theorem dX7_throwing_0 : decode cX7_throwing 0 = .ok (.aload_n 0, 1) := by decide +kernel
theorem dX7_throwing_1 : decode cX7_throwing 1 = .ok (.iload_n 1, 1) := by decide +kernel
theorem dX7_throwing_2 : decode cX7_throwing 2 = .ok (.ifCond .eq 7, 3) := by decide +kernel
theorem dX7_throwing_5 : decode cX7_throwing 5 = .ok (.iconst 1, 1) := by decide +kernel
theorem dX7_throwing_6 : decode cX7_throwing 6 = .ok (.goto 12, 3) := by decide +kernel
theorem dX7_throwing_18 : decode cX7_throwing 18 = .ok (.putfield 78, 3) := by decide +kernel
theorem dX7_throwing_21 : decode cX7_throwing 21 = .ok (.aload_n 0, 1) := by decide +kernel
theorem dX7_throwing_22 : decode cX7_throwing 22 = .ok (.getfield 78, 3) := by decide +kernel
theorem dX7_throwing_25 : decode cX7_throwing 25 = .ok (.ifCond .le 7, 3) := by decide +kernel
theorem dX7_throwing_28 : decode cX7_throwing 28 = .ok (.iconst 1, 1) := by decide +kernel
theorem dX7_throwing_29 : decode cX7_throwing 29 = .ok (.goto 4, 3) := by decide +kernel
theorem dX7_throwing_33 : decode cX7_throwing 33 = .ok (.ireturn, 1) := by decide +kernel
theorem dX7_throwing_9 : decode cX7_throwing 9 = .ok (.iload_n 2, 1) := by decide +kernel
theorem dX7_throwing_10 : decode cX7_throwing 10 = .ok (.ifCond .eq 7, 3) := by decide +kernel
theorem dX7_throwing_17 : decode cX7_throwing 17 = .ok (.iconst 0, 1) := by decide +kernel
theorem dX7_throwing_32 : decode cX7_throwing 32 = .ok (.iconst 0, 1) := by decide +kernel
theorem dX7_see_0 : decode cX7_see 0 = .ok (.aload_n 0, 1) := by decide +kernel
theorem dX7_see_1 : decode cX7_see 1 = .ok (.getfield 94, 3) := by decide +kernel
theorem dX7_see_4 : decode cX7_see 4 = .ok (.aload_n 0, 1) := by decide +kernel
theorem dX7_see_5 : decode cX7_see 5 = .ok (.getfield 97, 3) := by decide +kernel
theorem dX7_see_8 : decode cX7_see 8 = .ok (.if_icmp .ge 30, 3) := by decide +kernel
theorem dX7_see_38 : decode cX7_see 38 = .ok (.aload_n 0, 1) := by decide +kernel
theorem dX7_see_39 : decode cX7_see 39 = .ok (.getfield 94, 3) := by decide +kernel
theorem dX7_see_42 : decode cX7_see 42 = .ok (.aload_n 0, 1) := by decide +kernel
theorem dX7_see_43 : decode cX7_see 43 = .ok (.getfield 97, 3) := by decide +kernel
theorem dX7_see_46 : decode cX7_see 46 = .ok (.if_icmp .ge 15, 3) := by decide +kernel
theorem dX7_see_61 : decode cX7_see 61 = .ok (.iconst (-1), 1) := by decide +kernel
theorem dX7_see_62 : decode cX7_see 62 = .ok (.ireturn, 1) := by decide +kernel
theorem dX7_fail_0 : decode cX7_fail 0 = .ok (.aload_n 0, 1) := by decide +kernel
theorem dX7_fail_1 : decode cX7_fail 1 = .ok (.getfield 100, 3) := by decide +kernel
theorem dX7_fail_4 : decode cX7_fail 4 = .ok (.ifCond .eq 4, 3) := by decide +kernel
theorem dX7_fail_8 : decode cX7_fail 8 = .ok (.aload_n 0, 1) := by decide +kernel
theorem dX7_fail_9 : decode cX7_fail 9 = .ok (.iconst 1, 1) := by decide +kernel
theorem dX7_fail_10 : decode cX7_fail 10 = .ok (.putfield 100, 3) := by decide +kernel
theorem dX7_fail_13 : decode cX7_fail 13 = .ok (.aload_n 0, 1) := by decide +kernel
theorem dX7_fail_14 : decode cX7_fail 14 = .ok (.aload_n 0, 1) := by decide +kernel
theorem dX7_fail_15 : decode cX7_fail 15 = .ok (.getfield 94, 3) := by decide +kernel
theorem dX7_fail_18 : decode cX7_fail 18 = .ok (.putfield 13, 3) := by decide +kernel
theorem dX7_fail_21 : decode cX7_fail 21 = .ok (.return_, 1) := by decide +kernel
theorem dX7_isLetter_0 : decode cX7_isLetter 0 = .ok (.iload_n 0, 1) := by decide +kernel
theorem dX7_isLetter_1 : decode cX7_isLetter 1 = .ok (.bipush 97, 2) := by decide +kernel
theorem dX7_isLetter_3 : decode cX7_isLetter 3 = .ok (.if_icmp .lt 13, 3) := by decide +kernel
theorem dX7_isLetter_16 : decode cX7_isLetter 16 = .ok (.iconst 0, 1) := by decide +kernel
theorem dX7_isLetter_17 : decode cX7_isLetter 17 = .ok (.ireturn, 1) := by decide +kernel
theorem dX7_open_0 : decode cX7_open 0 = .ok (.aload_n 0, 1) := by decide +kernel
theorem dX7_open_1 : decode cX7_open 1 = .ok (.getfield 36, 3) := by decide +kernel
theorem dX7_open_4 : decode cX7_open 4 = .ok (.aload_n 0, 1) := by decide +kernel
theorem dX7_open_5 : decode cX7_open 5 = .ok (.getfield 104, 3) := by decide +kernel
theorem dX7_open_8 : decode cX7_open 8 = .ok (.iload_n 1, 1) := by decide +kernel
theorem dX7_open_9 : decode cX7_open 9 = .ok (.iastore, 1) := by decide +kernel
theorem dX7_open_10 : decode cX7_open 10 = .ok (.aload_n 0, 1) := by decide +kernel
theorem dX7_open_11 : decode cX7_open 11 = .ok (.getfield 39, 3) := by decide +kernel
theorem dX7_open_14 : decode cX7_open 14 = .ok (.aload_n 0, 1) := by decide +kernel
theorem dX7_open_15 : decode cX7_open 15 = .ok (.getfield 104, 3) := by decide +kernel
theorem dX7_open_18 : decode cX7_open 18 = .ok (.iload_n 2, 1) := by decide +kernel
theorem dX7_open_19 : decode cX7_open 19 = .ok (.iastore, 1) := by decide +kernel
theorem dX7_open_20 : decode cX7_open 20 = .ok (.aload_n 0, 1) := by decide +kernel
theorem dX7_open_21 : decode cX7_open 21 = .ok (.getfield 42, 3) := by decide +kernel
theorem dX7_open_24 : decode cX7_open 24 = .ok (.aload_n 0, 1) := by decide +kernel
theorem dX7_open_25 : decode cX7_open 25 = .ok (.getfield 104, 3) := by decide +kernel
theorem dX7_open_28 : decode cX7_open 28 = .ok (.iload_n 3, 1) := by decide +kernel
theorem dX7_open_29 : decode cX7_open 29 = .ok (.iastore, 1) := by decide +kernel
theorem dX7_open_30 : decode cX7_open 30 = .ok (.aload_n 0, 1) := by decide +kernel
theorem dX7_open_31 : decode cX7_open 31 = .ok (.dup, 1) := by decide +kernel
theorem dX7_open_32 : decode cX7_open 32 = .ok (.getfield 104, 3) := by decide +kernel
theorem dX7_open_35 : decode cX7_open 35 = .ok (.iconst 1, 1) := by decide +kernel
theorem dX7_open_36 : decode cX7_open 36 = .ok (.iadd, 1) := by decide +kernel
theorem dX7_open_37 : decode cX7_open 37 = .ok (.putfield 104, 3) := by decide +kernel
theorem dX7_open_40 : decode cX7_open 40 = .ok (.return_, 1) := by decide +kernel
theorem dX7_begin_0 : decode cX7_begin 0 = .ok (.aload_n 0, 1) := by decide +kernel
theorem dX7_begin_1 : decode cX7_begin 1 = .ok (.aload_n 0, 1) := by decide +kernel
theorem dX7_begin_2 : decode cX7_begin 2 = .ok (.getfield 81, 3) := by decide +kernel
theorem dX7_begin_5 : decode cX7_begin 5 = .ok (.putfield 97, 3) := by decide +kernel
theorem dX7_begin_8 : decode cX7_begin 8 = .ok (.aload_n 0, 1) := by decide +kernel
theorem dX7_begin_9 : decode cX7_begin 9 = .ok (.iconst 0, 1) := by decide +kernel
theorem dX7_begin_10 : decode cX7_begin 10 = .ok (.putfield 81, 3) := by decide +kernel
theorem dX7_begin_13 : decode cX7_begin 13 = .ok (.aload_n 0, 1) := by decide +kernel
theorem dX7_begin_14 : decode cX7_begin 14 = .ok (.iconst 0, 1) := by decide +kernel
theorem dX7_begin_15 : decode cX7_begin 15 = .ok (.putfield 94, 3) := by decide +kernel
theorem dX7_begin_18 : decode cX7_begin 18 = .ok (.aload_n 0, 1) := by decide +kernel
theorem dX7_begin_19 : decode cX7_begin 19 = .ok (.iconst 0, 1) := by decide +kernel
theorem dX7_begin_20 : decode cX7_begin 20 = .ok (.putfield 100, 3) := by decide +kernel
theorem dX7_begin_23 : decode cX7_begin 23 = .ok (.aload_n 0, 1) := by decide +kernel
theorem dX7_begin_24 : decode cX7_begin 24 = .ok (.iconst (-1), 1) := by decide +kernel
theorem dX7_begin_25 : decode cX7_begin 25 = .ok (.putfield 13, 3) := by decide +kernel
theorem dX7_begin_28 : decode cX7_begin 28 = .ok (.aload_n 0, 1) := by decide +kernel
theorem dX7_begin_29 : decode cX7_begin 29 = .ok (.iconst 0, 1) := by decide +kernel
theorem dX7_begin_30 : decode cX7_begin 30 = .ok (.putfield 125, 3) := by decide +kernel
theorem dX7_begin_33 : decode cX7_begin 33 = .ok (.aload_n 0, 1) := by decide +kernel
theorem dX7_begin_34 : decode cX7_begin 34 = .ok (.iconst 0, 1) := by decide +kernel
theorem dX7_begin_35 : decode cX7_begin 35 = .ok (.putfield 88, 3) := by decide +kernel
theorem dX7_begin_38 : decode cX7_begin 38 = .ok (.aload_n 0, 1) := by decide +kernel
theorem dX7_begin_39 : decode cX7_begin 39 = .ok (.iconst 0, 1) := by decide +kernel
theorem dX7_begin_40 : decode cX7_begin 40 = .ok (.putfield 91, 3) := by decide +kernel
theorem dX7_begin_43 : decode cX7_begin 43 = .ok (.aload_n 0, 1) := by decide +kernel
theorem dX7_begin_44 : decode cX7_begin 44 = .ok (.iconst 0, 1) := by decide +kernel
theorem dX7_begin_45 : decode cX7_begin 45 = .ok (.putfield 118, 3) := by decide +kernel
theorem dX7_begin_48 : decode cX7_begin 48 = .ok (.aload_n 0, 1) := by decide +kernel
theorem dX7_begin_49 : decode cX7_begin 49 = .ok (.iconst 0, 1) := by decide +kernel
theorem dX7_begin_50 : decode cX7_begin 50 = .ok (.putfield 104, 3) := by decide +kernel
theorem dX7_begin_53 : decode cX7_begin 53 = .ok (.aload_n 0, 1) := by decide +kernel
theorem dX7_begin_54 : decode cX7_begin 54 = .ok (.iconst 0, 1) := by decide +kernel
theorem dX7_begin_55 : decode cX7_begin 55 = .ok (.putfield 149, 3) := by decide +kernel
theorem dX7_begin_58 : decode cX7_begin 58 = .ok (.aload_n 0, 1) := by decide +kernel
theorem dX7_begin_59 : decode cX7_begin 59 = .ok (.iconst 0, 1) := by decide +kernel
theorem dX7_begin_60 : decode cX7_begin 60 = .ok (.putfield 152, 3) := by decide +kernel
theorem dX7_begin_63 : decode cX7_begin 63 = .ok (.aload_n 0, 1) := by decide +kernel
theorem dX7_begin_64 : decode cX7_begin 64 = .ok (.iconst 0, 1) := by decide +kernel
theorem dX7_begin_65 : decode cX7_begin 65 = .ok (.putfield 155, 3) := by decide +kernel
theorem dX7_begin_68 : decode cX7_begin 68 = .ok (.aload_n 0, 1) := by decide +kernel
theorem dX7_begin_69 : decode cX7_begin 69 = .ok (.iconst 0, 1) := by decide +kernel
theorem dX7_begin_70 : decode cX7_begin 70 = .ok (.putfield 158, 3) := by decide +kernel
theorem dX7_begin_73 : decode cX7_begin 73 = .ok (.aload_n 0, 1) := by decide +kernel
theorem dX7_begin_74 : decode cX7_begin 74 = .ok (.iconst 0, 1) := by decide +kernel
theorem dX7_begin_75 : decode cX7_begin 75 = .ok (.putfield 161, 3) := by decide +kernel
theorem dX7_begin_78 : decode cX7_begin 78 = .ok (.aload_n 0, 1) := by decide +kernel
theorem dX7_begin_79 : decode cX7_begin 79 = .ok (.iconst 0, 1) := by decide +kernel
theorem dX7_begin_80 : decode cX7_begin 80 = .ok (.putfield 164, 3) := by decide +kernel
theorem dX7_begin_83 : decode cX7_begin 83 = .ok (.return_, 1) := by decide +kernel
theorem dX7_readTerm_0 : decode cX7_readTerm 0 = .ok (.aload_n 0, 1) := by decide +kernel
theorem dX7_readTerm_1 : decode cX7_readTerm 1 = .ok (.getfield 66, 3) := by decide +kernel
theorem dX7_readTerm_4 : decode cX7_readTerm 4 = .ok (.astore_n 1, 1) := by decide +kernel
theorem dX7_readTerm_5 : decode cX7_readTerm 5 = .ok (.aload_n 0, 1) := by decide +kernel
theorem dX7_readTerm_6 : decode cX7_readTerm 6 = .ok (.iconst 0, 1) := by decide +kernel
theorem dX7_readTerm_7 : decode cX7_readTerm 7 = .ok (.iconst 0, 1) := by decide +kernel
theorem dX7_readTerm_8 : decode cX7_readTerm 8 = .ok (.iconst 0, 1) := by decide +kernel
theorem dX7_readTerm_9 : decode cX7_readTerm 9 = .ok (.invokevirtual 121, 3) := by decide +kernel
theorem dX7_readTerm_12 : decode cX7_readTerm 12 = .ok (.aload_n 1, 1) := by decide +kernel
theorem dX7_readTerm_13 : decode cX7_readTerm 13 = .ok (.iconst 0, 1) := by decide +kernel
theorem dX7_readTerm_14 : decode cX7_readTerm 14 = .ok (.iconst (-1), 1) := by decide +kernel
theorem dX7_readTerm_15 : decode cX7_readTerm 15 = .ok (.iastore, 1) := by decide +kernel
theorem dX7_readTerm_16 : decode cX7_readTerm 16 = .ok (.aload_n 0, 1) := by decide +kernel
theorem dX7_readTerm_17 : decode cX7_readTerm 17 = .ok (.getfield 100, 3) := by decide +kernel
theorem dX7_readTerm_20 : decode cX7_readTerm 20 = .ok (.ifCond .ne 465, 3) := by decide +kernel
theorem dX7_readTerm_23 : decode cX7_readTerm 23 = .ok (.aload_n 0, 1) := by decide +kernel
theorem dX7_readTerm_24 : decode cX7_readTerm 24 = .ok (.invokevirtual 107, 3) := by decide +kernel
theorem dX7_readTerm_27 : decode cX7_readTerm 27 = .ok (.istore_n 3, 1) := by decide +kernel
theorem dX7_readTerm_28 : decode cX7_readTerm 28 = .ok (.iconst (-1), 1) := by decide +kernel
theorem dX7_readTerm_29 : decode cX7_readTerm 29 = .ok (.istore_n 2, 1) := by decide +kernel
theorem dX7_readTerm_30 : decode cX7_readTerm 30 = .ok (.iload_n 3, 1) := by decide +kernel
theorem dX7_readTerm_31 : decode cX7_readTerm 31 = .ok (.bipush 49, 2) := by decide +kernel
theorem dX7_readTerm_33 : decode cX7_readTerm 33 = .ok (.if_icmp .ne 24, 3) := by decide +kernel
theorem dX7_readTerm_57 : decode cX7_readTerm 57 = .ok (.iload_n 3, 1) := by decide +kernel
theorem dX7_readTerm_58 : decode cX7_readTerm 58 = .ok (.invokestatic 111, 3) := by decide +kernel
theorem dX7_readTerm_61 : decode cX7_readTerm 61 = .ok (.ifCond .eq 42, 3) := by decide +kernel
theorem dX7_readTerm_103 : decode cX7_readTerm 103 = .ok (.iload_n 3, 1) := by decide +kernel
theorem dX7_readTerm_104 : decode cX7_readTerm 104 = .ok (.bipush 92, 2) := by decide +kernel
theorem dX7_readTerm_106 : decode cX7_readTerm 106 = .ok (.if_icmp .ne 27, 3) := by decide +kernel
theorem dX7_readTerm_133 : decode cX7_readTerm 133 = .ok (.iload_n 3, 1) := by decide +kernel
theorem dX7_readTerm_134 : decode cX7_readTerm 134 = .ok (.bipush 40, 2) := by decide +kernel
theorem dX7_readTerm_136 : decode cX7_readTerm 136 = .ok (.if_icmp .ne 29, 3) := by decide +kernel
theorem dX7_readTerm_165 : decode cX7_readTerm 165 = .ok (.aload_n 0, 1) := by decide +kernel
theorem dX7_readTerm_166 : decode cX7_readTerm 166 = .ok (.invokevirtual 115, 3) := by decide +kernel
theorem dX7_readTerm_169 : decode cX7_readTerm 169 = .ok (.aload_n 0, 1) := by decide +kernel
theorem dX7_readTerm_170 : decode cX7_readTerm 170 = .ok (.getfield 100, 3) := by decide +kernel
theorem dX7_readTerm_173 : decode cX7_readTerm 173 = .ok (.ifCond .ne 309, 3) := by decide +kernel
theorem dX7_readTerm_482 : decode cX7_readTerm 482 = .ok (.goto (-466), 3) := by decide +kernel
theorem dX7_readTerm_485 : decode cX7_readTerm 485 = .ok (.iconst (-1), 1) := by decide +kernel
theorem dX7_readTerm_486 : decode cX7_readTerm 486 = .ok (.ireturn, 1) := by decide +kernel
theorem dX7_readType_0 : decode cX7_readType 0 = .ok (.aload_n 0, 1) := by decide +kernel
theorem dX7_readType_1 : decode cX7_readType 1 = .ok (.getfield 104, 3) := by decide +kernel
theorem dX7_readType_4 : decode cX7_readType 4 = .ok (.istore_n 1, 1) := by decide +kernel
theorem dX7_readType_5 : decode cX7_readType 5 = .ok (.aload_n 0, 1) := by decide +kernel
theorem dX7_readType_6 : decode cX7_readType 6 = .ok (.iconst 0, 1) := by decide +kernel
theorem dX7_readType_7 : decode cX7_readType 7 = .ok (.iconst 0, 1) := by decide +kernel
theorem dX7_readType_8 : decode cX7_readType 8 = .ok (.iconst 0, 1) := by decide +kernel
theorem dX7_readType_9 : decode cX7_readType 9 = .ok (.invokevirtual 121, 3) := by decide +kernel
theorem dX7_readType_12 : decode cX7_readType 12 = .ok (.iconst (-1), 1) := by decide +kernel
theorem dX7_readType_13 : decode cX7_readType 13 = .ok (.istore_n 2, 1) := by decide +kernel
theorem dX7_readType_14 : decode cX7_readType 14 = .ok (.aload_n 0, 1) := by decide +kernel
theorem dX7_readType_15 : decode cX7_readType 15 = .ok (.getfield 100, 3) := by decide +kernel
theorem dX7_readType_18 : decode cX7_readType 18 = .ok (.ifCond .ne 304, 3) := by decide +kernel
theorem dX7_readType_21 : decode cX7_readType 21 = .ok (.aload_n 0, 1) := by decide +kernel
theorem dX7_readType_22 : decode cX7_readType 22 = .ok (.invokevirtual 107, 3) := by decide +kernel
theorem dX7_readType_25 : decode cX7_readType 25 = .ok (.istore_n 3, 1) := by decide +kernel
theorem dX7_readType_26 : decode cX7_readType 26 = .ok (.iconst (-1), 1) := by decide +kernel
theorem dX7_readType_27 : decode cX7_readType 27 = .ok (.istore_n 2, 1) := by decide +kernel
theorem dX7_readType_28 : decode cX7_readType 28 = .ok (.iload_n 3, 1) := by decide +kernel
theorem dX7_readType_29 : decode cX7_readType 29 = .ok (.bipush 49, 2) := by decide +kernel
theorem dX7_readType_31 : decode cX7_readType 31 = .ok (.if_icmp .ne 24, 3) := by decide +kernel
theorem dX7_readType_55 : decode cX7_readType 55 = .ok (.iload_n 3, 1) := by decide +kernel
theorem dX7_readType_56 : decode cX7_readType 56 = .ok (.invokestatic 111, 3) := by decide +kernel
theorem dX7_readType_59 : decode cX7_readType 59 = .ok (.ifCond .eq 42, 3) := by decide +kernel
theorem dX7_readType_101 : decode cX7_readType 101 = .ok (.iload_n 3, 1) := by decide +kernel
theorem dX7_readType_102 : decode cX7_readType 102 = .ok (.bipush 33, 2) := by decide +kernel
theorem dX7_readType_104 : decode cX7_readType 104 = .ok (.if_icmp .ne 11, 3) := by decide +kernel
theorem dX7_readType_115 : decode cX7_readType 115 = .ok (.iload_n 3, 1) := by decide +kernel
theorem dX7_readType_116 : decode cX7_readType 116 = .ok (.bipush 40, 2) := by decide +kernel
theorem dX7_readType_118 : decode cX7_readType 118 = .ok (.if_icmp .ne 20, 3) := by decide +kernel
theorem dX7_readType_138 : decode cX7_readType 138 = .ok (.aload_n 0, 1) := by decide +kernel
theorem dX7_readType_139 : decode cX7_readType 139 = .ok (.invokevirtual 115, 3) := by decide +kernel
theorem dX7_readType_142 : decode cX7_readType 142 = .ok (.aload_n 0, 1) := by decide +kernel
theorem dX7_readType_143 : decode cX7_readType 143 = .ok (.getfield 100, 3) := by decide +kernel
theorem dX7_readType_146 : decode cX7_readType 146 = .ok (.ifCond .ne 173, 3) := by decide +kernel
theorem dX7_readType_319 : decode cX7_readType 319 = .ok (.goto (-305), 3) := by decide +kernel
theorem dX7_readType_322 : decode cX7_readType 322 = .ok (.iload_n 2, 1) := by decide +kernel
theorem dX7_readType_323 : decode cX7_readType 323 = .ok (.ireturn, 1) := by decide +kernel
theorem dX7_infer_0 : decode cX7_infer 0 = .ok (.aload_n 0, 1) := by decide +kernel
theorem dX7_infer_1 : decode cX7_infer 1 = .ok (.invokevirtual 226, 3) := by decide +kernel
theorem dX7_infer_4 : decode cX7_infer 4 = .ok (.aload_n 0, 1) := by decide +kernel
theorem dX7_infer_5 : decode cX7_infer 5 = .ok (.invokevirtual 229, 3) := by decide +kernel
theorem dX7_infer_8 : decode cX7_infer 8 = .ok (.istore_n 1, 1) := by decide +kernel
theorem dX7_infer_9 : decode cX7_infer 9 = .ok (.aload_n 0, 1) := by decide +kernel
theorem dX7_infer_10 : decode cX7_infer 10 = .ok (.aload_n 0, 1) := by decide +kernel
theorem dX7_infer_11 : decode cX7_infer 11 = .ok (.getfield 100, 3) := by decide +kernel
theorem dX7_infer_14 : decode cX7_infer 14 = .ok (.iconst 0, 1) := by decide +kernel
theorem dX7_infer_15 : decode cX7_infer 15 = .ok (.invokevirtual 84, 3) := by decide +kernel
theorem dX7_infer_18 : decode cX7_infer 18 = .ok (.ifCond .eq 5, 3) := by decide +kernel
theorem dX7_infer_21 : decode cX7_infer 21 = .ok (.iconst 0, 1) := by decide +kernel
theorem dX7_infer_22 : decode cX7_infer 22 = .ok (.ireturn, 1) := by decide +kernel
theorem dX7_below_0 : decode cX7_below 0 = .ok (.aload_n 0, 1) := by decide +kernel
theorem dX7_below_1 : decode cX7_below 1 = .ok (.invokevirtual 226, 3) := by decide +kernel
