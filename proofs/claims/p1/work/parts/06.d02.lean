theorem dX1_clear_14 : decode cX1_clear 14 = .ok (.putfield 25, 3) := by decide +kernel
theorem dX1_clear_17 : decode cX1_clear 17 = .ok (.aload_n 0, 1) := by decide +kernel
theorem dX1_clear_18 : decode cX1_clear 18 = .ok (.iconst (-1), 1) := by decide +kernel
theorem dX1_clear_19 : decode cX1_clear 19 = .ok (.putfield 29, 3) := by decide +kernel
theorem dX1_clear_22 : decode cX1_clear 22 = .ok (.aload_n 0, 1) := by decide +kernel
theorem dX1_clear_23 : decode cX1_clear 23 = .ok (.iconst 0, 1) := by decide +kernel
theorem dX1_clear_24 : decode cX1_clear 24 = .ok (.putfield 32, 3) := by decide +kernel
theorem dX1_clear_27 : decode cX1_clear 27 = .ok (.aload_n 0, 1) := by decide +kernel
theorem dX1_clear_28 : decode cX1_clear 28 = .ok (.iconst 0, 1) := by decide +kernel
theorem dX1_clear_29 : decode cX1_clear 29 = .ok (.putfield 35, 3) := by decide +kernel
theorem dX1_clear_32 : decode cX1_clear 32 = .ok (.return_, 1) := by decide +kernel
theorem dX3_clear_0 : decode cX3_clear 0 = .ok (.aload_n 0, 1) := by decide +kernel
theorem dX3_clear_1 : decode cX3_clear 1 = .ok (.iconst (-1), 1) := by decide +kernel
theorem dX3_clear_2 : decode cX3_clear 2 = .ok (.putfield 22, 3) := by decide +kernel
theorem dX3_clear_5 : decode cX3_clear 5 = .ok (.return_, 1) := by decide +kernel
theorem dX6_startText_0 : decode cX6_startText 0 = .ok (.aload_n 0, 1) := by decide +kernel
theorem dX6_startText_1 : decode cX6_startText 1 = .ok (.getfield 23, 3) := by decide +kernel
theorem dX6_startText_4 : decode cX6_startText 4 = .ok (.invokevirtual 121, 3) := by decide +kernel
theorem dX6_startText_7 : decode cX6_startText 7 = .ok (.aload_n 0, 1) := by decide +kernel
theorem dX6_startText_8 : decode cX6_startText 8 = .ok (.getfield 41, 3) := by decide +kernel
theorem dX6_startText_11 : decode cX6_startText 11 = .ok (.invokevirtual 124, 3) := by decide +kernel
theorem dX6_startText_14 : decode cX6_startText 14 = .ok (.aload_n 0, 1) := by decide +kernel
theorem dX6_startText_15 : decode cX6_startText 15 = .ok (.getfield 48, 3) := by decide +kernel
theorem dX6_startText_18 : decode cX6_startText 18 = .ok (.invokevirtual 125, 3) := by decide +kernel
theorem dX6_startText_21 : decode cX6_startText 21 = .ok (.aload_n 0, 1) := by decide +kernel
theorem dX6_startText_22 : decode cX6_startText 22 = .ok (.getfield 32, 3) := by decide +kernel
theorem dX6_startText_25 : decode cX6_startText 25 = .ok (.aload_n 0, 1) := by decide +kernel
theorem dX6_startText_26 : decode cX6_startText 26 = .ok (.getfield 13, 3) := by decide +kernel
theorem dX6_startText_29 : decode cX6_startText 29 = .ok (.invokevirtual 126, 3) := by decide +kernel
theorem dX6_startText_32 : decode cX6_startText 32 = .ok (.aload_n 0, 1) := by decide +kernel
theorem dX6_startText_33 : decode cX6_startText 33 = .ok (.iconst 0, 1) := by decide +kernel
theorem dX6_startText_34 : decode cX6_startText 34 = .ok (.putfield 13, 3) := by decide +kernel
theorem dX6_startText_37 : decode cX6_startText 37 = .ok (.return_, 1) := by decide +kernel
theorem dX4_peek_0 : decode cX4_peek 0 = .ok (.aload_n 0, 1) := by decide +kernel
theorem dX4_peek_1 : decode cX4_peek 1 = .ok (.getfield 25, 3) := by decide +kernel
theorem dX4_peek_4 : decode cX4_peek 4 = .ok (.aload_n 0, 1) := by decide +kernel
theorem dX4_peek_5 : decode cX4_peek 5 = .ok (.getfield 22, 3) := by decide +kernel
theorem dX4_peek_8 : decode cX4_peek 8 = .ok (.if_icmp .ge 30, 3) := by decide +kernel
theorem dX4_peek_38 : decode cX4_peek 38 = .ok (.aload_n 0, 1) := by decide +kernel
theorem dX4_peek_39 : decode cX4_peek 39 = .ok (.getfield 25, 3) := by decide +kernel
theorem dX4_peek_42 : decode cX4_peek 42 = .ok (.aload_n 0, 1) := by decide +kernel
theorem dX4_peek_43 : decode cX4_peek 43 = .ok (.getfield 22, 3) := by decide +kernel
theorem dX4_peek_46 : decode cX4_peek 46 = .ok (.if_icmp .ge 15, 3) := by decide +kernel
theorem dX4_peek_61 : decode cX4_peek 61 = .ok (.iconst (-1), 1) := by decide +kernel
theorem dX4_peek_62 : decode cX4_peek 62 = .ok (.ireturn, 1) := by decide +kernel
theorem dX4_refuse_0 : decode cX4_refuse 0 = .ok (.aload_n 0, 1) := by decide +kernel
theorem dX4_refuse_1 : decode cX4_refuse 1 = .ok (.aload_n 0, 1) := by decide +kernel
theorem dX4_refuse_2 : decode cX4_refuse 2 = .ok (.getfield 25, 3) := by decide +kernel
theorem dX4_refuse_5 : decode cX4_refuse 5 = .ok (.putfield 31, 3) := by decide +kernel
theorem dX4_refuse_8 : decode cX4_refuse 8 = .ok (.iconst (-1), 1) := by decide +kernel
theorem dX4_refuse_9 : decode cX4_refuse 9 = .ok (.ireturn, 1) := by decide +kernel
theorem dX4_isLetter_0 : decode cX4_isLetter 0 = .ok (.iload_n 0, 1) := by decide +kernel
theorem dX4_isLetter_1 : decode cX4_isLetter 1 = .ok (.bipush 97, 2) := by decide +kernel
theorem dX4_isLetter_3 : decode cX4_isLetter 3 = .ok (.if_icmp .lt 13, 3) := by decide +kernel
theorem dX4_isLetter_16 : decode cX4_isLetter 16 = .ok (.iconst 0, 1) := by decide +kernel
theorem dX4_isLetter_17 : decode cX4_isLetter 17 = .ok (.ireturn, 1) := by decide +kernel
theorem dX4_termAtom_0 : decode cX4_termAtom 0 = .ok (.aload_n 0, 1) := by decide +kernel
theorem dX4_termAtom_1 : decode cX4_termAtom 1 = .ok (.invokevirtual 57, 3) := by decide +kernel
theorem dX4_termAtom_4 : decode cX4_termAtom 4 = .ok (.istore_n 2, 1) := by decide +kernel
theorem dX4_termAtom_5 : decode cX4_termAtom 5 = .ok (.iload_n 1, 1) := by decide +kernel
theorem dX4_termAtom_6 : decode cX4_termAtom 6 = .ok (.bipush 40, 2) := by decide +kernel
theorem dX4_termAtom_8 : decode cX4_termAtom 8 = .ok (.if_icmp .le 8, 3) := by decide +kernel
theorem dX4_termAtom_16 : decode cX4_termAtom 16 = .ok (.iload_n 2, 1) := by decide +kernel
theorem dX4_termAtom_17 : decode cX4_termAtom 17 = .ok (.bipush 49, 2) := by decide +kernel
theorem dX4_termAtom_19 : decode cX4_termAtom 19 = .ok (.if_icmp .ne 25, 3) := by decide +kernel
theorem dX4_termAtom_44 : decode cX4_termAtom 44 = .ok (.iload_n 2, 1) := by decide +kernel
theorem dX4_termAtom_45 : decode cX4_termAtom 45 = .ok (.bipush 92, 2) := by decide +kernel
theorem dX4_termAtom_47 : decode cX4_termAtom 47 = .ok (.if_icmp .ne 9, 3) := by decide +kernel
theorem dX4_termAtom_56 : decode cX4_termAtom 56 = .ok (.iload_n 2, 1) := by decide +kernel
theorem dX4_termAtom_57 : decode cX4_termAtom 57 = .ok (.bipush 40, 2) := by decide +kernel
theorem dX4_termAtom_59 : decode cX4_termAtom 59 = .ok (.if_icmp .ne 9, 3) := by decide +kernel
theorem dX4_termAtom_68 : decode cX4_termAtom 68 = .ok (.iload_n 2, 1) := by decide +kernel
theorem dX4_termAtom_69 : decode cX4_termAtom 69 = .ok (.invokestatic 71, 3) := by decide +kernel
theorem dX4_termAtom_72 : decode cX4_termAtom 72 = .ok (.ifCond .eq 15, 3) := by decide +kernel
theorem dX4_termAtom_87 : decode cX4_termAtom 87 = .ok (.aload_n 0, 1) := by decide +kernel
theorem dX4_termAtom_88 : decode cX4_termAtom 88 = .ok (.invokevirtual 61, 3) := by decide +kernel
theorem dX4_termAtom_91 : decode cX4_termAtom 91 = .ok (.ireturn, 1) := by decide +kernel
theorem dX4_term_0 : decode cX4_term 0 = .ok (.aload_n 0, 1) := by decide +kernel
theorem dX4_term_1 : decode cX4_term 1 = .ok (.iload_n 1, 1) := by decide +kernel
theorem dX4_term_2 : decode cX4_term 2 = .ok (.invokevirtual 74, 3) := by decide +kernel
theorem dX4_term_5 : decode cX4_term 5 = .ok (.istore_n 2, 1) := by decide +kernel
theorem dX4_term_6 : decode cX4_term 6 = .ok (.iconst 1, 1) := by decide +kernel
theorem dX4_term_7 : decode cX4_term 7 = .ok (.istore_n 3, 1) := by decide +kernel
theorem dX4_term_8 : decode cX4_term 8 = .ok (.iload_n 3, 1) := by decide +kernel
theorem dX4_term_9 : decode cX4_term 9 = .ok (.bipush 60, 2) := by decide +kernel
theorem dX4_term_11 : decode cX4_term 11 = .ok (.if_icmp .gt 54, 3) := by decide +kernel
theorem dX4_term_14 : decode cX4_term 14 = .ok (.iload_n 2, 1) := by decide +kernel
theorem dX4_term_15 : decode cX4_term 15 = .ok (.iconst (-1), 1) := by decide +kernel
theorem dX4_term_16 : decode cX4_term 16 = .ok (.if_icmp .eq 49, 3) := by decide +kernel
theorem dX4_term_65 : decode cX4_term 65 = .ok (.iload_n 2, 1) := by decide +kernel
theorem dX4_term_66 : decode cX4_term 66 = .ok (.ireturn, 1) := by decide +kernel
theorem dX4_wholeTerm_0 : decode cX4_wholeTerm 0 = .ok (.aload_n 0, 1) := by decide +kernel
theorem dX4_wholeTerm_1 : decode cX4_wholeTerm 1 = .ok (.iconst 0, 1) := by decide +kernel
theorem dX4_wholeTerm_2 : decode cX4_wholeTerm 2 = .ok (.invokevirtual 53, 3) := by decide +kernel
theorem dX4_wholeTerm_5 : decode cX4_wholeTerm 5 = .ok (.istore_n 1, 1) := by decide +kernel
theorem dX4_wholeTerm_6 : decode cX4_wholeTerm 6 = .ok (.iload_n 1, 1) := by decide +kernel
theorem dX4_wholeTerm_7 : decode cX4_wholeTerm 7 = .ok (.iconst (-1), 1) := by decide +kernel
theorem dX4_wholeTerm_8 : decode cX4_wholeTerm 8 = .ok (.if_icmp .eq 18, 3) := by decide +kernel
theorem dX4_wholeTerm_26 : decode cX4_wholeTerm 26 = .ok (.iload_n 1, 1) := by decide +kernel
theorem dX4_wholeTerm_27 : decode cX4_wholeTerm 27 = .ok (.ireturn, 1) := by decide +kernel
theorem dX4_wrongAt_0 : decode cX4_wrongAt 0 = .ok (.aload_n 0, 1) := by decide +kernel
theorem dX4_wrongAt_1 : decode cX4_wrongAt 1 = .ok (.getfield 31, 3) := by decide +kernel
theorem dX4_wrongAt_4 : decode cX4_wrongAt 4 = .ok (.ireturn, 1) := by decide +kernel
theorem dX4_typeAtom_0 : decode cX4_typeAtom 0 = .ok (.aload_n 0, 1) := by decide +kernel
theorem dX4_typeAtom_1 : decode cX4_typeAtom 1 = .ok (.invokevirtual 57, 3) := by decide +kernel
theorem dX4_typeAtom_4 : decode cX4_typeAtom 4 = .ok (.istore_n 2, 1) := by decide +kernel
theorem dX4_typeAtom_5 : decode cX4_typeAtom 5 = .ok (.iload_n 1, 1) := by decide +kernel
theorem dX4_typeAtom_6 : decode cX4_typeAtom 6 = .ok (.bipush 40, 2) := by decide +kernel
theorem dX4_typeAtom_8 : decode cX4_typeAtom 8 = .ok (.if_icmp .le 8, 3) := by decide +kernel
theorem dX4_typeAtom_16 : decode cX4_typeAtom 16 = .ok (.iload_n 2, 1) := by decide +kernel
theorem dX4_typeAtom_17 : decode cX4_typeAtom 17 = .ok (.bipush 49, 2) := by decide +kernel
theorem dX4_typeAtom_19 : decode cX4_typeAtom 19 = .ok (.if_icmp .ne 15, 3) := by decide +kernel
theorem dX4_typeAtom_34 : decode cX4_typeAtom 34 = .ok (.iload_n 2, 1) := by decide +kernel
theorem dX4_typeAtom_35 : decode cX4_typeAtom 35 = .ok (.bipush 33, 2) := by decide +kernel
theorem dX4_typeAtom_37 : decode cX4_typeAtom 37 = .ok (.if_icmp .ne 9, 3) := by decide +kernel
theorem dX4_typeAtom_46 : decode cX4_typeAtom 46 = .ok (.iload_n 2, 1) := by decide +kernel
theorem dX4_typeAtom_47 : decode cX4_typeAtom 47 = .ok (.bipush 40, 2) := by decide +kernel
theorem dX4_typeAtom_49 : decode cX4_typeAtom 49 = .ok (.if_icmp .ne 9, 3) := by decide +kernel
theorem dX4_typeAtom_58 : decode cX4_typeAtom 58 = .ok (.iload_n 2, 1) := by decide +kernel
theorem dX4_typeAtom_59 : decode cX4_typeAtom 59 = .ok (.invokestatic 71, 3) := by decide +kernel
theorem dX4_typeAtom_62 : decode cX4_typeAtom 62 = .ok (.ifCond .eq 11, 3) := by decide +kernel
theorem dX4_typeAtom_73 : decode cX4_typeAtom 73 = .ok (.aload_n 0, 1) := by decide +kernel
theorem dX4_typeAtom_74 : decode cX4_typeAtom 74 = .ok (.invokevirtual 61, 3) := by decide +kernel
theorem dX4_typeAtom_77 : decode cX4_typeAtom 77 = .ok (.ireturn, 1) := by decide +kernel
theorem dX4_type_0 : decode cX4_type 0 = .ok (.aload_n 0, 1) := by decide +kernel
theorem dX4_type_1 : decode cX4_type 1 = .ok (.iload_n 1, 1) := by decide +kernel
theorem dX4_type_2 : decode cX4_type 2 = .ok (.invokevirtual 98, 3) := by decide +kernel
theorem dX4_type_5 : decode cX4_type 5 = .ok (.istore_n 2, 1) := by decide +kernel
theorem dX4_type_6 : decode cX4_type 6 = .ok (.iload_n 2, 1) := by decide +kernel
theorem dX4_type_7 : decode cX4_type 7 = .ok (.iconst (-1), 1) := by decide +kernel
theorem dX4_type_8 : decode cX4_type 8 = .ok (.if_icmp .eq 12, 3) := by decide +kernel
theorem dX4_type_20 : decode cX4_type 20 = .ok (.iload_n 2, 1) := by decide +kernel
theorem dX4_type_21 : decode cX4_type 21 = .ok (.ireturn, 1) := by decide +kernel
theorem dX4_typeBeforeSign_0 : decode cX4_typeBeforeSign 0 = .ok (.aload_n 0, 1) := by decide +kernel
theorem dX4_typeBeforeSign_1 : decode cX4_typeBeforeSign 1 = .ok (.iconst 0, 1) := by decide +kernel
theorem dX4_typeBeforeSign_2 : decode cX4_typeBeforeSign 2 = .ok (.invokevirtual 64, 3) := by decide +kernel
theorem dX4_typeBeforeSign_5 : decode cX4_typeBeforeSign 5 = .ok (.istore_n 1, 1) := by decide +kernel
theorem dX4_typeBeforeSign_6 : decode cX4_typeBeforeSign 6 = .ok (.iload_n 1, 1) := by decide +kernel
theorem dX4_typeBeforeSign_7 : decode cX4_typeBeforeSign 7 = .ok (.iconst (-1), 1) := by decide +kernel
theorem dX4_typeBeforeSign_8 : decode cX4_typeBeforeSign 8 = .ok (.if_icmp .ne 5, 3) := by decide +kernel
theorem dX4_typeBeforeSign_11 : decode cX4_typeBeforeSign 11 = .ok (.iconst (-1), 1) := by decide +kernel
theorem dX4_typeBeforeSign_12 : decode cX4_typeBeforeSign 12 = .ok (.ireturn, 1) := by decide +kernel
theorem dX4_typeBehindSign_0 : decode cX4_typeBehindSign 0 = .ok (.aload_n 0, 1) := by decide +kernel
theorem dX4_typeBehindSign_1 : decode cX4_typeBehindSign 1 = .ok (.getfield 31, 3) := by decide +kernel
theorem dX4_typeBehindSign_4 : decode cX4_typeBehindSign 4 = .ok (.iconst (-1), 1) := by decide +kernel
theorem dX4_typeBehindSign_5 : decode cX4_typeBehindSign 5 = .ok (.if_icmp .eq 5, 3) := by decide +kernel
theorem dX4_typeBehindSign_8 : decode cX4_typeBehindSign 8 = .ok (.iconst (-1), 1) := by decide +kernel
theorem dX4_typeBehindSign_9 : decode cX4_typeBehindSign 9 = .ok (.ireturn, 1) := by decide +kernel
theorem dX6_place_0 : decode cX6_place 0 = .ok (.aload_n 0, 1) := by decide +kernel
theorem dX6_place_1 : decode cX6_place 1 = .ok (.getfield 17, 3) := by decide +kernel
theorem dX6_place_4 : decode cX6_place 4 = .ok (.ireturn, 1) := by decide +kernel
theorem dX2_has_0 : decode cX2_has 0 = .ok (.iload_n 1, 1) := by decide +kernel
theorem dX2_has_1 : decode cX2_has 1 = .ok (.ifCond .lt 15, 3) := by decide +kernel
theorem dX2_has_16 : decode cX2_has 16 = .ok (.iconst 0, 1) := by decide +kernel
theorem dX2_has_17 : decode cX2_has 17 = .ok (.ireturn, 1) := by decide +kernel
theorem dX3_lengthOf_0 : decode cX3_lengthOf 0 = .ok (.aload_n 0, 1) := by decide +kernel
theorem dX3_lengthOf_1 : decode cX3_lengthOf 1 = .ok (.getfield 28, 3) := by decide +kernel
theorem dX3_lengthOf_4 : decode cX3_lengthOf 4 = .ok (.iload_n 1, 1) := by decide +kernel
theorem dX3_lengthOf_5 : decode cX3_lengthOf 5 = .ok (.invokevirtual 63, 3) := by decide +kernel
theorem dX3_lengthOf_8 : decode cX3_lengthOf 8 = .ok (.ifCond .eq 12, 3) := by decide +kernel
theorem dX3_lengthOf_20 : decode cX3_lengthOf 20 = .ok (.iconst 0, 1) := by decide +kernel
theorem dX3_lengthOf_21 : decode cX3_lengthOf 21 = .ok (.ireturn, 1) := by decide +kernel
theorem dX3_length_0 : decode cX3_length 0 = .ok (.aload_n 0, 1) := by decide +kernel
theorem dX3_length_1 : decode cX3_length 1 = .ok (.aload_n 0, 1) := by decide +kernel
theorem dX3_length_2 : decode cX3_length 2 = .ok (.getfield 22, 3) := by decide +kernel
theorem dX3_length_5 : decode cX3_length 5 = .ok (.invokevirtual 51, 3) := by decide +kernel
theorem dX3_length_8 : decode cX3_length 8 = .ok (.ireturn, 1) := by decide +kernel
theorem dX6_size_0 : decode cX6_size 0 = .ok (.aload_n 0, 1) := by decide +kernel
theorem dX6_size_1 : decode cX6_size 1 = .ok (.getfield 48, 3) := by decide +kernel
theorem dX6_size_4 : decode cX6_size 4 = .ok (.invokevirtual 103, 3) := by decide +kernel
theorem dX6_size_7 : decode cX6_size 7 = .ok (.ireturn, 1) := by decide +kernel
theorem dX1_madeUnknowns_0 : decode cX1_madeUnknowns 0 = .ok (.aload_n 0, 1) := by decide +kernel
theorem dX1_madeUnknowns_1 : decode cX1_madeUnknowns 1 = .ok (.getfield 32, 3) := by decide +kernel
theorem dX1_madeUnknowns_4 : decode cX1_madeUnknowns 4 = .ok (.ireturn, 1) := by decide +kernel
theorem dX1_solvedUnknowns_0 : decode cX1_solvedUnknowns 0 = .ok (.aload_n 0, 1) := by decide +kernel
theorem dX1_solvedUnknowns_1 : decode cX1_solvedUnknowns 1 = .ok (.getfield 35, 3) := by decide +kernel
theorem dX1_solvedUnknowns_4 : decode cX1_solvedUnknowns 4 = .ok (.ireturn, 1) := by decide +kernel
theorem dX6_unknowns_0 : decode cX6_unknowns 0 = .ok (.aload_n 0, 1) := by decide +kernel
theorem dX6_unknowns_1 : decode cX6_unknowns 1 = .ok (.getfield 41, 3) := by decide +kernel
theorem dX6_unknowns_4 : decode cX6_unknowns 4 = .ok (.invokevirtual 115, 3) := by decide +kernel
theorem dX6_unknowns_7 : decode cX6_unknowns 7 = .ok (.ireturn, 1) := by decide +kernel
theorem dX6_solved_0 : decode cX6_solved 0 = .ok (.aload_n 0, 1) := by decide +kernel
theorem dX6_solved_1 : decode cX6_solved 1 = .ok (.getfield 41, 3) := by decide +kernel
theorem dX6_solved_4 : decode cX6_solved 4 = .ok (.invokevirtual 118, 3) := by decide +kernel
theorem dX6_solved_7 : decode cX6_solved 7 = .ok (.ireturn, 1) := by decide +kernel
