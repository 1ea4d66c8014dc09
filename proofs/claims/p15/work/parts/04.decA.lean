theorem dX13_isSmall_0g : decode cX13_isSmall 0 = .ok (.iload_n 1, 1) ∧ decode cX13_isSmall 1 = .ok (.bipush 97, 2) ∧ decode cX13_isSmall 3 = .ok (.if_icmp .lt 13, 3) ∧ decode cX13_isSmall 6 = .ok (.iload_n 1, 1) ∧ decode cX13_isSmall 7 = .ok (.bipush 122, 2) ∧ decode cX13_isSmall 9 = .ok (.if_icmp .gt 7, 3) ∧ decode cX13_isSmall 12 = .ok (.iconst 1, 1) ∧ decode cX13_isSmall 13 = .ok (.goto 4, 3) ∧ decode cX13_isSmall 16 = .ok (.iconst 0, 1) ∧ decode cX13_isSmall 17 = .ok (.ireturn, 1) := by decide +kernel
theorem dX13_isSmall_0 : decode cX13_isSmall 0 = .ok (.iload_n 1, 1) := dX13_isSmall_0g.1
theorem dX13_isSmall_1 : decode cX13_isSmall 1 = .ok (.bipush 97, 2) := dX13_isSmall_0g.2.1
theorem dX13_isSmall_3 : decode cX13_isSmall 3 = .ok (.if_icmp .lt 13, 3) := dX13_isSmall_0g.2.2.1
theorem dX13_isSmall_6 : decode cX13_isSmall 6 = .ok (.iload_n 1, 1) := dX13_isSmall_0g.2.2.2.1
theorem dX13_isSmall_7 : decode cX13_isSmall 7 = .ok (.bipush 122, 2) := dX13_isSmall_0g.2.2.2.2.1
theorem dX13_isSmall_9 : decode cX13_isSmall 9 = .ok (.if_icmp .gt 7, 3) := dX13_isSmall_0g.2.2.2.2.2.1
theorem dX13_isSmall_12 : decode cX13_isSmall 12 = .ok (.iconst 1, 1) := dX13_isSmall_0g.2.2.2.2.2.2.1
theorem dX13_isSmall_13 : decode cX13_isSmall 13 = .ok (.goto 4, 3) := dX13_isSmall_0g.2.2.2.2.2.2.2.1
theorem dX13_isSmall_16 : decode cX13_isSmall 16 = .ok (.iconst 0, 1) := dX13_isSmall_0g.2.2.2.2.2.2.2.2.1
theorem dX13_isSmall_17 : decode cX13_isSmall 17 = .ok (.ireturn, 1) := dX13_isSmall_0g.2.2.2.2.2.2.2.2.2
theorem dX13_here_0g : decode cX13_here 0 = .ok (.aload_n 0, 1) ∧ decode cX13_here 1 = .ok (.getfield 279, 3) ∧ decode cX13_here 4 = .ok (.iload_n 1, 1) ∧ decode cX13_here 5 = .ok (.iadd, 1) ∧ decode cX13_here 6 = .ok (.aload_n 0, 1) ∧ decode cX13_here 7 = .ok (.getfield 273, 3) ∧ decode cX13_here 10 = .ok (.if_icmp .ge 17, 3) ∧ decode cX13_here 13 = .ok (.aload_n 0, 1) ∧ decode cX13_here 14 = .ok (.getfield 118, 3) ∧ decode cX13_here 17 = .ok (.aload_n 0, 1) ∧ decode cX13_here 18 = .ok (.getfield 279, 3) ∧ decode cX13_here 21 = .ok (.iload_n 1, 1) ∧ decode cX13_here 22 = .ok (.iadd, 1) ∧ decode cX13_here 23 = .ok (.baload, 1) ∧ decode cX13_here 24 = .ok (.goto 4, 3) ∧ decode cX13_here 27 = .ok (.iconst (-1), 1) := by decide +kernel
theorem dX13_here_0 : decode cX13_here 0 = .ok (.aload_n 0, 1) := dX13_here_0g.1
theorem dX13_here_1 : decode cX13_here 1 = .ok (.getfield 279, 3) := dX13_here_0g.2.1
theorem dX13_here_4 : decode cX13_here 4 = .ok (.iload_n 1, 1) := dX13_here_0g.2.2.1
theorem dX13_here_5 : decode cX13_here 5 = .ok (.iadd, 1) := dX13_here_0g.2.2.2.1
theorem dX13_here_6 : decode cX13_here 6 = .ok (.aload_n 0, 1) := dX13_here_0g.2.2.2.2.1
theorem dX13_here_7 : decode cX13_here 7 = .ok (.getfield 273, 3) := dX13_here_0g.2.2.2.2.2.1
theorem dX13_here_10 : decode cX13_here 10 = .ok (.if_icmp .ge 17, 3) := dX13_here_0g.2.2.2.2.2.2.1
theorem dX13_here_13 : decode cX13_here 13 = .ok (.aload_n 0, 1) := dX13_here_0g.2.2.2.2.2.2.2.1
theorem dX13_here_14 : decode cX13_here 14 = .ok (.getfield 118, 3) := dX13_here_0g.2.2.2.2.2.2.2.2.1
theorem dX13_here_17 : decode cX13_here 17 = .ok (.aload_n 0, 1) := dX13_here_0g.2.2.2.2.2.2.2.2.2.1
theorem dX13_here_18 : decode cX13_here 18 = .ok (.getfield 279, 3) := dX13_here_0g.2.2.2.2.2.2.2.2.2.2.1
theorem dX13_here_21 : decode cX13_here 21 = .ok (.iload_n 1, 1) := dX13_here_0g.2.2.2.2.2.2.2.2.2.2.2.1
theorem dX13_here_22 : decode cX13_here 22 = .ok (.iadd, 1) := dX13_here_0g.2.2.2.2.2.2.2.2.2.2.2.2.1
theorem dX13_here_23 : decode cX13_here 23 = .ok (.baload, 1) := dX13_here_0g.2.2.2.2.2.2.2.2.2.2.2.2.2.1
theorem dX13_here_24 : decode cX13_here 24 = .ok (.goto 4, 3) := dX13_here_0g.2.2.2.2.2.2.2.2.2.2.2.2.2.2.1
theorem dX13_here_27 : decode cX13_here 27 = .ok (.iconst (-1), 1) := dX13_here_0g.2.2.2.2.2.2.2.2.2.2.2.2.2.2.2
theorem dX13_here_28 : decode cX13_here 28 = .ok (.ireturn, 1) := by decide +kernel
theorem dX13_isWhite_0g : decode cX13_isWhite 0 = .ok (.iload_n 1, 1) ∧ decode cX13_isWhite 1 = .ok (.bipush 32, 2) ∧ decode cX13_isWhite 3 = .ok (.if_icmp .eq 9, 3) ∧ decode cX13_isWhite 6 = .ok (.iload_n 1, 1) ∧ decode cX13_isWhite 7 = .ok (.bipush 10, 2) ∧ decode cX13_isWhite 9 = .ok (.if_icmp .ne 7, 3) ∧ decode cX13_isWhite 12 = .ok (.iconst 1, 1) ∧ decode cX13_isWhite 13 = .ok (.goto 4, 3) ∧ decode cX13_isWhite 16 = .ok (.iconst 0, 1) ∧ decode cX13_isWhite 17 = .ok (.ireturn, 1) := by decide +kernel
theorem dX13_isWhite_0 : decode cX13_isWhite 0 = .ok (.iload_n 1, 1) := dX13_isWhite_0g.1
theorem dX13_isWhite_1 : decode cX13_isWhite 1 = .ok (.bipush 32, 2) := dX13_isWhite_0g.2.1
theorem dX13_isWhite_3 : decode cX13_isWhite 3 = .ok (.if_icmp .eq 9, 3) := dX13_isWhite_0g.2.2.1
theorem dX13_isWhite_6 : decode cX13_isWhite 6 = .ok (.iload_n 1, 1) := dX13_isWhite_0g.2.2.2.1
theorem dX13_isWhite_7 : decode cX13_isWhite 7 = .ok (.bipush 10, 2) := dX13_isWhite_0g.2.2.2.2.1
theorem dX13_isWhite_9 : decode cX13_isWhite 9 = .ok (.if_icmp .ne 7, 3) := dX13_isWhite_0g.2.2.2.2.2.1
theorem dX13_isWhite_12 : decode cX13_isWhite 12 = .ok (.iconst 1, 1) := dX13_isWhite_0g.2.2.2.2.2.2.1
theorem dX13_isWhite_13 : decode cX13_isWhite 13 = .ok (.goto 4, 3) := dX13_isWhite_0g.2.2.2.2.2.2.2.1
theorem dX13_isWhite_16 : decode cX13_isWhite 16 = .ok (.iconst 0, 1) := dX13_isWhite_0g.2.2.2.2.2.2.2.2.1
theorem dX13_isWhite_17 : decode cX13_isWhite 17 = .ok (.ireturn, 1) := dX13_isWhite_0g.2.2.2.2.2.2.2.2.2
theorem dX13_bad_0g : decode cX13_bad 0 = .ok (.aload_n 0, 1) ∧ decode cX13_bad 1 = .ok (.getfield 276, 3) ∧ decode cX13_bad 4 = .ok (.ifCond .eq 4, 3) ∧ decode cX13_bad 7 = .ok (.return_, 1) ∧ decode cX13_bad 8 = .ok (.aload_n 0, 1) ∧ decode cX13_bad 9 = .ok (.iconst 1, 1) ∧ decode cX13_bad 10 = .ok (.putfield 276, 3) ∧ decode cX13_bad 13 = .ok (.aload_n 0, 1) ∧ decode cX13_bad 14 = .ok (.iload_n 1, 1) ∧ decode cX13_bad 15 = .ok (.putfield 122, 3) ∧ decode cX13_bad 18 = .ok (.return_, 1) := by decide +kernel
theorem dX13_bad_0 : decode cX13_bad 0 = .ok (.aload_n 0, 1) := dX13_bad_0g.1
theorem dX13_bad_1 : decode cX13_bad 1 = .ok (.getfield 276, 3) := dX13_bad_0g.2.1
theorem dX13_bad_4 : decode cX13_bad 4 = .ok (.ifCond .eq 4, 3) := dX13_bad_0g.2.2.1
theorem dX13_bad_7 : decode cX13_bad 7 = .ok (.return_, 1) := dX13_bad_0g.2.2.2.1
theorem dX13_bad_8 : decode cX13_bad 8 = .ok (.aload_n 0, 1) := dX13_bad_0g.2.2.2.2.1
theorem dX13_bad_9 : decode cX13_bad 9 = .ok (.iconst 1, 1) := dX13_bad_0g.2.2.2.2.2.1
theorem dX13_bad_10 : decode cX13_bad 10 = .ok (.putfield 276, 3) := dX13_bad_0g.2.2.2.2.2.2.1
theorem dX13_bad_13 : decode cX13_bad 13 = .ok (.aload_n 0, 1) := dX13_bad_0g.2.2.2.2.2.2.2.1
theorem dX13_bad_14 : decode cX13_bad 14 = .ok (.iload_n 1, 1) := dX13_bad_0g.2.2.2.2.2.2.2.2.1
theorem dX13_bad_15 : decode cX13_bad 15 = .ok (.putfield 122, 3) := dX13_bad_0g.2.2.2.2.2.2.2.2.2.1
theorem dX13_bad_18 : decode cX13_bad 18 = .ok (.return_, 1) := dX13_bad_0g.2.2.2.2.2.2.2.2.2.2
theorem dX13_find_0g : decode cX13_find 0 = .ok (.iconst 0, 1) ∧ decode cX13_find 1 = .ok (.istore 4, 2) ∧ decode cX13_find 3 = .ok (.iload 4, 2) ∧ decode cX13_find 5 = .ok (.aload_n 0, 1) ∧ decode cX13_find 6 = .ok (.getfield 138, 3) ∧ decode cX13_find 9 = .ok (.iload_n 1, 1) ∧ decode cX13_find 10 = .ok (.iaload, 1) ∧ decode cX13_find 11 = .ok (.if_icmp .ge 34, 3) ∧ decode cX13_find 14 = .ok (.aload_n 0, 1) ∧ decode cX13_find 15 = .ok (.getfield 153, 3) ∧ decode cX13_find 18 = .ok (.bipush 12, 2) ∧ decode cX13_find 20 = .ok (.iload_n 1, 1) ∧ decode cX13_find 21 = .ok (.imul, 1) ∧ decode cX13_find 22 = .ok (.iload 4, 2) ∧ decode cX13_find 24 = .ok (.iadd, 1) ∧ decode cX13_find 25 = .ok (.laload, 1) := by decide +kernel
theorem dX13_find_0 : decode cX13_find 0 = .ok (.iconst 0, 1) := dX13_find_0g.1
theorem dX13_find_1 : decode cX13_find 1 = .ok (.istore 4, 2) := dX13_find_0g.2.1
theorem dX13_find_3 : decode cX13_find 3 = .ok (.iload 4, 2) := dX13_find_0g.2.2.1
theorem dX13_find_5 : decode cX13_find 5 = .ok (.aload_n 0, 1) := dX13_find_0g.2.2.2.1
theorem dX13_find_6 : decode cX13_find 6 = .ok (.getfield 138, 3) := dX13_find_0g.2.2.2.2.1
theorem dX13_find_9 : decode cX13_find 9 = .ok (.iload_n 1, 1) := dX13_find_0g.2.2.2.2.2.1
theorem dX13_find_10 : decode cX13_find 10 = .ok (.iaload, 1) := dX13_find_0g.2.2.2.2.2.2.1
theorem dX13_find_11 : decode cX13_find 11 = .ok (.if_icmp .ge 34, 3) := dX13_find_0g.2.2.2.2.2.2.2.1
theorem dX13_find_14 : decode cX13_find 14 = .ok (.aload_n 0, 1) := dX13_find_0g.2.2.2.2.2.2.2.2.1
theorem dX13_find_15 : decode cX13_find 15 = .ok (.getfield 153, 3) := dX13_find_0g.2.2.2.2.2.2.2.2.2.1
theorem dX13_find_18 : decode cX13_find 18 = .ok (.bipush 12, 2) := dX13_find_0g.2.2.2.2.2.2.2.2.2.2.1
theorem dX13_find_20 : decode cX13_find 20 = .ok (.iload_n 1, 1) := dX13_find_0g.2.2.2.2.2.2.2.2.2.2.2.1
theorem dX13_find_21 : decode cX13_find 21 = .ok (.imul, 1) := dX13_find_0g.2.2.2.2.2.2.2.2.2.2.2.2.1
theorem dX13_find_22 : decode cX13_find 22 = .ok (.iload 4, 2) := dX13_find_0g.2.2.2.2.2.2.2.2.2.2.2.2.2.1
theorem dX13_find_24 : decode cX13_find 24 = .ok (.iadd, 1) := dX13_find_0g.2.2.2.2.2.2.2.2.2.2.2.2.2.2.1
theorem dX13_find_25 : decode cX13_find 25 = .ok (.laload, 1) := dX13_find_0g.2.2.2.2.2.2.2.2.2.2.2.2.2.2.2
theorem dX13_find_26g : decode cX13_find 26 = .ok (.lload_n 2, 1) ∧ decode cX13_find 27 = .ok (.lcmp, 1) ∧ decode cX13_find 28 = .ok (.ifCond .ne 11, 3) ∧ decode cX13_find 31 = .ok (.bipush 12, 2) ∧ decode cX13_find 33 = .ok (.iload_n 1, 1) ∧ decode cX13_find 34 = .ok (.imul, 1) ∧ decode cX13_find 35 = .ok (.iload 4, 2) ∧ decode cX13_find 37 = .ok (.iadd, 1) ∧ decode cX13_find 38 = .ok (.ireturn, 1) ∧ decode cX13_find 39 = .ok (.iinc 4 1, 3) ∧ decode cX13_find 42 = .ok (.goto (-39), 3) ∧ decode cX13_find 45 = .ok (.iconst (-1), 1) ∧ decode cX13_find 46 = .ok (.ireturn, 1) := by decide +kernel
theorem dX13_find_26 : decode cX13_find 26 = .ok (.lload_n 2, 1) := dX13_find_26g.1
theorem dX13_find_27 : decode cX13_find 27 = .ok (.lcmp, 1) := dX13_find_26g.2.1
theorem dX13_find_28 : decode cX13_find 28 = .ok (.ifCond .ne 11, 3) := dX13_find_26g.2.2.1
theorem dX13_find_31 : decode cX13_find 31 = .ok (.bipush 12, 2) := dX13_find_26g.2.2.2.1
theorem dX13_find_33 : decode cX13_find 33 = .ok (.iload_n 1, 1) := dX13_find_26g.2.2.2.2.1
theorem dX13_find_34 : decode cX13_find 34 = .ok (.imul, 1) := dX13_find_26g.2.2.2.2.2.1
theorem dX13_find_35 : decode cX13_find 35 = .ok (.iload 4, 2) := dX13_find_26g.2.2.2.2.2.2.1
theorem dX13_find_37 : decode cX13_find 37 = .ok (.iadd, 1) := dX13_find_26g.2.2.2.2.2.2.2.1
theorem dX13_find_38 : decode cX13_find 38 = .ok (.ireturn, 1) := dX13_find_26g.2.2.2.2.2.2.2.2.1
theorem dX13_find_39 : decode cX13_find 39 = .ok (.iinc 4 1, 3) := dX13_find_26g.2.2.2.2.2.2.2.2.2.1
theorem dX13_find_42 : decode cX13_find 42 = .ok (.goto (-39), 3) := dX13_find_26g.2.2.2.2.2.2.2.2.2.2.1
theorem dX13_find_45 : decode cX13_find 45 = .ok (.iconst (-1), 1) := dX13_find_26g.2.2.2.2.2.2.2.2.2.2.2.1
theorem dX13_find_46 : decode cX13_find 46 = .ok (.ireturn, 1) := dX13_find_26g.2.2.2.2.2.2.2.2.2.2.2.2
theorem dX13_has_0g : decode cX13_has 0 = .ok (.aload_n 0, 1) ∧ decode cX13_has 1 = .ok (.iload_n 1, 1) ∧ decode cX13_has 2 = .ok (.lload_n 2, 1) ∧ decode cX13_has 3 = .ok (.invokevirtual 319, 3) ∧ decode cX13_has 6 = .ok (.iconst (-1), 1) ∧ decode cX13_has 7 = .ok (.if_icmp .eq 7, 3) ∧ decode cX13_has 10 = .ok (.iconst 1, 1) ∧ decode cX13_has 11 = .ok (.goto 4, 3) ∧ decode cX13_has 14 = .ok (.iconst 0, 1) ∧ decode cX13_has 15 = .ok (.ireturn, 1) := by decide +kernel
theorem dX13_has_0 : decode cX13_has 0 = .ok (.aload_n 0, 1) := dX13_has_0g.1
theorem dX13_has_1 : decode cX13_has 1 = .ok (.iload_n 1, 1) := dX13_has_0g.2.1
theorem dX13_has_2 : decode cX13_has 2 = .ok (.lload_n 2, 1) := dX13_has_0g.2.2.1
theorem dX13_has_3 : decode cX13_has 3 = .ok (.invokevirtual 319, 3) := dX13_has_0g.2.2.2.1
theorem dX13_has_6 : decode cX13_has 6 = .ok (.iconst (-1), 1) := dX13_has_0g.2.2.2.2.1
theorem dX13_has_7 : decode cX13_has 7 = .ok (.if_icmp .eq 7, 3) := dX13_has_0g.2.2.2.2.2.1
theorem dX13_has_10 : decode cX13_has 10 = .ok (.iconst 1, 1) := dX13_has_0g.2.2.2.2.2.2.1
theorem dX13_has_11 : decode cX13_has 11 = .ok (.goto 4, 3) := dX13_has_0g.2.2.2.2.2.2.2.1
theorem dX13_has_14 : decode cX13_has 14 = .ok (.iconst 0, 1) := dX13_has_0g.2.2.2.2.2.2.2.2.1
theorem dX13_has_15 : decode cX13_has 15 = .ok (.ireturn, 1) := dX13_has_0g.2.2.2.2.2.2.2.2.2
theorem dX13_word_0g : decode cX13_word 0 = .ok (.aload_n 0, 1) ∧ decode cX13_word 1 = .ok (.iload_n 1, 1) ∧ decode cX13_word 2 = .ok (.lload_n 2, 1) ∧ decode cX13_word 3 = .ok (.invokevirtual 319, 3) ∧ decode cX13_word 6 = .ok (.istore 4, 2) ∧ decode cX13_word 8 = .ok (.iload 4, 2) ∧ decode cX13_word 10 = .ok (.iconst (-1), 1) ∧ decode cX13_word 11 = .ok (.if_icmp .eq 15, 3) ∧ decode cX13_word 14 = .ok (.aload_n 0, 1) ∧ decode cX13_word 15 = .ok (.getfield 159, 3) ∧ decode cX13_word 18 = .ok (.iload 4, 2) ∧ decode cX13_word 20 = .ok (.iaload, 1) ∧ decode cX13_word 21 = .ok (.bipush 8, 2) ∧ decode cX13_word 23 = .ok (.if_icmp .le 7, 3) ∧ decode cX13_word 26 = .ok (.ldc2_w 353, 3) ∧ decode cX13_word 29 = .ok (.lreturn, 1) := by decide +kernel
theorem dX13_word_0 : decode cX13_word 0 = .ok (.aload_n 0, 1) := dX13_word_0g.1
theorem dX13_word_1 : decode cX13_word 1 = .ok (.iload_n 1, 1) := dX13_word_0g.2.1
theorem dX13_word_2 : decode cX13_word 2 = .ok (.lload_n 2, 1) := dX13_word_0g.2.2.1
theorem dX13_word_3 : decode cX13_word 3 = .ok (.invokevirtual 319, 3) := dX13_word_0g.2.2.2.1
theorem dX13_word_6 : decode cX13_word 6 = .ok (.istore 4, 2) := dX13_word_0g.2.2.2.2.1
theorem dX13_word_8 : decode cX13_word 8 = .ok (.iload 4, 2) := dX13_word_0g.2.2.2.2.2.1
theorem dX13_word_10 : decode cX13_word 10 = .ok (.iconst (-1), 1) := dX13_word_0g.2.2.2.2.2.2.1
theorem dX13_word_11 : decode cX13_word 11 = .ok (.if_icmp .eq 15, 3) := dX13_word_0g.2.2.2.2.2.2.2.1
theorem dX13_word_14 : decode cX13_word 14 = .ok (.aload_n 0, 1) := dX13_word_0g.2.2.2.2.2.2.2.2.1
theorem dX13_word_15 : decode cX13_word 15 = .ok (.getfield 159, 3) := dX13_word_0g.2.2.2.2.2.2.2.2.2.1
theorem dX13_word_18 : decode cX13_word 18 = .ok (.iload 4, 2) := dX13_word_0g.2.2.2.2.2.2.2.2.2.2.1
theorem dX13_word_20 : decode cX13_word 20 = .ok (.iaload, 1) := dX13_word_0g.2.2.2.2.2.2.2.2.2.2.2.1
theorem dX13_word_21 : decode cX13_word 21 = .ok (.bipush 8, 2) := dX13_word_0g.2.2.2.2.2.2.2.2.2.2.2.2.1
theorem dX13_word_23 : decode cX13_word 23 = .ok (.if_icmp .le 7, 3) := dX13_word_0g.2.2.2.2.2.2.2.2.2.2.2.2.2.1
theorem dX13_word_26 : decode cX13_word 26 = .ok (.ldc2_w 353, 3) := dX13_word_0g.2.2.2.2.2.2.2.2.2.2.2.2.2.2.1
theorem dX13_word_29 : decode cX13_word 29 = .ok (.lreturn, 1) := dX13_word_0g.2.2.2.2.2.2.2.2.2.2.2.2.2.2.2
theorem dX13_word_30g : decode cX13_word 30 = .ok (.lconst 0, 1) ∧ decode cX13_word 31 = .ok (.lstore 5, 2) ∧ decode cX13_word 33 = .ok (.iconst 0, 1) ∧ decode cX13_word 34 = .ok (.istore 7, 2) ∧ decode cX13_word 36 = .ok (.iload 7, 2) ∧ decode cX13_word 38 = .ok (.aload_n 0, 1) ∧ decode cX13_word 39 = .ok (.getfield 159, 3) ∧ decode cX13_word 42 = .ok (.iload 4, 2) ∧ decode cX13_word 44 = .ok (.iaload, 1) ∧ decode cX13_word 45 = .ok (.if_icmp .ge 33, 3) ∧ decode cX13_word 48 = .ok (.lload 5, 2) ∧ decode cX13_word 50 = .ok (.bipush 8, 2) ∧ decode cX13_word 52 = .ok (.lshl, 1) ∧ decode cX13_word 53 = .ok (.aload_n 0, 1) ∧ decode cX13_word 54 = .ok (.getfield 162, 3) ∧ decode cX13_word 57 = .ok (.aload_n 0, 1) := by decide +kernel
theorem dX13_word_30 : decode cX13_word 30 = .ok (.lconst 0, 1) := dX13_word_30g.1
theorem dX13_word_31 : decode cX13_word 31 = .ok (.lstore 5, 2) := dX13_word_30g.2.1
theorem dX13_word_33 : decode cX13_word 33 = .ok (.iconst 0, 1) := dX13_word_30g.2.2.1
theorem dX13_word_34 : decode cX13_word 34 = .ok (.istore 7, 2) := dX13_word_30g.2.2.2.1
theorem dX13_word_36 : decode cX13_word 36 = .ok (.iload 7, 2) := dX13_word_30g.2.2.2.2.1
theorem dX13_word_38 : decode cX13_word 38 = .ok (.aload_n 0, 1) := dX13_word_30g.2.2.2.2.2.1
theorem dX13_word_39 : decode cX13_word 39 = .ok (.getfield 159, 3) := dX13_word_30g.2.2.2.2.2.2.1
theorem dX13_word_42 : decode cX13_word 42 = .ok (.iload 4, 2) := dX13_word_30g.2.2.2.2.2.2.2.1
theorem dX13_word_44 : decode cX13_word 44 = .ok (.iaload, 1) := dX13_word_30g.2.2.2.2.2.2.2.2.1
theorem dX13_word_45 : decode cX13_word 45 = .ok (.if_icmp .ge 33, 3) := dX13_word_30g.2.2.2.2.2.2.2.2.2.1
theorem dX13_word_48 : decode cX13_word 48 = .ok (.lload 5, 2) := dX13_word_30g.2.2.2.2.2.2.2.2.2.2.1
theorem dX13_word_50 : decode cX13_word 50 = .ok (.bipush 8, 2) := dX13_word_30g.2.2.2.2.2.2.2.2.2.2.2.1
theorem dX13_word_52 : decode cX13_word 52 = .ok (.lshl, 1) := dX13_word_30g.2.2.2.2.2.2.2.2.2.2.2.2.1
theorem dX13_word_53 : decode cX13_word 53 = .ok (.aload_n 0, 1) := dX13_word_30g.2.2.2.2.2.2.2.2.2.2.2.2.2.1
theorem dX13_word_54 : decode cX13_word 54 = .ok (.getfield 162, 3) := dX13_word_30g.2.2.2.2.2.2.2.2.2.2.2.2.2.2.1
theorem dX13_word_57 : decode cX13_word 57 = .ok (.aload_n 0, 1) := dX13_word_30g.2.2.2.2.2.2.2.2.2.2.2.2.2.2.2
theorem dX13_word_58g : decode cX13_word 58 = .ok (.getfield 156, 3) ∧ decode cX13_word 61 = .ok (.iload 4, 2) ∧ decode cX13_word 63 = .ok (.iaload, 1) ∧ decode cX13_word 64 = .ok (.iload 7, 2) ∧ decode cX13_word 66 = .ok (.iadd, 1) ∧ decode cX13_word 67 = .ok (.baload, 1) ∧ decode cX13_word 68 = .ok (.i2l, 1) ∧ decode cX13_word 69 = .ok (.lor, 1) ∧ decode cX13_word 70 = .ok (.lstore 5, 2) ∧ decode cX13_word 72 = .ok (.iinc 7 1, 3) ∧ decode cX13_word 75 = .ok (.goto (-39), 3) ∧ decode cX13_word 78 = .ok (.lload 5, 2) ∧ decode cX13_word 80 = .ok (.lreturn, 1) := by decide +kernel
theorem dX13_word_58 : decode cX13_word 58 = .ok (.getfield 156, 3) := dX13_word_58g.1
theorem dX13_word_61 : decode cX13_word 61 = .ok (.iload 4, 2) := dX13_word_58g.2.1
theorem dX13_word_63 : decode cX13_word 63 = .ok (.iaload, 1) := dX13_word_58g.2.2.1
theorem dX13_word_64 : decode cX13_word 64 = .ok (.iload 7, 2) := dX13_word_58g.2.2.2.1
theorem dX13_word_66 : decode cX13_word 66 = .ok (.iadd, 1) := dX13_word_58g.2.2.2.2.1
theorem dX13_word_67 : decode cX13_word 67 = .ok (.baload, 1) := dX13_word_58g.2.2.2.2.2.1
theorem dX13_word_68 : decode cX13_word 68 = .ok (.i2l, 1) := dX13_word_58g.2.2.2.2.2.2.1
theorem dX13_word_69 : decode cX13_word 69 = .ok (.lor, 1) := dX13_word_58g.2.2.2.2.2.2.2.1
theorem dX13_word_70 : decode cX13_word 70 = .ok (.lstore 5, 2) := dX13_word_58g.2.2.2.2.2.2.2.2.1
theorem dX13_word_72 : decode cX13_word 72 = .ok (.iinc 7 1, 3) := dX13_word_58g.2.2.2.2.2.2.2.2.2.1
theorem dX13_word_75 : decode cX13_word 75 = .ok (.goto (-39), 3) := dX13_word_58g.2.2.2.2.2.2.2.2.2.2.1
theorem dX13_word_78 : decode cX13_word 78 = .ok (.lload 5, 2) := dX13_word_58g.2.2.2.2.2.2.2.2.2.2.2.1
theorem dX13_word_80 : decode cX13_word 80 = .ok (.lreturn, 1) := dX13_word_58g.2.2.2.2.2.2.2.2.2.2.2.2
theorem dX13_isWord_0g : decode cX13_isWord 0 = .ok (.aload_n 0, 1) ∧ decode cX13_isWord 1 = .ok (.iload_n 1, 1) ∧ decode cX13_isWord 2 = .ok (.lload_n 2, 1) ∧ decode cX13_isWord 3 = .ok (.invokevirtual 319, 3) ∧ decode cX13_isWord 6 = .ok (.istore 4, 2) ∧ decode cX13_isWord 8 = .ok (.iload 4, 2) ∧ decode cX13_isWord 10 = .ok (.iconst (-1), 1) ∧ decode cX13_isWord 11 = .ok (.if_icmp .eq 26, 3) ∧ decode cX13_isWord 14 = .ok (.aload_n 0, 1) ∧ decode cX13_isWord 15 = .ok (.getfield 159, 3) ∧ decode cX13_isWord 18 = .ok (.iload 4, 2) ∧ decode cX13_isWord 20 = .ok (.iaload, 1) ∧ decode cX13_isWord 21 = .ok (.iconst 1, 1) ∧ decode cX13_isWord 22 = .ok (.if_icmp .lt 15, 3) ∧ decode cX13_isWord 25 = .ok (.aload_n 0, 1) ∧ decode cX13_isWord 26 = .ok (.getfield 159, 3) := by decide +kernel
theorem dX13_isWord_0 : decode cX13_isWord 0 = .ok (.aload_n 0, 1) := dX13_isWord_0g.1
theorem dX13_isWord_1 : decode cX13_isWord 1 = .ok (.iload_n 1, 1) := dX13_isWord_0g.2.1
theorem dX13_isWord_2 : decode cX13_isWord 2 = .ok (.lload_n 2, 1) := dX13_isWord_0g.2.2.1
theorem dX13_isWord_3 : decode cX13_isWord 3 = .ok (.invokevirtual 319, 3) := dX13_isWord_0g.2.2.2.1
theorem dX13_isWord_6 : decode cX13_isWord 6 = .ok (.istore 4, 2) := dX13_isWord_0g.2.2.2.2.1
theorem dX13_isWord_8 : decode cX13_isWord 8 = .ok (.iload 4, 2) := dX13_isWord_0g.2.2.2.2.2.1
theorem dX13_isWord_10 : decode cX13_isWord 10 = .ok (.iconst (-1), 1) := dX13_isWord_0g.2.2.2.2.2.2.1
theorem dX13_isWord_11 : decode cX13_isWord 11 = .ok (.if_icmp .eq 26, 3) := dX13_isWord_0g.2.2.2.2.2.2.2.1
theorem dX13_isWord_14 : decode cX13_isWord 14 = .ok (.aload_n 0, 1) := dX13_isWord_0g.2.2.2.2.2.2.2.2.1
theorem dX13_isWord_15 : decode cX13_isWord 15 = .ok (.getfield 159, 3) := dX13_isWord_0g.2.2.2.2.2.2.2.2.2.1
theorem dX13_isWord_18 : decode cX13_isWord 18 = .ok (.iload 4, 2) := dX13_isWord_0g.2.2.2.2.2.2.2.2.2.2.1
theorem dX13_isWord_20 : decode cX13_isWord 20 = .ok (.iaload, 1) := dX13_isWord_0g.2.2.2.2.2.2.2.2.2.2.2.1
theorem dX13_isWord_21 : decode cX13_isWord 21 = .ok (.iconst 1, 1) := dX13_isWord_0g.2.2.2.2.2.2.2.2.2.2.2.2.1
theorem dX13_isWord_22 : decode cX13_isWord 22 = .ok (.if_icmp .lt 15, 3) := dX13_isWord_0g.2.2.2.2.2.2.2.2.2.2.2.2.2.1
theorem dX13_isWord_25 : decode cX13_isWord 25 = .ok (.aload_n 0, 1) := dX13_isWord_0g.2.2.2.2.2.2.2.2.2.2.2.2.2.2.1
theorem dX13_isWord_26 : decode cX13_isWord 26 = .ok (.getfield 159, 3) := dX13_isWord_0g.2.2.2.2.2.2.2.2.2.2.2.2.2.2.2
theorem dX13_isWord_29g : decode cX13_isWord 29 = .ok (.iload 4, 2) ∧ decode cX13_isWord 31 = .ok (.iaload, 1) ∧ decode cX13_isWord 32 = .ok (.bipush 8, 2) ∧ decode cX13_isWord 34 = .ok (.if_icmp .le 5, 3) ∧ decode cX13_isWord 37 = .ok (.iconst 0, 1) ∧ decode cX13_isWord 38 = .ok (.ireturn, 1) ∧ decode cX13_isWord 39 = .ok (.iconst 0, 1) ∧ decode cX13_isWord 40 = .ok (.istore 5, 2) ∧ decode cX13_isWord 42 = .ok (.iload 5, 2) ∧ decode cX13_isWord 44 = .ok (.aload_n 0, 1) ∧ decode cX13_isWord 45 = .ok (.getfield 159, 3) ∧ decode cX13_isWord 48 = .ok (.iload 4, 2) ∧ decode cX13_isWord 50 = .ok (.iaload, 1) ∧ decode cX13_isWord 51 = .ok (.if_icmp .ge 33, 3) ∧ decode cX13_isWord 54 = .ok (.aload_n 0, 1) ∧ decode cX13_isWord 55 = .ok (.aload_n 0, 1) := by decide +kernel
theorem dX13_isWord_29 : decode cX13_isWord 29 = .ok (.iload 4, 2) := dX13_isWord_29g.1
theorem dX13_isWord_31 : decode cX13_isWord 31 = .ok (.iaload, 1) := dX13_isWord_29g.2.1
theorem dX13_isWord_32 : decode cX13_isWord 32 = .ok (.bipush 8, 2) := dX13_isWord_29g.2.2.1
theorem dX13_isWord_34 : decode cX13_isWord 34 = .ok (.if_icmp .le 5, 3) := dX13_isWord_29g.2.2.2.1
theorem dX13_isWord_37 : decode cX13_isWord 37 = .ok (.iconst 0, 1) := dX13_isWord_29g.2.2.2.2.1
theorem dX13_isWord_38 : decode cX13_isWord 38 = .ok (.ireturn, 1) := dX13_isWord_29g.2.2.2.2.2.1
theorem dX13_isWord_39 : decode cX13_isWord 39 = .ok (.iconst 0, 1) := dX13_isWord_29g.2.2.2.2.2.2.1
theorem dX13_isWord_40 : decode cX13_isWord 40 = .ok (.istore 5, 2) := dX13_isWord_29g.2.2.2.2.2.2.2.1
theorem dX13_isWord_42 : decode cX13_isWord 42 = .ok (.iload 5, 2) := dX13_isWord_29g.2.2.2.2.2.2.2.2.1
theorem dX13_isWord_44 : decode cX13_isWord 44 = .ok (.aload_n 0, 1) := dX13_isWord_29g.2.2.2.2.2.2.2.2.2.1
theorem dX13_isWord_45 : decode cX13_isWord 45 = .ok (.getfield 159, 3) := dX13_isWord_29g.2.2.2.2.2.2.2.2.2.2.1
theorem dX13_isWord_48 : decode cX13_isWord 48 = .ok (.iload 4, 2) := dX13_isWord_29g.2.2.2.2.2.2.2.2.2.2.2.1
theorem dX13_isWord_50 : decode cX13_isWord 50 = .ok (.iaload, 1) := dX13_isWord_29g.2.2.2.2.2.2.2.2.2.2.2.2.1
theorem dX13_isWord_51 : decode cX13_isWord 51 = .ok (.if_icmp .ge 33, 3) := dX13_isWord_29g.2.2.2.2.2.2.2.2.2.2.2.2.2.1
theorem dX13_isWord_54 : decode cX13_isWord 54 = .ok (.aload_n 0, 1) := dX13_isWord_29g.2.2.2.2.2.2.2.2.2.2.2.2.2.2.1
theorem dX13_isWord_55 : decode cX13_isWord 55 = .ok (.aload_n 0, 1) := dX13_isWord_29g.2.2.2.2.2.2.2.2.2.2.2.2.2.2.2
theorem dX13_isWord_56g : decode cX13_isWord 56 = .ok (.getfield 162, 3) ∧ decode cX13_isWord 59 = .ok (.aload_n 0, 1) ∧ decode cX13_isWord 60 = .ok (.getfield 156, 3) ∧ decode cX13_isWord 63 = .ok (.iload 4, 2) ∧ decode cX13_isWord 65 = .ok (.iaload, 1) ∧ decode cX13_isWord 66 = .ok (.iload 5, 2) ∧ decode cX13_isWord 68 = .ok (.iadd, 1) ∧ decode cX13_isWord 69 = .ok (.baload, 1) ∧ decode cX13_isWord 70 = .ok (.invokevirtual 303, 3) ∧ decode cX13_isWord 73 = .ok (.ifCond .ne 5, 3) ∧ decode cX13_isWord 76 = .ok (.iconst 0, 1) ∧ decode cX13_isWord 77 = .ok (.ireturn, 1) ∧ decode cX13_isWord 78 = .ok (.iinc 5 1, 3) ∧ decode cX13_isWord 81 = .ok (.goto (-39), 3) ∧ decode cX13_isWord 84 = .ok (.iconst 1, 1) ∧ decode cX13_isWord 85 = .ok (.ireturn, 1) := by decide +kernel
theorem dX13_isWord_56 : decode cX13_isWord 56 = .ok (.getfield 162, 3) := dX13_isWord_56g.1
theorem dX13_isWord_59 : decode cX13_isWord 59 = .ok (.aload_n 0, 1) := dX13_isWord_56g.2.1
theorem dX13_isWord_60 : decode cX13_isWord 60 = .ok (.getfield 156, 3) := dX13_isWord_56g.2.2.1
theorem dX13_isWord_63 : decode cX13_isWord 63 = .ok (.iload 4, 2) := dX13_isWord_56g.2.2.2.1
theorem dX13_isWord_65 : decode cX13_isWord 65 = .ok (.iaload, 1) := dX13_isWord_56g.2.2.2.2.1
theorem dX13_isWord_66 : decode cX13_isWord 66 = .ok (.iload 5, 2) := dX13_isWord_56g.2.2.2.2.2.1
theorem dX13_isWord_68 : decode cX13_isWord 68 = .ok (.iadd, 1) := dX13_isWord_56g.2.2.2.2.2.2.1
theorem dX13_isWord_69 : decode cX13_isWord 69 = .ok (.baload, 1) := dX13_isWord_56g.2.2.2.2.2.2.2.1
theorem dX13_isWord_70 : decode cX13_isWord 70 = .ok (.invokevirtual 303, 3) := dX13_isWord_56g.2.2.2.2.2.2.2.2.1
theorem dX13_isWord_73 : decode cX13_isWord 73 = .ok (.ifCond .ne 5, 3) := dX13_isWord_56g.2.2.2.2.2.2.2.2.2.1
theorem dX13_isWord_76 : decode cX13_isWord 76 = .ok (.iconst 0, 1) := dX13_isWord_56g.2.2.2.2.2.2.2.2.2.2.1
theorem dX13_isWord_77 : decode cX13_isWord 77 = .ok (.ireturn, 1) := dX13_isWord_56g.2.2.2.2.2.2.2.2.2.2.2.1
theorem dX13_isWord_78 : decode cX13_isWord 78 = .ok (.iinc 5 1, 3) := dX13_isWord_56g.2.2.2.2.2.2.2.2.2.2.2.2.1
theorem dX13_isWord_81 : decode cX13_isWord 81 = .ok (.goto (-39), 3) := dX13_isWord_56g.2.2.2.2.2.2.2.2.2.2.2.2.2.1
theorem dX13_isWord_84 : decode cX13_isWord 84 = .ok (.iconst 1, 1) := dX13_isWord_56g.2.2.2.2.2.2.2.2.2.2.2.2.2.2.1
theorem dX13_isWord_85 : decode cX13_isWord 85 = .ok (.ireturn, 1) := dX13_isWord_56g.2.2.2.2.2.2.2.2.2.2.2.2.2.2.2
theorem dX13_isOneOf_0g : decode cX13_isOneOf 0 = .ok (.aload_n 0, 1) ∧ decode cX13_isOneOf 1 = .ok (.iload_n 1, 1) ∧ decode cX13_isOneOf 2 = .ok (.lload_n 2, 1) ∧ decode cX13_isOneOf 3 = .ok (.invokevirtual 355, 3) ∧ decode cX13_isOneOf 6 = .ok (.ifCond .eq 37, 3) ∧ decode cX13_isOneOf 9 = .ok (.aload_n 0, 1) ∧ decode cX13_isOneOf 10 = .ok (.iload_n 1, 1) ∧ decode cX13_isOneOf 11 = .ok (.lload_n 2, 1) ∧ decode cX13_isOneOf 12 = .ok (.invokevirtual 359, 3) ∧ decode cX13_isOneOf 15 = .ok (.aload_n 0, 1) ∧ decode cX13_isOneOf 16 = .ok (.getfield 55, 3) ∧ decode cX13_isOneOf 19 = .ok (.iload 4, 2) ∧ decode cX13_isOneOf 21 = .ok (.laload, 1) ∧ decode cX13_isOneOf 22 = .ok (.lcmp, 1) ∧ decode cX13_isOneOf 23 = .ok (.ifCond .eq 20, 3) ∧ decode cX13_isOneOf 26 = .ok (.aload_n 0, 1) := by decide +kernel
theorem dX13_isOneOf_0 : decode cX13_isOneOf 0 = .ok (.aload_n 0, 1) := dX13_isOneOf_0g.1
theorem dX13_isOneOf_1 : decode cX13_isOneOf 1 = .ok (.iload_n 1, 1) := dX13_isOneOf_0g.2.1
theorem dX13_isOneOf_2 : decode cX13_isOneOf 2 = .ok (.lload_n 2, 1) := dX13_isOneOf_0g.2.2.1
theorem dX13_isOneOf_3 : decode cX13_isOneOf 3 = .ok (.invokevirtual 355, 3) := dX13_isOneOf_0g.2.2.2.1
theorem dX13_isOneOf_6 : decode cX13_isOneOf 6 = .ok (.ifCond .eq 37, 3) := dX13_isOneOf_0g.2.2.2.2.1
theorem dX13_isOneOf_9 : decode cX13_isOneOf 9 = .ok (.aload_n 0, 1) := dX13_isOneOf_0g.2.2.2.2.2.1
theorem dX13_isOneOf_10 : decode cX13_isOneOf 10 = .ok (.iload_n 1, 1) := dX13_isOneOf_0g.2.2.2.2.2.2.1
theorem dX13_isOneOf_11 : decode cX13_isOneOf 11 = .ok (.lload_n 2, 1) := dX13_isOneOf_0g.2.2.2.2.2.2.2.1
theorem dX13_isOneOf_12 : decode cX13_isOneOf 12 = .ok (.invokevirtual 359, 3) := dX13_isOneOf_0g.2.2.2.2.2.2.2.2.1
theorem dX13_isOneOf_15 : decode cX13_isOneOf 15 = .ok (.aload_n 0, 1) := dX13_isOneOf_0g.2.2.2.2.2.2.2.2.2.1
theorem dX13_isOneOf_16 : decode cX13_isOneOf 16 = .ok (.getfield 55, 3) := dX13_isOneOf_0g.2.2.2.2.2.2.2.2.2.2.1
theorem dX13_isOneOf_19 : decode cX13_isOneOf 19 = .ok (.iload 4, 2) := dX13_isOneOf_0g.2.2.2.2.2.2.2.2.2.2.2.1
theorem dX13_isOneOf_21 : decode cX13_isOneOf 21 = .ok (.laload, 1) := dX13_isOneOf_0g.2.2.2.2.2.2.2.2.2.2.2.2.1
theorem dX13_isOneOf_22 : decode cX13_isOneOf 22 = .ok (.lcmp, 1) := dX13_isOneOf_0g.2.2.2.2.2.2.2.2.2.2.2.2.2.1
theorem dX13_isOneOf_23 : decode cX13_isOneOf 23 = .ok (.ifCond .eq 20, 3) := dX13_isOneOf_0g.2.2.2.2.2.2.2.2.2.2.2.2.2.2.1
theorem dX13_isOneOf_26 : decode cX13_isOneOf 26 = .ok (.aload_n 0, 1) := dX13_isOneOf_0g.2.2.2.2.2.2.2.2.2.2.2.2.2.2.2
theorem dX13_isOneOf_27g : decode cX13_isOneOf 27 = .ok (.iload_n 1, 1) ∧ decode cX13_isOneOf 28 = .ok (.lload_n 2, 1) ∧ decode cX13_isOneOf 29 = .ok (.invokevirtual 359, 3) ∧ decode cX13_isOneOf 32 = .ok (.aload_n 0, 1) ∧ decode cX13_isOneOf 33 = .ok (.getfield 55, 3) ∧ decode cX13_isOneOf 36 = .ok (.iload 5, 2) ∧ decode cX13_isOneOf 38 = .ok (.laload, 1) ∧ decode cX13_isOneOf 39 = .ok (.lcmp, 1) ∧ decode cX13_isOneOf 40 = .ok (.ifCond .ne 7, 3) ∧ decode cX13_isOneOf 43 = .ok (.iconst 1, 1) ∧ decode cX13_isOneOf 44 = .ok (.goto 4, 3) ∧ decode cX13_isOneOf 47 = .ok (.iconst 0, 1) ∧ decode cX13_isOneOf 48 = .ok (.ireturn, 1) := by decide +kernel
theorem dX13_isOneOf_27 : decode cX13_isOneOf 27 = .ok (.iload_n 1, 1) := dX13_isOneOf_27g.1
theorem dX13_isOneOf_28 : decode cX13_isOneOf 28 = .ok (.lload_n 2, 1) := dX13_isOneOf_27g.2.1
theorem dX13_isOneOf_29 : decode cX13_isOneOf 29 = .ok (.invokevirtual 359, 3) := dX13_isOneOf_27g.2.2.1
theorem dX13_isOneOf_32 : decode cX13_isOneOf 32 = .ok (.aload_n 0, 1) := dX13_isOneOf_27g.2.2.2.1
theorem dX13_isOneOf_33 : decode cX13_isOneOf 33 = .ok (.getfield 55, 3) := dX13_isOneOf_27g.2.2.2.2.1
theorem dX13_isOneOf_36 : decode cX13_isOneOf 36 = .ok (.iload 5, 2) := dX13_isOneOf_27g.2.2.2.2.2.1
theorem dX13_isOneOf_38 : decode cX13_isOneOf 38 = .ok (.laload, 1) := dX13_isOneOf_27g.2.2.2.2.2.2.1
theorem dX13_isOneOf_39 : decode cX13_isOneOf 39 = .ok (.lcmp, 1) := dX13_isOneOf_27g.2.2.2.2.2.2.2.1
theorem dX13_isOneOf_40 : decode cX13_isOneOf 40 = .ok (.ifCond .ne 7, 3) := dX13_isOneOf_27g.2.2.2.2.2.2.2.2.1
theorem dX13_isOneOf_43 : decode cX13_isOneOf 43 = .ok (.iconst 1, 1) := dX13_isOneOf_27g.2.2.2.2.2.2.2.2.2.1
theorem dX13_isOneOf_44 : decode cX13_isOneOf 44 = .ok (.goto 4, 3) := dX13_isOneOf_27g.2.2.2.2.2.2.2.2.2.2.1
theorem dX13_isOneOf_47 : decode cX13_isOneOf 47 = .ok (.iconst 0, 1) := dX13_isOneOf_27g.2.2.2.2.2.2.2.2.2.2.2.1
theorem dX13_isOneOf_48 : decode cX13_isOneOf 48 = .ok (.ireturn, 1) := dX13_isOneOf_27g.2.2.2.2.2.2.2.2.2.2.2.2
theorem dX13_classIn_0g : decode cX13_classIn 0 = .ok (.lload_n 0, 1) ∧ decode cX13_classIn 1 = .ok (.bipush 8, 2) ∧ decode cX13_classIn 3 = .ok (.lshr, 1) ∧ decode cX13_classIn 4 = .ok (.ldc2_w 363, 3) ∧ decode cX13_classIn 7 = .ok (.lcmp, 1) ∧ decode cX13_classIn 8 = .ok (.ifCond .ne 39, 3) ∧ decode cX13_classIn 11 = .ok (.lload_n 0, 1) ∧ decode cX13_classIn 12 = .ok (.ldc2_w 313, 3) ∧ decode cX13_classIn 15 = .ok (.land, 1) ∧ decode cX13_classIn 16 = .ok (.ldc2_w 365, 3) ∧ decode cX13_classIn 19 = .ok (.lcmp, 1) ∧ decode cX13_classIn 20 = .ok (.ifCond .lt 27, 3) ∧ decode cX13_classIn 23 = .ok (.lload_n 0, 1) ∧ decode cX13_classIn 24 = .ok (.ldc2_w 313, 3) ∧ decode cX13_classIn 27 = .ok (.land, 1) ∧ decode cX13_classIn 28 = .ok (.ldc2_w 367, 3) := by decide +kernel
theorem dX13_classIn_0 : decode cX13_classIn 0 = .ok (.lload_n 0, 1) := dX13_classIn_0g.1
theorem dX13_classIn_1 : decode cX13_classIn 1 = .ok (.bipush 8, 2) := dX13_classIn_0g.2.1
theorem dX13_classIn_3 : decode cX13_classIn 3 = .ok (.lshr, 1) := dX13_classIn_0g.2.2.1
theorem dX13_classIn_4 : decode cX13_classIn 4 = .ok (.ldc2_w 363, 3) := dX13_classIn_0g.2.2.2.1
theorem dX13_classIn_7 : decode cX13_classIn 7 = .ok (.lcmp, 1) := dX13_classIn_0g.2.2.2.2.1
theorem dX13_classIn_8 : decode cX13_classIn 8 = .ok (.ifCond .ne 39, 3) := dX13_classIn_0g.2.2.2.2.2.1
theorem dX13_classIn_11 : decode cX13_classIn 11 = .ok (.lload_n 0, 1) := dX13_classIn_0g.2.2.2.2.2.2.1
theorem dX13_classIn_12 : decode cX13_classIn 12 = .ok (.ldc2_w 313, 3) := dX13_classIn_0g.2.2.2.2.2.2.2.1
theorem dX13_classIn_15 : decode cX13_classIn 15 = .ok (.land, 1) := dX13_classIn_0g.2.2.2.2.2.2.2.2.1
theorem dX13_classIn_16 : decode cX13_classIn 16 = .ok (.ldc2_w 365, 3) := dX13_classIn_0g.2.2.2.2.2.2.2.2.2.1
theorem dX13_classIn_19 : decode cX13_classIn 19 = .ok (.lcmp, 1) := dX13_classIn_0g.2.2.2.2.2.2.2.2.2.2.1
theorem dX13_classIn_20 : decode cX13_classIn 20 = .ok (.ifCond .lt 27, 3) := dX13_classIn_0g.2.2.2.2.2.2.2.2.2.2.2.1
theorem dX13_classIn_23 : decode cX13_classIn 23 = .ok (.lload_n 0, 1) := dX13_classIn_0g.2.2.2.2.2.2.2.2.2.2.2.2.1
theorem dX13_classIn_24 : decode cX13_classIn 24 = .ok (.ldc2_w 313, 3) := dX13_classIn_0g.2.2.2.2.2.2.2.2.2.2.2.2.2.1
theorem dX13_classIn_27 : decode cX13_classIn 27 = .ok (.land, 1) := dX13_classIn_0g.2.2.2.2.2.2.2.2.2.2.2.2.2.2.1
theorem dX13_classIn_28 : decode cX13_classIn 28 = .ok (.ldc2_w 367, 3) := dX13_classIn_0g.2.2.2.2.2.2.2.2.2.2.2.2.2.2.2
theorem dX13_classIn_31g : decode cX13_classIn 31 = .ok (.lcmp, 1) ∧ decode cX13_classIn 32 = .ok (.ifCond .gt 15, 3) ∧ decode cX13_classIn 35 = .ok (.lload_n 0, 1) ∧ decode cX13_classIn 36 = .ok (.ldc2_w 313, 3) ∧ decode cX13_classIn 39 = .ok (.land, 1) ∧ decode cX13_classIn 40 = .ok (.l2i, 1) ∧ decode cX13_classIn 41 = .ok (.bipush 48, 2) ∧ decode cX13_classIn 43 = .ok (.isub, 1) ∧ decode cX13_classIn 44 = .ok (.goto 4, 3) ∧ decode cX13_classIn 47 = .ok (.iconst (-1), 1) ∧ decode cX13_classIn 48 = .ok (.ireturn, 1) := by decide +kernel
theorem dX13_classIn_31 : decode cX13_classIn 31 = .ok (.lcmp, 1) := dX13_classIn_31g.1
theorem dX13_classIn_32 : decode cX13_classIn 32 = .ok (.ifCond .gt 15, 3) := dX13_classIn_31g.2.1
theorem dX13_classIn_35 : decode cX13_classIn 35 = .ok (.lload_n 0, 1) := dX13_classIn_31g.2.2.1
theorem dX13_classIn_36 : decode cX13_classIn 36 = .ok (.ldc2_w 313, 3) := dX13_classIn_31g.2.2.2.1
theorem dX13_classIn_39 : decode cX13_classIn 39 = .ok (.land, 1) := dX13_classIn_31g.2.2.2.2.1
theorem dX13_classIn_40 : decode cX13_classIn 40 = .ok (.l2i, 1) := dX13_classIn_31g.2.2.2.2.2.1
theorem dX13_classIn_41 : decode cX13_classIn 41 = .ok (.bipush 48, 2) := dX13_classIn_31g.2.2.2.2.2.2.1
theorem dX13_classIn_43 : decode cX13_classIn 43 = .ok (.isub, 1) := dX13_classIn_31g.2.2.2.2.2.2.2.1
theorem dX13_classIn_44 : decode cX13_classIn 44 = .ok (.goto 4, 3) := dX13_classIn_31g.2.2.2.2.2.2.2.2.1
theorem dX13_classIn_47 : decode cX13_classIn 47 = .ok (.iconst (-1), 1) := dX13_classIn_31g.2.2.2.2.2.2.2.2.2.1
theorem dX13_classIn_48 : decode cX13_classIn 48 = .ok (.ireturn, 1) := dX13_classIn_31g.2.2.2.2.2.2.2.2.2.2
theorem dX13_isOneLetter_0g : decode cX13_isOneLetter 0 = .ok (.aload_n 0, 1) ∧ decode cX13_isOneLetter 1 = .ok (.iload_n 1, 1) ∧ decode cX13_isOneLetter 2 = .ok (.lload_n 2, 1) ∧ decode cX13_isOneLetter 3 = .ok (.invokevirtual 369, 3) ∧ decode cX13_isOneLetter 6 = .ok (.ifCond .eq 20, 3) ∧ decode cX13_isOneLetter 9 = .ok (.aload_n 0, 1) ∧ decode cX13_isOneLetter 10 = .ok (.iload_n 1, 1) ∧ decode cX13_isOneLetter 11 = .ok (.lload_n 2, 1) ∧ decode cX13_isOneLetter 12 = .ok (.invokevirtual 359, 3) ∧ decode cX13_isOneLetter 15 = .ok (.ldc2_w 372, 3) ∧ decode cX13_isOneLetter 18 = .ok (.lcmp, 1) ∧ decode cX13_isOneLetter 19 = .ok (.ifCond .ge 7, 3) ∧ decode cX13_isOneLetter 22 = .ok (.iconst 1, 1) ∧ decode cX13_isOneLetter 23 = .ok (.goto 4, 3) ∧ decode cX13_isOneLetter 26 = .ok (.iconst 0, 1) ∧ decode cX13_isOneLetter 27 = .ok (.ireturn, 1) := by decide +kernel
theorem dX13_isOneLetter_0 : decode cX13_isOneLetter 0 = .ok (.aload_n 0, 1) := dX13_isOneLetter_0g.1
theorem dX13_isOneLetter_1 : decode cX13_isOneLetter 1 = .ok (.iload_n 1, 1) := dX13_isOneLetter_0g.2.1
theorem dX13_isOneLetter_2 : decode cX13_isOneLetter 2 = .ok (.lload_n 2, 1) := dX13_isOneLetter_0g.2.2.1
theorem dX13_isOneLetter_3 : decode cX13_isOneLetter 3 = .ok (.invokevirtual 369, 3) := dX13_isOneLetter_0g.2.2.2.1
theorem dX13_isOneLetter_6 : decode cX13_isOneLetter 6 = .ok (.ifCond .eq 20, 3) := dX13_isOneLetter_0g.2.2.2.2.1
theorem dX13_isOneLetter_9 : decode cX13_isOneLetter 9 = .ok (.aload_n 0, 1) := dX13_isOneLetter_0g.2.2.2.2.2.1
theorem dX13_isOneLetter_10 : decode cX13_isOneLetter 10 = .ok (.iload_n 1, 1) := dX13_isOneLetter_0g.2.2.2.2.2.2.1
theorem dX13_isOneLetter_11 : decode cX13_isOneLetter 11 = .ok (.lload_n 2, 1) := dX13_isOneLetter_0g.2.2.2.2.2.2.2.1
theorem dX13_isOneLetter_12 : decode cX13_isOneLetter 12 = .ok (.invokevirtual 359, 3) := dX13_isOneLetter_0g.2.2.2.2.2.2.2.2.1
theorem dX13_isOneLetter_15 : decode cX13_isOneLetter 15 = .ok (.ldc2_w 372, 3) := dX13_isOneLetter_0g.2.2.2.2.2.2.2.2.2.1
theorem dX13_isOneLetter_18 : decode cX13_isOneLetter 18 = .ok (.lcmp, 1) := dX13_isOneLetter_0g.2.2.2.2.2.2.2.2.2.2.1
theorem dX13_isOneLetter_19 : decode cX13_isOneLetter 19 = .ok (.ifCond .ge 7, 3) := dX13_isOneLetter_0g.2.2.2.2.2.2.2.2.2.2.2.1
theorem dX13_isOneLetter_22 : decode cX13_isOneLetter 22 = .ok (.iconst 1, 1) := dX13_isOneLetter_0g.2.2.2.2.2.2.2.2.2.2.2.2.1
theorem dX13_isOneLetter_23 : decode cX13_isOneLetter 23 = .ok (.goto 4, 3) := dX13_isOneLetter_0g.2.2.2.2.2.2.2.2.2.2.2.2.2.1
theorem dX13_isOneLetter_26 : decode cX13_isOneLetter 26 = .ok (.iconst 0, 1) := dX13_isOneLetter_0g.2.2.2.2.2.2.2.2.2.2.2.2.2.2.1
theorem dX13_isOneLetter_27 : decode cX13_isOneLetter 27 = .ok (.ireturn, 1) := dX13_isOneLetter_0g.2.2.2.2.2.2.2.2.2.2.2.2.2.2.2
theorem dX13_typeIn_0g : decode cX13_typeIn 0 = .ok (.aload_n 0, 1) ∧ decode cX13_typeIn 1 = .ok (.iload_n 1, 1) ∧ decode cX13_typeIn 2 = .ok (.ldc2_w 374, 3) ∧ decode cX13_typeIn 5 = .ok (.invokevirtual 359, 3) ∧ decode cX13_typeIn 8 = .ok (.lstore_n 2, 1) ∧ decode cX13_typeIn 9 = .ok (.iconst 0, 1) ∧ decode cX13_typeIn 10 = .ok (.istore 4, 2) ∧ decode cX13_typeIn 12 = .ok (.iload 4, 2) ∧ decode cX13_typeIn 14 = .ok (.iconst 5, 1) ∧ decode cX13_typeIn 15 = .ok (.if_icmp .ge 26, 3) ∧ decode cX13_typeIn 18 = .ok (.lload_n 2, 1) ∧ decode cX13_typeIn 19 = .ok (.aload_n 0, 1) ∧ decode cX13_typeIn 20 = .ok (.getfield 55, 3) ∧ decode cX13_typeIn 23 = .ok (.iconst 4, 1) ∧ decode cX13_typeIn 24 = .ok (.iload 4, 2) ∧ decode cX13_typeIn 26 = .ok (.iadd, 1) := by decide +kernel
theorem dX13_typeIn_0 : decode cX13_typeIn 0 = .ok (.aload_n 0, 1) := dX13_typeIn_0g.1
theorem dX13_typeIn_1 : decode cX13_typeIn 1 = .ok (.iload_n 1, 1) := dX13_typeIn_0g.2.1
theorem dX13_typeIn_2 : decode cX13_typeIn 2 = .ok (.ldc2_w 374, 3) := dX13_typeIn_0g.2.2.1
theorem dX13_typeIn_5 : decode cX13_typeIn 5 = .ok (.invokevirtual 359, 3) := dX13_typeIn_0g.2.2.2.1
theorem dX13_typeIn_8 : decode cX13_typeIn 8 = .ok (.lstore_n 2, 1) := dX13_typeIn_0g.2.2.2.2.1
theorem dX13_typeIn_9 : decode cX13_typeIn 9 = .ok (.iconst 0, 1) := dX13_typeIn_0g.2.2.2.2.2.1
theorem dX13_typeIn_10 : decode cX13_typeIn 10 = .ok (.istore 4, 2) := dX13_typeIn_0g.2.2.2.2.2.2.1
theorem dX13_typeIn_12 : decode cX13_typeIn 12 = .ok (.iload 4, 2) := dX13_typeIn_0g.2.2.2.2.2.2.2.1
theorem dX13_typeIn_14 : decode cX13_typeIn 14 = .ok (.iconst 5, 1) := dX13_typeIn_0g.2.2.2.2.2.2.2.2.1
theorem dX13_typeIn_15 : decode cX13_typeIn 15 = .ok (.if_icmp .ge 26, 3) := dX13_typeIn_0g.2.2.2.2.2.2.2.2.2.1
theorem dX13_typeIn_18 : decode cX13_typeIn 18 = .ok (.lload_n 2, 1) := dX13_typeIn_0g.2.2.2.2.2.2.2.2.2.2.1
theorem dX13_typeIn_19 : decode cX13_typeIn 19 = .ok (.aload_n 0, 1) := dX13_typeIn_0g.2.2.2.2.2.2.2.2.2.2.2.1
theorem dX13_typeIn_20 : decode cX13_typeIn 20 = .ok (.getfield 55, 3) := dX13_typeIn_0g.2.2.2.2.2.2.2.2.2.2.2.2.1
theorem dX13_typeIn_23 : decode cX13_typeIn 23 = .ok (.iconst 4, 1) := dX13_typeIn_0g.2.2.2.2.2.2.2.2.2.2.2.2.2.1
theorem dX13_typeIn_24 : decode cX13_typeIn 24 = .ok (.iload 4, 2) := dX13_typeIn_0g.2.2.2.2.2.2.2.2.2.2.2.2.2.2.1
theorem dX13_typeIn_26 : decode cX13_typeIn 26 = .ok (.iadd, 1) := dX13_typeIn_0g.2.2.2.2.2.2.2.2.2.2.2.2.2.2.2
theorem dX13_typeIn_27g : decode cX13_typeIn 27 = .ok (.laload, 1) ∧ decode cX13_typeIn 28 = .ok (.lcmp, 1) ∧ decode cX13_typeIn 29 = .ok (.ifCond .ne 6, 3) ∧ decode cX13_typeIn 32 = .ok (.iload 4, 2) ∧ decode cX13_typeIn 34 = .ok (.ireturn, 1) ∧ decode cX13_typeIn 35 = .ok (.iinc 4 1, 3) ∧ decode cX13_typeIn 38 = .ok (.goto (-26), 3) ∧ decode cX13_typeIn 41 = .ok (.aload_n 0, 1) ∧ decode cX13_typeIn 42 = .ok (.iload_n 1, 1) ∧ decode cX13_typeIn 43 = .ok (.ldc2_w 374, 3) ∧ decode cX13_typeIn 46 = .ok (.invokevirtual 355, 3) ∧ decode cX13_typeIn 49 = .ok (.ifCond .eq 21, 3) ∧ decode cX13_typeIn 52 = .ok (.lload_n 2, 1) ∧ decode cX13_typeIn 53 = .ok (.invokestatic 376, 3) ∧ decode cX13_typeIn 56 = .ok (.iconst (-1), 1) ∧ decode cX13_typeIn 57 = .ok (.if_icmp .eq 13, 3) := by decide +kernel
theorem dX13_typeIn_27 : decode cX13_typeIn 27 = .ok (.laload, 1) := dX13_typeIn_27g.1
theorem dX13_typeIn_28 : decode cX13_typeIn 28 = .ok (.lcmp, 1) := dX13_typeIn_27g.2.1
theorem dX13_typeIn_29 : decode cX13_typeIn 29 = .ok (.ifCond .ne 6, 3) := dX13_typeIn_27g.2.2.1
theorem dX13_typeIn_32 : decode cX13_typeIn 32 = .ok (.iload 4, 2) := dX13_typeIn_27g.2.2.2.1
theorem dX13_typeIn_34 : decode cX13_typeIn 34 = .ok (.ireturn, 1) := dX13_typeIn_27g.2.2.2.2.1
theorem dX13_typeIn_35 : decode cX13_typeIn 35 = .ok (.iinc 4 1, 3) := dX13_typeIn_27g.2.2.2.2.2.1
theorem dX13_typeIn_38 : decode cX13_typeIn 38 = .ok (.goto (-26), 3) := dX13_typeIn_27g.2.2.2.2.2.2.1
theorem dX13_typeIn_41 : decode cX13_typeIn 41 = .ok (.aload_n 0, 1) := dX13_typeIn_27g.2.2.2.2.2.2.2.1
theorem dX13_typeIn_42 : decode cX13_typeIn 42 = .ok (.iload_n 1, 1) := dX13_typeIn_27g.2.2.2.2.2.2.2.2.1
theorem dX13_typeIn_43 : decode cX13_typeIn 43 = .ok (.ldc2_w 374, 3) := dX13_typeIn_27g.2.2.2.2.2.2.2.2.2.1
theorem dX13_typeIn_46 : decode cX13_typeIn 46 = .ok (.invokevirtual 355, 3) := dX13_typeIn_27g.2.2.2.2.2.2.2.2.2.2.1
theorem dX13_typeIn_49 : decode cX13_typeIn 49 = .ok (.ifCond .eq 21, 3) := dX13_typeIn_27g.2.2.2.2.2.2.2.2.2.2.2.1
theorem dX13_typeIn_52 : decode cX13_typeIn 52 = .ok (.lload_n 2, 1) := dX13_typeIn_27g.2.2.2.2.2.2.2.2.2.2.2.2.1
theorem dX13_typeIn_53 : decode cX13_typeIn 53 = .ok (.invokestatic 376, 3) := dX13_typeIn_27g.2.2.2.2.2.2.2.2.2.2.2.2.2.1
theorem dX13_typeIn_56 : decode cX13_typeIn 56 = .ok (.iconst (-1), 1) := dX13_typeIn_27g.2.2.2.2.2.2.2.2.2.2.2.2.2.2.1
theorem dX13_typeIn_57 : decode cX13_typeIn 57 = .ok (.if_icmp .eq 13, 3) := dX13_typeIn_27g.2.2.2.2.2.2.2.2.2.2.2.2.2.2.2
theorem dX13_typeIn_60g : decode cX13_typeIn 60 = .ok (.bipush 8, 2) ∧ decode cX13_typeIn 62 = .ok (.lload_n 2, 1) ∧ decode cX13_typeIn 63 = .ok (.invokestatic 376, 3) ∧ decode cX13_typeIn 66 = .ok (.iadd, 1) ∧ decode cX13_typeIn 67 = .ok (.goto 4, 3) ∧ decode cX13_typeIn 70 = .ok (.iconst (-1), 1) ∧ decode cX13_typeIn 71 = .ok (.ireturn, 1) := by decide +kernel
theorem dX13_typeIn_60 : decode cX13_typeIn 60 = .ok (.bipush 8, 2) := dX13_typeIn_60g.1
theorem dX13_typeIn_62 : decode cX13_typeIn 62 = .ok (.lload_n 2, 1) := dX13_typeIn_60g.2.1
theorem dX13_typeIn_63 : decode cX13_typeIn 63 = .ok (.invokestatic 376, 3) := dX13_typeIn_60g.2.2.1
theorem dX13_typeIn_66 : decode cX13_typeIn 66 = .ok (.iadd, 1) := dX13_typeIn_60g.2.2.2.1
theorem dX13_typeIn_67 : decode cX13_typeIn 67 = .ok (.goto 4, 3) := dX13_typeIn_60g.2.2.2.2.1
theorem dX13_typeIn_70 : decode cX13_typeIn 70 = .ok (.iconst (-1), 1) := dX13_typeIn_60g.2.2.2.2.2.1
theorem dX13_typeIn_71 : decode cX13_typeIn 71 = .ok (.ireturn, 1) := dX13_typeIn_60g.2.2.2.2.2.2
theorem dX13_isAllowed_0g : decode cX13_isAllowed 0 = .ok (.iload_n 1, 1) ∧ decode cX13_isAllowed 1 = .ok (.tableswitch 271 2 10 #[51, 73, 167, 205, 271, 271, 235, 271, 249], 51) ∧ decode cX13_isAllowed 52 = .ok (.lload_n 2, 1) ∧ decode cX13_isAllowed 53 = .ok (.ldc2_w 380, 3) ∧ decode cX13_isAllowed 56 = .ok (.lcmp, 1) ∧ decode cX13_isAllowed 57 = .ok (.ifCond .eq 11, 3) ∧ decode cX13_isAllowed 60 = .ok (.lload_n 2, 1) ∧ decode cX13_isAllowed 61 = .ok (.ldc2_w 382, 3) ∧ decode cX13_isAllowed 64 = .ok (.lcmp, 1) ∧ decode cX13_isAllowed 65 = .ok (.ifCond .ne 7, 3) ∧ decode cX13_isAllowed 68 = .ok (.iconst 1, 1) ∧ decode cX13_isAllowed 69 = .ok (.goto 4, 3) ∧ decode cX13_isAllowed 72 = .ok (.iconst 0, 1) ∧ decode cX13_isAllowed 73 = .ok (.ireturn, 1) ∧ decode cX13_isAllowed 74 = .ok (.lload_n 2, 1) ∧ decode cX13_isAllowed 75 = .ok (.ldc2_w 384, 3) := by decide +kernel
theorem dX13_isAllowed_0 : decode cX13_isAllowed 0 = .ok (.iload_n 1, 1) := dX13_isAllowed_0g.1
theorem dX13_isAllowed_1 : decode cX13_isAllowed 1 = .ok (.tableswitch 271 2 10 #[51, 73, 167, 205, 271, 271, 235, 271, 249], 51) := dX13_isAllowed_0g.2.1
theorem dX13_isAllowed_52 : decode cX13_isAllowed 52 = .ok (.lload_n 2, 1) := dX13_isAllowed_0g.2.2.1
theorem dX13_isAllowed_53 : decode cX13_isAllowed 53 = .ok (.ldc2_w 380, 3) := dX13_isAllowed_0g.2.2.2.1
theorem dX13_isAllowed_56 : decode cX13_isAllowed 56 = .ok (.lcmp, 1) := dX13_isAllowed_0g.2.2.2.2.1
theorem dX13_isAllowed_57 : decode cX13_isAllowed 57 = .ok (.ifCond .eq 11, 3) := dX13_isAllowed_0g.2.2.2.2.2.1
theorem dX13_isAllowed_60 : decode cX13_isAllowed 60 = .ok (.lload_n 2, 1) := dX13_isAllowed_0g.2.2.2.2.2.2.1
theorem dX13_isAllowed_61 : decode cX13_isAllowed 61 = .ok (.ldc2_w 382, 3) := dX13_isAllowed_0g.2.2.2.2.2.2.2.1
theorem dX13_isAllowed_64 : decode cX13_isAllowed 64 = .ok (.lcmp, 1) := dX13_isAllowed_0g.2.2.2.2.2.2.2.2.1
theorem dX13_isAllowed_65 : decode cX13_isAllowed 65 = .ok (.ifCond .ne 7, 3) := dX13_isAllowed_0g.2.2.2.2.2.2.2.2.2.1
theorem dX13_isAllowed_68 : decode cX13_isAllowed 68 = .ok (.iconst 1, 1) := dX13_isAllowed_0g.2.2.2.2.2.2.2.2.2.2.1
theorem dX13_isAllowed_69 : decode cX13_isAllowed 69 = .ok (.goto 4, 3) := dX13_isAllowed_0g.2.2.2.2.2.2.2.2.2.2.2.1
theorem dX13_isAllowed_72 : decode cX13_isAllowed 72 = .ok (.iconst 0, 1) := dX13_isAllowed_0g.2.2.2.2.2.2.2.2.2.2.2.2.1
theorem dX13_isAllowed_73 : decode cX13_isAllowed 73 = .ok (.ireturn, 1) := dX13_isAllowed_0g.2.2.2.2.2.2.2.2.2.2.2.2.2.1
theorem dX13_isAllowed_74 : decode cX13_isAllowed 74 = .ok (.lload_n 2, 1) := dX13_isAllowed_0g.2.2.2.2.2.2.2.2.2.2.2.2.2.2.1
theorem dX13_isAllowed_75 : decode cX13_isAllowed 75 = .ok (.ldc2_w 384, 3) := dX13_isAllowed_0g.2.2.2.2.2.2.2.2.2.2.2.2.2.2.2
theorem dX13_isAllowed_78g : decode cX13_isAllowed 78 = .ok (.lcmp, 1) ∧ decode cX13_isAllowed 79 = .ok (.ifCond .eq 83, 3) ∧ decode cX13_isAllowed 82 = .ok (.lload_n 2, 1) ∧ decode cX13_isAllowed 83 = .ok (.ldc2_w 386, 3) ∧ decode cX13_isAllowed 86 = .ok (.lcmp, 1) ∧ decode cX13_isAllowed 87 = .ok (.ifCond .eq 75, 3) ∧ decode cX13_isAllowed 90 = .ok (.lload_n 2, 1) ∧ decode cX13_isAllowed 91 = .ok (.ldc2_w 388, 3) ∧ decode cX13_isAllowed 94 = .ok (.lcmp, 1) ∧ decode cX13_isAllowed 95 = .ok (.ifCond .eq 67, 3) ∧ decode cX13_isAllowed 98 = .ok (.lload_n 2, 1) ∧ decode cX13_isAllowed 99 = .ok (.ldc2_w 390, 3) ∧ decode cX13_isAllowed 102 = .ok (.lcmp, 1) ∧ decode cX13_isAllowed 103 = .ok (.ifCond .eq 59, 3) ∧ decode cX13_isAllowed 106 = .ok (.lload_n 2, 1) ∧ decode cX13_isAllowed 107 = .ok (.ldc2_w 392, 3) := by decide +kernel
theorem dX13_isAllowed_78 : decode cX13_isAllowed 78 = .ok (.lcmp, 1) := dX13_isAllowed_78g.1
theorem dX13_isAllowed_79 : decode cX13_isAllowed 79 = .ok (.ifCond .eq 83, 3) := dX13_isAllowed_78g.2.1
theorem dX13_isAllowed_82 : decode cX13_isAllowed 82 = .ok (.lload_n 2, 1) := dX13_isAllowed_78g.2.2.1
theorem dX13_isAllowed_83 : decode cX13_isAllowed 83 = .ok (.ldc2_w 386, 3) := dX13_isAllowed_78g.2.2.2.1
theorem dX13_isAllowed_86 : decode cX13_isAllowed 86 = .ok (.lcmp, 1) := dX13_isAllowed_78g.2.2.2.2.1
theorem dX13_isAllowed_87 : decode cX13_isAllowed 87 = .ok (.ifCond .eq 75, 3) := dX13_isAllowed_78g.2.2.2.2.2.1
theorem dX13_isAllowed_90 : decode cX13_isAllowed 90 = .ok (.lload_n 2, 1) := dX13_isAllowed_78g.2.2.2.2.2.2.1
theorem dX13_isAllowed_91 : decode cX13_isAllowed 91 = .ok (.ldc2_w 388, 3) := dX13_isAllowed_78g.2.2.2.2.2.2.2.1
theorem dX13_isAllowed_94 : decode cX13_isAllowed 94 = .ok (.lcmp, 1) := dX13_isAllowed_78g.2.2.2.2.2.2.2.2.1
theorem dX13_isAllowed_95 : decode cX13_isAllowed 95 = .ok (.ifCond .eq 67, 3) := dX13_isAllowed_78g.2.2.2.2.2.2.2.2.2.1
theorem dX13_isAllowed_98 : decode cX13_isAllowed 98 = .ok (.lload_n 2, 1) := dX13_isAllowed_78g.2.2.2.2.2.2.2.2.2.2.1
theorem dX13_isAllowed_99 : decode cX13_isAllowed 99 = .ok (.ldc2_w 390, 3) := dX13_isAllowed_78g.2.2.2.2.2.2.2.2.2.2.2.1
theorem dX13_isAllowed_102 : decode cX13_isAllowed 102 = .ok (.lcmp, 1) := dX13_isAllowed_78g.2.2.2.2.2.2.2.2.2.2.2.2.1
theorem dX13_isAllowed_103 : decode cX13_isAllowed 103 = .ok (.ifCond .eq 59, 3) := dX13_isAllowed_78g.2.2.2.2.2.2.2.2.2.2.2.2.2.1
theorem dX13_isAllowed_106 : decode cX13_isAllowed 106 = .ok (.lload_n 2, 1) := dX13_isAllowed_78g.2.2.2.2.2.2.2.2.2.2.2.2.2.2.1
theorem dX13_isAllowed_107 : decode cX13_isAllowed 107 = .ok (.ldc2_w 392, 3) := dX13_isAllowed_78g.2.2.2.2.2.2.2.2.2.2.2.2.2.2.2
theorem dX13_isAllowed_110g : decode cX13_isAllowed 110 = .ok (.lcmp, 1) ∧ decode cX13_isAllowed 111 = .ok (.ifCond .eq 51, 3) ∧ decode cX13_isAllowed 114 = .ok (.lload_n 2, 1) ∧ decode cX13_isAllowed 115 = .ok (.ldc2_w 394, 3) ∧ decode cX13_isAllowed 118 = .ok (.lcmp, 1) ∧ decode cX13_isAllowed 119 = .ok (.ifCond .eq 43, 3) ∧ decode cX13_isAllowed 122 = .ok (.lload_n 2, 1) ∧ decode cX13_isAllowed 123 = .ok (.ldc2_w 396, 3) ∧ decode cX13_isAllowed 126 = .ok (.lcmp, 1) ∧ decode cX13_isAllowed 127 = .ok (.ifCond .eq 35, 3) ∧ decode cX13_isAllowed 130 = .ok (.lload_n 2, 1) ∧ decode cX13_isAllowed 131 = .ok (.ldc2_w 398, 3) ∧ decode cX13_isAllowed 134 = .ok (.lcmp, 1) ∧ decode cX13_isAllowed 135 = .ok (.ifCond .eq 27, 3) ∧ decode cX13_isAllowed 138 = .ok (.lload_n 2, 1) ∧ decode cX13_isAllowed 139 = .ok (.ldc2_w 400, 3) := by decide +kernel
theorem dX13_isAllowed_110 : decode cX13_isAllowed 110 = .ok (.lcmp, 1) := dX13_isAllowed_110g.1
theorem dX13_isAllowed_111 : decode cX13_isAllowed 111 = .ok (.ifCond .eq 51, 3) := dX13_isAllowed_110g.2.1
theorem dX13_isAllowed_114 : decode cX13_isAllowed 114 = .ok (.lload_n 2, 1) := dX13_isAllowed_110g.2.2.1
theorem dX13_isAllowed_115 : decode cX13_isAllowed 115 = .ok (.ldc2_w 394, 3) := dX13_isAllowed_110g.2.2.2.1
theorem dX13_isAllowed_118 : decode cX13_isAllowed 118 = .ok (.lcmp, 1) := dX13_isAllowed_110g.2.2.2.2.1
theorem dX13_isAllowed_119 : decode cX13_isAllowed 119 = .ok (.ifCond .eq 43, 3) := dX13_isAllowed_110g.2.2.2.2.2.1
theorem dX13_isAllowed_122 : decode cX13_isAllowed 122 = .ok (.lload_n 2, 1) := dX13_isAllowed_110g.2.2.2.2.2.2.1
theorem dX13_isAllowed_123 : decode cX13_isAllowed 123 = .ok (.ldc2_w 396, 3) := dX13_isAllowed_110g.2.2.2.2.2.2.2.1
theorem dX13_isAllowed_126 : decode cX13_isAllowed 126 = .ok (.lcmp, 1) := dX13_isAllowed_110g.2.2.2.2.2.2.2.2.1
theorem dX13_isAllowed_127 : decode cX13_isAllowed 127 = .ok (.ifCond .eq 35, 3) := dX13_isAllowed_110g.2.2.2.2.2.2.2.2.2.1
theorem dX13_isAllowed_130 : decode cX13_isAllowed 130 = .ok (.lload_n 2, 1) := dX13_isAllowed_110g.2.2.2.2.2.2.2.2.2.2.1
theorem dX13_isAllowed_131 : decode cX13_isAllowed 131 = .ok (.ldc2_w 398, 3) := dX13_isAllowed_110g.2.2.2.2.2.2.2.2.2.2.2.1
theorem dX13_isAllowed_134 : decode cX13_isAllowed 134 = .ok (.lcmp, 1) := dX13_isAllowed_110g.2.2.2.2.2.2.2.2.2.2.2.2.1
theorem dX13_isAllowed_135 : decode cX13_isAllowed 135 = .ok (.ifCond .eq 27, 3) := dX13_isAllowed_110g.2.2.2.2.2.2.2.2.2.2.2.2.2.1
theorem dX13_isAllowed_138 : decode cX13_isAllowed 138 = .ok (.lload_n 2, 1) := dX13_isAllowed_110g.2.2.2.2.2.2.2.2.2.2.2.2.2.2.1
theorem dX13_isAllowed_139 : decode cX13_isAllowed 139 = .ok (.ldc2_w 400, 3) := dX13_isAllowed_110g.2.2.2.2.2.2.2.2.2.2.2.2.2.2.2
theorem dX13_isAllowed_142g : decode cX13_isAllowed 142 = .ok (.lcmp, 1) ∧ decode cX13_isAllowed 143 = .ok (.ifCond .eq 19, 3) ∧ decode cX13_isAllowed 146 = .ok (.lload_n 2, 1) ∧ decode cX13_isAllowed 147 = .ok (.ldc2_w 402, 3) ∧ decode cX13_isAllowed 150 = .ok (.lcmp, 1) ∧ decode cX13_isAllowed 151 = .ok (.ifCond .eq 11, 3) ∧ decode cX13_isAllowed 154 = .ok (.lload_n 2, 1) ∧ decode cX13_isAllowed 155 = .ok (.ldc2_w 404, 3) ∧ decode cX13_isAllowed 158 = .ok (.lcmp, 1) ∧ decode cX13_isAllowed 159 = .ok (.ifCond .ne 7, 3) ∧ decode cX13_isAllowed 162 = .ok (.iconst 1, 1) ∧ decode cX13_isAllowed 163 = .ok (.goto 4, 3) ∧ decode cX13_isAllowed 166 = .ok (.iconst 0, 1) ∧ decode cX13_isAllowed 167 = .ok (.ireturn, 1) ∧ decode cX13_isAllowed 168 = .ok (.lload_n 2, 1) ∧ decode cX13_isAllowed 169 = .ok (.ldc2_w 406, 3) := by decide +kernel
theorem dX13_isAllowed_142 : decode cX13_isAllowed 142 = .ok (.lcmp, 1) := dX13_isAllowed_142g.1
theorem dX13_isAllowed_143 : decode cX13_isAllowed 143 = .ok (.ifCond .eq 19, 3) := dX13_isAllowed_142g.2.1
theorem dX13_isAllowed_146 : decode cX13_isAllowed 146 = .ok (.lload_n 2, 1) := dX13_isAllowed_142g.2.2.1
theorem dX13_isAllowed_147 : decode cX13_isAllowed 147 = .ok (.ldc2_w 402, 3) := dX13_isAllowed_142g.2.2.2.1
theorem dX13_isAllowed_150 : decode cX13_isAllowed 150 = .ok (.lcmp, 1) := dX13_isAllowed_142g.2.2.2.2.1
theorem dX13_isAllowed_151 : decode cX13_isAllowed 151 = .ok (.ifCond .eq 11, 3) := dX13_isAllowed_142g.2.2.2.2.2.1
theorem dX13_isAllowed_154 : decode cX13_isAllowed 154 = .ok (.lload_n 2, 1) := dX13_isAllowed_142g.2.2.2.2.2.2.1
theorem dX13_isAllowed_155 : decode cX13_isAllowed 155 = .ok (.ldc2_w 404, 3) := dX13_isAllowed_142g.2.2.2.2.2.2.2.1
theorem dX13_isAllowed_158 : decode cX13_isAllowed 158 = .ok (.lcmp, 1) := dX13_isAllowed_142g.2.2.2.2.2.2.2.2.1
theorem dX13_isAllowed_159 : decode cX13_isAllowed 159 = .ok (.ifCond .ne 7, 3) := dX13_isAllowed_142g.2.2.2.2.2.2.2.2.2.1
theorem dX13_isAllowed_162 : decode cX13_isAllowed 162 = .ok (.iconst 1, 1) := dX13_isAllowed_142g.2.2.2.2.2.2.2.2.2.2.1
theorem dX13_isAllowed_163 : decode cX13_isAllowed 163 = .ok (.goto 4, 3) := dX13_isAllowed_142g.2.2.2.2.2.2.2.2.2.2.2.1
theorem dX13_isAllowed_166 : decode cX13_isAllowed 166 = .ok (.iconst 0, 1) := dX13_isAllowed_142g.2.2.2.2.2.2.2.2.2.2.2.2.1
theorem dX13_isAllowed_167 : decode cX13_isAllowed 167 = .ok (.ireturn, 1) := dX13_isAllowed_142g.2.2.2.2.2.2.2.2.2.2.2.2.2.1
theorem dX13_isAllowed_168 : decode cX13_isAllowed 168 = .ok (.lload_n 2, 1) := dX13_isAllowed_142g.2.2.2.2.2.2.2.2.2.2.2.2.2.2.1
theorem dX13_isAllowed_169 : decode cX13_isAllowed 169 = .ok (.ldc2_w 406, 3) := dX13_isAllowed_142g.2.2.2.2.2.2.2.2.2.2.2.2.2.2.2
theorem dX13_isAllowed_172g : decode cX13_isAllowed 172 = .ok (.lcmp, 1) ∧ decode cX13_isAllowed 173 = .ok (.ifCond .eq 27, 3) ∧ decode cX13_isAllowed 176 = .ok (.lload_n 2, 1) ∧ decode cX13_isAllowed 177 = .ok (.ldc2_w 374, 3) ∧ decode cX13_isAllowed 180 = .ok (.lcmp, 1) ∧ decode cX13_isAllowed 181 = .ok (.ifCond .eq 19, 3) ∧ decode cX13_isAllowed 184 = .ok (.lload_n 2, 1) ∧ decode cX13_isAllowed 185 = .ok (.ldc2_w 19, 3) ∧ decode cX13_isAllowed 188 = .ok (.lcmp, 1) ∧ decode cX13_isAllowed 189 = .ok (.ifCond .eq 11, 3) ∧ decode cX13_isAllowed 192 = .ok (.lload_n 2, 1) ∧ decode cX13_isAllowed 193 = .ok (.ldc2_w 21, 3) ∧ decode cX13_isAllowed 196 = .ok (.lcmp, 1) ∧ decode cX13_isAllowed 197 = .ok (.ifCond .ne 7, 3) ∧ decode cX13_isAllowed 200 = .ok (.iconst 1, 1) ∧ decode cX13_isAllowed 201 = .ok (.goto 4, 3) := by decide +kernel
theorem dX13_isAllowed_172 : decode cX13_isAllowed 172 = .ok (.lcmp, 1) := dX13_isAllowed_172g.1
theorem dX13_isAllowed_173 : decode cX13_isAllowed 173 = .ok (.ifCond .eq 27, 3) := dX13_isAllowed_172g.2.1
theorem dX13_isAllowed_176 : decode cX13_isAllowed 176 = .ok (.lload_n 2, 1) := dX13_isAllowed_172g.2.2.1
theorem dX13_isAllowed_177 : decode cX13_isAllowed 177 = .ok (.ldc2_w 374, 3) := dX13_isAllowed_172g.2.2.2.1
theorem dX13_isAllowed_180 : decode cX13_isAllowed 180 = .ok (.lcmp, 1) := dX13_isAllowed_172g.2.2.2.2.1
theorem dX13_isAllowed_181 : decode cX13_isAllowed 181 = .ok (.ifCond .eq 19, 3) := dX13_isAllowed_172g.2.2.2.2.2.1
theorem dX13_isAllowed_184 : decode cX13_isAllowed 184 = .ok (.lload_n 2, 1) := dX13_isAllowed_172g.2.2.2.2.2.2.1
theorem dX13_isAllowed_185 : decode cX13_isAllowed 185 = .ok (.ldc2_w 19, 3) := dX13_isAllowed_172g.2.2.2.2.2.2.2.1
theorem dX13_isAllowed_188 : decode cX13_isAllowed 188 = .ok (.lcmp, 1) := dX13_isAllowed_172g.2.2.2.2.2.2.2.2.1
theorem dX13_isAllowed_189 : decode cX13_isAllowed 189 = .ok (.ifCond .eq 11, 3) := dX13_isAllowed_172g.2.2.2.2.2.2.2.2.2.1
theorem dX13_isAllowed_192 : decode cX13_isAllowed 192 = .ok (.lload_n 2, 1) := dX13_isAllowed_172g.2.2.2.2.2.2.2.2.2.2.1
theorem dX13_isAllowed_193 : decode cX13_isAllowed 193 = .ok (.ldc2_w 21, 3) := dX13_isAllowed_172g.2.2.2.2.2.2.2.2.2.2.2.1
theorem dX13_isAllowed_196 : decode cX13_isAllowed 196 = .ok (.lcmp, 1) := dX13_isAllowed_172g.2.2.2.2.2.2.2.2.2.2.2.2.1
theorem dX13_isAllowed_197 : decode cX13_isAllowed 197 = .ok (.ifCond .ne 7, 3) := dX13_isAllowed_172g.2.2.2.2.2.2.2.2.2.2.2.2.2.1
theorem dX13_isAllowed_200 : decode cX13_isAllowed 200 = .ok (.iconst 1, 1) := dX13_isAllowed_172g.2.2.2.2.2.2.2.2.2.2.2.2.2.2.1
theorem dX13_isAllowed_201 : decode cX13_isAllowed 201 = .ok (.goto 4, 3) := dX13_isAllowed_172g.2.2.2.2.2.2.2.2.2.2.2.2.2.2.2
theorem dX13_isAllowed_204g : decode cX13_isAllowed 204 = .ok (.iconst 0, 1) ∧ decode cX13_isAllowed 205 = .ok (.ireturn, 1) ∧ decode cX13_isAllowed 206 = .ok (.lload_n 2, 1) ∧ decode cX13_isAllowed 207 = .ok (.ldc2_w 380, 3) ∧ decode cX13_isAllowed 210 = .ok (.lcmp, 1) ∧ decode cX13_isAllowed 211 = .ok (.ifCond .eq 19, 3) ∧ decode cX13_isAllowed 214 = .ok (.lload_n 2, 1) ∧ decode cX13_isAllowed 215 = .ok (.ldc2_w 19, 3) ∧ decode cX13_isAllowed 218 = .ok (.lcmp, 1) ∧ decode cX13_isAllowed 219 = .ok (.ifCond .eq 11, 3) ∧ decode cX13_isAllowed 222 = .ok (.lload_n 2, 1) ∧ decode cX13_isAllowed 223 = .ok (.ldc2_w 21, 3) ∧ decode cX13_isAllowed 226 = .ok (.lcmp, 1) ∧ decode cX13_isAllowed 227 = .ok (.ifCond .ne 7, 3) ∧ decode cX13_isAllowed 230 = .ok (.iconst 1, 1) ∧ decode cX13_isAllowed 231 = .ok (.goto 4, 3) := by decide +kernel
theorem dX13_isAllowed_204 : decode cX13_isAllowed 204 = .ok (.iconst 0, 1) := dX13_isAllowed_204g.1
theorem dX13_isAllowed_205 : decode cX13_isAllowed 205 = .ok (.ireturn, 1) := dX13_isAllowed_204g.2.1
theorem dX13_isAllowed_206 : decode cX13_isAllowed 206 = .ok (.lload_n 2, 1) := dX13_isAllowed_204g.2.2.1
theorem dX13_isAllowed_207 : decode cX13_isAllowed 207 = .ok (.ldc2_w 380, 3) := dX13_isAllowed_204g.2.2.2.1
theorem dX13_isAllowed_210 : decode cX13_isAllowed 210 = .ok (.lcmp, 1) := dX13_isAllowed_204g.2.2.2.2.1
theorem dX13_isAllowed_211 : decode cX13_isAllowed 211 = .ok (.ifCond .eq 19, 3) := dX13_isAllowed_204g.2.2.2.2.2.1
theorem dX13_isAllowed_214 : decode cX13_isAllowed 214 = .ok (.lload_n 2, 1) := dX13_isAllowed_204g.2.2.2.2.2.2.1
theorem dX13_isAllowed_215 : decode cX13_isAllowed 215 = .ok (.ldc2_w 19, 3) := dX13_isAllowed_204g.2.2.2.2.2.2.2.1
theorem dX13_isAllowed_218 : decode cX13_isAllowed 218 = .ok (.lcmp, 1) := dX13_isAllowed_204g.2.2.2.2.2.2.2.2.1
theorem dX13_isAllowed_219 : decode cX13_isAllowed 219 = .ok (.ifCond .eq 11, 3) := dX13_isAllowed_204g.2.2.2.2.2.2.2.2.2.1
theorem dX13_isAllowed_222 : decode cX13_isAllowed 222 = .ok (.lload_n 2, 1) := dX13_isAllowed_204g.2.2.2.2.2.2.2.2.2.2.1
theorem dX13_isAllowed_223 : decode cX13_isAllowed 223 = .ok (.ldc2_w 21, 3) := dX13_isAllowed_204g.2.2.2.2.2.2.2.2.2.2.2.1
theorem dX13_isAllowed_226 : decode cX13_isAllowed 226 = .ok (.lcmp, 1) := dX13_isAllowed_204g.2.2.2.2.2.2.2.2.2.2.2.2.1
theorem dX13_isAllowed_227 : decode cX13_isAllowed 227 = .ok (.ifCond .ne 7, 3) := dX13_isAllowed_204g.2.2.2.2.2.2.2.2.2.2.2.2.2.1
theorem dX13_isAllowed_230 : decode cX13_isAllowed 230 = .ok (.iconst 1, 1) := dX13_isAllowed_204g.2.2.2.2.2.2.2.2.2.2.2.2.2.2.1
theorem dX13_isAllowed_231 : decode cX13_isAllowed 231 = .ok (.goto 4, 3) := dX13_isAllowed_204g.2.2.2.2.2.2.2.2.2.2.2.2.2.2.2
theorem dX13_isAllowed_234g : decode cX13_isAllowed 234 = .ok (.iconst 0, 1) ∧ decode cX13_isAllowed 235 = .ok (.ireturn, 1) ∧ decode cX13_isAllowed 236 = .ok (.lload_n 2, 1) ∧ decode cX13_isAllowed 237 = .ok (.ldc2_w 11, 3) ∧ decode cX13_isAllowed 240 = .ok (.lcmp, 1) ∧ decode cX13_isAllowed 241 = .ok (.ifCond .ne 7, 3) ∧ decode cX13_isAllowed 244 = .ok (.iconst 1, 1) ∧ decode cX13_isAllowed 245 = .ok (.goto 4, 3) ∧ decode cX13_isAllowed 248 = .ok (.iconst 0, 1) ∧ decode cX13_isAllowed 249 = .ok (.ireturn, 1) ∧ decode cX13_isAllowed 250 = .ok (.lload_n 2, 1) ∧ decode cX13_isAllowed 251 = .ok (.ldc2_w 380, 3) ∧ decode cX13_isAllowed 254 = .ok (.lcmp, 1) ∧ decode cX13_isAllowed 255 = .ok (.ifCond .eq 11, 3) ∧ decode cX13_isAllowed 258 = .ok (.lload_n 2, 1) ∧ decode cX13_isAllowed 259 = .ok (.ldc2_w 11, 3) := by decide +kernel
theorem dX13_isAllowed_234 : decode cX13_isAllowed 234 = .ok (.iconst 0, 1) := dX13_isAllowed_234g.1
theorem dX13_isAllowed_235 : decode cX13_isAllowed 235 = .ok (.ireturn, 1) := dX13_isAllowed_234g.2.1
theorem dX13_isAllowed_236 : decode cX13_isAllowed 236 = .ok (.lload_n 2, 1) := dX13_isAllowed_234g.2.2.1
theorem dX13_isAllowed_237 : decode cX13_isAllowed 237 = .ok (.ldc2_w 11, 3) := dX13_isAllowed_234g.2.2.2.1
theorem dX13_isAllowed_240 : decode cX13_isAllowed 240 = .ok (.lcmp, 1) := dX13_isAllowed_234g.2.2.2.2.1
theorem dX13_isAllowed_241 : decode cX13_isAllowed 241 = .ok (.ifCond .ne 7, 3) := dX13_isAllowed_234g.2.2.2.2.2.1
theorem dX13_isAllowed_244 : decode cX13_isAllowed 244 = .ok (.iconst 1, 1) := dX13_isAllowed_234g.2.2.2.2.2.2.1
theorem dX13_isAllowed_245 : decode cX13_isAllowed 245 = .ok (.goto 4, 3) := dX13_isAllowed_234g.2.2.2.2.2.2.2.1
theorem dX13_isAllowed_248 : decode cX13_isAllowed 248 = .ok (.iconst 0, 1) := dX13_isAllowed_234g.2.2.2.2.2.2.2.2.1
theorem dX13_isAllowed_249 : decode cX13_isAllowed 249 = .ok (.ireturn, 1) := dX13_isAllowed_234g.2.2.2.2.2.2.2.2.2.1
theorem dX13_isAllowed_250 : decode cX13_isAllowed 250 = .ok (.lload_n 2, 1) := dX13_isAllowed_234g.2.2.2.2.2.2.2.2.2.2.1
theorem dX13_isAllowed_251 : decode cX13_isAllowed 251 = .ok (.ldc2_w 380, 3) := dX13_isAllowed_234g.2.2.2.2.2.2.2.2.2.2.2.1
theorem dX13_isAllowed_254 : decode cX13_isAllowed 254 = .ok (.lcmp, 1) := dX13_isAllowed_234g.2.2.2.2.2.2.2.2.2.2.2.2.1
theorem dX13_isAllowed_255 : decode cX13_isAllowed 255 = .ok (.ifCond .eq 11, 3) := dX13_isAllowed_234g.2.2.2.2.2.2.2.2.2.2.2.2.2.1
theorem dX13_isAllowed_258 : decode cX13_isAllowed 258 = .ok (.lload_n 2, 1) := dX13_isAllowed_234g.2.2.2.2.2.2.2.2.2.2.2.2.2.2.1
theorem dX13_isAllowed_259 : decode cX13_isAllowed 259 = .ok (.ldc2_w 11, 3) := dX13_isAllowed_234g.2.2.2.2.2.2.2.2.2.2.2.2.2.2.2
theorem dX13_isAllowed_262g : decode cX13_isAllowed 262 = .ok (.lcmp, 1) ∧ decode cX13_isAllowed 263 = .ok (.ifCond .ne 7, 3) ∧ decode cX13_isAllowed 266 = .ok (.iconst 1, 1) ∧ decode cX13_isAllowed 267 = .ok (.goto 4, 3) ∧ decode cX13_isAllowed 270 = .ok (.iconst 0, 1) ∧ decode cX13_isAllowed 271 = .ok (.ireturn, 1) ∧ decode cX13_isAllowed 272 = .ok (.iconst 0, 1) ∧ decode cX13_isAllowed 273 = .ok (.ireturn, 1) := by decide +kernel
theorem dX13_isAllowed_262 : decode cX13_isAllowed 262 = .ok (.lcmp, 1) := dX13_isAllowed_262g.1
theorem dX13_isAllowed_263 : decode cX13_isAllowed 263 = .ok (.ifCond .ne 7, 3) := dX13_isAllowed_262g.2.1
theorem dX13_isAllowed_266 : decode cX13_isAllowed 266 = .ok (.iconst 1, 1) := dX13_isAllowed_262g.2.2.1
theorem dX13_isAllowed_267 : decode cX13_isAllowed 267 = .ok (.goto 4, 3) := dX13_isAllowed_262g.2.2.2.1
theorem dX13_isAllowed_270 : decode cX13_isAllowed 270 = .ok (.iconst 0, 1) := dX13_isAllowed_262g.2.2.2.2.1
theorem dX13_isAllowed_271 : decode cX13_isAllowed 271 = .ok (.ireturn, 1) := dX13_isAllowed_262g.2.2.2.2.2.1
theorem dX13_isAllowed_272 : decode cX13_isAllowed 272 = .ok (.iconst 0, 1) := dX13_isAllowed_262g.2.2.2.2.2.2.1
theorem dX13_isAllowed_273 : decode cX13_isAllowed 273 = .ok (.ireturn, 1) := dX13_isAllowed_262g.2.2.2.2.2.2.2
