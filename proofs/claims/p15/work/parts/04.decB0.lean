theorem dX13_isClass_0g : decode cX13_isClass 0 = .ok (.iload_n 0, 1) ∧ decode cX13_isClass 1 = .ok (.ifCond .lt 13, 3) ∧ decode cX13_isClass 4 = .ok (.iload_n 0, 1) ∧ decode cX13_isClass 5 = .ok (.bipush 8, 2) ∧ decode cX13_isClass 7 = .ok (.if_icmp .ge 7, 3) ∧ decode cX13_isClass 10 = .ok (.iconst 1, 1) ∧ decode cX13_isClass 11 = .ok (.goto 4, 3) ∧ decode cX13_isClass 14 = .ok (.iconst 0, 1) ∧ decode cX13_isClass 15 = .ok (.ireturn, 1) := by decide +kernel
theorem dX13_isClass_0 : decode cX13_isClass 0 = .ok (.iload_n 0, 1) := dX13_isClass_0g.1
theorem dX13_isClass_1 : decode cX13_isClass 1 = .ok (.ifCond .lt 13, 3) := dX13_isClass_0g.2.1
theorem dX13_isClass_4 : decode cX13_isClass 4 = .ok (.iload_n 0, 1) := dX13_isClass_0g.2.2.1
theorem dX13_isClass_5 : decode cX13_isClass 5 = .ok (.bipush 8, 2) := dX13_isClass_0g.2.2.2.1
theorem dX13_isClass_7 : decode cX13_isClass 7 = .ok (.if_icmp .ge 7, 3) := dX13_isClass_0g.2.2.2.2.1
theorem dX13_isClass_10 : decode cX13_isClass 10 = .ok (.iconst 1, 1) := dX13_isClass_0g.2.2.2.2.2.1
theorem dX13_isClass_11 : decode cX13_isClass 11 = .ok (.goto 4, 3) := dX13_isClass_0g.2.2.2.2.2.2.1
theorem dX13_isClass_14 : decode cX13_isClass 14 = .ok (.iconst 0, 1) := dX13_isClass_0g.2.2.2.2.2.2.2.1
theorem dX13_isClass_15 : decode cX13_isClass 15 = .ok (.ireturn, 1) := dX13_isClass_0g.2.2.2.2.2.2.2.2
theorem dX13_isType_0g : decode cX13_isType 0 = .ok (.iload_n 0, 1) ∧ decode cX13_isType 1 = .ok (.ifCond .lt 8, 3) ∧ decode cX13_isType 4 = .ok (.iload_n 0, 1) ∧ decode cX13_isType 5 = .ok (.iconst 5, 1) ∧ decode cX13_isType 6 = .ok (.if_icmp .lt 15, 3) ∧ decode cX13_isType 9 = .ok (.iload_n 0, 1) ∧ decode cX13_isType 10 = .ok (.bipush 8, 2) ∧ decode cX13_isType 12 = .ok (.if_icmp .lt 13, 3) ∧ decode cX13_isType 15 = .ok (.iload_n 0, 1) ∧ decode cX13_isType 16 = .ok (.bipush 16, 2) ∧ decode cX13_isType 18 = .ok (.if_icmp .ge 7, 3) ∧ decode cX13_isType 21 = .ok (.iconst 1, 1) ∧ decode cX13_isType 22 = .ok (.goto 4, 3) ∧ decode cX13_isType 25 = .ok (.iconst 0, 1) ∧ decode cX13_isType 26 = .ok (.ireturn, 1) := by decide +kernel
theorem dX13_isType_0 : decode cX13_isType 0 = .ok (.iload_n 0, 1) := dX13_isType_0g.1
theorem dX13_isType_1 : decode cX13_isType 1 = .ok (.ifCond .lt 8, 3) := dX13_isType_0g.2.1
theorem dX13_isType_4 : decode cX13_isType 4 = .ok (.iload_n 0, 1) := dX13_isType_0g.2.2.1
theorem dX13_isType_5 : decode cX13_isType 5 = .ok (.iconst 5, 1) := dX13_isType_0g.2.2.2.1
theorem dX13_isType_6 : decode cX13_isType 6 = .ok (.if_icmp .lt 15, 3) := dX13_isType_0g.2.2.2.2.1
theorem dX13_isType_9 : decode cX13_isType 9 = .ok (.iload_n 0, 1) := dX13_isType_0g.2.2.2.2.2.1
theorem dX13_isType_10 : decode cX13_isType 10 = .ok (.bipush 8, 2) := dX13_isType_0g.2.2.2.2.2.2.1
theorem dX13_isType_12 : decode cX13_isType 12 = .ok (.if_icmp .lt 13, 3) := dX13_isType_0g.2.2.2.2.2.2.2.1
theorem dX13_isType_15 : decode cX13_isType 15 = .ok (.iload_n 0, 1) := dX13_isType_0g.2.2.2.2.2.2.2.2.1
theorem dX13_isType_16 : decode cX13_isType 16 = .ok (.bipush 16, 2) := dX13_isType_0g.2.2.2.2.2.2.2.2.2.1
theorem dX13_isType_18 : decode cX13_isType 18 = .ok (.if_icmp .ge 7, 3) := dX13_isType_0g.2.2.2.2.2.2.2.2.2.2.1
theorem dX13_isType_21 : decode cX13_isType 21 = .ok (.iconst 1, 1) := dX13_isType_0g.2.2.2.2.2.2.2.2.2.2.2.1
theorem dX13_isType_22 : decode cX13_isType 22 = .ok (.goto 4, 3) := dX13_isType_0g.2.2.2.2.2.2.2.2.2.2.2.2.1
theorem dX13_isType_25 : decode cX13_isType 25 = .ok (.iconst 0, 1) := dX13_isType_0g.2.2.2.2.2.2.2.2.2.2.2.2.2.1
theorem dX13_isType_26 : decode cX13_isType 26 = .ok (.ireturn, 1) := dX13_isType_0g.2.2.2.2.2.2.2.2.2.2.2.2.2.2
theorem dX13_areTypes_0g : decode cX13_areTypes 0 = .ok (.iload_n 0, 1) ∧ decode cX13_areTypes 1 = .ok (.ifCond .lt 48, 3) ∧ decode cX13_areTypes 4 = .ok (.iload_n 0, 1) ∧ decode cX13_areTypes 5 = .ok (.iconst 4, 1) ∧ decode cX13_areTypes 6 = .ok (.if_icmp .ge 43, 3) ∧ decode cX13_areTypes 9 = .ok (.iload_n 0, 1) ∧ decode cX13_areTypes 10 = .ok (.iconst 1, 1) ∧ decode cX13_areTypes 11 = .ok (.if_icmp .lt 10, 3) ∧ decode cX13_areTypes 14 = .ok (.iload_n 1, 1) ∧ decode cX13_areTypes 15 = .ok (.invokestatic 255, 3) ∧ decode cX13_areTypes 18 = .ok (.ifCond .eq 31, 3) ∧ decode cX13_areTypes 21 = .ok (.iload_n 0, 1) ∧ decode cX13_areTypes 22 = .ok (.iconst 2, 1) ∧ decode cX13_areTypes 23 = .ok (.if_icmp .lt 10, 3) ∧ decode cX13_areTypes 26 = .ok (.iload_n 2, 1) ∧ decode cX13_areTypes 27 = .ok (.invokestatic 255, 3) := by decide +kernel
theorem dX13_areTypes_0 : decode cX13_areTypes 0 = .ok (.iload_n 0, 1) := dX13_areTypes_0g.1
theorem dX13_areTypes_1 : decode cX13_areTypes 1 = .ok (.ifCond .lt 48, 3) := dX13_areTypes_0g.2.1
theorem dX13_areTypes_4 : decode cX13_areTypes 4 = .ok (.iload_n 0, 1) := dX13_areTypes_0g.2.2.1
theorem dX13_areTypes_5 : decode cX13_areTypes 5 = .ok (.iconst 4, 1) := dX13_areTypes_0g.2.2.2.1
theorem dX13_areTypes_6 : decode cX13_areTypes 6 = .ok (.if_icmp .ge 43, 3) := dX13_areTypes_0g.2.2.2.2.1
theorem dX13_areTypes_9 : decode cX13_areTypes 9 = .ok (.iload_n 0, 1) := dX13_areTypes_0g.2.2.2.2.2.1
theorem dX13_areTypes_10 : decode cX13_areTypes 10 = .ok (.iconst 1, 1) := dX13_areTypes_0g.2.2.2.2.2.2.1
theorem dX13_areTypes_11 : decode cX13_areTypes 11 = .ok (.if_icmp .lt 10, 3) := dX13_areTypes_0g.2.2.2.2.2.2.2.1
theorem dX13_areTypes_14 : decode cX13_areTypes 14 = .ok (.iload_n 1, 1) := dX13_areTypes_0g.2.2.2.2.2.2.2.2.1
theorem dX13_areTypes_15 : decode cX13_areTypes 15 = .ok (.invokestatic 255, 3) := dX13_areTypes_0g.2.2.2.2.2.2.2.2.2.1
theorem dX13_areTypes_18 : decode cX13_areTypes 18 = .ok (.ifCond .eq 31, 3) := dX13_areTypes_0g.2.2.2.2.2.2.2.2.2.2.1
theorem dX13_areTypes_21 : decode cX13_areTypes 21 = .ok (.iload_n 0, 1) := dX13_areTypes_0g.2.2.2.2.2.2.2.2.2.2.2.1
theorem dX13_areTypes_22 : decode cX13_areTypes 22 = .ok (.iconst 2, 1) := dX13_areTypes_0g.2.2.2.2.2.2.2.2.2.2.2.2.1
theorem dX13_areTypes_23 : decode cX13_areTypes 23 = .ok (.if_icmp .lt 10, 3) := dX13_areTypes_0g.2.2.2.2.2.2.2.2.2.2.2.2.2.1
theorem dX13_areTypes_26 : decode cX13_areTypes 26 = .ok (.iload_n 2, 1) := dX13_areTypes_0g.2.2.2.2.2.2.2.2.2.2.2.2.2.2.1
theorem dX13_areTypes_27 : decode cX13_areTypes 27 = .ok (.invokestatic 255, 3) := dX13_areTypes_0g.2.2.2.2.2.2.2.2.2.2.2.2.2.2.2
theorem dX13_areTypes_30g : decode cX13_areTypes 30 = .ok (.ifCond .eq 19, 3) ∧ decode cX13_areTypes 33 = .ok (.iload_n 0, 1) ∧ decode cX13_areTypes 34 = .ok (.iconst 3, 1) ∧ decode cX13_areTypes 35 = .ok (.if_icmp .lt 10, 3) ∧ decode cX13_areTypes 38 = .ok (.iload_n 3, 1) ∧ decode cX13_areTypes 39 = .ok (.invokestatic 255, 3) ∧ decode cX13_areTypes 42 = .ok (.ifCond .eq 7, 3) ∧ decode cX13_areTypes 45 = .ok (.iconst 1, 1) ∧ decode cX13_areTypes 46 = .ok (.goto 4, 3) ∧ decode cX13_areTypes 49 = .ok (.iconst 0, 1) ∧ decode cX13_areTypes 50 = .ok (.ireturn, 1) := by decide +kernel
theorem dX13_areTypes_30 : decode cX13_areTypes 30 = .ok (.ifCond .eq 19, 3) := dX13_areTypes_30g.1
theorem dX13_areTypes_33 : decode cX13_areTypes 33 = .ok (.iload_n 0, 1) := dX13_areTypes_30g.2.1
theorem dX13_areTypes_34 : decode cX13_areTypes 34 = .ok (.iconst 3, 1) := dX13_areTypes_30g.2.2.1
theorem dX13_areTypes_35 : decode cX13_areTypes 35 = .ok (.if_icmp .lt 10, 3) := dX13_areTypes_30g.2.2.2.1
theorem dX13_areTypes_38 : decode cX13_areTypes 38 = .ok (.iload_n 3, 1) := dX13_areTypes_30g.2.2.2.2.1
theorem dX13_areTypes_39 : decode cX13_areTypes 39 = .ok (.invokestatic 255, 3) := dX13_areTypes_30g.2.2.2.2.2.1
theorem dX13_areTypes_42 : decode cX13_areTypes 42 = .ok (.ifCond .eq 7, 3) := dX13_areTypes_30g.2.2.2.2.2.2.1
theorem dX13_areTypes_45 : decode cX13_areTypes 45 = .ok (.iconst 1, 1) := dX13_areTypes_30g.2.2.2.2.2.2.2.1
theorem dX13_areTypes_46 : decode cX13_areTypes 46 = .ok (.goto 4, 3) := dX13_areTypes_30g.2.2.2.2.2.2.2.2.1
theorem dX13_areTypes_49 : decode cX13_areTypes 49 = .ok (.iconst 0, 1) := dX13_areTypes_30g.2.2.2.2.2.2.2.2.2.1
theorem dX13_areTypes_50 : decode cX13_areTypes 50 = .ok (.ireturn, 1) := dX13_areTypes_30g.2.2.2.2.2.2.2.2.2.2
theorem dX13_isLetter_0g : decode cX13_isLetter 0 = .ok (.iload_n 0, 1) ∧ decode cX13_isLetter 1 = .ok (.ifCond .lt 13, 3) ∧ decode cX13_isLetter 4 = .ok (.iload_n 0, 1) ∧ decode cX13_isLetter 5 = .ok (.bipush 26, 2) ∧ decode cX13_isLetter 7 = .ok (.if_icmp .ge 7, 3) ∧ decode cX13_isLetter 10 = .ok (.iconst 1, 1) ∧ decode cX13_isLetter 11 = .ok (.goto 4, 3) ∧ decode cX13_isLetter 14 = .ok (.iconst 0, 1) ∧ decode cX13_isLetter 15 = .ok (.ireturn, 1) := by decide +kernel
theorem dX13_isLetter_0 : decode cX13_isLetter 0 = .ok (.iload_n 0, 1) := dX13_isLetter_0g.1
theorem dX13_isLetter_1 : decode cX13_isLetter 1 = .ok (.ifCond .lt 13, 3) := dX13_isLetter_0g.2.1
theorem dX13_isLetter_4 : decode cX13_isLetter 4 = .ok (.iload_n 0, 1) := dX13_isLetter_0g.2.2.1
theorem dX13_isLetter_5 : decode cX13_isLetter 5 = .ok (.bipush 26, 2) := dX13_isLetter_0g.2.2.2.1
theorem dX13_isLetter_7 : decode cX13_isLetter 7 = .ok (.if_icmp .ge 7, 3) := dX13_isLetter_0g.2.2.2.2.1
theorem dX13_isLetter_10 : decode cX13_isLetter 10 = .ok (.iconst 1, 1) := dX13_isLetter_0g.2.2.2.2.2.1
theorem dX13_isLetter_11 : decode cX13_isLetter 11 = .ok (.goto 4, 3) := dX13_isLetter_0g.2.2.2.2.2.2.1
theorem dX13_isLetter_14 : decode cX13_isLetter 14 = .ok (.iconst 0, 1) := dX13_isLetter_0g.2.2.2.2.2.2.2.1
theorem dX13_isLetter_15 : decode cX13_isLetter 15 = .ok (.ireturn, 1) := dX13_isLetter_0g.2.2.2.2.2.2.2.2
theorem dX13_declare_0g : decode cX13_declare 0 = .ok (.aload_n 0, 1) ∧ decode cX13_declare 1 = .ok (.iconst 0, 1) ∧ decode cX13_declare 2 = .ok (.putfield 252, 3) ∧ decode cX13_declare 5 = .ok (.iload_n 1, 1) ∧ decode cX13_declare 6 = .ok (.invokestatic 259, 3) ∧ decode cX13_declare 9 = .ok (.ifCond .eq 13, 3) ∧ decode cX13_declare 12 = .ok (.iload_n 2, 1) ∧ decode cX13_declare 13 = .ok (.iconst (-1), 1) ∧ decode cX13_declare 14 = .ok (.if_icmp .lt 8, 3) ∧ decode cX13_declare 17 = .ok (.iload_n 2, 1) ∧ decode cX13_declare 18 = .ok (.iload_n 1, 1) ∧ decode cX13_declare 19 = .ok (.if_icmp .lt 5, 3) ∧ decode cX13_declare 22 = .ok (.iconst 0, 1) ∧ decode cX13_declare 23 = .ok (.ireturn, 1) ∧ decode cX13_declare 24 = .ok (.aload_n 0, 1) ∧ decode cX13_declare 25 = .ok (.getfield 78, 3) := by decide +kernel
theorem dX13_declare_0 : decode cX13_declare 0 = .ok (.aload_n 0, 1) := dX13_declare_0g.1
theorem dX13_declare_1 : decode cX13_declare 1 = .ok (.iconst 0, 1) := dX13_declare_0g.2.1
theorem dX13_declare_2 : decode cX13_declare 2 = .ok (.putfield 252, 3) := dX13_declare_0g.2.2.1
theorem dX13_declare_5 : decode cX13_declare 5 = .ok (.iload_n 1, 1) := dX13_declare_0g.2.2.2.1
theorem dX13_declare_6 : decode cX13_declare 6 = .ok (.invokestatic 259, 3) := dX13_declare_0g.2.2.2.2.1
theorem dX13_declare_9 : decode cX13_declare 9 = .ok (.ifCond .eq 13, 3) := dX13_declare_0g.2.2.2.2.2.1
theorem dX13_declare_12 : decode cX13_declare 12 = .ok (.iload_n 2, 1) := dX13_declare_0g.2.2.2.2.2.2.1
theorem dX13_declare_13 : decode cX13_declare 13 = .ok (.iconst (-1), 1) := dX13_declare_0g.2.2.2.2.2.2.2.1
theorem dX13_declare_14 : decode cX13_declare 14 = .ok (.if_icmp .lt 8, 3) := dX13_declare_0g.2.2.2.2.2.2.2.2.1
theorem dX13_declare_17 : decode cX13_declare 17 = .ok (.iload_n 2, 1) := dX13_declare_0g.2.2.2.2.2.2.2.2.2.1
theorem dX13_declare_18 : decode cX13_declare 18 = .ok (.iload_n 1, 1) := dX13_declare_0g.2.2.2.2.2.2.2.2.2.2.1
theorem dX13_declare_19 : decode cX13_declare 19 = .ok (.if_icmp .lt 5, 3) := dX13_declare_0g.2.2.2.2.2.2.2.2.2.2.2.1
theorem dX13_declare_22 : decode cX13_declare 22 = .ok (.iconst 0, 1) := dX13_declare_0g.2.2.2.2.2.2.2.2.2.2.2.2.1
theorem dX13_declare_23 : decode cX13_declare 23 = .ok (.ireturn, 1) := dX13_declare_0g.2.2.2.2.2.2.2.2.2.2.2.2.2.1
theorem dX13_declare_24 : decode cX13_declare 24 = .ok (.aload_n 0, 1) := dX13_declare_0g.2.2.2.2.2.2.2.2.2.2.2.2.2.2.1
theorem dX13_declare_25 : decode cX13_declare 25 = .ok (.getfield 78, 3) := dX13_declare_0g.2.2.2.2.2.2.2.2.2.2.2.2.2.2.2
theorem dX13_declare_28g : decode cX13_declare 28 = .ok (.iload_n 1, 1) ∧ decode cX13_declare 29 = .ok (.iload_n 2, 1) ∧ decode cX13_declare 30 = .ok (.iastore, 1) ∧ decode cX13_declare 31 = .ok (.aload_n 0, 1) ∧ decode cX13_declare 32 = .ok (.getfield 81, 3) ∧ decode cX13_declare 35 = .ok (.iload_n 1, 1) ∧ decode cX13_declare 36 = .ok (.iconst 0, 1) ∧ decode cX13_declare 37 = .ok (.iastore, 1) ∧ decode cX13_declare 38 = .ok (.aload_n 0, 1) ∧ decode cX13_declare 39 = .ok (.getfield 90, 3) ∧ decode cX13_declare 42 = .ok (.iload_n 1, 1) ∧ decode cX13_declare 43 = .ok (.iconst 0, 1) ∧ decode cX13_declare 44 = .ok (.iastore, 1) ∧ decode cX13_declare 45 = .ok (.aload_n 0, 1) ∧ decode cX13_declare 46 = .ok (.getfield 99, 3) ∧ decode cX13_declare 49 = .ok (.iload_n 1, 1) := by decide +kernel
theorem dX13_declare_28 : decode cX13_declare 28 = .ok (.iload_n 1, 1) := dX13_declare_28g.1
theorem dX13_declare_29 : decode cX13_declare 29 = .ok (.iload_n 2, 1) := dX13_declare_28g.2.1
theorem dX13_declare_30 : decode cX13_declare 30 = .ok (.iastore, 1) := dX13_declare_28g.2.2.1
theorem dX13_declare_31 : decode cX13_declare 31 = .ok (.aload_n 0, 1) := dX13_declare_28g.2.2.2.1
theorem dX13_declare_32 : decode cX13_declare 32 = .ok (.getfield 81, 3) := dX13_declare_28g.2.2.2.2.1
theorem dX13_declare_35 : decode cX13_declare 35 = .ok (.iload_n 1, 1) := dX13_declare_28g.2.2.2.2.2.1
theorem dX13_declare_36 : decode cX13_declare 36 = .ok (.iconst 0, 1) := dX13_declare_28g.2.2.2.2.2.2.1
theorem dX13_declare_37 : decode cX13_declare 37 = .ok (.iastore, 1) := dX13_declare_28g.2.2.2.2.2.2.2.1
theorem dX13_declare_38 : decode cX13_declare 38 = .ok (.aload_n 0, 1) := dX13_declare_28g.2.2.2.2.2.2.2.2.1
theorem dX13_declare_39 : decode cX13_declare 39 = .ok (.getfield 90, 3) := dX13_declare_28g.2.2.2.2.2.2.2.2.2.1
theorem dX13_declare_42 : decode cX13_declare 42 = .ok (.iload_n 1, 1) := dX13_declare_28g.2.2.2.2.2.2.2.2.2.2.1
theorem dX13_declare_43 : decode cX13_declare 43 = .ok (.iconst 0, 1) := dX13_declare_28g.2.2.2.2.2.2.2.2.2.2.2.1
theorem dX13_declare_44 : decode cX13_declare 44 = .ok (.iastore, 1) := dX13_declare_28g.2.2.2.2.2.2.2.2.2.2.2.2.1
theorem dX13_declare_45 : decode cX13_declare 45 = .ok (.aload_n 0, 1) := dX13_declare_28g.2.2.2.2.2.2.2.2.2.2.2.2.2.1
theorem dX13_declare_46 : decode cX13_declare 46 = .ok (.getfield 99, 3) := dX13_declare_28g.2.2.2.2.2.2.2.2.2.2.2.2.2.2.1
theorem dX13_declare_49 : decode cX13_declare 49 = .ok (.iload_n 1, 1) := dX13_declare_28g.2.2.2.2.2.2.2.2.2.2.2.2.2.2.2
theorem dX13_declare_50g : decode cX13_declare 50 = .ok (.iconst 0, 1) ∧ decode cX13_declare 51 = .ok (.iastore, 1) ∧ decode cX13_declare 52 = .ok (.iconst 1, 1) ∧ decode cX13_declare 53 = .ok (.ireturn, 1) := by decide +kernel
theorem dX13_declare_50 : decode cX13_declare 50 = .ok (.iconst 0, 1) := dX13_declare_50g.1
theorem dX13_declare_51 : decode cX13_declare 51 = .ok (.iastore, 1) := dX13_declare_50g.2.1
theorem dX13_declare_52 : decode cX13_declare 52 = .ok (.iconst 1, 1) := dX13_declare_50g.2.2.1
theorem dX13_declare_53 : decode cX13_declare 53 = .ok (.ireturn, 1) := dX13_declare_50g.2.2.2
theorem dX13_constructor_0g : decode cX13_constructor 0 = .ok (.aload_n 0, 1) ∧ decode cX13_constructor 1 = .ok (.iconst 0, 1) ∧ decode cX13_constructor 2 = .ok (.putfield 252, 3) ∧ decode cX13_constructor 5 = .ok (.iload_n 1, 1) ∧ decode cX13_constructor 6 = .ok (.invokestatic 259, 3) ∧ decode cX13_constructor 9 = .ok (.ifCond .eq 25, 3) ∧ decode cX13_constructor 12 = .ok (.iload_n 2, 1) ∧ decode cX13_constructor 13 = .ok (.iload_n 3, 1) ∧ decode cX13_constructor 14 = .ok (.iload 4, 2) ∧ decode cX13_constructor 16 = .ok (.iload 5, 2) ∧ decode cX13_constructor 18 = .ok (.invokestatic 262, 3) ∧ decode cX13_constructor 21 = .ok (.ifCond .eq 13, 3) ∧ decode cX13_constructor 24 = .ok (.aload_n 0, 1) ∧ decode cX13_constructor 25 = .ok (.getfield 81, 3) ∧ decode cX13_constructor 28 = .ok (.iload_n 1, 1) ∧ decode cX13_constructor 29 = .ok (.iaload, 1) := by decide +kernel
theorem dX13_constructor_0 : decode cX13_constructor 0 = .ok (.aload_n 0, 1) := dX13_constructor_0g.1
theorem dX13_constructor_1 : decode cX13_constructor 1 = .ok (.iconst 0, 1) := dX13_constructor_0g.2.1
theorem dX13_constructor_2 : decode cX13_constructor 2 = .ok (.putfield 252, 3) := dX13_constructor_0g.2.2.1
theorem dX13_constructor_5 : decode cX13_constructor 5 = .ok (.iload_n 1, 1) := dX13_constructor_0g.2.2.2.1
theorem dX13_constructor_6 : decode cX13_constructor 6 = .ok (.invokestatic 259, 3) := dX13_constructor_0g.2.2.2.2.1
theorem dX13_constructor_9 : decode cX13_constructor 9 = .ok (.ifCond .eq 25, 3) := dX13_constructor_0g.2.2.2.2.2.1
theorem dX13_constructor_12 : decode cX13_constructor 12 = .ok (.iload_n 2, 1) := dX13_constructor_0g.2.2.2.2.2.2.1
theorem dX13_constructor_13 : decode cX13_constructor 13 = .ok (.iload_n 3, 1) := dX13_constructor_0g.2.2.2.2.2.2.2.1
theorem dX13_constructor_14 : decode cX13_constructor 14 = .ok (.iload 4, 2) := dX13_constructor_0g.2.2.2.2.2.2.2.2.1
theorem dX13_constructor_16 : decode cX13_constructor 16 = .ok (.iload 5, 2) := dX13_constructor_0g.2.2.2.2.2.2.2.2.2.1
theorem dX13_constructor_18 : decode cX13_constructor 18 = .ok (.invokestatic 262, 3) := dX13_constructor_0g.2.2.2.2.2.2.2.2.2.2.1
theorem dX13_constructor_21 : decode cX13_constructor 21 = .ok (.ifCond .eq 13, 3) := dX13_constructor_0g.2.2.2.2.2.2.2.2.2.2.2.1
theorem dX13_constructor_24 : decode cX13_constructor 24 = .ok (.aload_n 0, 1) := dX13_constructor_0g.2.2.2.2.2.2.2.2.2.2.2.2.1
theorem dX13_constructor_25 : decode cX13_constructor 25 = .ok (.getfield 81, 3) := dX13_constructor_0g.2.2.2.2.2.2.2.2.2.2.2.2.2.1
theorem dX13_constructor_28 : decode cX13_constructor 28 = .ok (.iload_n 1, 1) := dX13_constructor_0g.2.2.2.2.2.2.2.2.2.2.2.2.2.2.1
theorem dX13_constructor_29 : decode cX13_constructor 29 = .ok (.iaload, 1) := dX13_constructor_0g.2.2.2.2.2.2.2.2.2.2.2.2.2.2.2
theorem dX13_constructor_30g : decode cX13_constructor 30 = .ok (.iconst 4, 1) ∧ decode cX13_constructor 31 = .ok (.if_icmp .ne 5, 3) ∧ decode cX13_constructor 34 = .ok (.iconst 0, 1) ∧ decode cX13_constructor 35 = .ok (.ireturn, 1) ∧ decode cX13_constructor 36 = .ok (.iconst 4, 1) ∧ decode cX13_constructor 37 = .ok (.iload_n 1, 1) ∧ decode cX13_constructor 38 = .ok (.imul, 1) ∧ decode cX13_constructor 39 = .ok (.aload_n 0, 1) ∧ decode cX13_constructor 40 = .ok (.getfield 81, 3) ∧ decode cX13_constructor 43 = .ok (.iload_n 1, 1) ∧ decode cX13_constructor 44 = .ok (.iaload, 1) ∧ decode cX13_constructor 45 = .ok (.iadd, 1) ∧ decode cX13_constructor 46 = .ok (.istore 6, 2) ∧ decode cX13_constructor 48 = .ok (.aload_n 0, 1) ∧ decode cX13_constructor 49 = .ok (.getfield 84, 3) ∧ decode cX13_constructor 52 = .ok (.iload 6, 2) := by decide +kernel
theorem dX13_constructor_30 : decode cX13_constructor 30 = .ok (.iconst 4, 1) := dX13_constructor_30g.1
theorem dX13_constructor_31 : decode cX13_constructor 31 = .ok (.if_icmp .ne 5, 3) := dX13_constructor_30g.2.1
theorem dX13_constructor_34 : decode cX13_constructor 34 = .ok (.iconst 0, 1) := dX13_constructor_30g.2.2.1
theorem dX13_constructor_35 : decode cX13_constructor 35 = .ok (.ireturn, 1) := dX13_constructor_30g.2.2.2.1
theorem dX13_constructor_36 : decode cX13_constructor 36 = .ok (.iconst 4, 1) := dX13_constructor_30g.2.2.2.2.1
theorem dX13_constructor_37 : decode cX13_constructor 37 = .ok (.iload_n 1, 1) := dX13_constructor_30g.2.2.2.2.2.1
theorem dX13_constructor_38 : decode cX13_constructor 38 = .ok (.imul, 1) := dX13_constructor_30g.2.2.2.2.2.2.1
theorem dX13_constructor_39 : decode cX13_constructor 39 = .ok (.aload_n 0, 1) := dX13_constructor_30g.2.2.2.2.2.2.2.1
theorem dX13_constructor_40 : decode cX13_constructor 40 = .ok (.getfield 81, 3) := dX13_constructor_30g.2.2.2.2.2.2.2.2.1
theorem dX13_constructor_43 : decode cX13_constructor 43 = .ok (.iload_n 1, 1) := dX13_constructor_30g.2.2.2.2.2.2.2.2.2.1
theorem dX13_constructor_44 : decode cX13_constructor 44 = .ok (.iaload, 1) := dX13_constructor_30g.2.2.2.2.2.2.2.2.2.2.1
theorem dX13_constructor_45 : decode cX13_constructor 45 = .ok (.iadd, 1) := dX13_constructor_30g.2.2.2.2.2.2.2.2.2.2.2.1
theorem dX13_constructor_46 : decode cX13_constructor 46 = .ok (.istore 6, 2) := dX13_constructor_30g.2.2.2.2.2.2.2.2.2.2.2.2.1
theorem dX13_constructor_48 : decode cX13_constructor 48 = .ok (.aload_n 0, 1) := dX13_constructor_30g.2.2.2.2.2.2.2.2.2.2.2.2.2.1
theorem dX13_constructor_49 : decode cX13_constructor 49 = .ok (.getfield 84, 3) := dX13_constructor_30g.2.2.2.2.2.2.2.2.2.2.2.2.2.2.1
theorem dX13_constructor_52 : decode cX13_constructor 52 = .ok (.iload 6, 2) := dX13_constructor_30g.2.2.2.2.2.2.2.2.2.2.2.2.2.2.2
theorem dX13_constructor_54g : decode cX13_constructor 54 = .ok (.iload_n 2, 1) ∧ decode cX13_constructor 55 = .ok (.iastore, 1) ∧ decode cX13_constructor 56 = .ok (.aload_n 0, 1) ∧ decode cX13_constructor 57 = .ok (.getfield 87, 3) ∧ decode cX13_constructor 60 = .ok (.iconst 3, 1) ∧ decode cX13_constructor 61 = .ok (.iload 6, 2) ∧ decode cX13_constructor 63 = .ok (.imul, 1) ∧ decode cX13_constructor 64 = .ok (.iload_n 3, 1) ∧ decode cX13_constructor 65 = .ok (.iastore, 1) ∧ decode cX13_constructor 66 = .ok (.aload_n 0, 1) ∧ decode cX13_constructor 67 = .ok (.getfield 87, 3) ∧ decode cX13_constructor 70 = .ok (.iconst 3, 1) ∧ decode cX13_constructor 71 = .ok (.iload 6, 2) ∧ decode cX13_constructor 73 = .ok (.imul, 1) ∧ decode cX13_constructor 74 = .ok (.iconst 1, 1) ∧ decode cX13_constructor 75 = .ok (.iadd, 1) := by decide +kernel
theorem dX13_constructor_54 : decode cX13_constructor 54 = .ok (.iload_n 2, 1) := dX13_constructor_54g.1
theorem dX13_constructor_55 : decode cX13_constructor 55 = .ok (.iastore, 1) := dX13_constructor_54g.2.1
theorem dX13_constructor_56 : decode cX13_constructor 56 = .ok (.aload_n 0, 1) := dX13_constructor_54g.2.2.1
theorem dX13_constructor_57 : decode cX13_constructor 57 = .ok (.getfield 87, 3) := dX13_constructor_54g.2.2.2.1
theorem dX13_constructor_60 : decode cX13_constructor 60 = .ok (.iconst 3, 1) := dX13_constructor_54g.2.2.2.2.1
theorem dX13_constructor_61 : decode cX13_constructor 61 = .ok (.iload 6, 2) := dX13_constructor_54g.2.2.2.2.2.1
theorem dX13_constructor_63 : decode cX13_constructor 63 = .ok (.imul, 1) := dX13_constructor_54g.2.2.2.2.2.2.1
theorem dX13_constructor_64 : decode cX13_constructor 64 = .ok (.iload_n 3, 1) := dX13_constructor_54g.2.2.2.2.2.2.2.1
theorem dX13_constructor_65 : decode cX13_constructor 65 = .ok (.iastore, 1) := dX13_constructor_54g.2.2.2.2.2.2.2.2.1
theorem dX13_constructor_66 : decode cX13_constructor 66 = .ok (.aload_n 0, 1) := dX13_constructor_54g.2.2.2.2.2.2.2.2.2.1
theorem dX13_constructor_67 : decode cX13_constructor 67 = .ok (.getfield 87, 3) := dX13_constructor_54g.2.2.2.2.2.2.2.2.2.2.1
theorem dX13_constructor_70 : decode cX13_constructor 70 = .ok (.iconst 3, 1) := dX13_constructor_54g.2.2.2.2.2.2.2.2.2.2.2.1
theorem dX13_constructor_71 : decode cX13_constructor 71 = .ok (.iload 6, 2) := dX13_constructor_54g.2.2.2.2.2.2.2.2.2.2.2.2.1
theorem dX13_constructor_73 : decode cX13_constructor 73 = .ok (.imul, 1) := dX13_constructor_54g.2.2.2.2.2.2.2.2.2.2.2.2.2.1
theorem dX13_constructor_74 : decode cX13_constructor 74 = .ok (.iconst 1, 1) := dX13_constructor_54g.2.2.2.2.2.2.2.2.2.2.2.2.2.2.1
theorem dX13_constructor_75 : decode cX13_constructor 75 = .ok (.iadd, 1) := dX13_constructor_54g.2.2.2.2.2.2.2.2.2.2.2.2.2.2.2
theorem dX13_constructor_76g : decode cX13_constructor 76 = .ok (.iload 4, 2) ∧ decode cX13_constructor 78 = .ok (.iastore, 1) ∧ decode cX13_constructor 79 = .ok (.aload_n 0, 1) ∧ decode cX13_constructor 80 = .ok (.getfield 87, 3) ∧ decode cX13_constructor 83 = .ok (.iconst 3, 1) ∧ decode cX13_constructor 84 = .ok (.iload 6, 2) ∧ decode cX13_constructor 86 = .ok (.imul, 1) ∧ decode cX13_constructor 87 = .ok (.iconst 2, 1) ∧ decode cX13_constructor 88 = .ok (.iadd, 1) ∧ decode cX13_constructor 89 = .ok (.iload 5, 2) ∧ decode cX13_constructor 91 = .ok (.iastore, 1) ∧ decode cX13_constructor 92 = .ok (.aload_n 0, 1) ∧ decode cX13_constructor 93 = .ok (.getfield 81, 3) ∧ decode cX13_constructor 96 = .ok (.iload_n 1, 1) ∧ decode cX13_constructor 97 = .ok (.dup2, 1) ∧ decode cX13_constructor 98 = .ok (.iaload, 1) := by decide +kernel
theorem dX13_constructor_76 : decode cX13_constructor 76 = .ok (.iload 4, 2) := dX13_constructor_76g.1
theorem dX13_constructor_78 : decode cX13_constructor 78 = .ok (.iastore, 1) := dX13_constructor_76g.2.1
theorem dX13_constructor_79 : decode cX13_constructor 79 = .ok (.aload_n 0, 1) := dX13_constructor_76g.2.2.1
theorem dX13_constructor_80 : decode cX13_constructor 80 = .ok (.getfield 87, 3) := dX13_constructor_76g.2.2.2.1
theorem dX13_constructor_83 : decode cX13_constructor 83 = .ok (.iconst 3, 1) := dX13_constructor_76g.2.2.2.2.1
theorem dX13_constructor_84 : decode cX13_constructor 84 = .ok (.iload 6, 2) := dX13_constructor_76g.2.2.2.2.2.1
theorem dX13_constructor_86 : decode cX13_constructor 86 = .ok (.imul, 1) := dX13_constructor_76g.2.2.2.2.2.2.1
theorem dX13_constructor_87 : decode cX13_constructor 87 = .ok (.iconst 2, 1) := dX13_constructor_76g.2.2.2.2.2.2.2.1
theorem dX13_constructor_88 : decode cX13_constructor 88 = .ok (.iadd, 1) := dX13_constructor_76g.2.2.2.2.2.2.2.2.1
theorem dX13_constructor_89 : decode cX13_constructor 89 = .ok (.iload 5, 2) := dX13_constructor_76g.2.2.2.2.2.2.2.2.2.1
theorem dX13_constructor_91 : decode cX13_constructor 91 = .ok (.iastore, 1) := dX13_constructor_76g.2.2.2.2.2.2.2.2.2.2.1
theorem dX13_constructor_92 : decode cX13_constructor 92 = .ok (.aload_n 0, 1) := dX13_constructor_76g.2.2.2.2.2.2.2.2.2.2.2.1
theorem dX13_constructor_93 : decode cX13_constructor 93 = .ok (.getfield 81, 3) := dX13_constructor_76g.2.2.2.2.2.2.2.2.2.2.2.2.1
theorem dX13_constructor_96 : decode cX13_constructor 96 = .ok (.iload_n 1, 1) := dX13_constructor_76g.2.2.2.2.2.2.2.2.2.2.2.2.2.1
theorem dX13_constructor_97 : decode cX13_constructor 97 = .ok (.dup2, 1) := dX13_constructor_76g.2.2.2.2.2.2.2.2.2.2.2.2.2.2.1
theorem dX13_constructor_98 : decode cX13_constructor 98 = .ok (.iaload, 1) := dX13_constructor_76g.2.2.2.2.2.2.2.2.2.2.2.2.2.2.2
theorem dX13_constructor_99g : decode cX13_constructor 99 = .ok (.iconst 1, 1) ∧ decode cX13_constructor 100 = .ok (.iadd, 1) ∧ decode cX13_constructor 101 = .ok (.iastore, 1) ∧ decode cX13_constructor 102 = .ok (.iconst 1, 1) ∧ decode cX13_constructor 103 = .ok (.ireturn, 1) := by decide +kernel
theorem dX13_constructor_99 : decode cX13_constructor 99 = .ok (.iconst 1, 1) := dX13_constructor_99g.1
theorem dX13_constructor_100 : decode cX13_constructor 100 = .ok (.iadd, 1) := dX13_constructor_99g.2.1
theorem dX13_constructor_101 : decode cX13_constructor 101 = .ok (.iastore, 1) := dX13_constructor_99g.2.2.1
theorem dX13_constructor_102 : decode cX13_constructor 102 = .ok (.iconst 1, 1) := dX13_constructor_99g.2.2.2.1
theorem dX13_constructor_103 : decode cX13_constructor 103 = .ok (.ireturn, 1) := dX13_constructor_99g.2.2.2.2
theorem dX13_setter_0g : decode cX13_setter 0 = .ok (.aload_n 0, 1) ∧ decode cX13_setter 1 = .ok (.iconst 0, 1) ∧ decode cX13_setter 2 = .ok (.putfield 252, 3) ∧ decode cX13_setter 5 = .ok (.iload_n 1, 1) ∧ decode cX13_setter 6 = .ok (.invokestatic 259, 3) ∧ decode cX13_setter 9 = .ok (.ifCond .eq 28, 3) ∧ decode cX13_setter 12 = .ok (.iload_n 2, 1) ∧ decode cX13_setter 13 = .ok (.invokestatic 266, 3) ∧ decode cX13_setter 16 = .ok (.ifCond .eq 21, 3) ∧ decode cX13_setter 19 = .ok (.iload_n 3, 1) ∧ decode cX13_setter 20 = .ok (.invokestatic 255, 3) ∧ decode cX13_setter 23 = .ok (.ifCond .eq 14, 3) ∧ decode cX13_setter 26 = .ok (.aload_n 0, 1) ∧ decode cX13_setter 27 = .ok (.getfield 90, 3) ∧ decode cX13_setter 30 = .ok (.iload_n 1, 1) ∧ decode cX13_setter 31 = .ok (.iaload, 1) := by decide +kernel
theorem dX13_setter_0 : decode cX13_setter 0 = .ok (.aload_n 0, 1) := dX13_setter_0g.1
theorem dX13_setter_1 : decode cX13_setter 1 = .ok (.iconst 0, 1) := dX13_setter_0g.2.1
theorem dX13_setter_2 : decode cX13_setter 2 = .ok (.putfield 252, 3) := dX13_setter_0g.2.2.1
theorem dX13_setter_5 : decode cX13_setter 5 = .ok (.iload_n 1, 1) := dX13_setter_0g.2.2.2.1
theorem dX13_setter_6 : decode cX13_setter 6 = .ok (.invokestatic 259, 3) := dX13_setter_0g.2.2.2.2.1
theorem dX13_setter_9 : decode cX13_setter 9 = .ok (.ifCond .eq 28, 3) := dX13_setter_0g.2.2.2.2.2.1
theorem dX13_setter_12 : decode cX13_setter 12 = .ok (.iload_n 2, 1) := dX13_setter_0g.2.2.2.2.2.2.1
theorem dX13_setter_13 : decode cX13_setter 13 = .ok (.invokestatic 266, 3) := dX13_setter_0g.2.2.2.2.2.2.2.1
theorem dX13_setter_16 : decode cX13_setter 16 = .ok (.ifCond .eq 21, 3) := dX13_setter_0g.2.2.2.2.2.2.2.2.1
theorem dX13_setter_19 : decode cX13_setter 19 = .ok (.iload_n 3, 1) := dX13_setter_0g.2.2.2.2.2.2.2.2.2.1
theorem dX13_setter_20 : decode cX13_setter 20 = .ok (.invokestatic 255, 3) := dX13_setter_0g.2.2.2.2.2.2.2.2.2.2.1
theorem dX13_setter_23 : decode cX13_setter 23 = .ok (.ifCond .eq 14, 3) := dX13_setter_0g.2.2.2.2.2.2.2.2.2.2.2.1
theorem dX13_setter_26 : decode cX13_setter 26 = .ok (.aload_n 0, 1) := dX13_setter_0g.2.2.2.2.2.2.2.2.2.2.2.2.1
theorem dX13_setter_27 : decode cX13_setter 27 = .ok (.getfield 90, 3) := dX13_setter_0g.2.2.2.2.2.2.2.2.2.2.2.2.2.1
theorem dX13_setter_30 : decode cX13_setter 30 = .ok (.iload_n 1, 1) := dX13_setter_0g.2.2.2.2.2.2.2.2.2.2.2.2.2.2.1
theorem dX13_setter_31 : decode cX13_setter 31 = .ok (.iaload, 1) := dX13_setter_0g.2.2.2.2.2.2.2.2.2.2.2.2.2.2.2
theorem dX13_setter_32g : decode cX13_setter 32 = .ok (.bipush 8, 2) ∧ decode cX13_setter 34 = .ok (.if_icmp .ne 5, 3) ∧ decode cX13_setter 37 = .ok (.iconst 0, 1) ∧ decode cX13_setter 38 = .ok (.ireturn, 1) ∧ decode cX13_setter 39 = .ok (.iconst 0, 1) ∧ decode cX13_setter 40 = .ok (.istore 4, 2) ∧ decode cX13_setter 42 = .ok (.iload 4, 2) ∧ decode cX13_setter 44 = .ok (.aload_n 0, 1) ∧ decode cX13_setter 45 = .ok (.getfield 90, 3) ∧ decode cX13_setter 48 = .ok (.iload_n 1, 1) ∧ decode cX13_setter 49 = .ok (.iaload, 1) ∧ decode cX13_setter 50 = .ok (.if_icmp .ge 27, 3) ∧ decode cX13_setter 53 = .ok (.aload_n 0, 1) ∧ decode cX13_setter 54 = .ok (.getfield 93, 3) ∧ decode cX13_setter 57 = .ok (.bipush 8, 2) ∧ decode cX13_setter 59 = .ok (.iload_n 1, 1) := by decide +kernel
theorem dX13_setter_32 : decode cX13_setter 32 = .ok (.bipush 8, 2) := dX13_setter_32g.1
theorem dX13_setter_34 : decode cX13_setter 34 = .ok (.if_icmp .ne 5, 3) := dX13_setter_32g.2.1
theorem dX13_setter_37 : decode cX13_setter 37 = .ok (.iconst 0, 1) := dX13_setter_32g.2.2.1
theorem dX13_setter_38 : decode cX13_setter 38 = .ok (.ireturn, 1) := dX13_setter_32g.2.2.2.1
theorem dX13_setter_39 : decode cX13_setter 39 = .ok (.iconst 0, 1) := dX13_setter_32g.2.2.2.2.1
theorem dX13_setter_40 : decode cX13_setter 40 = .ok (.istore 4, 2) := dX13_setter_32g.2.2.2.2.2.1
theorem dX13_setter_42 : decode cX13_setter 42 = .ok (.iload 4, 2) := dX13_setter_32g.2.2.2.2.2.2.1
theorem dX13_setter_44 : decode cX13_setter 44 = .ok (.aload_n 0, 1) := dX13_setter_32g.2.2.2.2.2.2.2.1
theorem dX13_setter_45 : decode cX13_setter 45 = .ok (.getfield 90, 3) := dX13_setter_32g.2.2.2.2.2.2.2.2.1
theorem dX13_setter_48 : decode cX13_setter 48 = .ok (.iload_n 1, 1) := dX13_setter_32g.2.2.2.2.2.2.2.2.2.1
theorem dX13_setter_49 : decode cX13_setter 49 = .ok (.iaload, 1) := dX13_setter_32g.2.2.2.2.2.2.2.2.2.2.1
theorem dX13_setter_50 : decode cX13_setter 50 = .ok (.if_icmp .ge 27, 3) := dX13_setter_32g.2.2.2.2.2.2.2.2.2.2.2.1
theorem dX13_setter_53 : decode cX13_setter 53 = .ok (.aload_n 0, 1) := dX13_setter_32g.2.2.2.2.2.2.2.2.2.2.2.2.1
theorem dX13_setter_54 : decode cX13_setter 54 = .ok (.getfield 93, 3) := dX13_setter_32g.2.2.2.2.2.2.2.2.2.2.2.2.2.1
theorem dX13_setter_57 : decode cX13_setter 57 = .ok (.bipush 8, 2) := dX13_setter_32g.2.2.2.2.2.2.2.2.2.2.2.2.2.2.1
theorem dX13_setter_59 : decode cX13_setter 59 = .ok (.iload_n 1, 1) := dX13_setter_32g.2.2.2.2.2.2.2.2.2.2.2.2.2.2.2
theorem dX13_setter_60g : decode cX13_setter 60 = .ok (.imul, 1) ∧ decode cX13_setter 61 = .ok (.iload 4, 2) ∧ decode cX13_setter 63 = .ok (.iadd, 1) ∧ decode cX13_setter 64 = .ok (.iaload, 1) ∧ decode cX13_setter 65 = .ok (.iload_n 2, 1) ∧ decode cX13_setter 66 = .ok (.if_icmp .ne 5, 3) ∧ decode cX13_setter 69 = .ok (.iconst 0, 1) ∧ decode cX13_setter 70 = .ok (.ireturn, 1) ∧ decode cX13_setter 71 = .ok (.iinc 4 1, 3) ∧ decode cX13_setter 74 = .ok (.goto (-32), 3) ∧ decode cX13_setter 77 = .ok (.aload_n 0, 1) ∧ decode cX13_setter 78 = .ok (.getfield 93, 3) ∧ decode cX13_setter 81 = .ok (.bipush 8, 2) ∧ decode cX13_setter 83 = .ok (.iload_n 1, 1) ∧ decode cX13_setter 84 = .ok (.imul, 1) ∧ decode cX13_setter 85 = .ok (.aload_n 0, 1) := by decide +kernel
theorem dX13_setter_60 : decode cX13_setter 60 = .ok (.imul, 1) := dX13_setter_60g.1
theorem dX13_setter_61 : decode cX13_setter 61 = .ok (.iload 4, 2) := dX13_setter_60g.2.1
theorem dX13_setter_63 : decode cX13_setter 63 = .ok (.iadd, 1) := dX13_setter_60g.2.2.1
theorem dX13_setter_64 : decode cX13_setter 64 = .ok (.iaload, 1) := dX13_setter_60g.2.2.2.1
theorem dX13_setter_65 : decode cX13_setter 65 = .ok (.iload_n 2, 1) := dX13_setter_60g.2.2.2.2.1
theorem dX13_setter_66 : decode cX13_setter 66 = .ok (.if_icmp .ne 5, 3) := dX13_setter_60g.2.2.2.2.2.1
theorem dX13_setter_69 : decode cX13_setter 69 = .ok (.iconst 0, 1) := dX13_setter_60g.2.2.2.2.2.2.1
theorem dX13_setter_70 : decode cX13_setter 70 = .ok (.ireturn, 1) := dX13_setter_60g.2.2.2.2.2.2.2.1
theorem dX13_setter_71 : decode cX13_setter 71 = .ok (.iinc 4 1, 3) := dX13_setter_60g.2.2.2.2.2.2.2.2.1
theorem dX13_setter_74 : decode cX13_setter 74 = .ok (.goto (-32), 3) := dX13_setter_60g.2.2.2.2.2.2.2.2.2.1
theorem dX13_setter_77 : decode cX13_setter 77 = .ok (.aload_n 0, 1) := dX13_setter_60g.2.2.2.2.2.2.2.2.2.2.1
theorem dX13_setter_78 : decode cX13_setter 78 = .ok (.getfield 93, 3) := dX13_setter_60g.2.2.2.2.2.2.2.2.2.2.2.1
theorem dX13_setter_81 : decode cX13_setter 81 = .ok (.bipush 8, 2) := dX13_setter_60g.2.2.2.2.2.2.2.2.2.2.2.2.1
theorem dX13_setter_83 : decode cX13_setter 83 = .ok (.iload_n 1, 1) := dX13_setter_60g.2.2.2.2.2.2.2.2.2.2.2.2.2.1
theorem dX13_setter_84 : decode cX13_setter 84 = .ok (.imul, 1) := dX13_setter_60g.2.2.2.2.2.2.2.2.2.2.2.2.2.2.1
theorem dX13_setter_85 : decode cX13_setter 85 = .ok (.aload_n 0, 1) := dX13_setter_60g.2.2.2.2.2.2.2.2.2.2.2.2.2.2.2
theorem dX13_setter_86g : decode cX13_setter 86 = .ok (.getfield 90, 3) ∧ decode cX13_setter 89 = .ok (.iload_n 1, 1) ∧ decode cX13_setter 90 = .ok (.iaload, 1) ∧ decode cX13_setter 91 = .ok (.iadd, 1) ∧ decode cX13_setter 92 = .ok (.iload_n 2, 1) ∧ decode cX13_setter 93 = .ok (.iastore, 1) ∧ decode cX13_setter 94 = .ok (.aload_n 0, 1) ∧ decode cX13_setter 95 = .ok (.getfield 96, 3) ∧ decode cX13_setter 98 = .ok (.bipush 8, 2) ∧ decode cX13_setter 100 = .ok (.iload_n 1, 1) ∧ decode cX13_setter 101 = .ok (.imul, 1) ∧ decode cX13_setter 102 = .ok (.aload_n 0, 1) ∧ decode cX13_setter 103 = .ok (.getfield 90, 3) ∧ decode cX13_setter 106 = .ok (.iload_n 1, 1) ∧ decode cX13_setter 107 = .ok (.iaload, 1) ∧ decode cX13_setter 108 = .ok (.iadd, 1) := by decide +kernel
theorem dX13_setter_86 : decode cX13_setter 86 = .ok (.getfield 90, 3) := dX13_setter_86g.1
theorem dX13_setter_89 : decode cX13_setter 89 = .ok (.iload_n 1, 1) := dX13_setter_86g.2.1
theorem dX13_setter_90 : decode cX13_setter 90 = .ok (.iaload, 1) := dX13_setter_86g.2.2.1
theorem dX13_setter_91 : decode cX13_setter 91 = .ok (.iadd, 1) := dX13_setter_86g.2.2.2.1
theorem dX13_setter_92 : decode cX13_setter 92 = .ok (.iload_n 2, 1) := dX13_setter_86g.2.2.2.2.1
theorem dX13_setter_93 : decode cX13_setter 93 = .ok (.iastore, 1) := dX13_setter_86g.2.2.2.2.2.1
theorem dX13_setter_94 : decode cX13_setter 94 = .ok (.aload_n 0, 1) := dX13_setter_86g.2.2.2.2.2.2.1
theorem dX13_setter_95 : decode cX13_setter 95 = .ok (.getfield 96, 3) := dX13_setter_86g.2.2.2.2.2.2.2.1
theorem dX13_setter_98 : decode cX13_setter 98 = .ok (.bipush 8, 2) := dX13_setter_86g.2.2.2.2.2.2.2.2.1
theorem dX13_setter_100 : decode cX13_setter 100 = .ok (.iload_n 1, 1) := dX13_setter_86g.2.2.2.2.2.2.2.2.2.1
theorem dX13_setter_101 : decode cX13_setter 101 = .ok (.imul, 1) := dX13_setter_86g.2.2.2.2.2.2.2.2.2.2.1
theorem dX13_setter_102 : decode cX13_setter 102 = .ok (.aload_n 0, 1) := dX13_setter_86g.2.2.2.2.2.2.2.2.2.2.2.1
theorem dX13_setter_103 : decode cX13_setter 103 = .ok (.getfield 90, 3) := dX13_setter_86g.2.2.2.2.2.2.2.2.2.2.2.2.1
theorem dX13_setter_106 : decode cX13_setter 106 = .ok (.iload_n 1, 1) := dX13_setter_86g.2.2.2.2.2.2.2.2.2.2.2.2.2.1
theorem dX13_setter_107 : decode cX13_setter 107 = .ok (.iaload, 1) := dX13_setter_86g.2.2.2.2.2.2.2.2.2.2.2.2.2.2.1
theorem dX13_setter_108 : decode cX13_setter 108 = .ok (.iadd, 1) := dX13_setter_86g.2.2.2.2.2.2.2.2.2.2.2.2.2.2.2
theorem dX13_setter_109g : decode cX13_setter 109 = .ok (.iload_n 3, 1) ∧ decode cX13_setter 110 = .ok (.iastore, 1) ∧ decode cX13_setter 111 = .ok (.aload_n 0, 1) ∧ decode cX13_setter 112 = .ok (.getfield 90, 3) ∧ decode cX13_setter 115 = .ok (.iload_n 1, 1) ∧ decode cX13_setter 116 = .ok (.dup2, 1) ∧ decode cX13_setter 117 = .ok (.iaload, 1) ∧ decode cX13_setter 118 = .ok (.iconst 1, 1) ∧ decode cX13_setter 119 = .ok (.iadd, 1) ∧ decode cX13_setter 120 = .ok (.iastore, 1) ∧ decode cX13_setter 121 = .ok (.iconst 1, 1) ∧ decode cX13_setter 122 = .ok (.ireturn, 1) := by decide +kernel
theorem dX13_setter_109 : decode cX13_setter 109 = .ok (.iload_n 3, 1) := dX13_setter_109g.1
theorem dX13_setter_110 : decode cX13_setter 110 = .ok (.iastore, 1) := dX13_setter_109g.2.1
theorem dX13_setter_111 : decode cX13_setter 111 = .ok (.aload_n 0, 1) := dX13_setter_109g.2.2.1
theorem dX13_setter_112 : decode cX13_setter 112 = .ok (.getfield 90, 3) := dX13_setter_109g.2.2.2.1
theorem dX13_setter_115 : decode cX13_setter 115 = .ok (.iload_n 1, 1) := dX13_setter_109g.2.2.2.2.1
theorem dX13_setter_116 : decode cX13_setter 116 = .ok (.dup2, 1) := dX13_setter_109g.2.2.2.2.2.1
theorem dX13_setter_117 : decode cX13_setter 117 = .ok (.iaload, 1) := dX13_setter_109g.2.2.2.2.2.2.1
theorem dX13_setter_118 : decode cX13_setter 118 = .ok (.iconst 1, 1) := dX13_setter_109g.2.2.2.2.2.2.2.1
theorem dX13_setter_119 : decode cX13_setter 119 = .ok (.iadd, 1) := dX13_setter_109g.2.2.2.2.2.2.2.2.1
theorem dX13_setter_120 : decode cX13_setter 120 = .ok (.iastore, 1) := dX13_setter_109g.2.2.2.2.2.2.2.2.2.1
theorem dX13_setter_121 : decode cX13_setter 121 = .ok (.iconst 1, 1) := dX13_setter_109g.2.2.2.2.2.2.2.2.2.2.1
theorem dX13_setter_122 : decode cX13_setter 122 = .ok (.ireturn, 1) := dX13_setter_109g.2.2.2.2.2.2.2.2.2.2.2
theorem dX13_factory_0g : decode cX13_factory 0 = .ok (.aload_n 0, 1) ∧ decode cX13_factory 1 = .ok (.iconst 0, 1) ∧ decode cX13_factory 2 = .ok (.putfield 252, 3) ∧ decode cX13_factory 5 = .ok (.iload_n 1, 1) ∧ decode cX13_factory 6 = .ok (.invokestatic 259, 3) ∧ decode cX13_factory 9 = .ok (.ifCond .eq 42, 3) ∧ decode cX13_factory 12 = .ok (.iload_n 2, 1) ∧ decode cX13_factory 13 = .ok (.invokestatic 266, 3) ∧ decode cX13_factory 16 = .ok (.ifCond .eq 35, 3) ∧ decode cX13_factory 19 = .ok (.iload 4, 2) ∧ decode cX13_factory 21 = .ok (.invokestatic 259, 3) ∧ decode cX13_factory 24 = .ok (.ifCond .eq 27, 3) ∧ decode cX13_factory 27 = .ok (.iload 5, 2) ∧ decode cX13_factory 29 = .ok (.iload 6, 2) ∧ decode cX13_factory 31 = .ok (.iload 7, 2) ∧ decode cX13_factory 33 = .ok (.iload 8, 2) := by decide +kernel
theorem dX13_factory_0 : decode cX13_factory 0 = .ok (.aload_n 0, 1) := dX13_factory_0g.1
theorem dX13_factory_1 : decode cX13_factory 1 = .ok (.iconst 0, 1) := dX13_factory_0g.2.1
theorem dX13_factory_2 : decode cX13_factory 2 = .ok (.putfield 252, 3) := dX13_factory_0g.2.2.1
theorem dX13_factory_5 : decode cX13_factory 5 = .ok (.iload_n 1, 1) := dX13_factory_0g.2.2.2.1
theorem dX13_factory_6 : decode cX13_factory 6 = .ok (.invokestatic 259, 3) := dX13_factory_0g.2.2.2.2.1
theorem dX13_factory_9 : decode cX13_factory 9 = .ok (.ifCond .eq 42, 3) := dX13_factory_0g.2.2.2.2.2.1
theorem dX13_factory_12 : decode cX13_factory 12 = .ok (.iload_n 2, 1) := dX13_factory_0g.2.2.2.2.2.2.1
theorem dX13_factory_13 : decode cX13_factory 13 = .ok (.invokestatic 266, 3) := dX13_factory_0g.2.2.2.2.2.2.2.1
theorem dX13_factory_16 : decode cX13_factory 16 = .ok (.ifCond .eq 35, 3) := dX13_factory_0g.2.2.2.2.2.2.2.2.1
theorem dX13_factory_19 : decode cX13_factory 19 = .ok (.iload 4, 2) := dX13_factory_0g.2.2.2.2.2.2.2.2.2.1
theorem dX13_factory_21 : decode cX13_factory 21 = .ok (.invokestatic 259, 3) := dX13_factory_0g.2.2.2.2.2.2.2.2.2.2.1
theorem dX13_factory_24 : decode cX13_factory 24 = .ok (.ifCond .eq 27, 3) := dX13_factory_0g.2.2.2.2.2.2.2.2.2.2.2.1
theorem dX13_factory_27 : decode cX13_factory 27 = .ok (.iload 5, 2) := dX13_factory_0g.2.2.2.2.2.2.2.2.2.2.2.2.1
theorem dX13_factory_29 : decode cX13_factory 29 = .ok (.iload 6, 2) := dX13_factory_0g.2.2.2.2.2.2.2.2.2.2.2.2.2.1
theorem dX13_factory_31 : decode cX13_factory 31 = .ok (.iload 7, 2) := dX13_factory_0g.2.2.2.2.2.2.2.2.2.2.2.2.2.2.1
theorem dX13_factory_33 : decode cX13_factory 33 = .ok (.iload 8, 2) := dX13_factory_0g.2.2.2.2.2.2.2.2.2.2.2.2.2.2.2
theorem dX13_factory_35g : decode cX13_factory 35 = .ok (.invokestatic 262, 3) ∧ decode cX13_factory 38 = .ok (.ifCond .eq 13, 3) ∧ decode cX13_factory 41 = .ok (.aload_n 0, 1) ∧ decode cX13_factory 42 = .ok (.getfield 99, 3) ∧ decode cX13_factory 45 = .ok (.iload_n 1, 1) ∧ decode cX13_factory 46 = .ok (.iaload, 1) ∧ decode cX13_factory 47 = .ok (.iconst 4, 1) ∧ decode cX13_factory 48 = .ok (.if_icmp .ne 5, 3) ∧ decode cX13_factory 51 = .ok (.iconst 0, 1) ∧ decode cX13_factory 52 = .ok (.ireturn, 1) ∧ decode cX13_factory 53 = .ok (.iconst 4, 1) ∧ decode cX13_factory 54 = .ok (.iload_n 1, 1) ∧ decode cX13_factory 55 = .ok (.imul, 1) ∧ decode cX13_factory 56 = .ok (.aload_n 0, 1) ∧ decode cX13_factory 57 = .ok (.getfield 99, 3) ∧ decode cX13_factory 60 = .ok (.iload_n 1, 1) := by decide +kernel
theorem dX13_factory_35 : decode cX13_factory 35 = .ok (.invokestatic 262, 3) := dX13_factory_35g.1
theorem dX13_factory_38 : decode cX13_factory 38 = .ok (.ifCond .eq 13, 3) := dX13_factory_35g.2.1
theorem dX13_factory_41 : decode cX13_factory 41 = .ok (.aload_n 0, 1) := dX13_factory_35g.2.2.1
theorem dX13_factory_42 : decode cX13_factory 42 = .ok (.getfield 99, 3) := dX13_factory_35g.2.2.2.1
theorem dX13_factory_45 : decode cX13_factory 45 = .ok (.iload_n 1, 1) := dX13_factory_35g.2.2.2.2.1
theorem dX13_factory_46 : decode cX13_factory 46 = .ok (.iaload, 1) := dX13_factory_35g.2.2.2.2.2.1
theorem dX13_factory_47 : decode cX13_factory 47 = .ok (.iconst 4, 1) := dX13_factory_35g.2.2.2.2.2.2.1
theorem dX13_factory_48 : decode cX13_factory 48 = .ok (.if_icmp .ne 5, 3) := dX13_factory_35g.2.2.2.2.2.2.2.1
theorem dX13_factory_51 : decode cX13_factory 51 = .ok (.iconst 0, 1) := dX13_factory_35g.2.2.2.2.2.2.2.2.1
theorem dX13_factory_52 : decode cX13_factory 52 = .ok (.ireturn, 1) := dX13_factory_35g.2.2.2.2.2.2.2.2.2.1
theorem dX13_factory_53 : decode cX13_factory 53 = .ok (.iconst 4, 1) := dX13_factory_35g.2.2.2.2.2.2.2.2.2.2.1
theorem dX13_factory_54 : decode cX13_factory 54 = .ok (.iload_n 1, 1) := dX13_factory_35g.2.2.2.2.2.2.2.2.2.2.2.1
theorem dX13_factory_55 : decode cX13_factory 55 = .ok (.imul, 1) := dX13_factory_35g.2.2.2.2.2.2.2.2.2.2.2.2.1
theorem dX13_factory_56 : decode cX13_factory 56 = .ok (.aload_n 0, 1) := dX13_factory_35g.2.2.2.2.2.2.2.2.2.2.2.2.2.1
theorem dX13_factory_57 : decode cX13_factory 57 = .ok (.getfield 99, 3) := dX13_factory_35g.2.2.2.2.2.2.2.2.2.2.2.2.2.2.1
theorem dX13_factory_60 : decode cX13_factory 60 = .ok (.iload_n 1, 1) := dX13_factory_35g.2.2.2.2.2.2.2.2.2.2.2.2.2.2.2
theorem dX13_factory_61g : decode cX13_factory 61 = .ok (.iaload, 1) ∧ decode cX13_factory 62 = .ok (.iadd, 1) ∧ decode cX13_factory 63 = .ok (.istore 9, 2) ∧ decode cX13_factory 65 = .ok (.aload_n 0, 1) ∧ decode cX13_factory 66 = .ok (.getfield 102, 3) ∧ decode cX13_factory 69 = .ok (.iload 9, 2) ∧ decode cX13_factory 71 = .ok (.iload_n 2, 1) ∧ decode cX13_factory 72 = .ok (.iastore, 1) ∧ decode cX13_factory 73 = .ok (.aload_n 0, 1) ∧ decode cX13_factory 74 = .ok (.getfield 114, 3) ∧ decode cX13_factory 77 = .ok (.iload 9, 2) ∧ decode cX13_factory 79 = .ok (.iload_n 3, 1) ∧ decode cX13_factory 80 = .ok (.bastore, 1) ∧ decode cX13_factory 81 = .ok (.aload_n 0, 1) ∧ decode cX13_factory 82 = .ok (.getfield 105, 3) ∧ decode cX13_factory 85 = .ok (.iload 9, 2) := by decide +kernel
theorem dX13_factory_61 : decode cX13_factory 61 = .ok (.iaload, 1) := dX13_factory_61g.1
theorem dX13_factory_62 : decode cX13_factory 62 = .ok (.iadd, 1) := dX13_factory_61g.2.1
theorem dX13_factory_63 : decode cX13_factory 63 = .ok (.istore 9, 2) := dX13_factory_61g.2.2.1
theorem dX13_factory_65 : decode cX13_factory 65 = .ok (.aload_n 0, 1) := dX13_factory_61g.2.2.2.1
theorem dX13_factory_66 : decode cX13_factory 66 = .ok (.getfield 102, 3) := dX13_factory_61g.2.2.2.2.1
theorem dX13_factory_69 : decode cX13_factory 69 = .ok (.iload 9, 2) := dX13_factory_61g.2.2.2.2.2.1
theorem dX13_factory_71 : decode cX13_factory 71 = .ok (.iload_n 2, 1) := dX13_factory_61g.2.2.2.2.2.2.1
theorem dX13_factory_72 : decode cX13_factory 72 = .ok (.iastore, 1) := dX13_factory_61g.2.2.2.2.2.2.2.1
theorem dX13_factory_73 : decode cX13_factory 73 = .ok (.aload_n 0, 1) := dX13_factory_61g.2.2.2.2.2.2.2.2.1
theorem dX13_factory_74 : decode cX13_factory 74 = .ok (.getfield 114, 3) := dX13_factory_61g.2.2.2.2.2.2.2.2.2.1
theorem dX13_factory_77 : decode cX13_factory 77 = .ok (.iload 9, 2) := dX13_factory_61g.2.2.2.2.2.2.2.2.2.2.1
theorem dX13_factory_79 : decode cX13_factory 79 = .ok (.iload_n 3, 1) := dX13_factory_61g.2.2.2.2.2.2.2.2.2.2.2.1
theorem dX13_factory_80 : decode cX13_factory 80 = .ok (.bastore, 1) := dX13_factory_61g.2.2.2.2.2.2.2.2.2.2.2.2.1
theorem dX13_factory_81 : decode cX13_factory 81 = .ok (.aload_n 0, 1) := dX13_factory_61g.2.2.2.2.2.2.2.2.2.2.2.2.2.1
theorem dX13_factory_82 : decode cX13_factory 82 = .ok (.getfield 105, 3) := dX13_factory_61g.2.2.2.2.2.2.2.2.2.2.2.2.2.2.1
theorem dX13_factory_85 : decode cX13_factory 85 = .ok (.iload 9, 2) := dX13_factory_61g.2.2.2.2.2.2.2.2.2.2.2.2.2.2.2
theorem dX13_factory_87g : decode cX13_factory 87 = .ok (.iload 4, 2) ∧ decode cX13_factory 89 = .ok (.iastore, 1) ∧ decode cX13_factory 90 = .ok (.aload_n 0, 1) ∧ decode cX13_factory 91 = .ok (.getfield 108, 3) ∧ decode cX13_factory 94 = .ok (.iload 9, 2) ∧ decode cX13_factory 96 = .ok (.iload 5, 2) ∧ decode cX13_factory 98 = .ok (.iastore, 1) ∧ decode cX13_factory 99 = .ok (.aload_n 0, 1) ∧ decode cX13_factory 100 = .ok (.getfield 111, 3) ∧ decode cX13_factory 103 = .ok (.iconst 3, 1) ∧ decode cX13_factory 104 = .ok (.iload 9, 2) ∧ decode cX13_factory 106 = .ok (.imul, 1) ∧ decode cX13_factory 107 = .ok (.iload 6, 2) ∧ decode cX13_factory 109 = .ok (.iastore, 1) ∧ decode cX13_factory 110 = .ok (.aload_n 0, 1) ∧ decode cX13_factory 111 = .ok (.getfield 111, 3) := by decide +kernel
theorem dX13_factory_87 : decode cX13_factory 87 = .ok (.iload 4, 2) := dX13_factory_87g.1
theorem dX13_factory_89 : decode cX13_factory 89 = .ok (.iastore, 1) := dX13_factory_87g.2.1
theorem dX13_factory_90 : decode cX13_factory 90 = .ok (.aload_n 0, 1) := dX13_factory_87g.2.2.1
theorem dX13_factory_91 : decode cX13_factory 91 = .ok (.getfield 108, 3) := dX13_factory_87g.2.2.2.1
theorem dX13_factory_94 : decode cX13_factory 94 = .ok (.iload 9, 2) := dX13_factory_87g.2.2.2.2.1
theorem dX13_factory_96 : decode cX13_factory 96 = .ok (.iload 5, 2) := dX13_factory_87g.2.2.2.2.2.1
theorem dX13_factory_98 : decode cX13_factory 98 = .ok (.iastore, 1) := dX13_factory_87g.2.2.2.2.2.2.1
theorem dX13_factory_99 : decode cX13_factory 99 = .ok (.aload_n 0, 1) := dX13_factory_87g.2.2.2.2.2.2.2.1
theorem dX13_factory_100 : decode cX13_factory 100 = .ok (.getfield 111, 3) := dX13_factory_87g.2.2.2.2.2.2.2.2.1
theorem dX13_factory_103 : decode cX13_factory 103 = .ok (.iconst 3, 1) := dX13_factory_87g.2.2.2.2.2.2.2.2.2.1
theorem dX13_factory_104 : decode cX13_factory 104 = .ok (.iload 9, 2) := dX13_factory_87g.2.2.2.2.2.2.2.2.2.2.1
theorem dX13_factory_106 : decode cX13_factory 106 = .ok (.imul, 1) := dX13_factory_87g.2.2.2.2.2.2.2.2.2.2.2.1
theorem dX13_factory_107 : decode cX13_factory 107 = .ok (.iload 6, 2) := dX13_factory_87g.2.2.2.2.2.2.2.2.2.2.2.2.1
theorem dX13_factory_109 : decode cX13_factory 109 = .ok (.iastore, 1) := dX13_factory_87g.2.2.2.2.2.2.2.2.2.2.2.2.2.1
theorem dX13_factory_110 : decode cX13_factory 110 = .ok (.aload_n 0, 1) := dX13_factory_87g.2.2.2.2.2.2.2.2.2.2.2.2.2.2.1
theorem dX13_factory_111 : decode cX13_factory 111 = .ok (.getfield 111, 3) := dX13_factory_87g.2.2.2.2.2.2.2.2.2.2.2.2.2.2.2
theorem dX13_factory_114g : decode cX13_factory 114 = .ok (.iconst 3, 1) ∧ decode cX13_factory 115 = .ok (.iload 9, 2) ∧ decode cX13_factory 117 = .ok (.imul, 1) ∧ decode cX13_factory 118 = .ok (.iconst 1, 1) ∧ decode cX13_factory 119 = .ok (.iadd, 1) ∧ decode cX13_factory 120 = .ok (.iload 7, 2) ∧ decode cX13_factory 122 = .ok (.iastore, 1) ∧ decode cX13_factory 123 = .ok (.aload_n 0, 1) ∧ decode cX13_factory 124 = .ok (.getfield 111, 3) ∧ decode cX13_factory 127 = .ok (.iconst 3, 1) ∧ decode cX13_factory 128 = .ok (.iload 9, 2) ∧ decode cX13_factory 130 = .ok (.imul, 1) ∧ decode cX13_factory 131 = .ok (.iconst 2, 1) ∧ decode cX13_factory 132 = .ok (.iadd, 1) ∧ decode cX13_factory 133 = .ok (.iload 8, 2) ∧ decode cX13_factory 135 = .ok (.iastore, 1) := by decide +kernel
theorem dX13_factory_114 : decode cX13_factory 114 = .ok (.iconst 3, 1) := dX13_factory_114g.1
theorem dX13_factory_115 : decode cX13_factory 115 = .ok (.iload 9, 2) := dX13_factory_114g.2.1
theorem dX13_factory_117 : decode cX13_factory 117 = .ok (.imul, 1) := dX13_factory_114g.2.2.1
theorem dX13_factory_118 : decode cX13_factory 118 = .ok (.iconst 1, 1) := dX13_factory_114g.2.2.2.1
theorem dX13_factory_119 : decode cX13_factory 119 = .ok (.iadd, 1) := dX13_factory_114g.2.2.2.2.1
theorem dX13_factory_120 : decode cX13_factory 120 = .ok (.iload 7, 2) := dX13_factory_114g.2.2.2.2.2.1
theorem dX13_factory_122 : decode cX13_factory 122 = .ok (.iastore, 1) := dX13_factory_114g.2.2.2.2.2.2.1
theorem dX13_factory_123 : decode cX13_factory 123 = .ok (.aload_n 0, 1) := dX13_factory_114g.2.2.2.2.2.2.2.1
theorem dX13_factory_124 : decode cX13_factory 124 = .ok (.getfield 111, 3) := dX13_factory_114g.2.2.2.2.2.2.2.2.1
theorem dX13_factory_127 : decode cX13_factory 127 = .ok (.iconst 3, 1) := dX13_factory_114g.2.2.2.2.2.2.2.2.2.1
theorem dX13_factory_128 : decode cX13_factory 128 = .ok (.iload 9, 2) := dX13_factory_114g.2.2.2.2.2.2.2.2.2.2.1
theorem dX13_factory_130 : decode cX13_factory 130 = .ok (.imul, 1) := dX13_factory_114g.2.2.2.2.2.2.2.2.2.2.2.1
theorem dX13_factory_131 : decode cX13_factory 131 = .ok (.iconst 2, 1) := dX13_factory_114g.2.2.2.2.2.2.2.2.2.2.2.2.1
theorem dX13_factory_132 : decode cX13_factory 132 = .ok (.iadd, 1) := dX13_factory_114g.2.2.2.2.2.2.2.2.2.2.2.2.2.1
theorem dX13_factory_133 : decode cX13_factory 133 = .ok (.iload 8, 2) := dX13_factory_114g.2.2.2.2.2.2.2.2.2.2.2.2.2.2.1
theorem dX13_factory_135 : decode cX13_factory 135 = .ok (.iastore, 1) := dX13_factory_114g.2.2.2.2.2.2.2.2.2.2.2.2.2.2.2
theorem dX13_factory_136g : decode cX13_factory 136 = .ok (.aload_n 0, 1) ∧ decode cX13_factory 137 = .ok (.getfield 99, 3) ∧ decode cX13_factory 140 = .ok (.iload_n 1, 1) ∧ decode cX13_factory 141 = .ok (.dup2, 1) ∧ decode cX13_factory 142 = .ok (.iaload, 1) ∧ decode cX13_factory 143 = .ok (.iconst 1, 1) ∧ decode cX13_factory 144 = .ok (.iadd, 1) ∧ decode cX13_factory 145 = .ok (.iastore, 1) ∧ decode cX13_factory 146 = .ok (.iconst 1, 1) ∧ decode cX13_factory 147 = .ok (.ireturn, 1) := by decide +kernel
theorem dX13_factory_136 : decode cX13_factory 136 = .ok (.aload_n 0, 1) := dX13_factory_136g.1
theorem dX13_factory_137 : decode cX13_factory 137 = .ok (.getfield 99, 3) := dX13_factory_136g.2.1
theorem dX13_factory_140 : decode cX13_factory 140 = .ok (.iload_n 1, 1) := dX13_factory_136g.2.2.1
theorem dX13_factory_141 : decode cX13_factory 141 = .ok (.dup2, 1) := dX13_factory_136g.2.2.2.1
theorem dX13_factory_142 : decode cX13_factory 142 = .ok (.iaload, 1) := dX13_factory_136g.2.2.2.2.1
theorem dX13_factory_143 : decode cX13_factory 143 = .ok (.iconst 1, 1) := dX13_factory_136g.2.2.2.2.2.1
theorem dX13_factory_144 : decode cX13_factory 144 = .ok (.iadd, 1) := dX13_factory_136g.2.2.2.2.2.2.1
theorem dX13_factory_145 : decode cX13_factory 145 = .ok (.iastore, 1) := dX13_factory_136g.2.2.2.2.2.2.2.1
theorem dX13_factory_146 : decode cX13_factory 146 = .ok (.iconst 1, 1) := dX13_factory_136g.2.2.2.2.2.2.2.2.1
theorem dX13_factory_147 : decode cX13_factory 147 = .ok (.ireturn, 1) := dX13_factory_136g.2.2.2.2.2.2.2.2.2
theorem dX13_typeOfSetter_0g : decode cX13_typeOfSetter 0 = .ok (.iload_n 1, 1) ∧ decode cX13_typeOfSetter 1 = .ok (.istore_n 3, 1) ∧ decode cX13_typeOfSetter 2 = .ok (.iload_n 3, 1) ∧ decode cX13_typeOfSetter 3 = .ok (.iconst (-1), 1) ∧ decode cX13_typeOfSetter 4 = .ok (.if_icmp .eq 62, 3) ∧ decode cX13_typeOfSetter 7 = .ok (.iconst 0, 1) ∧ decode cX13_typeOfSetter 8 = .ok (.istore 4, 2) ∧ decode cX13_typeOfSetter 10 = .ok (.iload 4, 2) ∧ decode cX13_typeOfSetter 12 = .ok (.aload_n 0, 1) ∧ decode cX13_typeOfSetter 13 = .ok (.getfield 90, 3) ∧ decode cX13_typeOfSetter 16 = .ok (.iload_n 3, 1) ∧ decode cX13_typeOfSetter 17 = .ok (.iaload, 1) ∧ decode cX13_typeOfSetter 18 = .ok (.if_icmp .ge 38, 3) ∧ decode cX13_typeOfSetter 21 = .ok (.aload_n 0, 1) ∧ decode cX13_typeOfSetter 22 = .ok (.getfield 93, 3) ∧ decode cX13_typeOfSetter 25 = .ok (.bipush 8, 2) := by decide +kernel
theorem dX13_typeOfSetter_0 : decode cX13_typeOfSetter 0 = .ok (.iload_n 1, 1) := dX13_typeOfSetter_0g.1
theorem dX13_typeOfSetter_1 : decode cX13_typeOfSetter 1 = .ok (.istore_n 3, 1) := dX13_typeOfSetter_0g.2.1
theorem dX13_typeOfSetter_2 : decode cX13_typeOfSetter 2 = .ok (.iload_n 3, 1) := dX13_typeOfSetter_0g.2.2.1
theorem dX13_typeOfSetter_3 : decode cX13_typeOfSetter 3 = .ok (.iconst (-1), 1) := dX13_typeOfSetter_0g.2.2.2.1
theorem dX13_typeOfSetter_4 : decode cX13_typeOfSetter 4 = .ok (.if_icmp .eq 62, 3) := dX13_typeOfSetter_0g.2.2.2.2.1
theorem dX13_typeOfSetter_7 : decode cX13_typeOfSetter 7 = .ok (.iconst 0, 1) := dX13_typeOfSetter_0g.2.2.2.2.2.1
theorem dX13_typeOfSetter_8 : decode cX13_typeOfSetter 8 = .ok (.istore 4, 2) := dX13_typeOfSetter_0g.2.2.2.2.2.2.1
theorem dX13_typeOfSetter_10 : decode cX13_typeOfSetter 10 = .ok (.iload 4, 2) := dX13_typeOfSetter_0g.2.2.2.2.2.2.2.1
theorem dX13_typeOfSetter_12 : decode cX13_typeOfSetter 12 = .ok (.aload_n 0, 1) := dX13_typeOfSetter_0g.2.2.2.2.2.2.2.2.1
theorem dX13_typeOfSetter_13 : decode cX13_typeOfSetter 13 = .ok (.getfield 90, 3) := dX13_typeOfSetter_0g.2.2.2.2.2.2.2.2.2.1
theorem dX13_typeOfSetter_16 : decode cX13_typeOfSetter 16 = .ok (.iload_n 3, 1) := dX13_typeOfSetter_0g.2.2.2.2.2.2.2.2.2.2.1
theorem dX13_typeOfSetter_17 : decode cX13_typeOfSetter 17 = .ok (.iaload, 1) := dX13_typeOfSetter_0g.2.2.2.2.2.2.2.2.2.2.2.1
theorem dX13_typeOfSetter_18 : decode cX13_typeOfSetter 18 = .ok (.if_icmp .ge 38, 3) := dX13_typeOfSetter_0g.2.2.2.2.2.2.2.2.2.2.2.2.1
theorem dX13_typeOfSetter_21 : decode cX13_typeOfSetter 21 = .ok (.aload_n 0, 1) := dX13_typeOfSetter_0g.2.2.2.2.2.2.2.2.2.2.2.2.2.1
theorem dX13_typeOfSetter_22 : decode cX13_typeOfSetter 22 = .ok (.getfield 93, 3) := dX13_typeOfSetter_0g.2.2.2.2.2.2.2.2.2.2.2.2.2.2.1
theorem dX13_typeOfSetter_25 : decode cX13_typeOfSetter 25 = .ok (.bipush 8, 2) := dX13_typeOfSetter_0g.2.2.2.2.2.2.2.2.2.2.2.2.2.2.2
theorem dX13_typeOfSetter_27g : decode cX13_typeOfSetter 27 = .ok (.iload_n 3, 1) ∧ decode cX13_typeOfSetter 28 = .ok (.imul, 1) ∧ decode cX13_typeOfSetter 29 = .ok (.iload 4, 2) ∧ decode cX13_typeOfSetter 31 = .ok (.iadd, 1) ∧ decode cX13_typeOfSetter 32 = .ok (.iaload, 1) ∧ decode cX13_typeOfSetter 33 = .ok (.iload_n 2, 1) ∧ decode cX13_typeOfSetter 34 = .ok (.if_icmp .ne 16, 3) ∧ decode cX13_typeOfSetter 37 = .ok (.aload_n 0, 1) ∧ decode cX13_typeOfSetter 38 = .ok (.getfield 96, 3) ∧ decode cX13_typeOfSetter 41 = .ok (.bipush 8, 2) ∧ decode cX13_typeOfSetter 43 = .ok (.iload_n 3, 1) ∧ decode cX13_typeOfSetter 44 = .ok (.imul, 1) ∧ decode cX13_typeOfSetter 45 = .ok (.iload 4, 2) ∧ decode cX13_typeOfSetter 47 = .ok (.iadd, 1) ∧ decode cX13_typeOfSetter 48 = .ok (.iaload, 1) ∧ decode cX13_typeOfSetter 49 = .ok (.ireturn, 1) := by decide +kernel
theorem dX13_typeOfSetter_27 : decode cX13_typeOfSetter 27 = .ok (.iload_n 3, 1) := dX13_typeOfSetter_27g.1
theorem dX13_typeOfSetter_28 : decode cX13_typeOfSetter 28 = .ok (.imul, 1) := dX13_typeOfSetter_27g.2.1
theorem dX13_typeOfSetter_29 : decode cX13_typeOfSetter 29 = .ok (.iload 4, 2) := dX13_typeOfSetter_27g.2.2.1
theorem dX13_typeOfSetter_31 : decode cX13_typeOfSetter 31 = .ok (.iadd, 1) := dX13_typeOfSetter_27g.2.2.2.1
theorem dX13_typeOfSetter_32 : decode cX13_typeOfSetter 32 = .ok (.iaload, 1) := dX13_typeOfSetter_27g.2.2.2.2.1
theorem dX13_typeOfSetter_33 : decode cX13_typeOfSetter 33 = .ok (.iload_n 2, 1) := dX13_typeOfSetter_27g.2.2.2.2.2.1
theorem dX13_typeOfSetter_34 : decode cX13_typeOfSetter 34 = .ok (.if_icmp .ne 16, 3) := dX13_typeOfSetter_27g.2.2.2.2.2.2.1
theorem dX13_typeOfSetter_37 : decode cX13_typeOfSetter 37 = .ok (.aload_n 0, 1) := dX13_typeOfSetter_27g.2.2.2.2.2.2.2.1
theorem dX13_typeOfSetter_38 : decode cX13_typeOfSetter 38 = .ok (.getfield 96, 3) := dX13_typeOfSetter_27g.2.2.2.2.2.2.2.2.1
theorem dX13_typeOfSetter_41 : decode cX13_typeOfSetter 41 = .ok (.bipush 8, 2) := dX13_typeOfSetter_27g.2.2.2.2.2.2.2.2.2.1
theorem dX13_typeOfSetter_43 : decode cX13_typeOfSetter 43 = .ok (.iload_n 3, 1) := dX13_typeOfSetter_27g.2.2.2.2.2.2.2.2.2.2.1
theorem dX13_typeOfSetter_44 : decode cX13_typeOfSetter 44 = .ok (.imul, 1) := dX13_typeOfSetter_27g.2.2.2.2.2.2.2.2.2.2.2.1
theorem dX13_typeOfSetter_45 : decode cX13_typeOfSetter 45 = .ok (.iload 4, 2) := dX13_typeOfSetter_27g.2.2.2.2.2.2.2.2.2.2.2.2.1
theorem dX13_typeOfSetter_47 : decode cX13_typeOfSetter 47 = .ok (.iadd, 1) := dX13_typeOfSetter_27g.2.2.2.2.2.2.2.2.2.2.2.2.2.1
theorem dX13_typeOfSetter_48 : decode cX13_typeOfSetter 48 = .ok (.iaload, 1) := dX13_typeOfSetter_27g.2.2.2.2.2.2.2.2.2.2.2.2.2.2.1
theorem dX13_typeOfSetter_49 : decode cX13_typeOfSetter 49 = .ok (.ireturn, 1) := dX13_typeOfSetter_27g.2.2.2.2.2.2.2.2.2.2.2.2.2.2.2
theorem dX13_typeOfSetter_50g : decode cX13_typeOfSetter 50 = .ok (.iinc 4 1, 3) ∧ decode cX13_typeOfSetter 53 = .ok (.goto (-43), 3) ∧ decode cX13_typeOfSetter 56 = .ok (.aload_n 0, 1) ∧ decode cX13_typeOfSetter 57 = .ok (.getfield 78, 3) ∧ decode cX13_typeOfSetter 60 = .ok (.iload_n 3, 1) ∧ decode cX13_typeOfSetter 61 = .ok (.iaload, 1) ∧ decode cX13_typeOfSetter 62 = .ok (.istore_n 3, 1) ∧ decode cX13_typeOfSetter 63 = .ok (.goto (-61), 3) ∧ decode cX13_typeOfSetter 66 = .ok (.iconst (-1), 1) ∧ decode cX13_typeOfSetter 67 = .ok (.ireturn, 1) := by decide +kernel
theorem dX13_typeOfSetter_50 : decode cX13_typeOfSetter 50 = .ok (.iinc 4 1, 3) := dX13_typeOfSetter_50g.1
theorem dX13_typeOfSetter_53 : decode cX13_typeOfSetter 53 = .ok (.goto (-43), 3) := dX13_typeOfSetter_50g.2.1
theorem dX13_typeOfSetter_56 : decode cX13_typeOfSetter 56 = .ok (.aload_n 0, 1) := dX13_typeOfSetter_50g.2.2.1
theorem dX13_typeOfSetter_57 : decode cX13_typeOfSetter 57 = .ok (.getfield 78, 3) := dX13_typeOfSetter_50g.2.2.2.1
theorem dX13_typeOfSetter_60 : decode cX13_typeOfSetter 60 = .ok (.iload_n 3, 1) := dX13_typeOfSetter_50g.2.2.2.2.1
theorem dX13_typeOfSetter_61 : decode cX13_typeOfSetter 61 = .ok (.iaload, 1) := dX13_typeOfSetter_50g.2.2.2.2.2.1
theorem dX13_typeOfSetter_62 : decode cX13_typeOfSetter 62 = .ok (.istore_n 3, 1) := dX13_typeOfSetter_50g.2.2.2.2.2.2.1
theorem dX13_typeOfSetter_63 : decode cX13_typeOfSetter 63 = .ok (.goto (-61), 3) := dX13_typeOfSetter_50g.2.2.2.2.2.2.2.1
theorem dX13_typeOfSetter_66 : decode cX13_typeOfSetter 66 = .ok (.iconst (-1), 1) := dX13_typeOfSetter_50g.2.2.2.2.2.2.2.2.1
theorem dX13_typeOfSetter_67 : decode cX13_typeOfSetter 67 = .ok (.ireturn, 1) := dX13_typeOfSetter_50g.2.2.2.2.2.2.2.2.2
theorem dX13_isFactory_0g : decode cX13_isFactory 0 = .ok (.aload_n 0, 1) ∧ decode cX13_isFactory 1 = .ok (.getfield 102, 3) ∧ decode cX13_isFactory 4 = .ok (.iload_n 1, 1) ∧ decode cX13_isFactory 5 = .ok (.iaload, 1) ∧ decode cX13_isFactory 6 = .ok (.iload_n 2, 1) ∧ decode cX13_isFactory 7 = .ok (.if_icmp .ne 17, 3) ∧ decode cX13_isFactory 10 = .ok (.aload_n 0, 1) ∧ decode cX13_isFactory 11 = .ok (.getfield 114, 3) ∧ decode cX13_isFactory 14 = .ok (.iload_n 1, 1) ∧ decode cX13_isFactory 15 = .ok (.baload, 1) ∧ decode cX13_isFactory 16 = .ok (.iload_n 3, 1) ∧ decode cX13_isFactory 17 = .ok (.if_icmp .ne 7, 3) ∧ decode cX13_isFactory 20 = .ok (.iconst 1, 1) ∧ decode cX13_isFactory 21 = .ok (.goto 4, 3) ∧ decode cX13_isFactory 24 = .ok (.iconst 0, 1) ∧ decode cX13_isFactory 25 = .ok (.ireturn, 1) := by decide +kernel
theorem dX13_isFactory_0 : decode cX13_isFactory 0 = .ok (.aload_n 0, 1) := dX13_isFactory_0g.1
theorem dX13_isFactory_1 : decode cX13_isFactory 1 = .ok (.getfield 102, 3) := dX13_isFactory_0g.2.1
theorem dX13_isFactory_4 : decode cX13_isFactory 4 = .ok (.iload_n 1, 1) := dX13_isFactory_0g.2.2.1
theorem dX13_isFactory_5 : decode cX13_isFactory 5 = .ok (.iaload, 1) := dX13_isFactory_0g.2.2.2.1
theorem dX13_isFactory_6 : decode cX13_isFactory 6 = .ok (.iload_n 2, 1) := dX13_isFactory_0g.2.2.2.2.1
theorem dX13_isFactory_7 : decode cX13_isFactory 7 = .ok (.if_icmp .ne 17, 3) := dX13_isFactory_0g.2.2.2.2.2.1
theorem dX13_isFactory_10 : decode cX13_isFactory 10 = .ok (.aload_n 0, 1) := dX13_isFactory_0g.2.2.2.2.2.2.1
theorem dX13_isFactory_11 : decode cX13_isFactory 11 = .ok (.getfield 114, 3) := dX13_isFactory_0g.2.2.2.2.2.2.2.1
theorem dX13_isFactory_14 : decode cX13_isFactory 14 = .ok (.iload_n 1, 1) := dX13_isFactory_0g.2.2.2.2.2.2.2.2.1
theorem dX13_isFactory_15 : decode cX13_isFactory 15 = .ok (.baload, 1) := dX13_isFactory_0g.2.2.2.2.2.2.2.2.2.1
theorem dX13_isFactory_16 : decode cX13_isFactory 16 = .ok (.iload_n 3, 1) := dX13_isFactory_0g.2.2.2.2.2.2.2.2.2.2.1
theorem dX13_isFactory_17 : decode cX13_isFactory 17 = .ok (.if_icmp .ne 7, 3) := dX13_isFactory_0g.2.2.2.2.2.2.2.2.2.2.2.1
theorem dX13_isFactory_20 : decode cX13_isFactory 20 = .ok (.iconst 1, 1) := dX13_isFactory_0g.2.2.2.2.2.2.2.2.2.2.2.2.1
theorem dX13_isFactory_21 : decode cX13_isFactory 21 = .ok (.goto 4, 3) := dX13_isFactory_0g.2.2.2.2.2.2.2.2.2.2.2.2.2.1
theorem dX13_isFactory_24 : decode cX13_isFactory 24 = .ok (.iconst 0, 1) := dX13_isFactory_0g.2.2.2.2.2.2.2.2.2.2.2.2.2.2.1
theorem dX13_isFactory_25 : decode cX13_isFactory 25 = .ok (.ireturn, 1) := dX13_isFactory_0g.2.2.2.2.2.2.2.2.2.2.2.2.2.2.2
theorem dX13_classWithFactory_0g : decode cX13_classWithFactory 0 = .ok (.iload_n 1, 1) ∧ decode cX13_classWithFactory 1 = .ok (.istore 4, 2) ∧ decode cX13_classWithFactory 3 = .ok (.iload 4, 2) ∧ decode cX13_classWithFactory 5 = .ok (.iconst (-1), 1) ∧ decode cX13_classWithFactory 6 = .ok (.if_icmp .eq 55, 3) ∧ decode cX13_classWithFactory 9 = .ok (.iconst 0, 1) ∧ decode cX13_classWithFactory 10 = .ok (.istore 5, 2) ∧ decode cX13_classWithFactory 12 = .ok (.iload 5, 2) ∧ decode cX13_classWithFactory 14 = .ok (.aload_n 0, 1) ∧ decode cX13_classWithFactory 15 = .ok (.getfield 99, 3) ∧ decode cX13_classWithFactory 18 = .ok (.iload 4, 2) ∧ decode cX13_classWithFactory 20 = .ok (.iaload, 1) ∧ decode cX13_classWithFactory 21 = .ok (.if_icmp .ge 28, 3) ∧ decode cX13_classWithFactory 24 = .ok (.aload_n 0, 1) ∧ decode cX13_classWithFactory 25 = .ok (.iconst 4, 1) ∧ decode cX13_classWithFactory 26 = .ok (.iload 4, 2) := by decide +kernel
theorem dX13_classWithFactory_0 : decode cX13_classWithFactory 0 = .ok (.iload_n 1, 1) := dX13_classWithFactory_0g.1
theorem dX13_classWithFactory_1 : decode cX13_classWithFactory 1 = .ok (.istore 4, 2) := dX13_classWithFactory_0g.2.1
theorem dX13_classWithFactory_3 : decode cX13_classWithFactory 3 = .ok (.iload 4, 2) := dX13_classWithFactory_0g.2.2.1
theorem dX13_classWithFactory_5 : decode cX13_classWithFactory 5 = .ok (.iconst (-1), 1) := dX13_classWithFactory_0g.2.2.2.1
theorem dX13_classWithFactory_6 : decode cX13_classWithFactory 6 = .ok (.if_icmp .eq 55, 3) := dX13_classWithFactory_0g.2.2.2.2.1
theorem dX13_classWithFactory_9 : decode cX13_classWithFactory 9 = .ok (.iconst 0, 1) := dX13_classWithFactory_0g.2.2.2.2.2.1
theorem dX13_classWithFactory_10 : decode cX13_classWithFactory 10 = .ok (.istore 5, 2) := dX13_classWithFactory_0g.2.2.2.2.2.2.1
theorem dX13_classWithFactory_12 : decode cX13_classWithFactory 12 = .ok (.iload 5, 2) := dX13_classWithFactory_0g.2.2.2.2.2.2.2.1
theorem dX13_classWithFactory_14 : decode cX13_classWithFactory 14 = .ok (.aload_n 0, 1) := dX13_classWithFactory_0g.2.2.2.2.2.2.2.2.1
theorem dX13_classWithFactory_15 : decode cX13_classWithFactory 15 = .ok (.getfield 99, 3) := dX13_classWithFactory_0g.2.2.2.2.2.2.2.2.2.1
theorem dX13_classWithFactory_18 : decode cX13_classWithFactory 18 = .ok (.iload 4, 2) := dX13_classWithFactory_0g.2.2.2.2.2.2.2.2.2.2.1
theorem dX13_classWithFactory_20 : decode cX13_classWithFactory 20 = .ok (.iaload, 1) := dX13_classWithFactory_0g.2.2.2.2.2.2.2.2.2.2.2.1
theorem dX13_classWithFactory_21 : decode cX13_classWithFactory 21 = .ok (.if_icmp .ge 28, 3) := dX13_classWithFactory_0g.2.2.2.2.2.2.2.2.2.2.2.2.1
theorem dX13_classWithFactory_24 : decode cX13_classWithFactory 24 = .ok (.aload_n 0, 1) := dX13_classWithFactory_0g.2.2.2.2.2.2.2.2.2.2.2.2.2.1
theorem dX13_classWithFactory_25 : decode cX13_classWithFactory 25 = .ok (.iconst 4, 1) := dX13_classWithFactory_0g.2.2.2.2.2.2.2.2.2.2.2.2.2.2.1
theorem dX13_classWithFactory_26 : decode cX13_classWithFactory 26 = .ok (.iload 4, 2) := dX13_classWithFactory_0g.2.2.2.2.2.2.2.2.2.2.2.2.2.2.2
theorem dX13_classWithFactory_28g : decode cX13_classWithFactory 28 = .ok (.imul, 1) ∧ decode cX13_classWithFactory 29 = .ok (.iload 5, 2) ∧ decode cX13_classWithFactory 31 = .ok (.iadd, 1) ∧ decode cX13_classWithFactory 32 = .ok (.iload_n 2, 1) ∧ decode cX13_classWithFactory 33 = .ok (.iload_n 3, 1) ∧ decode cX13_classWithFactory 34 = .ok (.invokevirtual 269, 3) ∧ decode cX13_classWithFactory 37 = .ok (.ifCond .eq 6, 3) ∧ decode cX13_classWithFactory 40 = .ok (.iload 4, 2) ∧ decode cX13_classWithFactory 42 = .ok (.ireturn, 1) ∧ decode cX13_classWithFactory 43 = .ok (.iinc 5 1, 3) ∧ decode cX13_classWithFactory 46 = .ok (.goto (-34), 3) ∧ decode cX13_classWithFactory 49 = .ok (.aload_n 0, 1) ∧ decode cX13_classWithFactory 50 = .ok (.getfield 78, 3) ∧ decode cX13_classWithFactory 53 = .ok (.iload 4, 2) ∧ decode cX13_classWithFactory 55 = .ok (.iaload, 1) ∧ decode cX13_classWithFactory 56 = .ok (.istore 4, 2) := by decide +kernel
theorem dX13_classWithFactory_28 : decode cX13_classWithFactory 28 = .ok (.imul, 1) := dX13_classWithFactory_28g.1
theorem dX13_classWithFactory_29 : decode cX13_classWithFactory 29 = .ok (.iload 5, 2) := dX13_classWithFactory_28g.2.1
theorem dX13_classWithFactory_31 : decode cX13_classWithFactory 31 = .ok (.iadd, 1) := dX13_classWithFactory_28g.2.2.1
theorem dX13_classWithFactory_32 : decode cX13_classWithFactory 32 = .ok (.iload_n 2, 1) := dX13_classWithFactory_28g.2.2.2.1
theorem dX13_classWithFactory_33 : decode cX13_classWithFactory 33 = .ok (.iload_n 3, 1) := dX13_classWithFactory_28g.2.2.2.2.1
theorem dX13_classWithFactory_34 : decode cX13_classWithFactory 34 = .ok (.invokevirtual 269, 3) := dX13_classWithFactory_28g.2.2.2.2.2.1
theorem dX13_classWithFactory_37 : decode cX13_classWithFactory 37 = .ok (.ifCond .eq 6, 3) := dX13_classWithFactory_28g.2.2.2.2.2.2.1
theorem dX13_classWithFactory_40 : decode cX13_classWithFactory 40 = .ok (.iload 4, 2) := dX13_classWithFactory_28g.2.2.2.2.2.2.2.1
theorem dX13_classWithFactory_42 : decode cX13_classWithFactory 42 = .ok (.ireturn, 1) := dX13_classWithFactory_28g.2.2.2.2.2.2.2.2.1
theorem dX13_classWithFactory_43 : decode cX13_classWithFactory 43 = .ok (.iinc 5 1, 3) := dX13_classWithFactory_28g.2.2.2.2.2.2.2.2.2.1
theorem dX13_classWithFactory_46 : decode cX13_classWithFactory 46 = .ok (.goto (-34), 3) := dX13_classWithFactory_28g.2.2.2.2.2.2.2.2.2.2.1
theorem dX13_classWithFactory_49 : decode cX13_classWithFactory 49 = .ok (.aload_n 0, 1) := dX13_classWithFactory_28g.2.2.2.2.2.2.2.2.2.2.2.1
theorem dX13_classWithFactory_50 : decode cX13_classWithFactory 50 = .ok (.getfield 78, 3) := dX13_classWithFactory_28g.2.2.2.2.2.2.2.2.2.2.2.2.1
theorem dX13_classWithFactory_53 : decode cX13_classWithFactory 53 = .ok (.iload 4, 2) := dX13_classWithFactory_28g.2.2.2.2.2.2.2.2.2.2.2.2.2.1
theorem dX13_classWithFactory_55 : decode cX13_classWithFactory 55 = .ok (.iaload, 1) := dX13_classWithFactory_28g.2.2.2.2.2.2.2.2.2.2.2.2.2.2.1
theorem dX13_classWithFactory_56 : decode cX13_classWithFactory 56 = .ok (.istore 4, 2) := dX13_classWithFactory_28g.2.2.2.2.2.2.2.2.2.2.2.2.2.2.2
theorem dX13_classWithFactory_58g : decode cX13_classWithFactory 58 = .ok (.goto (-55), 3) ∧ decode cX13_classWithFactory 61 = .ok (.iconst (-1), 1) ∧ decode cX13_classWithFactory 62 = .ok (.ireturn, 1) := by decide +kernel
theorem dX13_classWithFactory_58 : decode cX13_classWithFactory 58 = .ok (.goto (-55), 3) := dX13_classWithFactory_58g.1
theorem dX13_classWithFactory_61 : decode cX13_classWithFactory 61 = .ok (.iconst (-1), 1) := dX13_classWithFactory_58g.2.1
theorem dX13_classWithFactory_62 : decode cX13_classWithFactory 62 = .ok (.ireturn, 1) := dX13_classWithFactory_58g.2.2
theorem dX13_type_0g : decode cX13_type 0 = .ok (.aload_n 0, 1) ∧ decode cX13_type 1 = .ok (.iconst 0, 1) ∧ decode cX13_type 2 = .ok (.putfield 252, 3) ∧ decode cX13_type 5 = .ok (.iconst 0, 1) ∧ decode cX13_type 6 = .ok (.istore 6, 2) ∧ decode cX13_type 8 = .ok (.iconst 0, 1) ∧ decode cX13_type 9 = .ok (.istore 7, 2) ∧ decode cX13_type 11 = .ok (.iload 7, 2) ∧ decode cX13_type 13 = .ok (.bipush 20, 2) ∧ decode cX13_type 15 = .ok (.if_icmp .ge 119, 3) ∧ decode cX13_type 18 = .ok (.iload 7, 2) ∧ decode cX13_type 20 = .ok (.iconst 4, 1) ∧ decode cX13_type 21 = .ok (.if_icmp .ge 7, 3) ∧ decode cX13_type 24 = .ok (.iload_n 1, 1) ∧ decode cX13_type 25 = .ok (.goto 39, 3) ∧ decode cX13_type 28 = .ok (.iload 7, 2) := by decide +kernel
theorem dX13_type_0 : decode cX13_type 0 = .ok (.aload_n 0, 1) := dX13_type_0g.1
theorem dX13_type_1 : decode cX13_type 1 = .ok (.iconst 0, 1) := dX13_type_0g.2.1
theorem dX13_type_2 : decode cX13_type 2 = .ok (.putfield 252, 3) := dX13_type_0g.2.2.1
theorem dX13_type_5 : decode cX13_type 5 = .ok (.iconst 0, 1) := dX13_type_0g.2.2.2.1
theorem dX13_type_6 : decode cX13_type 6 = .ok (.istore 6, 2) := dX13_type_0g.2.2.2.2.1
theorem dX13_type_8 : decode cX13_type 8 = .ok (.iconst 0, 1) := dX13_type_0g.2.2.2.2.2.1
theorem dX13_type_9 : decode cX13_type 9 = .ok (.istore 7, 2) := dX13_type_0g.2.2.2.2.2.2.1
theorem dX13_type_11 : decode cX13_type 11 = .ok (.iload 7, 2) := dX13_type_0g.2.2.2.2.2.2.2.1
theorem dX13_type_13 : decode cX13_type 13 = .ok (.bipush 20, 2) := dX13_type_0g.2.2.2.2.2.2.2.2.1
theorem dX13_type_15 : decode cX13_type 15 = .ok (.if_icmp .ge 119, 3) := dX13_type_0g.2.2.2.2.2.2.2.2.2.1
theorem dX13_type_18 : decode cX13_type 18 = .ok (.iload 7, 2) := dX13_type_0g.2.2.2.2.2.2.2.2.2.2.1
theorem dX13_type_20 : decode cX13_type 20 = .ok (.iconst 4, 1) := dX13_type_0g.2.2.2.2.2.2.2.2.2.2.2.1
theorem dX13_type_21 : decode cX13_type 21 = .ok (.if_icmp .ge 7, 3) := dX13_type_0g.2.2.2.2.2.2.2.2.2.2.2.2.1
theorem dX13_type_24 : decode cX13_type 24 = .ok (.iload_n 1, 1) := dX13_type_0g.2.2.2.2.2.2.2.2.2.2.2.2.2.1
theorem dX13_type_25 : decode cX13_type 25 = .ok (.goto 39, 3) := dX13_type_0g.2.2.2.2.2.2.2.2.2.2.2.2.2.2.1
theorem dX13_type_28 : decode cX13_type 28 = .ok (.iload 7, 2) := dX13_type_0g.2.2.2.2.2.2.2.2.2.2.2.2.2.2.2
theorem dX13_type_30g : decode cX13_type 30 = .ok (.bipush 8, 2) ∧ decode cX13_type 32 = .ok (.if_icmp .ge 7, 3) ∧ decode cX13_type 35 = .ok (.iload_n 2, 1) ∧ decode cX13_type 36 = .ok (.goto 28, 3) ∧ decode cX13_type 39 = .ok (.iload 7, 2) ∧ decode cX13_type 41 = .ok (.bipush 12, 2) ∧ decode cX13_type 43 = .ok (.if_icmp .ge 7, 3) ∧ decode cX13_type 46 = .ok (.iload_n 3, 1) ∧ decode cX13_type 47 = .ok (.goto 17, 3) ∧ decode cX13_type 50 = .ok (.iload 7, 2) ∧ decode cX13_type 52 = .ok (.bipush 16, 2) ∧ decode cX13_type 54 = .ok (.if_icmp .ge 8, 3) ∧ decode cX13_type 57 = .ok (.iload 4, 2) ∧ decode cX13_type 59 = .ok (.goto 5, 3) ∧ decode cX13_type 62 = .ok (.iload 5, 2) ∧ decode cX13_type 64 = .ok (.istore 8, 2) := by decide +kernel
theorem dX13_type_30 : decode cX13_type 30 = .ok (.bipush 8, 2) := dX13_type_30g.1
theorem dX13_type_32 : decode cX13_type 32 = .ok (.if_icmp .ge 7, 3) := dX13_type_30g.2.1
theorem dX13_type_35 : decode cX13_type 35 = .ok (.iload_n 2, 1) := dX13_type_30g.2.2.1
theorem dX13_type_36 : decode cX13_type 36 = .ok (.goto 28, 3) := dX13_type_30g.2.2.2.1
theorem dX13_type_39 : decode cX13_type 39 = .ok (.iload 7, 2) := dX13_type_30g.2.2.2.2.1
theorem dX13_type_41 : decode cX13_type 41 = .ok (.bipush 12, 2) := dX13_type_30g.2.2.2.2.2.1
theorem dX13_type_43 : decode cX13_type 43 = .ok (.if_icmp .ge 7, 3) := dX13_type_30g.2.2.2.2.2.2.1
theorem dX13_type_46 : decode cX13_type 46 = .ok (.iload_n 3, 1) := dX13_type_30g.2.2.2.2.2.2.2.1
theorem dX13_type_47 : decode cX13_type 47 = .ok (.goto 17, 3) := dX13_type_30g.2.2.2.2.2.2.2.2.1
theorem dX13_type_50 : decode cX13_type 50 = .ok (.iload 7, 2) := dX13_type_30g.2.2.2.2.2.2.2.2.2.1
theorem dX13_type_52 : decode cX13_type 52 = .ok (.bipush 16, 2) := dX13_type_30g.2.2.2.2.2.2.2.2.2.2.1
theorem dX13_type_54 : decode cX13_type 54 = .ok (.if_icmp .ge 8, 3) := dX13_type_30g.2.2.2.2.2.2.2.2.2.2.2.1
theorem dX13_type_57 : decode cX13_type 57 = .ok (.iload 4, 2) := dX13_type_30g.2.2.2.2.2.2.2.2.2.2.2.2.1
theorem dX13_type_59 : decode cX13_type 59 = .ok (.goto 5, 3) := dX13_type_30g.2.2.2.2.2.2.2.2.2.2.2.2.2.1
theorem dX13_type_62 : decode cX13_type 62 = .ok (.iload 5, 2) := dX13_type_30g.2.2.2.2.2.2.2.2.2.2.2.2.2.2.1
theorem dX13_type_64 : decode cX13_type 64 = .ok (.istore 8, 2) := dX13_type_30g.2.2.2.2.2.2.2.2.2.2.2.2.2.2.2
theorem dX13_type_66g : decode cX13_type 66 = .ok (.iload 8, 2) ∧ decode cX13_type 68 = .ok (.bipush 24, 2) ∧ decode cX13_type 70 = .ok (.bipush 8, 2) ∧ decode cX13_type 72 = .ok (.iload 7, 2) ∧ decode cX13_type 74 = .ok (.iconst 4, 1) ∧ decode cX13_type 75 = .ok (.irem, 1) ∧ decode cX13_type 76 = .ok (.imul, 1) ∧ decode cX13_type 77 = .ok (.isub, 1) ∧ decode cX13_type 78 = .ok (.ishr, 1) ∧ decode cX13_type 79 = .ok (.sipush 255, 3) ∧ decode cX13_type 82 = .ok (.iand, 1) ∧ decode cX13_type 83 = .ok (.istore 9, 2) ∧ decode cX13_type 85 = .ok (.iload 9, 2) ∧ decode cX13_type 87 = .ok (.ifCond .eq 26, 3) ∧ decode cX13_type 90 = .ok (.iload 9, 2) ∧ decode cX13_type 92 = .ok (.bipush 10, 2) := by decide +kernel
theorem dX13_type_66 : decode cX13_type 66 = .ok (.iload 8, 2) := dX13_type_66g.1
theorem dX13_type_68 : decode cX13_type 68 = .ok (.bipush 24, 2) := dX13_type_66g.2.1
theorem dX13_type_70 : decode cX13_type 70 = .ok (.bipush 8, 2) := dX13_type_66g.2.2.1
theorem dX13_type_72 : decode cX13_type 72 = .ok (.iload 7, 2) := dX13_type_66g.2.2.2.1
theorem dX13_type_74 : decode cX13_type 74 = .ok (.iconst 4, 1) := dX13_type_66g.2.2.2.2.1
theorem dX13_type_75 : decode cX13_type 75 = .ok (.irem, 1) := dX13_type_66g.2.2.2.2.2.1
theorem dX13_type_76 : decode cX13_type 76 = .ok (.imul, 1) := dX13_type_66g.2.2.2.2.2.2.1
theorem dX13_type_77 : decode cX13_type 77 = .ok (.isub, 1) := dX13_type_66g.2.2.2.2.2.2.2.1
theorem dX13_type_78 : decode cX13_type 78 = .ok (.ishr, 1) := dX13_type_66g.2.2.2.2.2.2.2.2.1
theorem dX13_type_79 : decode cX13_type 79 = .ok (.sipush 255, 3) := dX13_type_66g.2.2.2.2.2.2.2.2.2.1
theorem dX13_type_82 : decode cX13_type 82 = .ok (.iand, 1) := dX13_type_66g.2.2.2.2.2.2.2.2.2.2.1
theorem dX13_type_83 : decode cX13_type 83 = .ok (.istore 9, 2) := dX13_type_66g.2.2.2.2.2.2.2.2.2.2.2.1
theorem dX13_type_85 : decode cX13_type 85 = .ok (.iload 9, 2) := dX13_type_66g.2.2.2.2.2.2.2.2.2.2.2.2.1
theorem dX13_type_87 : decode cX13_type 87 = .ok (.ifCond .eq 26, 3) := dX13_type_66g.2.2.2.2.2.2.2.2.2.2.2.2.2.1
theorem dX13_type_90 : decode cX13_type 90 = .ok (.iload 9, 2) := dX13_type_66g.2.2.2.2.2.2.2.2.2.2.2.2.2.2.1
theorem dX13_type_92 : decode cX13_type 92 = .ok (.bipush 10, 2) := dX13_type_66g.2.2.2.2.2.2.2.2.2.2.2.2.2.2.2
theorem dX13_type_94g : decode cX13_type 94 = .ok (.if_icmp .eq 19, 3) ∧ decode cX13_type 97 = .ok (.iload 9, 2) ∧ decode cX13_type 99 = .ok (.bipush 32, 2) ∧ decode cX13_type 101 = .ok (.if_icmp .lt 10, 3) ∧ decode cX13_type 104 = .ok (.iload 9, 2) ∧ decode cX13_type 106 = .ok (.bipush 126, 2) ∧ decode cX13_type 108 = .ok (.if_icmp .le 5, 3) ∧ decode cX13_type 111 = .ok (.iconst (-1), 1) ∧ decode cX13_type 112 = .ok (.ireturn, 1) ∧ decode cX13_type 113 = .ok (.iload 6, 2) ∧ decode cX13_type 115 = .ok (.iload 9, 2) ∧ decode cX13_type 117 = .ok (.ifCond .eq 7, 3) ∧ decode cX13_type 120 = .ok (.iconst 1, 1) ∧ decode cX13_type 121 = .ok (.goto 4, 3) ∧ decode cX13_type 124 = .ok (.iconst 0, 1) ∧ decode cX13_type 125 = .ok (.iadd, 1) := by decide +kernel
theorem dX13_type_94 : decode cX13_type 94 = .ok (.if_icmp .eq 19, 3) := dX13_type_94g.1
theorem dX13_type_97 : decode cX13_type 97 = .ok (.iload 9, 2) := dX13_type_94g.2.1
theorem dX13_type_99 : decode cX13_type 99 = .ok (.bipush 32, 2) := dX13_type_94g.2.2.1
theorem dX13_type_101 : decode cX13_type 101 = .ok (.if_icmp .lt 10, 3) := dX13_type_94g.2.2.2.1
theorem dX13_type_104 : decode cX13_type 104 = .ok (.iload 9, 2) := dX13_type_94g.2.2.2.2.1
theorem dX13_type_106 : decode cX13_type 106 = .ok (.bipush 126, 2) := dX13_type_94g.2.2.2.2.2.1
theorem dX13_type_108 : decode cX13_type 108 = .ok (.if_icmp .le 5, 3) := dX13_type_94g.2.2.2.2.2.2.1
theorem dX13_type_111 : decode cX13_type 111 = .ok (.iconst (-1), 1) := dX13_type_94g.2.2.2.2.2.2.2.1
theorem dX13_type_112 : decode cX13_type 112 = .ok (.ireturn, 1) := dX13_type_94g.2.2.2.2.2.2.2.2.1
theorem dX13_type_113 : decode cX13_type 113 = .ok (.iload 6, 2) := dX13_type_94g.2.2.2.2.2.2.2.2.2.1
theorem dX13_type_115 : decode cX13_type 115 = .ok (.iload 9, 2) := dX13_type_94g.2.2.2.2.2.2.2.2.2.2.1
theorem dX13_type_117 : decode cX13_type 117 = .ok (.ifCond .eq 7, 3) := dX13_type_94g.2.2.2.2.2.2.2.2.2.2.2.1
theorem dX13_type_120 : decode cX13_type 120 = .ok (.iconst 1, 1) := dX13_type_94g.2.2.2.2.2.2.2.2.2.2.2.2.1
theorem dX13_type_121 : decode cX13_type 121 = .ok (.goto 4, 3) := dX13_type_94g.2.2.2.2.2.2.2.2.2.2.2.2.2.1
theorem dX13_type_124 : decode cX13_type 124 = .ok (.iconst 0, 1) := dX13_type_94g.2.2.2.2.2.2.2.2.2.2.2.2.2.2.1
theorem dX13_type_125 : decode cX13_type 125 = .ok (.iadd, 1) := dX13_type_94g.2.2.2.2.2.2.2.2.2.2.2.2.2.2.2
theorem dX13_type_126g : decode cX13_type 126 = .ok (.istore 6, 2) ∧ decode cX13_type 128 = .ok (.iinc 7 1, 3) ∧ decode cX13_type 131 = .ok (.goto (-120), 3) ∧ decode cX13_type 134 = .ok (.aload_n 0, 1) ∧ decode cX13_type 135 = .ok (.getfield 273, 3) ∧ decode cX13_type 138 = .ok (.iload 6, 2) ∧ decode cX13_type 140 = .ok (.iadd, 1) ∧ decode cX13_type 141 = .ok (.sipush 1200, 3) ∧ decode cX13_type 144 = .ok (.if_icmp .le 5, 3) ∧ decode cX13_type 147 = .ok (.iconst (-1), 1) ∧ decode cX13_type 148 = .ok (.ireturn, 1) ∧ decode cX13_type 149 = .ok (.iconst 0, 1) ∧ decode cX13_type 150 = .ok (.istore 7, 2) ∧ decode cX13_type 152 = .ok (.iload 7, 2) ∧ decode cX13_type 154 = .ok (.bipush 20, 2) ∧ decode cX13_type 156 = .ok (.if_icmp .ge 103, 3) := by decide +kernel
theorem dX13_type_126 : decode cX13_type 126 = .ok (.istore 6, 2) := dX13_type_126g.1
theorem dX13_type_128 : decode cX13_type 128 = .ok (.iinc 7 1, 3) := dX13_type_126g.2.1
theorem dX13_type_131 : decode cX13_type 131 = .ok (.goto (-120), 3) := dX13_type_126g.2.2.1
theorem dX13_type_134 : decode cX13_type 134 = .ok (.aload_n 0, 1) := dX13_type_126g.2.2.2.1
theorem dX13_type_135 : decode cX13_type 135 = .ok (.getfield 273, 3) := dX13_type_126g.2.2.2.2.1
theorem dX13_type_138 : decode cX13_type 138 = .ok (.iload 6, 2) := dX13_type_126g.2.2.2.2.2.1
theorem dX13_type_140 : decode cX13_type 140 = .ok (.iadd, 1) := dX13_type_126g.2.2.2.2.2.2.1
theorem dX13_type_141 : decode cX13_type 141 = .ok (.sipush 1200, 3) := dX13_type_126g.2.2.2.2.2.2.2.1
theorem dX13_type_144 : decode cX13_type 144 = .ok (.if_icmp .le 5, 3) := dX13_type_126g.2.2.2.2.2.2.2.2.1
theorem dX13_type_147 : decode cX13_type 147 = .ok (.iconst (-1), 1) := dX13_type_126g.2.2.2.2.2.2.2.2.2.1
theorem dX13_type_148 : decode cX13_type 148 = .ok (.ireturn, 1) := dX13_type_126g.2.2.2.2.2.2.2.2.2.2.1
theorem dX13_type_149 : decode cX13_type 149 = .ok (.iconst 0, 1) := dX13_type_126g.2.2.2.2.2.2.2.2.2.2.2.1
theorem dX13_type_150 : decode cX13_type 150 = .ok (.istore 7, 2) := dX13_type_126g.2.2.2.2.2.2.2.2.2.2.2.2.1
theorem dX13_type_152 : decode cX13_type 152 = .ok (.iload 7, 2) := dX13_type_126g.2.2.2.2.2.2.2.2.2.2.2.2.2.1
theorem dX13_type_154 : decode cX13_type 154 = .ok (.bipush 20, 2) := dX13_type_126g.2.2.2.2.2.2.2.2.2.2.2.2.2.2.1
theorem dX13_type_156 : decode cX13_type 156 = .ok (.if_icmp .ge 103, 3) := dX13_type_126g.2.2.2.2.2.2.2.2.2.2.2.2.2.2.2
theorem dX13_type_159g : decode cX13_type 159 = .ok (.iload 7, 2) ∧ decode cX13_type 161 = .ok (.iconst 4, 1) ∧ decode cX13_type 162 = .ok (.if_icmp .ge 7, 3) ∧ decode cX13_type 165 = .ok (.iload_n 1, 1) ∧ decode cX13_type 166 = .ok (.goto 39, 3) ∧ decode cX13_type 169 = .ok (.iload 7, 2) ∧ decode cX13_type 171 = .ok (.bipush 8, 2) ∧ decode cX13_type 173 = .ok (.if_icmp .ge 7, 3) ∧ decode cX13_type 176 = .ok (.iload_n 2, 1) ∧ decode cX13_type 177 = .ok (.goto 28, 3) ∧ decode cX13_type 180 = .ok (.iload 7, 2) ∧ decode cX13_type 182 = .ok (.bipush 12, 2) ∧ decode cX13_type 184 = .ok (.if_icmp .ge 7, 3) ∧ decode cX13_type 187 = .ok (.iload_n 3, 1) ∧ decode cX13_type 188 = .ok (.goto 17, 3) ∧ decode cX13_type 191 = .ok (.iload 7, 2) := by decide +kernel
theorem dX13_type_159 : decode cX13_type 159 = .ok (.iload 7, 2) := dX13_type_159g.1
theorem dX13_type_161 : decode cX13_type 161 = .ok (.iconst 4, 1) := dX13_type_159g.2.1
theorem dX13_type_162 : decode cX13_type 162 = .ok (.if_icmp .ge 7, 3) := dX13_type_159g.2.2.1
theorem dX13_type_165 : decode cX13_type 165 = .ok (.iload_n 1, 1) := dX13_type_159g.2.2.2.1
theorem dX13_type_166 : decode cX13_type 166 = .ok (.goto 39, 3) := dX13_type_159g.2.2.2.2.1
theorem dX13_type_169 : decode cX13_type 169 = .ok (.iload 7, 2) := dX13_type_159g.2.2.2.2.2.1
theorem dX13_type_171 : decode cX13_type 171 = .ok (.bipush 8, 2) := dX13_type_159g.2.2.2.2.2.2.1
theorem dX13_type_173 : decode cX13_type 173 = .ok (.if_icmp .ge 7, 3) := dX13_type_159g.2.2.2.2.2.2.2.1
theorem dX13_type_176 : decode cX13_type 176 = .ok (.iload_n 2, 1) := dX13_type_159g.2.2.2.2.2.2.2.2.1
theorem dX13_type_177 : decode cX13_type 177 = .ok (.goto 28, 3) := dX13_type_159g.2.2.2.2.2.2.2.2.2.1
theorem dX13_type_180 : decode cX13_type 180 = .ok (.iload 7, 2) := dX13_type_159g.2.2.2.2.2.2.2.2.2.2.1
theorem dX13_type_182 : decode cX13_type 182 = .ok (.bipush 12, 2) := dX13_type_159g.2.2.2.2.2.2.2.2.2.2.2.1
theorem dX13_type_184 : decode cX13_type 184 = .ok (.if_icmp .ge 7, 3) := dX13_type_159g.2.2.2.2.2.2.2.2.2.2.2.2.1
theorem dX13_type_187 : decode cX13_type 187 = .ok (.iload_n 3, 1) := dX13_type_159g.2.2.2.2.2.2.2.2.2.2.2.2.2.1
theorem dX13_type_188 : decode cX13_type 188 = .ok (.goto 17, 3) := dX13_type_159g.2.2.2.2.2.2.2.2.2.2.2.2.2.2.1
theorem dX13_type_191 : decode cX13_type 191 = .ok (.iload 7, 2) := dX13_type_159g.2.2.2.2.2.2.2.2.2.2.2.2.2.2.2
theorem dX13_type_193g : decode cX13_type 193 = .ok (.bipush 16, 2) ∧ decode cX13_type 195 = .ok (.if_icmp .ge 8, 3) ∧ decode cX13_type 198 = .ok (.iload 4, 2) ∧ decode cX13_type 200 = .ok (.goto 5, 3) ∧ decode cX13_type 203 = .ok (.iload 5, 2) ∧ decode cX13_type 205 = .ok (.istore 8, 2) ∧ decode cX13_type 207 = .ok (.iload 8, 2) ∧ decode cX13_type 209 = .ok (.bipush 24, 2) ∧ decode cX13_type 211 = .ok (.bipush 8, 2) ∧ decode cX13_type 213 = .ok (.iload 7, 2) ∧ decode cX13_type 215 = .ok (.iconst 4, 1) ∧ decode cX13_type 216 = .ok (.irem, 1) ∧ decode cX13_type 217 = .ok (.imul, 1) ∧ decode cX13_type 218 = .ok (.isub, 1) ∧ decode cX13_type 219 = .ok (.ishr, 1) ∧ decode cX13_type 220 = .ok (.sipush 255, 3) := by decide +kernel
theorem dX13_type_193 : decode cX13_type 193 = .ok (.bipush 16, 2) := dX13_type_193g.1
theorem dX13_type_195 : decode cX13_type 195 = .ok (.if_icmp .ge 8, 3) := dX13_type_193g.2.1
theorem dX13_type_198 : decode cX13_type 198 = .ok (.iload 4, 2) := dX13_type_193g.2.2.1
theorem dX13_type_200 : decode cX13_type 200 = .ok (.goto 5, 3) := dX13_type_193g.2.2.2.1
theorem dX13_type_203 : decode cX13_type 203 = .ok (.iload 5, 2) := dX13_type_193g.2.2.2.2.1
theorem dX13_type_205 : decode cX13_type 205 = .ok (.istore 8, 2) := dX13_type_193g.2.2.2.2.2.1
theorem dX13_type_207 : decode cX13_type 207 = .ok (.iload 8, 2) := dX13_type_193g.2.2.2.2.2.2.1
theorem dX13_type_209 : decode cX13_type 209 = .ok (.bipush 24, 2) := dX13_type_193g.2.2.2.2.2.2.2.1
theorem dX13_type_211 : decode cX13_type 211 = .ok (.bipush 8, 2) := dX13_type_193g.2.2.2.2.2.2.2.2.1
theorem dX13_type_213 : decode cX13_type 213 = .ok (.iload 7, 2) := dX13_type_193g.2.2.2.2.2.2.2.2.2.1
theorem dX13_type_215 : decode cX13_type 215 = .ok (.iconst 4, 1) := dX13_type_193g.2.2.2.2.2.2.2.2.2.2.1
theorem dX13_type_216 : decode cX13_type 216 = .ok (.irem, 1) := dX13_type_193g.2.2.2.2.2.2.2.2.2.2.2.1
theorem dX13_type_217 : decode cX13_type 217 = .ok (.imul, 1) := dX13_type_193g.2.2.2.2.2.2.2.2.2.2.2.2.1
theorem dX13_type_218 : decode cX13_type 218 = .ok (.isub, 1) := dX13_type_193g.2.2.2.2.2.2.2.2.2.2.2.2.2.1
theorem dX13_type_219 : decode cX13_type 219 = .ok (.ishr, 1) := dX13_type_193g.2.2.2.2.2.2.2.2.2.2.2.2.2.2.1
theorem dX13_type_220 : decode cX13_type 220 = .ok (.sipush 255, 3) := dX13_type_193g.2.2.2.2.2.2.2.2.2.2.2.2.2.2.2
theorem dX13_type_223g : decode cX13_type 223 = .ok (.iand, 1) ∧ decode cX13_type 224 = .ok (.istore 9, 2) ∧ decode cX13_type 226 = .ok (.iload 9, 2) ∧ decode cX13_type 228 = .ok (.ifCond .eq 25, 3) ∧ decode cX13_type 231 = .ok (.aload_n 0, 1) ∧ decode cX13_type 232 = .ok (.getfield 118, 3) ∧ decode cX13_type 235 = .ok (.aload_n 0, 1) ∧ decode cX13_type 236 = .ok (.getfield 273, 3) ∧ decode cX13_type 239 = .ok (.iload 9, 2) ∧ decode cX13_type 241 = .ok (.i2b, 1) ∧ decode cX13_type 242 = .ok (.bastore, 1) ∧ decode cX13_type 243 = .ok (.aload_n 0, 1) ∧ decode cX13_type 244 = .ok (.dup, 1) ∧ decode cX13_type 245 = .ok (.getfield 273, 3) ∧ decode cX13_type 248 = .ok (.iconst 1, 1) ∧ decode cX13_type 249 = .ok (.iadd, 1) := by decide +kernel
theorem dX13_type_223 : decode cX13_type 223 = .ok (.iand, 1) := dX13_type_223g.1
theorem dX13_type_224 : decode cX13_type 224 = .ok (.istore 9, 2) := dX13_type_223g.2.1
theorem dX13_type_226 : decode cX13_type 226 = .ok (.iload 9, 2) := dX13_type_223g.2.2.1
theorem dX13_type_228 : decode cX13_type 228 = .ok (.ifCond .eq 25, 3) := dX13_type_223g.2.2.2.1
theorem dX13_type_231 : decode cX13_type 231 = .ok (.aload_n 0, 1) := dX13_type_223g.2.2.2.2.1
theorem dX13_type_232 : decode cX13_type 232 = .ok (.getfield 118, 3) := dX13_type_223g.2.2.2.2.2.1
theorem dX13_type_235 : decode cX13_type 235 = .ok (.aload_n 0, 1) := dX13_type_223g.2.2.2.2.2.2.1
theorem dX13_type_236 : decode cX13_type 236 = .ok (.getfield 273, 3) := dX13_type_223g.2.2.2.2.2.2.2.1
theorem dX13_type_239 : decode cX13_type 239 = .ok (.iload 9, 2) := dX13_type_223g.2.2.2.2.2.2.2.2.1
theorem dX13_type_241 : decode cX13_type 241 = .ok (.i2b, 1) := dX13_type_223g.2.2.2.2.2.2.2.2.2.1
theorem dX13_type_242 : decode cX13_type 242 = .ok (.bastore, 1) := dX13_type_223g.2.2.2.2.2.2.2.2.2.2.1
theorem dX13_type_243 : decode cX13_type 243 = .ok (.aload_n 0, 1) := dX13_type_223g.2.2.2.2.2.2.2.2.2.2.2.1
theorem dX13_type_244 : decode cX13_type 244 = .ok (.dup, 1) := dX13_type_223g.2.2.2.2.2.2.2.2.2.2.2.2.1
theorem dX13_type_245 : decode cX13_type 245 = .ok (.getfield 273, 3) := dX13_type_223g.2.2.2.2.2.2.2.2.2.2.2.2.2.1
theorem dX13_type_248 : decode cX13_type 248 = .ok (.iconst 1, 1) := dX13_type_223g.2.2.2.2.2.2.2.2.2.2.2.2.2.2.1
theorem dX13_type_249 : decode cX13_type 249 = .ok (.iadd, 1) := dX13_type_223g.2.2.2.2.2.2.2.2.2.2.2.2.2.2.2
theorem dX13_type_250g : decode cX13_type 250 = .ok (.putfield 273, 3) ∧ decode cX13_type 253 = .ok (.iinc 7 1, 3) ∧ decode cX13_type 256 = .ok (.goto (-104), 3) ∧ decode cX13_type 259 = .ok (.aload_n 0, 1) ∧ decode cX13_type 260 = .ok (.getfield 273, 3) ∧ decode cX13_type 263 = .ok (.ireturn, 1) := by decide +kernel
theorem dX13_type_250 : decode cX13_type 250 = .ok (.putfield 273, 3) := dX13_type_250g.1
theorem dX13_type_253 : decode cX13_type 253 = .ok (.iinc 7 1, 3) := dX13_type_250g.2.1
theorem dX13_type_256 : decode cX13_type 256 = .ok (.goto (-104), 3) := dX13_type_250g.2.2.1
theorem dX13_type_259 : decode cX13_type 259 = .ok (.aload_n 0, 1) := dX13_type_250g.2.2.2.1
theorem dX13_type_260 : decode cX13_type 260 = .ok (.getfield 273, 3) := dX13_type_250g.2.2.2.2.1
theorem dX13_type_263 : decode cX13_type 263 = .ok (.ireturn, 1) := dX13_type_250g.2.2.2.2.2
theorem dX13_white_0g : decode cX13_white 0 = .ok (.iconst 0, 1) ∧ decode cX13_white 1 = .ok (.istore_n 1, 1) ∧ decode cX13_white 2 = .ok (.aload_n 0, 1) ∧ decode cX13_white 3 = .ok (.aload_n 0, 1) ∧ decode cX13_white 4 = .ok (.iconst 0, 1) ∧ decode cX13_white 5 = .ok (.invokevirtual 282, 3) ∧ decode cX13_white 8 = .ok (.invokevirtual 286, 3) ∧ decode cX13_white 11 = .ok (.ifCond .eq 19, 3) ∧ decode cX13_white 14 = .ok (.aload_n 0, 1) ∧ decode cX13_white 15 = .ok (.dup, 1) ∧ decode cX13_white 16 = .ok (.getfield 279, 3) ∧ decode cX13_white 19 = .ok (.iconst 1, 1) ∧ decode cX13_white 20 = .ok (.iadd, 1) ∧ decode cX13_white 21 = .ok (.putfield 279, 3) ∧ decode cX13_white 24 = .ok (.iinc 1 1, 3) ∧ decode cX13_white 27 = .ok (.goto (-25), 3) := by decide +kernel
theorem dX13_white_0 : decode cX13_white 0 = .ok (.iconst 0, 1) := dX13_white_0g.1
theorem dX13_white_1 : decode cX13_white 1 = .ok (.istore_n 1, 1) := dX13_white_0g.2.1
theorem dX13_white_2 : decode cX13_white 2 = .ok (.aload_n 0, 1) := dX13_white_0g.2.2.1
theorem dX13_white_3 : decode cX13_white 3 = .ok (.aload_n 0, 1) := dX13_white_0g.2.2.2.1
theorem dX13_white_4 : decode cX13_white 4 = .ok (.iconst 0, 1) := dX13_white_0g.2.2.2.2.1
theorem dX13_white_5 : decode cX13_white 5 = .ok (.invokevirtual 282, 3) := dX13_white_0g.2.2.2.2.2.1
theorem dX13_white_8 : decode cX13_white 8 = .ok (.invokevirtual 286, 3) := dX13_white_0g.2.2.2.2.2.2.1
theorem dX13_white_11 : decode cX13_white 11 = .ok (.ifCond .eq 19, 3) := dX13_white_0g.2.2.2.2.2.2.2.1
theorem dX13_white_14 : decode cX13_white 14 = .ok (.aload_n 0, 1) := dX13_white_0g.2.2.2.2.2.2.2.2.1
theorem dX13_white_15 : decode cX13_white 15 = .ok (.dup, 1) := dX13_white_0g.2.2.2.2.2.2.2.2.2.1
theorem dX13_white_16 : decode cX13_white 16 = .ok (.getfield 279, 3) := dX13_white_0g.2.2.2.2.2.2.2.2.2.2.1
theorem dX13_white_19 : decode cX13_white 19 = .ok (.iconst 1, 1) := dX13_white_0g.2.2.2.2.2.2.2.2.2.2.2.1
theorem dX13_white_20 : decode cX13_white 20 = .ok (.iadd, 1) := dX13_white_0g.2.2.2.2.2.2.2.2.2.2.2.2.1
theorem dX13_white_21 : decode cX13_white 21 = .ok (.putfield 279, 3) := dX13_white_0g.2.2.2.2.2.2.2.2.2.2.2.2.2.1
theorem dX13_white_24 : decode cX13_white 24 = .ok (.iinc 1 1, 3) := dX13_white_0g.2.2.2.2.2.2.2.2.2.2.2.2.2.2.1
theorem dX13_white_27 : decode cX13_white 27 = .ok (.goto (-25), 3) := dX13_white_0g.2.2.2.2.2.2.2.2.2.2.2.2.2.2.2
theorem dX13_white_30 : decode cX13_white 30 = .ok (.iload_n 1, 1) := by decide +kernel
theorem dX13_white_31 : decode cX13_white 31 = .ok (.ireturn, 1) := by decide +kernel
theorem dX13_must_0g : decode cX13_must 0 = .ok (.aload_n 0, 1) ∧ decode cX13_must 1 = .ok (.getfield 276, 3) ∧ decode cX13_must 4 = .ok (.ifCond .eq 4, 3) ∧ decode cX13_must 7 = .ok (.return_, 1) ∧ decode cX13_must 8 = .ok (.aload_n 0, 1) ∧ decode cX13_must 9 = .ok (.iconst 0, 1) ∧ decode cX13_must 10 = .ok (.invokevirtual 282, 3) ∧ decode cX13_must 13 = .ok (.iload_n 1, 1) ∧ decode cX13_must 14 = .ok (.if_icmp .ne 16, 3) ∧ decode cX13_must 17 = .ok (.aload_n 0, 1) ∧ decode cX13_must 18 = .ok (.dup, 1) ∧ decode cX13_must 19 = .ok (.getfield 279, 3) ∧ decode cX13_must 22 = .ok (.iconst 1, 1) ∧ decode cX13_must 23 = .ok (.iadd, 1) ∧ decode cX13_must 24 = .ok (.putfield 279, 3) ∧ decode cX13_must 27 = .ok (.goto 11, 3) := by decide +kernel
theorem dX13_must_0 : decode cX13_must 0 = .ok (.aload_n 0, 1) := dX13_must_0g.1
theorem dX13_must_1 : decode cX13_must 1 = .ok (.getfield 276, 3) := dX13_must_0g.2.1
theorem dX13_must_4 : decode cX13_must 4 = .ok (.ifCond .eq 4, 3) := dX13_must_0g.2.2.1
theorem dX13_must_7 : decode cX13_must 7 = .ok (.return_, 1) := dX13_must_0g.2.2.2.1
theorem dX13_must_8 : decode cX13_must 8 = .ok (.aload_n 0, 1) := dX13_must_0g.2.2.2.2.1
theorem dX13_must_9 : decode cX13_must 9 = .ok (.iconst 0, 1) := dX13_must_0g.2.2.2.2.2.1
theorem dX13_must_10 : decode cX13_must 10 = .ok (.invokevirtual 282, 3) := dX13_must_0g.2.2.2.2.2.2.1
theorem dX13_must_13 : decode cX13_must 13 = .ok (.iload_n 1, 1) := dX13_must_0g.2.2.2.2.2.2.2.1
theorem dX13_must_14 : decode cX13_must 14 = .ok (.if_icmp .ne 16, 3) := dX13_must_0g.2.2.2.2.2.2.2.2.1
theorem dX13_must_17 : decode cX13_must 17 = .ok (.aload_n 0, 1) := dX13_must_0g.2.2.2.2.2.2.2.2.2.1
theorem dX13_must_18 : decode cX13_must 18 = .ok (.dup, 1) := dX13_must_0g.2.2.2.2.2.2.2.2.2.2.1
theorem dX13_must_19 : decode cX13_must 19 = .ok (.getfield 279, 3) := dX13_must_0g.2.2.2.2.2.2.2.2.2.2.2.1
theorem dX13_must_22 : decode cX13_must 22 = .ok (.iconst 1, 1) := dX13_must_0g.2.2.2.2.2.2.2.2.2.2.2.2.1
theorem dX13_must_23 : decode cX13_must 23 = .ok (.iadd, 1) := dX13_must_0g.2.2.2.2.2.2.2.2.2.2.2.2.2.1
theorem dX13_must_24 : decode cX13_must 24 = .ok (.putfield 279, 3) := dX13_must_0g.2.2.2.2.2.2.2.2.2.2.2.2.2.2.1
theorem dX13_must_27 : decode cX13_must 27 = .ok (.goto 11, 3) := dX13_must_0g.2.2.2.2.2.2.2.2.2.2.2.2.2.2.2
theorem dX13_must_30g : decode cX13_must 30 = .ok (.aload_n 0, 1) ∧ decode cX13_must 31 = .ok (.aload_n 0, 1) ∧ decode cX13_must 32 = .ok (.getfield 279, 3) ∧ decode cX13_must 35 = .ok (.invokevirtual 289, 3) ∧ decode cX13_must 38 = .ok (.return_, 1) := by decide +kernel
theorem dX13_must_30 : decode cX13_must 30 = .ok (.aload_n 0, 1) := dX13_must_30g.1
theorem dX13_must_31 : decode cX13_must 31 = .ok (.aload_n 0, 1) := dX13_must_30g.2.1
theorem dX13_must_32 : decode cX13_must 32 = .ok (.getfield 279, 3) := dX13_must_30g.2.2.1
theorem dX13_must_35 : decode cX13_must 35 = .ok (.invokevirtual 289, 3) := dX13_must_30g.2.2.2.1
theorem dX13_must_38 : decode cX13_must 38 = .ok (.return_, 1) := dX13_must_30g.2.2.2.2
theorem dX13_comment_0g : decode cX13_comment 0 = .ok (.aload_n 0, 1) ∧ decode cX13_comment 1 = .ok (.bipush 60, 2) ∧ decode cX13_comment 3 = .ok (.invokevirtual 293, 3) ∧ decode cX13_comment 6 = .ok (.aload_n 0, 1) ∧ decode cX13_comment 7 = .ok (.bipush 33, 2) ∧ decode cX13_comment 9 = .ok (.invokevirtual 293, 3) ∧ decode cX13_comment 12 = .ok (.aload_n 0, 1) ∧ decode cX13_comment 13 = .ok (.bipush 45, 2) ∧ decode cX13_comment 15 = .ok (.invokevirtual 293, 3) ∧ decode cX13_comment 18 = .ok (.aload_n 0, 1) ∧ decode cX13_comment 19 = .ok (.bipush 45, 2) ∧ decode cX13_comment 21 = .ok (.invokevirtual 293, 3) ∧ decode cX13_comment 24 = .ok (.iconst 1, 1) ∧ decode cX13_comment 25 = .ok (.istore_n 1, 1) ∧ decode cX13_comment 26 = .ok (.iload_n 1, 1) ∧ decode cX13_comment 27 = .ok (.ifCond .eq 114, 3) := by decide +kernel
theorem dX13_comment_0 : decode cX13_comment 0 = .ok (.aload_n 0, 1) := dX13_comment_0g.1
theorem dX13_comment_1 : decode cX13_comment 1 = .ok (.bipush 60, 2) := dX13_comment_0g.2.1
theorem dX13_comment_3 : decode cX13_comment 3 = .ok (.invokevirtual 293, 3) := dX13_comment_0g.2.2.1
theorem dX13_comment_6 : decode cX13_comment 6 = .ok (.aload_n 0, 1) := dX13_comment_0g.2.2.2.1
theorem dX13_comment_7 : decode cX13_comment 7 = .ok (.bipush 33, 2) := dX13_comment_0g.2.2.2.2.1
theorem dX13_comment_9 : decode cX13_comment 9 = .ok (.invokevirtual 293, 3) := dX13_comment_0g.2.2.2.2.2.1
theorem dX13_comment_12 : decode cX13_comment 12 = .ok (.aload_n 0, 1) := dX13_comment_0g.2.2.2.2.2.2.1
theorem dX13_comment_13 : decode cX13_comment 13 = .ok (.bipush 45, 2) := dX13_comment_0g.2.2.2.2.2.2.2.1
theorem dX13_comment_15 : decode cX13_comment 15 = .ok (.invokevirtual 293, 3) := dX13_comment_0g.2.2.2.2.2.2.2.2.1
theorem dX13_comment_18 : decode cX13_comment 18 = .ok (.aload_n 0, 1) := dX13_comment_0g.2.2.2.2.2.2.2.2.2.1
theorem dX13_comment_19 : decode cX13_comment 19 = .ok (.bipush 45, 2) := dX13_comment_0g.2.2.2.2.2.2.2.2.2.2.1
theorem dX13_comment_21 : decode cX13_comment 21 = .ok (.invokevirtual 293, 3) := dX13_comment_0g.2.2.2.2.2.2.2.2.2.2.2.1
theorem dX13_comment_24 : decode cX13_comment 24 = .ok (.iconst 1, 1) := dX13_comment_0g.2.2.2.2.2.2.2.2.2.2.2.2.1
theorem dX13_comment_25 : decode cX13_comment 25 = .ok (.istore_n 1, 1) := dX13_comment_0g.2.2.2.2.2.2.2.2.2.2.2.2.2.1
theorem dX13_comment_26 : decode cX13_comment 26 = .ok (.iload_n 1, 1) := dX13_comment_0g.2.2.2.2.2.2.2.2.2.2.2.2.2.2.1
theorem dX13_comment_27 : decode cX13_comment 27 = .ok (.ifCond .eq 114, 3) := dX13_comment_0g.2.2.2.2.2.2.2.2.2.2.2.2.2.2.2
theorem dX13_comment_30g : decode cX13_comment 30 = .ok (.aload_n 0, 1) ∧ decode cX13_comment 31 = .ok (.getfield 276, 3) ∧ decode cX13_comment 34 = .ok (.ifCond .ne 107, 3) ∧ decode cX13_comment 37 = .ok (.aload_n 0, 1) ∧ decode cX13_comment 38 = .ok (.iconst 0, 1) ∧ decode cX13_comment 39 = .ok (.invokevirtual 282, 3) ∧ decode cX13_comment 42 = .ok (.iconst (-1), 1) ∧ decode cX13_comment 43 = .ok (.if_icmp .ne 14, 3) ∧ decode cX13_comment 46 = .ok (.aload_n 0, 1) ∧ decode cX13_comment 47 = .ok (.aload_n 0, 1) ∧ decode cX13_comment 48 = .ok (.getfield 273, 3) ∧ decode cX13_comment 51 = .ok (.invokevirtual 289, 3) ∧ decode cX13_comment 54 = .ok (.goto (-28), 3) ∧ decode cX13_comment 57 = .ok (.aload_n 0, 1) ∧ decode cX13_comment 58 = .ok (.iconst 0, 1) ∧ decode cX13_comment 59 = .ok (.invokevirtual 282, 3) := by decide +kernel
theorem dX13_comment_30 : decode cX13_comment 30 = .ok (.aload_n 0, 1) := dX13_comment_30g.1
theorem dX13_comment_31 : decode cX13_comment 31 = .ok (.getfield 276, 3) := dX13_comment_30g.2.1
theorem dX13_comment_34 : decode cX13_comment 34 = .ok (.ifCond .ne 107, 3) := dX13_comment_30g.2.2.1
theorem dX13_comment_37 : decode cX13_comment 37 = .ok (.aload_n 0, 1) := dX13_comment_30g.2.2.2.1
theorem dX13_comment_38 : decode cX13_comment 38 = .ok (.iconst 0, 1) := dX13_comment_30g.2.2.2.2.1
theorem dX13_comment_39 : decode cX13_comment 39 = .ok (.invokevirtual 282, 3) := dX13_comment_30g.2.2.2.2.2.1
theorem dX13_comment_42 : decode cX13_comment 42 = .ok (.iconst (-1), 1) := dX13_comment_30g.2.2.2.2.2.2.1
theorem dX13_comment_43 : decode cX13_comment 43 = .ok (.if_icmp .ne 14, 3) := dX13_comment_30g.2.2.2.2.2.2.2.1
theorem dX13_comment_46 : decode cX13_comment 46 = .ok (.aload_n 0, 1) := dX13_comment_30g.2.2.2.2.2.2.2.2.1
theorem dX13_comment_47 : decode cX13_comment 47 = .ok (.aload_n 0, 1) := dX13_comment_30g.2.2.2.2.2.2.2.2.2.1
theorem dX13_comment_48 : decode cX13_comment 48 = .ok (.getfield 273, 3) := dX13_comment_30g.2.2.2.2.2.2.2.2.2.2.1
theorem dX13_comment_51 : decode cX13_comment 51 = .ok (.invokevirtual 289, 3) := dX13_comment_30g.2.2.2.2.2.2.2.2.2.2.2.1
theorem dX13_comment_54 : decode cX13_comment 54 = .ok (.goto (-28), 3) := dX13_comment_30g.2.2.2.2.2.2.2.2.2.2.2.2.1
theorem dX13_comment_57 : decode cX13_comment 57 = .ok (.aload_n 0, 1) := dX13_comment_30g.2.2.2.2.2.2.2.2.2.2.2.2.2.1
theorem dX13_comment_58 : decode cX13_comment 58 = .ok (.iconst 0, 1) := dX13_comment_30g.2.2.2.2.2.2.2.2.2.2.2.2.2.2.1
theorem dX13_comment_59 : decode cX13_comment 59 = .ok (.invokevirtual 282, 3) := dX13_comment_30g.2.2.2.2.2.2.2.2.2.2.2.2.2.2.2
theorem dX13_comment_62g : decode cX13_comment 62 = .ok (.bipush 45, 2) ∧ decode cX13_comment 64 = .ok (.if_icmp .ne 64, 3) ∧ decode cX13_comment 67 = .ok (.aload_n 0, 1) ∧ decode cX13_comment 68 = .ok (.iconst 1, 1) ∧ decode cX13_comment 69 = .ok (.invokevirtual 282, 3) ∧ decode cX13_comment 72 = .ok (.bipush 45, 2) ∧ decode cX13_comment 74 = .ok (.if_icmp .ne 54, 3) ∧ decode cX13_comment 77 = .ok (.iconst 0, 1) ∧ decode cX13_comment 78 = .ok (.istore_n 1, 1) ∧ decode cX13_comment 79 = .ok (.aload_n 0, 1) ∧ decode cX13_comment 80 = .ok (.iconst 2, 1) ∧ decode cX13_comment 81 = .ok (.invokevirtual 282, 3) ∧ decode cX13_comment 84 = .ok (.bipush 62, 2) ∧ decode cX13_comment 86 = .ok (.if_icmp .eq 29, 3) ∧ decode cX13_comment 89 = .ok (.aload_n 0, 1) ∧ decode cX13_comment 90 = .ok (.aload_n 0, 1) := by decide +kernel
theorem dX13_comment_62 : decode cX13_comment 62 = .ok (.bipush 45, 2) := dX13_comment_62g.1
theorem dX13_comment_64 : decode cX13_comment 64 = .ok (.if_icmp .ne 64, 3) := dX13_comment_62g.2.1
theorem dX13_comment_67 : decode cX13_comment 67 = .ok (.aload_n 0, 1) := dX13_comment_62g.2.2.1
theorem dX13_comment_68 : decode cX13_comment 68 = .ok (.iconst 1, 1) := dX13_comment_62g.2.2.2.1
theorem dX13_comment_69 : decode cX13_comment 69 = .ok (.invokevirtual 282, 3) := dX13_comment_62g.2.2.2.2.1
theorem dX13_comment_72 : decode cX13_comment 72 = .ok (.bipush 45, 2) := dX13_comment_62g.2.2.2.2.2.1
theorem dX13_comment_74 : decode cX13_comment 74 = .ok (.if_icmp .ne 54, 3) := dX13_comment_62g.2.2.2.2.2.2.1
theorem dX13_comment_77 : decode cX13_comment 77 = .ok (.iconst 0, 1) := dX13_comment_62g.2.2.2.2.2.2.2.1
theorem dX13_comment_78 : decode cX13_comment 78 = .ok (.istore_n 1, 1) := dX13_comment_62g.2.2.2.2.2.2.2.2.1
theorem dX13_comment_79 : decode cX13_comment 79 = .ok (.aload_n 0, 1) := dX13_comment_62g.2.2.2.2.2.2.2.2.2.1
theorem dX13_comment_80 : decode cX13_comment 80 = .ok (.iconst 2, 1) := dX13_comment_62g.2.2.2.2.2.2.2.2.2.2.1
theorem dX13_comment_81 : decode cX13_comment 81 = .ok (.invokevirtual 282, 3) := dX13_comment_62g.2.2.2.2.2.2.2.2.2.2.2.1
theorem dX13_comment_84 : decode cX13_comment 84 = .ok (.bipush 62, 2) := dX13_comment_62g.2.2.2.2.2.2.2.2.2.2.2.2.1
theorem dX13_comment_86 : decode cX13_comment 86 = .ok (.if_icmp .eq 29, 3) := dX13_comment_62g.2.2.2.2.2.2.2.2.2.2.2.2.2.1
theorem dX13_comment_89 : decode cX13_comment 89 = .ok (.aload_n 0, 1) := dX13_comment_62g.2.2.2.2.2.2.2.2.2.2.2.2.2.2.1
theorem dX13_comment_90 : decode cX13_comment 90 = .ok (.aload_n 0, 1) := dX13_comment_62g.2.2.2.2.2.2.2.2.2.2.2.2.2.2.2
theorem dX13_comment_91g : decode cX13_comment 91 = .ok (.iconst 2, 1) ∧ decode cX13_comment 92 = .ok (.invokevirtual 282, 3) ∧ decode cX13_comment 95 = .ok (.iconst (-1), 1) ∧ decode cX13_comment 96 = .ok (.if_icmp .ne 10, 3) ∧ decode cX13_comment 99 = .ok (.aload_n 0, 1) ∧ decode cX13_comment 100 = .ok (.getfield 273, 3) ∧ decode cX13_comment 103 = .ok (.goto 9, 3) ∧ decode cX13_comment 106 = .ok (.aload_n 0, 1) ∧ decode cX13_comment 107 = .ok (.getfield 279, 3) ∧ decode cX13_comment 110 = .ok (.iconst 1, 1) ∧ decode cX13_comment 111 = .ok (.iadd, 1) ∧ decode cX13_comment 112 = .ok (.invokevirtual 289, 3) ∧ decode cX13_comment 115 = .ok (.aload_n 0, 1) ∧ decode cX13_comment 116 = .ok (.dup, 1) ∧ decode cX13_comment 117 = .ok (.getfield 279, 3) ∧ decode cX13_comment 120 = .ok (.iconst 3, 1) := by decide +kernel
theorem dX13_comment_91 : decode cX13_comment 91 = .ok (.iconst 2, 1) := dX13_comment_91g.1
theorem dX13_comment_92 : decode cX13_comment 92 = .ok (.invokevirtual 282, 3) := dX13_comment_91g.2.1
theorem dX13_comment_95 : decode cX13_comment 95 = .ok (.iconst (-1), 1) := dX13_comment_91g.2.2.1
theorem dX13_comment_96 : decode cX13_comment 96 = .ok (.if_icmp .ne 10, 3) := dX13_comment_91g.2.2.2.1
theorem dX13_comment_99 : decode cX13_comment 99 = .ok (.aload_n 0, 1) := dX13_comment_91g.2.2.2.2.1
theorem dX13_comment_100 : decode cX13_comment 100 = .ok (.getfield 273, 3) := dX13_comment_91g.2.2.2.2.2.1
theorem dX13_comment_103 : decode cX13_comment 103 = .ok (.goto 9, 3) := dX13_comment_91g.2.2.2.2.2.2.1
theorem dX13_comment_106 : decode cX13_comment 106 = .ok (.aload_n 0, 1) := dX13_comment_91g.2.2.2.2.2.2.2.1
theorem dX13_comment_107 : decode cX13_comment 107 = .ok (.getfield 279, 3) := dX13_comment_91g.2.2.2.2.2.2.2.2.1
theorem dX13_comment_110 : decode cX13_comment 110 = .ok (.iconst 1, 1) := dX13_comment_91g.2.2.2.2.2.2.2.2.2.1
theorem dX13_comment_111 : decode cX13_comment 111 = .ok (.iadd, 1) := dX13_comment_91g.2.2.2.2.2.2.2.2.2.2.1
theorem dX13_comment_112 : decode cX13_comment 112 = .ok (.invokevirtual 289, 3) := dX13_comment_91g.2.2.2.2.2.2.2.2.2.2.2.1
theorem dX13_comment_115 : decode cX13_comment 115 = .ok (.aload_n 0, 1) := dX13_comment_91g.2.2.2.2.2.2.2.2.2.2.2.2.1
theorem dX13_comment_116 : decode cX13_comment 116 = .ok (.dup, 1) := dX13_comment_91g.2.2.2.2.2.2.2.2.2.2.2.2.2.1
theorem dX13_comment_117 : decode cX13_comment 117 = .ok (.getfield 279, 3) := dX13_comment_91g.2.2.2.2.2.2.2.2.2.2.2.2.2.2.1
theorem dX13_comment_120 : decode cX13_comment 120 = .ok (.iconst 3, 1) := dX13_comment_91g.2.2.2.2.2.2.2.2.2.2.2.2.2.2.2
theorem dX13_comment_121g : decode cX13_comment 121 = .ok (.iadd, 1) ∧ decode cX13_comment 122 = .ok (.putfield 279, 3) ∧ decode cX13_comment 125 = .ok (.goto (-99), 3) ∧ decode cX13_comment 128 = .ok (.aload_n 0, 1) ∧ decode cX13_comment 129 = .ok (.dup, 1) ∧ decode cX13_comment 130 = .ok (.getfield 279, 3) ∧ decode cX13_comment 133 = .ok (.iconst 1, 1) ∧ decode cX13_comment 134 = .ok (.iadd, 1) ∧ decode cX13_comment 135 = .ok (.putfield 279, 3) ∧ decode cX13_comment 138 = .ok (.goto (-112), 3) ∧ decode cX13_comment 141 = .ok (.return_, 1) := by decide +kernel
theorem dX13_comment_121 : decode cX13_comment 121 = .ok (.iadd, 1) := dX13_comment_121g.1
theorem dX13_comment_122 : decode cX13_comment 122 = .ok (.putfield 279, 3) := dX13_comment_121g.2.1
theorem dX13_comment_125 : decode cX13_comment 125 = .ok (.goto (-99), 3) := dX13_comment_121g.2.2.1
theorem dX13_comment_128 : decode cX13_comment 128 = .ok (.aload_n 0, 1) := dX13_comment_121g.2.2.2.1
theorem dX13_comment_129 : decode cX13_comment 129 = .ok (.dup, 1) := dX13_comment_121g.2.2.2.2.1
theorem dX13_comment_130 : decode cX13_comment 130 = .ok (.getfield 279, 3) := dX13_comment_121g.2.2.2.2.2.1
theorem dX13_comment_133 : decode cX13_comment 133 = .ok (.iconst 1, 1) := dX13_comment_121g.2.2.2.2.2.2.1
theorem dX13_comment_134 : decode cX13_comment 134 = .ok (.iadd, 1) := dX13_comment_121g.2.2.2.2.2.2.2.1
theorem dX13_comment_135 : decode cX13_comment 135 = .ok (.putfield 279, 3) := dX13_comment_121g.2.2.2.2.2.2.2.2.1
theorem dX13_comment_138 : decode cX13_comment 138 = .ok (.goto (-112), 3) := dX13_comment_121g.2.2.2.2.2.2.2.2.2.1
theorem dX13_comment_141 : decode cX13_comment 141 = .ok (.return_, 1) := dX13_comment_121g.2.2.2.2.2.2.2.2.2.2
theorem dX13_between_0g : decode cX13_between 0 = .ok (.aload_n 0, 1) ∧ decode cX13_between 1 = .ok (.invokevirtual 296, 3) ∧ decode cX13_between 4 = .ok (.istore_n 1, 1) ∧ decode cX13_between 5 = .ok (.aload_n 0, 1) ∧ decode cX13_between 6 = .ok (.getfield 276, 3) ∧ decode cX13_between 9 = .ok (.ifCond .ne 37, 3) ∧ decode cX13_between 12 = .ok (.aload_n 0, 1) ∧ decode cX13_between 13 = .ok (.iconst 0, 1) ∧ decode cX13_between 14 = .ok (.invokevirtual 282, 3) ∧ decode cX13_between 17 = .ok (.bipush 60, 2) ∧ decode cX13_between 19 = .ok (.if_icmp .ne 27, 3) ∧ decode cX13_between 22 = .ok (.aload_n 0, 1) ∧ decode cX13_between 23 = .ok (.iconst 1, 1) ∧ decode cX13_between 24 = .ok (.invokevirtual 282, 3) ∧ decode cX13_between 27 = .ok (.bipush 33, 2) ∧ decode cX13_between 29 = .ok (.if_icmp .ne 17, 3) := by decide +kernel
theorem dX13_between_0 : decode cX13_between 0 = .ok (.aload_n 0, 1) := dX13_between_0g.1
theorem dX13_between_1 : decode cX13_between 1 = .ok (.invokevirtual 296, 3) := dX13_between_0g.2.1
theorem dX13_between_4 : decode cX13_between 4 = .ok (.istore_n 1, 1) := dX13_between_0g.2.2.1
theorem dX13_between_5 : decode cX13_between 5 = .ok (.aload_n 0, 1) := dX13_between_0g.2.2.2.1
theorem dX13_between_6 : decode cX13_between 6 = .ok (.getfield 276, 3) := dX13_between_0g.2.2.2.2.1
theorem dX13_between_9 : decode cX13_between 9 = .ok (.ifCond .ne 37, 3) := dX13_between_0g.2.2.2.2.2.1
theorem dX13_between_12 : decode cX13_between 12 = .ok (.aload_n 0, 1) := dX13_between_0g.2.2.2.2.2.2.1
theorem dX13_between_13 : decode cX13_between 13 = .ok (.iconst 0, 1) := dX13_between_0g.2.2.2.2.2.2.2.1
theorem dX13_between_14 : decode cX13_between 14 = .ok (.invokevirtual 282, 3) := dX13_between_0g.2.2.2.2.2.2.2.2.1
theorem dX13_between_17 : decode cX13_between 17 = .ok (.bipush 60, 2) := dX13_between_0g.2.2.2.2.2.2.2.2.2.1
theorem dX13_between_19 : decode cX13_between 19 = .ok (.if_icmp .ne 27, 3) := dX13_between_0g.2.2.2.2.2.2.2.2.2.2.1
theorem dX13_between_22 : decode cX13_between 22 = .ok (.aload_n 0, 1) := dX13_between_0g.2.2.2.2.2.2.2.2.2.2.2.1
theorem dX13_between_23 : decode cX13_between 23 = .ok (.iconst 1, 1) := dX13_between_0g.2.2.2.2.2.2.2.2.2.2.2.2.1
theorem dX13_between_24 : decode cX13_between 24 = .ok (.invokevirtual 282, 3) := dX13_between_0g.2.2.2.2.2.2.2.2.2.2.2.2.2.1
theorem dX13_between_27 : decode cX13_between 27 = .ok (.bipush 33, 2) := dX13_between_0g.2.2.2.2.2.2.2.2.2.2.2.2.2.2.1
theorem dX13_between_29 : decode cX13_between 29 = .ok (.if_icmp .ne 17, 3) := dX13_between_0g.2.2.2.2.2.2.2.2.2.2.2.2.2.2.2
theorem dX13_between_32g : decode cX13_between 32 = .ok (.aload_n 0, 1) ∧ decode cX13_between 33 = .ok (.invokevirtual 300, 3) ∧ decode cX13_between 36 = .ok (.iload_n 1, 1) ∧ decode cX13_between 37 = .ok (.aload_n 0, 1) ∧ decode cX13_between 38 = .ok (.invokevirtual 296, 3) ∧ decode cX13_between 41 = .ok (.iadd, 1) ∧ decode cX13_between 42 = .ok (.istore_n 1, 1) ∧ decode cX13_between 43 = .ok (.goto (-38), 3) ∧ decode cX13_between 46 = .ok (.return_, 1) := by decide +kernel
theorem dX13_between_32 : decode cX13_between 32 = .ok (.aload_n 0, 1) := dX13_between_32g.1
theorem dX13_between_33 : decode cX13_between 33 = .ok (.invokevirtual 300, 3) := dX13_between_32g.2.1
theorem dX13_between_36 : decode cX13_between 36 = .ok (.iload_n 1, 1) := dX13_between_32g.2.2.1
theorem dX13_between_37 : decode cX13_between 37 = .ok (.aload_n 0, 1) := dX13_between_32g.2.2.2.1
theorem dX13_between_38 : decode cX13_between 38 = .ok (.invokevirtual 296, 3) := dX13_between_32g.2.2.2.2.1
theorem dX13_between_41 : decode cX13_between 41 = .ok (.iadd, 1) := dX13_between_32g.2.2.2.2.2.1
theorem dX13_between_42 : decode cX13_between 42 = .ok (.istore_n 1, 1) := dX13_between_32g.2.2.2.2.2.2.1
theorem dX13_between_43 : decode cX13_between 43 = .ok (.goto (-38), 3) := dX13_between_32g.2.2.2.2.2.2.2.1
theorem dX13_between_46 : decode cX13_between 46 = .ok (.return_, 1) := dX13_between_32g.2.2.2.2.2.2.2.2
theorem dX13_name_0g : decode cX13_name 0 = .ok (.lconst 0, 1) ∧ decode cX13_name 1 = .ok (.lstore_n 1, 1) ∧ decode cX13_name 2 = .ok (.iconst 0, 1) ∧ decode cX13_name 3 = .ok (.istore_n 3, 1) ∧ decode cX13_name 4 = .ok (.aload_n 0, 1) ∧ decode cX13_name 5 = .ok (.aload_n 0, 1) ∧ decode cX13_name 6 = .ok (.iconst 0, 1) ∧ decode cX13_name 7 = .ok (.invokevirtual 282, 3) ∧ decode cX13_name 10 = .ok (.invokevirtual 303, 3) ∧ decode cX13_name 13 = .ok (.ifCond .eq 52, 3) ∧ decode cX13_name 16 = .ok (.aload_n 0, 1) ∧ decode cX13_name 17 = .ok (.getfield 276, 3) ∧ decode cX13_name 20 = .ok (.ifCond .ne 45, 3) ∧ decode cX13_name 23 = .ok (.iload_n 3, 1) ∧ decode cX13_name 24 = .ok (.bipush 8, 2) ∧ decode cX13_name 26 = .ok (.if_icmp .ne 11, 3) := by decide +kernel
theorem dX13_name_0 : decode cX13_name 0 = .ok (.lconst 0, 1) := dX13_name_0g.1
theorem dX13_name_1 : decode cX13_name 1 = .ok (.lstore_n 1, 1) := dX13_name_0g.2.1
theorem dX13_name_2 : decode cX13_name 2 = .ok (.iconst 0, 1) := dX13_name_0g.2.2.1
theorem dX13_name_3 : decode cX13_name 3 = .ok (.istore_n 3, 1) := dX13_name_0g.2.2.2.1
theorem dX13_name_4 : decode cX13_name 4 = .ok (.aload_n 0, 1) := dX13_name_0g.2.2.2.2.1
theorem dX13_name_5 : decode cX13_name 5 = .ok (.aload_n 0, 1) := dX13_name_0g.2.2.2.2.2.1
theorem dX13_name_6 : decode cX13_name 6 = .ok (.iconst 0, 1) := dX13_name_0g.2.2.2.2.2.2.1
theorem dX13_name_7 : decode cX13_name 7 = .ok (.invokevirtual 282, 3) := dX13_name_0g.2.2.2.2.2.2.2.1
theorem dX13_name_10 : decode cX13_name 10 = .ok (.invokevirtual 303, 3) := dX13_name_0g.2.2.2.2.2.2.2.2.1
theorem dX13_name_13 : decode cX13_name 13 = .ok (.ifCond .eq 52, 3) := dX13_name_0g.2.2.2.2.2.2.2.2.2.1
theorem dX13_name_16 : decode cX13_name 16 = .ok (.aload_n 0, 1) := dX13_name_0g.2.2.2.2.2.2.2.2.2.2.1
theorem dX13_name_17 : decode cX13_name 17 = .ok (.getfield 276, 3) := dX13_name_0g.2.2.2.2.2.2.2.2.2.2.2.1
theorem dX13_name_20 : decode cX13_name 20 = .ok (.ifCond .ne 45, 3) := dX13_name_0g.2.2.2.2.2.2.2.2.2.2.2.2.1
theorem dX13_name_23 : decode cX13_name 23 = .ok (.iload_n 3, 1) := dX13_name_0g.2.2.2.2.2.2.2.2.2.2.2.2.2.1
theorem dX13_name_24 : decode cX13_name 24 = .ok (.bipush 8, 2) := dX13_name_0g.2.2.2.2.2.2.2.2.2.2.2.2.2.2.1
theorem dX13_name_26 : decode cX13_name 26 = .ok (.if_icmp .ne 11, 3) := dX13_name_0g.2.2.2.2.2.2.2.2.2.2.2.2.2.2.2
theorem dX13_name_29g : decode cX13_name 29 = .ok (.aload_n 0, 1) ∧ decode cX13_name 30 = .ok (.aload_n 0, 1) ∧ decode cX13_name 31 = .ok (.getfield 279, 3) ∧ decode cX13_name 34 = .ok (.invokevirtual 289, 3) ∧ decode cX13_name 37 = .ok (.lload_n 1, 1) ∧ decode cX13_name 38 = .ok (.bipush 8, 2) ∧ decode cX13_name 40 = .ok (.lshl, 1) ∧ decode cX13_name 41 = .ok (.aload_n 0, 1) ∧ decode cX13_name 42 = .ok (.iconst 0, 1) ∧ decode cX13_name 43 = .ok (.invokevirtual 282, 3) ∧ decode cX13_name 46 = .ok (.i2l, 1) ∧ decode cX13_name 47 = .ok (.lor, 1) ∧ decode cX13_name 48 = .ok (.lstore_n 1, 1) ∧ decode cX13_name 49 = .ok (.iinc 3 1, 3) ∧ decode cX13_name 52 = .ok (.aload_n 0, 1) ∧ decode cX13_name 53 = .ok (.dup, 1) := by decide +kernel
theorem dX13_name_29 : decode cX13_name 29 = .ok (.aload_n 0, 1) := dX13_name_29g.1
theorem dX13_name_30 : decode cX13_name 30 = .ok (.aload_n 0, 1) := dX13_name_29g.2.1
theorem dX13_name_31 : decode cX13_name 31 = .ok (.getfield 279, 3) := dX13_name_29g.2.2.1
theorem dX13_name_34 : decode cX13_name 34 = .ok (.invokevirtual 289, 3) := dX13_name_29g.2.2.2.1
theorem dX13_name_37 : decode cX13_name 37 = .ok (.lload_n 1, 1) := dX13_name_29g.2.2.2.2.1
theorem dX13_name_38 : decode cX13_name 38 = .ok (.bipush 8, 2) := dX13_name_29g.2.2.2.2.2.1
theorem dX13_name_40 : decode cX13_name 40 = .ok (.lshl, 1) := dX13_name_29g.2.2.2.2.2.2.1
theorem dX13_name_41 : decode cX13_name 41 = .ok (.aload_n 0, 1) := dX13_name_29g.2.2.2.2.2.2.2.1
theorem dX13_name_42 : decode cX13_name 42 = .ok (.iconst 0, 1) := dX13_name_29g.2.2.2.2.2.2.2.2.1
theorem dX13_name_43 : decode cX13_name 43 = .ok (.invokevirtual 282, 3) := dX13_name_29g.2.2.2.2.2.2.2.2.2.1
theorem dX13_name_46 : decode cX13_name 46 = .ok (.i2l, 1) := dX13_name_29g.2.2.2.2.2.2.2.2.2.2.1
theorem dX13_name_47 : decode cX13_name 47 = .ok (.lor, 1) := dX13_name_29g.2.2.2.2.2.2.2.2.2.2.2.1
theorem dX13_name_48 : decode cX13_name 48 = .ok (.lstore_n 1, 1) := dX13_name_29g.2.2.2.2.2.2.2.2.2.2.2.2.1
theorem dX13_name_49 : decode cX13_name 49 = .ok (.iinc 3 1, 3) := dX13_name_29g.2.2.2.2.2.2.2.2.2.2.2.2.2.1
theorem dX13_name_52 : decode cX13_name 52 = .ok (.aload_n 0, 1) := dX13_name_29g.2.2.2.2.2.2.2.2.2.2.2.2.2.2.1
theorem dX13_name_53 : decode cX13_name 53 = .ok (.dup, 1) := dX13_name_29g.2.2.2.2.2.2.2.2.2.2.2.2.2.2.2
theorem dX13_name_54g : decode cX13_name 54 = .ok (.getfield 279, 3) ∧ decode cX13_name 57 = .ok (.iconst 1, 1) ∧ decode cX13_name 58 = .ok (.iadd, 1) ∧ decode cX13_name 59 = .ok (.putfield 279, 3) ∧ decode cX13_name 62 = .ok (.goto (-58), 3) ∧ decode cX13_name 65 = .ok (.iload_n 3, 1) ∧ decode cX13_name 66 = .ok (.ifCond .ne 11, 3) ∧ decode cX13_name 69 = .ok (.aload_n 0, 1) ∧ decode cX13_name 70 = .ok (.aload_n 0, 1) ∧ decode cX13_name 71 = .ok (.getfield 279, 3) ∧ decode cX13_name 74 = .ok (.invokevirtual 289, 3) ∧ decode cX13_name 77 = .ok (.lload_n 1, 1) ∧ decode cX13_name 78 = .ok (.lreturn, 1) := by decide +kernel
theorem dX13_name_54 : decode cX13_name 54 = .ok (.getfield 279, 3) := dX13_name_54g.1
theorem dX13_name_57 : decode cX13_name 57 = .ok (.iconst 1, 1) := dX13_name_54g.2.1
theorem dX13_name_58 : decode cX13_name 58 = .ok (.iadd, 1) := dX13_name_54g.2.2.1
theorem dX13_name_59 : decode cX13_name 59 = .ok (.putfield 279, 3) := dX13_name_54g.2.2.2.1
theorem dX13_name_62 : decode cX13_name 62 = .ok (.goto (-58), 3) := dX13_name_54g.2.2.2.2.1
theorem dX13_name_65 : decode cX13_name 65 = .ok (.iload_n 3, 1) := dX13_name_54g.2.2.2.2.2.1
theorem dX13_name_66 : decode cX13_name 66 = .ok (.ifCond .ne 11, 3) := dX13_name_54g.2.2.2.2.2.2.1
theorem dX13_name_69 : decode cX13_name 69 = .ok (.aload_n 0, 1) := dX13_name_54g.2.2.2.2.2.2.2.1
theorem dX13_name_70 : decode cX13_name 70 = .ok (.aload_n 0, 1) := dX13_name_54g.2.2.2.2.2.2.2.2.1
theorem dX13_name_71 : decode cX13_name 71 = .ok (.getfield 279, 3) := dX13_name_54g.2.2.2.2.2.2.2.2.2.1
theorem dX13_name_74 : decode cX13_name 74 = .ok (.invokevirtual 289, 3) := dX13_name_54g.2.2.2.2.2.2.2.2.2.2.1
theorem dX13_name_77 : decode cX13_name 77 = .ok (.lload_n 1, 1) := dX13_name_54g.2.2.2.2.2.2.2.2.2.2.2.1
theorem dX13_name_78 : decode cX13_name 78 = .ok (.lreturn, 1) := dX13_name_54g.2.2.2.2.2.2.2.2.2.2.2.2
theorem dX13_entity_0g : decode cX13_entity 0 = .ok (.aload_n 0, 1) ∧ decode cX13_entity 1 = .ok (.dup, 1) ∧ decode cX13_entity 2 = .ok (.getfield 279, 3) ∧ decode cX13_entity 5 = .ok (.iconst 1, 1) ∧ decode cX13_entity 6 = .ok (.iadd, 1) ∧ decode cX13_entity 7 = .ok (.putfield 279, 3) ∧ decode cX13_entity 10 = .ok (.aload_n 0, 1) ∧ decode cX13_entity 11 = .ok (.iconst 0, 1) ∧ decode cX13_entity 12 = .ok (.invokevirtual 282, 3) ∧ decode cX13_entity 15 = .ok (.bipush 35, 2) ∧ decode cX13_entity 17 = .ok (.if_icmp .ne 8, 3) ∧ decode cX13_entity 20 = .ok (.aload_n 0, 1) ∧ decode cX13_entity 21 = .ok (.invokevirtual 306, 3) ∧ decode cX13_entity 24 = .ok (.ireturn, 1) ∧ decode cX13_entity 25 = .ok (.iconst 0, 1) ∧ decode cX13_entity 26 = .ok (.istore_n 1, 1) := by decide +kernel
theorem dX13_entity_0 : decode cX13_entity 0 = .ok (.aload_n 0, 1) := dX13_entity_0g.1
theorem dX13_entity_1 : decode cX13_entity 1 = .ok (.dup, 1) := dX13_entity_0g.2.1
theorem dX13_entity_2 : decode cX13_entity 2 = .ok (.getfield 279, 3) := dX13_entity_0g.2.2.1
theorem dX13_entity_5 : decode cX13_entity 5 = .ok (.iconst 1, 1) := dX13_entity_0g.2.2.2.1
theorem dX13_entity_6 : decode cX13_entity 6 = .ok (.iadd, 1) := dX13_entity_0g.2.2.2.2.1
theorem dX13_entity_7 : decode cX13_entity 7 = .ok (.putfield 279, 3) := dX13_entity_0g.2.2.2.2.2.1
theorem dX13_entity_10 : decode cX13_entity 10 = .ok (.aload_n 0, 1) := dX13_entity_0g.2.2.2.2.2.2.1
theorem dX13_entity_11 : decode cX13_entity 11 = .ok (.iconst 0, 1) := dX13_entity_0g.2.2.2.2.2.2.2.1
theorem dX13_entity_12 : decode cX13_entity 12 = .ok (.invokevirtual 282, 3) := dX13_entity_0g.2.2.2.2.2.2.2.2.1
theorem dX13_entity_15 : decode cX13_entity 15 = .ok (.bipush 35, 2) := dX13_entity_0g.2.2.2.2.2.2.2.2.2.1
theorem dX13_entity_17 : decode cX13_entity 17 = .ok (.if_icmp .ne 8, 3) := dX13_entity_0g.2.2.2.2.2.2.2.2.2.2.1
theorem dX13_entity_20 : decode cX13_entity 20 = .ok (.aload_n 0, 1) := dX13_entity_0g.2.2.2.2.2.2.2.2.2.2.2.1
theorem dX13_entity_21 : decode cX13_entity 21 = .ok (.invokevirtual 306, 3) := dX13_entity_0g.2.2.2.2.2.2.2.2.2.2.2.2.1
theorem dX13_entity_24 : decode cX13_entity 24 = .ok (.ireturn, 1) := dX13_entity_0g.2.2.2.2.2.2.2.2.2.2.2.2.2.1
theorem dX13_entity_25 : decode cX13_entity 25 = .ok (.iconst 0, 1) := dX13_entity_0g.2.2.2.2.2.2.2.2.2.2.2.2.2.2.1
theorem dX13_entity_26 : decode cX13_entity 26 = .ok (.istore_n 1, 1) := dX13_entity_0g.2.2.2.2.2.2.2.2.2.2.2.2.2.2.2
theorem dX13_entity_27g : decode cX13_entity 27 = .ok (.aload_n 0, 1) ∧ decode cX13_entity 28 = .ok (.getfield 276, 3) ∧ decode cX13_entity 31 = .ok (.ifCond .ne 109, 3) ∧ decode cX13_entity 34 = .ok (.iconst 0, 1) ∧ decode cX13_entity 35 = .ok (.istore_n 2, 1) ∧ decode cX13_entity 36 = .ok (.iconst 0, 1) ∧ decode cX13_entity 37 = .ok (.istore_n 3, 1) ∧ decode cX13_entity 38 = .ok (.iconst 0, 1) ∧ decode cX13_entity 39 = .ok (.istore 4, 2) ∧ decode cX13_entity 41 = .ok (.iload 4, 2) ∧ decode cX13_entity 43 = .ok (.iconst 5, 1) ∧ decode cX13_entity 44 = .ok (.if_icmp .ge 60, 3) ∧ decode cX13_entity 47 = .ok (.iload_n 1, 1) ∧ decode cX13_entity 48 = .ok (.aload_n 0, 1) ∧ decode cX13_entity 49 = .ok (.getfield 71, 3) ∧ decode cX13_entity 52 = .ok (.iload 4, 2) := by decide +kernel
theorem dX13_entity_27 : decode cX13_entity 27 = .ok (.aload_n 0, 1) := dX13_entity_27g.1
theorem dX13_entity_28 : decode cX13_entity 28 = .ok (.getfield 276, 3) := dX13_entity_27g.2.1
theorem dX13_entity_31 : decode cX13_entity 31 = .ok (.ifCond .ne 109, 3) := dX13_entity_27g.2.2.1
theorem dX13_entity_34 : decode cX13_entity 34 = .ok (.iconst 0, 1) := dX13_entity_27g.2.2.2.1
theorem dX13_entity_35 : decode cX13_entity 35 = .ok (.istore_n 2, 1) := dX13_entity_27g.2.2.2.2.1
theorem dX13_entity_36 : decode cX13_entity 36 = .ok (.iconst 0, 1) := dX13_entity_27g.2.2.2.2.2.1
theorem dX13_entity_37 : decode cX13_entity 37 = .ok (.istore_n 3, 1) := dX13_entity_27g.2.2.2.2.2.2.1
theorem dX13_entity_38 : decode cX13_entity 38 = .ok (.iconst 0, 1) := dX13_entity_27g.2.2.2.2.2.2.2.1
theorem dX13_entity_39 : decode cX13_entity 39 = .ok (.istore 4, 2) := dX13_entity_27g.2.2.2.2.2.2.2.2.1
theorem dX13_entity_41 : decode cX13_entity 41 = .ok (.iload 4, 2) := dX13_entity_27g.2.2.2.2.2.2.2.2.2.1
theorem dX13_entity_43 : decode cX13_entity 43 = .ok (.iconst 5, 1) := dX13_entity_27g.2.2.2.2.2.2.2.2.2.2.1
theorem dX13_entity_44 : decode cX13_entity 44 = .ok (.if_icmp .ge 60, 3) := dX13_entity_27g.2.2.2.2.2.2.2.2.2.2.2.1
theorem dX13_entity_47 : decode cX13_entity 47 = .ok (.iload_n 1, 1) := dX13_entity_27g.2.2.2.2.2.2.2.2.2.2.2.2.1
theorem dX13_entity_48 : decode cX13_entity 48 = .ok (.aload_n 0, 1) := dX13_entity_27g.2.2.2.2.2.2.2.2.2.2.2.2.2.1
theorem dX13_entity_49 : decode cX13_entity 49 = .ok (.getfield 71, 3) := dX13_entity_27g.2.2.2.2.2.2.2.2.2.2.2.2.2.2.1
theorem dX13_entity_52 : decode cX13_entity 52 = .ok (.iload 4, 2) := dX13_entity_27g.2.2.2.2.2.2.2.2.2.2.2.2.2.2.2
theorem dX13_entity_54g : decode cX13_entity 54 = .ok (.iaload, 1) ∧ decode cX13_entity 55 = .ok (.if_icmp .ge 43, 3) ∧ decode cX13_entity 58 = .ok (.aload_n 0, 1) ∧ decode cX13_entity 59 = .ok (.iload 4, 2) ∧ decode cX13_entity 61 = .ok (.iload_n 1, 1) ∧ decode cX13_entity 62 = .ok (.invokevirtual 309, 3) ∧ decode cX13_entity 65 = .ok (.ifCond .ne 6, 3) ∧ decode cX13_entity 68 = .ok (.goto 30, 3) ∧ decode cX13_entity 71 = .ok (.iconst 1, 1) ∧ decode cX13_entity 72 = .ok (.istore_n 2, 1) ∧ decode cX13_entity 73 = .ok (.iload_n 1, 1) ∧ decode cX13_entity 74 = .ok (.aload_n 0, 1) ∧ decode cX13_entity 75 = .ok (.getfield 71, 3) ∧ decode cX13_entity 78 = .ok (.iload 4, 2) ∧ decode cX13_entity 80 = .ok (.iaload, 1) ∧ decode cX13_entity 81 = .ok (.iconst 1, 1) := by decide +kernel
theorem dX13_entity_54 : decode cX13_entity 54 = .ok (.iaload, 1) := dX13_entity_54g.1
theorem dX13_entity_55 : decode cX13_entity 55 = .ok (.if_icmp .ge 43, 3) := dX13_entity_54g.2.1
theorem dX13_entity_58 : decode cX13_entity 58 = .ok (.aload_n 0, 1) := dX13_entity_54g.2.2.1
theorem dX13_entity_59 : decode cX13_entity 59 = .ok (.iload 4, 2) := dX13_entity_54g.2.2.2.1
theorem dX13_entity_61 : decode cX13_entity 61 = .ok (.iload_n 1, 1) := dX13_entity_54g.2.2.2.2.1
theorem dX13_entity_62 : decode cX13_entity 62 = .ok (.invokevirtual 309, 3) := dX13_entity_54g.2.2.2.2.2.1
theorem dX13_entity_65 : decode cX13_entity 65 = .ok (.ifCond .ne 6, 3) := dX13_entity_54g.2.2.2.2.2.2.1
theorem dX13_entity_68 : decode cX13_entity 68 = .ok (.goto 30, 3) := dX13_entity_54g.2.2.2.2.2.2.2.1
theorem dX13_entity_71 : decode cX13_entity 71 = .ok (.iconst 1, 1) := dX13_entity_54g.2.2.2.2.2.2.2.2.1
theorem dX13_entity_72 : decode cX13_entity 72 = .ok (.istore_n 2, 1) := dX13_entity_54g.2.2.2.2.2.2.2.2.2.1
theorem dX13_entity_73 : decode cX13_entity 73 = .ok (.iload_n 1, 1) := dX13_entity_54g.2.2.2.2.2.2.2.2.2.2.1
theorem dX13_entity_74 : decode cX13_entity 74 = .ok (.aload_n 0, 1) := dX13_entity_54g.2.2.2.2.2.2.2.2.2.2.2.1
theorem dX13_entity_75 : decode cX13_entity 75 = .ok (.getfield 71, 3) := dX13_entity_54g.2.2.2.2.2.2.2.2.2.2.2.2.1
theorem dX13_entity_78 : decode cX13_entity 78 = .ok (.iload 4, 2) := dX13_entity_54g.2.2.2.2.2.2.2.2.2.2.2.2.2.1
theorem dX13_entity_80 : decode cX13_entity 80 = .ok (.iaload, 1) := dX13_entity_54g.2.2.2.2.2.2.2.2.2.2.2.2.2.2.1
theorem dX13_entity_81 : decode cX13_entity 81 = .ok (.iconst 1, 1) := dX13_entity_54g.2.2.2.2.2.2.2.2.2.2.2.2.2.2.2
theorem dX13_entity_82g : decode cX13_entity 82 = .ok (.isub, 1) ∧ decode cX13_entity 83 = .ok (.if_icmp .ne 13, 3) ∧ decode cX13_entity 86 = .ok (.aload_n 0, 1) ∧ decode cX13_entity 87 = .ok (.getfield 75, 3) ∧ decode cX13_entity 90 = .ok (.iload 4, 2) ∧ decode cX13_entity 92 = .ok (.iaload, 1) ∧ decode cX13_entity 93 = .ok (.goto 4, 3) ∧ decode cX13_entity 96 = .ok (.iload_n 3, 1) ∧ decode cX13_entity 97 = .ok (.istore_n 3, 1) ∧ decode cX13_entity 98 = .ok (.iinc 4 1, 3) ∧ decode cX13_entity 101 = .ok (.goto (-60), 3) ∧ decode cX13_entity 104 = .ok (.iload_n 2, 1) ∧ decode cX13_entity 105 = .ok (.ifCond .ne 13, 3) ∧ decode cX13_entity 108 = .ok (.aload_n 0, 1) ∧ decode cX13_entity 109 = .ok (.aload_n 0, 1) ∧ decode cX13_entity 110 = .ok (.getfield 279, 3) := by decide +kernel
theorem dX13_entity_82 : decode cX13_entity 82 = .ok (.isub, 1) := dX13_entity_82g.1
theorem dX13_entity_83 : decode cX13_entity 83 = .ok (.if_icmp .ne 13, 3) := dX13_entity_82g.2.1
theorem dX13_entity_86 : decode cX13_entity 86 = .ok (.aload_n 0, 1) := dX13_entity_82g.2.2.1
theorem dX13_entity_87 : decode cX13_entity 87 = .ok (.getfield 75, 3) := dX13_entity_82g.2.2.2.1
theorem dX13_entity_90 : decode cX13_entity 90 = .ok (.iload 4, 2) := dX13_entity_82g.2.2.2.2.1
theorem dX13_entity_92 : decode cX13_entity 92 = .ok (.iaload, 1) := dX13_entity_82g.2.2.2.2.2.1
theorem dX13_entity_93 : decode cX13_entity 93 = .ok (.goto 4, 3) := dX13_entity_82g.2.2.2.2.2.2.1
theorem dX13_entity_96 : decode cX13_entity 96 = .ok (.iload_n 3, 1) := dX13_entity_82g.2.2.2.2.2.2.2.1
theorem dX13_entity_97 : decode cX13_entity 97 = .ok (.istore_n 3, 1) := dX13_entity_82g.2.2.2.2.2.2.2.2.1
theorem dX13_entity_98 : decode cX13_entity 98 = .ok (.iinc 4 1, 3) := dX13_entity_82g.2.2.2.2.2.2.2.2.2.1
theorem dX13_entity_101 : decode cX13_entity 101 = .ok (.goto (-60), 3) := dX13_entity_82g.2.2.2.2.2.2.2.2.2.2.1
theorem dX13_entity_104 : decode cX13_entity 104 = .ok (.iload_n 2, 1) := dX13_entity_82g.2.2.2.2.2.2.2.2.2.2.2.1
theorem dX13_entity_105 : decode cX13_entity 105 = .ok (.ifCond .ne 13, 3) := dX13_entity_82g.2.2.2.2.2.2.2.2.2.2.2.2.1
theorem dX13_entity_108 : decode cX13_entity 108 = .ok (.aload_n 0, 1) := dX13_entity_82g.2.2.2.2.2.2.2.2.2.2.2.2.2.1
theorem dX13_entity_109 : decode cX13_entity 109 = .ok (.aload_n 0, 1) := dX13_entity_82g.2.2.2.2.2.2.2.2.2.2.2.2.2.2.1
theorem dX13_entity_110 : decode cX13_entity 110 = .ok (.getfield 279, 3) := dX13_entity_82g.2.2.2.2.2.2.2.2.2.2.2.2.2.2.2
theorem dX13_entity_113g : decode cX13_entity 113 = .ok (.iload_n 1, 1) ∧ decode cX13_entity 114 = .ok (.iadd, 1) ∧ decode cX13_entity 115 = .ok (.invokevirtual 289, 3) ∧ decode cX13_entity 118 = .ok (.iload_n 3, 1) ∧ decode cX13_entity 119 = .ok (.ifCond .le 15, 3) ∧ decode cX13_entity 122 = .ok (.aload_n 0, 1) ∧ decode cX13_entity 123 = .ok (.dup, 1) ∧ decode cX13_entity 124 = .ok (.getfield 279, 3) ∧ decode cX13_entity 127 = .ok (.iload_n 1, 1) ∧ decode cX13_entity 128 = .ok (.iadd, 1) ∧ decode cX13_entity 129 = .ok (.putfield 279, 3) ∧ decode cX13_entity 132 = .ok (.iload_n 3, 1) ∧ decode cX13_entity 133 = .ok (.ireturn, 1) ∧ decode cX13_entity 134 = .ok (.iinc 1 1, 3) ∧ decode cX13_entity 137 = .ok (.goto (-110), 3) ∧ decode cX13_entity 140 = .ok (.iconst 0, 1) := by decide +kernel
theorem dX13_entity_113 : decode cX13_entity 113 = .ok (.iload_n 1, 1) := dX13_entity_113g.1
theorem dX13_entity_114 : decode cX13_entity 114 = .ok (.iadd, 1) := dX13_entity_113g.2.1
theorem dX13_entity_115 : decode cX13_entity 115 = .ok (.invokevirtual 289, 3) := dX13_entity_113g.2.2.1
theorem dX13_entity_118 : decode cX13_entity 118 = .ok (.iload_n 3, 1) := dX13_entity_113g.2.2.2.1
theorem dX13_entity_119 : decode cX13_entity 119 = .ok (.ifCond .le 15, 3) := dX13_entity_113g.2.2.2.2.1
theorem dX13_entity_122 : decode cX13_entity 122 = .ok (.aload_n 0, 1) := dX13_entity_113g.2.2.2.2.2.1
theorem dX13_entity_123 : decode cX13_entity 123 = .ok (.dup, 1) := dX13_entity_113g.2.2.2.2.2.2.1
theorem dX13_entity_124 : decode cX13_entity 124 = .ok (.getfield 279, 3) := dX13_entity_113g.2.2.2.2.2.2.2.1
theorem dX13_entity_127 : decode cX13_entity 127 = .ok (.iload_n 1, 1) := dX13_entity_113g.2.2.2.2.2.2.2.2.1
theorem dX13_entity_128 : decode cX13_entity 128 = .ok (.iadd, 1) := dX13_entity_113g.2.2.2.2.2.2.2.2.2.1
theorem dX13_entity_129 : decode cX13_entity 129 = .ok (.putfield 279, 3) := dX13_entity_113g.2.2.2.2.2.2.2.2.2.2.1
theorem dX13_entity_132 : decode cX13_entity 132 = .ok (.iload_n 3, 1) := dX13_entity_113g.2.2.2.2.2.2.2.2.2.2.2.1
theorem dX13_entity_133 : decode cX13_entity 133 = .ok (.ireturn, 1) := dX13_entity_113g.2.2.2.2.2.2.2.2.2.2.2.2.1
theorem dX13_entity_134 : decode cX13_entity 134 = .ok (.iinc 1 1, 3) := dX13_entity_113g.2.2.2.2.2.2.2.2.2.2.2.2.2.1
theorem dX13_entity_137 : decode cX13_entity 137 = .ok (.goto (-110), 3) := dX13_entity_113g.2.2.2.2.2.2.2.2.2.2.2.2.2.2.1
theorem dX13_entity_140 : decode cX13_entity 140 = .ok (.iconst 0, 1) := dX13_entity_113g.2.2.2.2.2.2.2.2.2.2.2.2.2.2.2
theorem dX13_entity_141 : decode cX13_entity 141 = .ok (.ireturn, 1) := by decide +kernel
theorem dX13_agrees_0g : decode cX13_agrees 0 = .ok (.iconst 0, 1) ∧ decode cX13_agrees 1 = .ok (.istore_n 3, 1) ∧ decode cX13_agrees 2 = .ok (.iload_n 3, 1) ∧ decode cX13_agrees 3 = .ok (.iload_n 2, 1) ∧ decode cX13_agrees 4 = .ok (.if_icmp .gt 44, 3) ∧ decode cX13_agrees 7 = .ok (.aload_n 0, 1) ∧ decode cX13_agrees 8 = .ok (.iload_n 3, 1) ∧ decode cX13_agrees 9 = .ok (.invokevirtual 282, 3) ∧ decode cX13_agrees 12 = .ok (.aload_n 0, 1) ∧ decode cX13_agrees 13 = .ok (.getfield 68, 3) ∧ decode cX13_agrees 16 = .ok (.iload_n 1, 1) ∧ decode cX13_agrees 17 = .ok (.laload, 1) ∧ decode cX13_agrees 18 = .ok (.bipush 8, 2) ∧ decode cX13_agrees 20 = .ok (.aload_n 0, 1) ∧ decode cX13_agrees 21 = .ok (.getfield 71, 3) ∧ decode cX13_agrees 24 = .ok (.iload_n 1, 1) := by decide +kernel
theorem dX13_agrees_0 : decode cX13_agrees 0 = .ok (.iconst 0, 1) := dX13_agrees_0g.1
theorem dX13_agrees_1 : decode cX13_agrees 1 = .ok (.istore_n 3, 1) := dX13_agrees_0g.2.1
theorem dX13_agrees_2 : decode cX13_agrees 2 = .ok (.iload_n 3, 1) := dX13_agrees_0g.2.2.1
theorem dX13_agrees_3 : decode cX13_agrees 3 = .ok (.iload_n 2, 1) := dX13_agrees_0g.2.2.2.1
theorem dX13_agrees_4 : decode cX13_agrees 4 = .ok (.if_icmp .gt 44, 3) := dX13_agrees_0g.2.2.2.2.1
theorem dX13_agrees_7 : decode cX13_agrees 7 = .ok (.aload_n 0, 1) := dX13_agrees_0g.2.2.2.2.2.1
theorem dX13_agrees_8 : decode cX13_agrees 8 = .ok (.iload_n 3, 1) := dX13_agrees_0g.2.2.2.2.2.2.1
theorem dX13_agrees_9 : decode cX13_agrees 9 = .ok (.invokevirtual 282, 3) := dX13_agrees_0g.2.2.2.2.2.2.2.1
theorem dX13_agrees_12 : decode cX13_agrees 12 = .ok (.aload_n 0, 1) := dX13_agrees_0g.2.2.2.2.2.2.2.2.1
theorem dX13_agrees_13 : decode cX13_agrees 13 = .ok (.getfield 68, 3) := dX13_agrees_0g.2.2.2.2.2.2.2.2.2.1
theorem dX13_agrees_16 : decode cX13_agrees 16 = .ok (.iload_n 1, 1) := dX13_agrees_0g.2.2.2.2.2.2.2.2.2.2.1
theorem dX13_agrees_17 : decode cX13_agrees 17 = .ok (.laload, 1) := dX13_agrees_0g.2.2.2.2.2.2.2.2.2.2.2.1
theorem dX13_agrees_18 : decode cX13_agrees 18 = .ok (.bipush 8, 2) := dX13_agrees_0g.2.2.2.2.2.2.2.2.2.2.2.2.1
theorem dX13_agrees_20 : decode cX13_agrees 20 = .ok (.aload_n 0, 1) := dX13_agrees_0g.2.2.2.2.2.2.2.2.2.2.2.2.2.1
theorem dX13_agrees_21 : decode cX13_agrees 21 = .ok (.getfield 71, 3) := dX13_agrees_0g.2.2.2.2.2.2.2.2.2.2.2.2.2.2.1
theorem dX13_agrees_24 : decode cX13_agrees 24 = .ok (.iload_n 1, 1) := dX13_agrees_0g.2.2.2.2.2.2.2.2.2.2.2.2.2.2.2
theorem dX13_agrees_25g : decode cX13_agrees 25 = .ok (.iaload, 1) ∧ decode cX13_agrees 26 = .ok (.iconst 1, 1) ∧ decode cX13_agrees 27 = .ok (.isub, 1) ∧ decode cX13_agrees 28 = .ok (.iload_n 3, 1) ∧ decode cX13_agrees 29 = .ok (.isub, 1) ∧ decode cX13_agrees 30 = .ok (.imul, 1) ∧ decode cX13_agrees 31 = .ok (.lshr, 1) ∧ decode cX13_agrees 32 = .ok (.ldc2_w 313, 3) ∧ decode cX13_agrees 35 = .ok (.land, 1) ∧ decode cX13_agrees 36 = .ok (.l2i, 1) ∧ decode cX13_agrees 37 = .ok (.if_icmp .eq 5, 3) ∧ decode cX13_agrees 40 = .ok (.iconst 0, 1) ∧ decode cX13_agrees 41 = .ok (.ireturn, 1) ∧ decode cX13_agrees 42 = .ok (.iinc 3 1, 3) ∧ decode cX13_agrees 45 = .ok (.goto (-43), 3) ∧ decode cX13_agrees 48 = .ok (.iconst 1, 1) := by decide +kernel
theorem dX13_agrees_25 : decode cX13_agrees 25 = .ok (.iaload, 1) := dX13_agrees_25g.1
theorem dX13_agrees_26 : decode cX13_agrees 26 = .ok (.iconst 1, 1) := dX13_agrees_25g.2.1
theorem dX13_agrees_27 : decode cX13_agrees 27 = .ok (.isub, 1) := dX13_agrees_25g.2.2.1
theorem dX13_agrees_28 : decode cX13_agrees 28 = .ok (.iload_n 3, 1) := dX13_agrees_25g.2.2.2.1
theorem dX13_agrees_29 : decode cX13_agrees 29 = .ok (.isub, 1) := dX13_agrees_25g.2.2.2.2.1
theorem dX13_agrees_30 : decode cX13_agrees 30 = .ok (.imul, 1) := dX13_agrees_25g.2.2.2.2.2.1
theorem dX13_agrees_31 : decode cX13_agrees 31 = .ok (.lshr, 1) := dX13_agrees_25g.2.2.2.2.2.2.1
theorem dX13_agrees_32 : decode cX13_agrees 32 = .ok (.ldc2_w 313, 3) := dX13_agrees_25g.2.2.2.2.2.2.2.1
theorem dX13_agrees_35 : decode cX13_agrees 35 = .ok (.land, 1) := dX13_agrees_25g.2.2.2.2.2.2.2.2.1
theorem dX13_agrees_36 : decode cX13_agrees 36 = .ok (.l2i, 1) := dX13_agrees_25g.2.2.2.2.2.2.2.2.2.1
theorem dX13_agrees_37 : decode cX13_agrees 37 = .ok (.if_icmp .eq 5, 3) := dX13_agrees_25g.2.2.2.2.2.2.2.2.2.2.1
theorem dX13_agrees_40 : decode cX13_agrees 40 = .ok (.iconst 0, 1) := dX13_agrees_25g.2.2.2.2.2.2.2.2.2.2.2.1
theorem dX13_agrees_41 : decode cX13_agrees 41 = .ok (.ireturn, 1) := dX13_agrees_25g.2.2.2.2.2.2.2.2.2.2.2.2.1
theorem dX13_agrees_42 : decode cX13_agrees 42 = .ok (.iinc 3 1, 3) := dX13_agrees_25g.2.2.2.2.2.2.2.2.2.2.2.2.2.1
theorem dX13_agrees_45 : decode cX13_agrees 45 = .ok (.goto (-43), 3) := dX13_agrees_25g.2.2.2.2.2.2.2.2.2.2.2.2.2.2.1
theorem dX13_agrees_48 : decode cX13_agrees 48 = .ok (.iconst 1, 1) := dX13_agrees_25g.2.2.2.2.2.2.2.2.2.2.2.2.2.2.2
theorem dX13_agrees_49 : decode cX13_agrees 49 = .ok (.ireturn, 1) := by decide +kernel
theorem dX13_numberedEntity_0g : decode cX13_numberedEntity 0 = .ok (.aload_n 0, 1) ∧ decode cX13_numberedEntity 1 = .ok (.dup, 1) ∧ decode cX13_numberedEntity 2 = .ok (.getfield 279, 3) ∧ decode cX13_numberedEntity 5 = .ok (.iconst 1, 1) ∧ decode cX13_numberedEntity 6 = .ok (.iadd, 1) ∧ decode cX13_numberedEntity 7 = .ok (.putfield 279, 3) ∧ decode cX13_numberedEntity 10 = .ok (.iconst 0, 1) ∧ decode cX13_numberedEntity 11 = .ok (.istore_n 1, 1) ∧ decode cX13_numberedEntity 12 = .ok (.iconst 0, 1) ∧ decode cX13_numberedEntity 13 = .ok (.istore_n 2, 1) ∧ decode cX13_numberedEntity 14 = .ok (.aload_n 0, 1) ∧ decode cX13_numberedEntity 15 = .ok (.iconst 0, 1) ∧ decode cX13_numberedEntity 16 = .ok (.invokevirtual 282, 3) ∧ decode cX13_numberedEntity 19 = .ok (.bipush 48, 2) ∧ decode cX13_numberedEntity 21 = .ok (.if_icmp .lt 63, 3) ∧ decode cX13_numberedEntity 24 = .ok (.aload_n 0, 1) := by decide +kernel
theorem dX13_numberedEntity_0 : decode cX13_numberedEntity 0 = .ok (.aload_n 0, 1) := dX13_numberedEntity_0g.1
theorem dX13_numberedEntity_1 : decode cX13_numberedEntity 1 = .ok (.dup, 1) := dX13_numberedEntity_0g.2.1
theorem dX13_numberedEntity_2 : decode cX13_numberedEntity 2 = .ok (.getfield 279, 3) := dX13_numberedEntity_0g.2.2.1
theorem dX13_numberedEntity_5 : decode cX13_numberedEntity 5 = .ok (.iconst 1, 1) := dX13_numberedEntity_0g.2.2.2.1
theorem dX13_numberedEntity_6 : decode cX13_numberedEntity 6 = .ok (.iadd, 1) := dX13_numberedEntity_0g.2.2.2.2.1
theorem dX13_numberedEntity_7 : decode cX13_numberedEntity 7 = .ok (.putfield 279, 3) := dX13_numberedEntity_0g.2.2.2.2.2.1
theorem dX13_numberedEntity_10 : decode cX13_numberedEntity 10 = .ok (.iconst 0, 1) := dX13_numberedEntity_0g.2.2.2.2.2.2.1
theorem dX13_numberedEntity_11 : decode cX13_numberedEntity 11 = .ok (.istore_n 1, 1) := dX13_numberedEntity_0g.2.2.2.2.2.2.2.1
theorem dX13_numberedEntity_12 : decode cX13_numberedEntity 12 = .ok (.iconst 0, 1) := dX13_numberedEntity_0g.2.2.2.2.2.2.2.2.1
theorem dX13_numberedEntity_13 : decode cX13_numberedEntity 13 = .ok (.istore_n 2, 1) := dX13_numberedEntity_0g.2.2.2.2.2.2.2.2.2.1
theorem dX13_numberedEntity_14 : decode cX13_numberedEntity 14 = .ok (.aload_n 0, 1) := dX13_numberedEntity_0g.2.2.2.2.2.2.2.2.2.2.1
theorem dX13_numberedEntity_15 : decode cX13_numberedEntity 15 = .ok (.iconst 0, 1) := dX13_numberedEntity_0g.2.2.2.2.2.2.2.2.2.2.2.1
theorem dX13_numberedEntity_16 : decode cX13_numberedEntity 16 = .ok (.invokevirtual 282, 3) := dX13_numberedEntity_0g.2.2.2.2.2.2.2.2.2.2.2.2.1
theorem dX13_numberedEntity_19 : decode cX13_numberedEntity 19 = .ok (.bipush 48, 2) := dX13_numberedEntity_0g.2.2.2.2.2.2.2.2.2.2.2.2.2.1
theorem dX13_numberedEntity_21 : decode cX13_numberedEntity 21 = .ok (.if_icmp .lt 63, 3) := dX13_numberedEntity_0g.2.2.2.2.2.2.2.2.2.2.2.2.2.2.1
theorem dX13_numberedEntity_24 : decode cX13_numberedEntity 24 = .ok (.aload_n 0, 1) := dX13_numberedEntity_0g.2.2.2.2.2.2.2.2.2.2.2.2.2.2.2
theorem dX13_numberedEntity_25g : decode cX13_numberedEntity 25 = .ok (.iconst 0, 1) ∧ decode cX13_numberedEntity 26 = .ok (.invokevirtual 282, 3) ∧ decode cX13_numberedEntity 29 = .ok (.bipush 57, 2) ∧ decode cX13_numberedEntity 31 = .ok (.if_icmp .gt 53, 3) ∧ decode cX13_numberedEntity 34 = .ok (.aload_n 0, 1) ∧ decode cX13_numberedEntity 35 = .ok (.getfield 276, 3) ∧ decode cX13_numberedEntity 38 = .ok (.ifCond .ne 46, 3) ∧ decode cX13_numberedEntity 41 = .ok (.iload_n 2, 1) ∧ decode cX13_numberedEntity 42 = .ok (.iconst 3, 1) ∧ decode cX13_numberedEntity 43 = .ok (.if_icmp .ne 11, 3) ∧ decode cX13_numberedEntity 46 = .ok (.aload_n 0, 1) ∧ decode cX13_numberedEntity 47 = .ok (.aload_n 0, 1) ∧ decode cX13_numberedEntity 48 = .ok (.getfield 279, 3) ∧ decode cX13_numberedEntity 51 = .ok (.invokevirtual 289, 3) ∧ decode cX13_numberedEntity 54 = .ok (.bipush 10, 2) ∧ decode cX13_numberedEntity 56 = .ok (.iload_n 1, 1) := by decide +kernel
theorem dX13_numberedEntity_25 : decode cX13_numberedEntity 25 = .ok (.iconst 0, 1) := dX13_numberedEntity_25g.1
theorem dX13_numberedEntity_26 : decode cX13_numberedEntity 26 = .ok (.invokevirtual 282, 3) := dX13_numberedEntity_25g.2.1
theorem dX13_numberedEntity_29 : decode cX13_numberedEntity 29 = .ok (.bipush 57, 2) := dX13_numberedEntity_25g.2.2.1
theorem dX13_numberedEntity_31 : decode cX13_numberedEntity 31 = .ok (.if_icmp .gt 53, 3) := dX13_numberedEntity_25g.2.2.2.1
theorem dX13_numberedEntity_34 : decode cX13_numberedEntity 34 = .ok (.aload_n 0, 1) := dX13_numberedEntity_25g.2.2.2.2.1
theorem dX13_numberedEntity_35 : decode cX13_numberedEntity 35 = .ok (.getfield 276, 3) := dX13_numberedEntity_25g.2.2.2.2.2.1
theorem dX13_numberedEntity_38 : decode cX13_numberedEntity 38 = .ok (.ifCond .ne 46, 3) := dX13_numberedEntity_25g.2.2.2.2.2.2.1
theorem dX13_numberedEntity_41 : decode cX13_numberedEntity 41 = .ok (.iload_n 2, 1) := dX13_numberedEntity_25g.2.2.2.2.2.2.2.1
theorem dX13_numberedEntity_42 : decode cX13_numberedEntity 42 = .ok (.iconst 3, 1) := dX13_numberedEntity_25g.2.2.2.2.2.2.2.2.1
theorem dX13_numberedEntity_43 : decode cX13_numberedEntity 43 = .ok (.if_icmp .ne 11, 3) := dX13_numberedEntity_25g.2.2.2.2.2.2.2.2.2.1
theorem dX13_numberedEntity_46 : decode cX13_numberedEntity 46 = .ok (.aload_n 0, 1) := dX13_numberedEntity_25g.2.2.2.2.2.2.2.2.2.2.1
theorem dX13_numberedEntity_47 : decode cX13_numberedEntity 47 = .ok (.aload_n 0, 1) := dX13_numberedEntity_25g.2.2.2.2.2.2.2.2.2.2.2.1
theorem dX13_numberedEntity_48 : decode cX13_numberedEntity 48 = .ok (.getfield 279, 3) := dX13_numberedEntity_25g.2.2.2.2.2.2.2.2.2.2.2.2.1
theorem dX13_numberedEntity_51 : decode cX13_numberedEntity 51 = .ok (.invokevirtual 289, 3) := dX13_numberedEntity_25g.2.2.2.2.2.2.2.2.2.2.2.2.2.1
theorem dX13_numberedEntity_54 : decode cX13_numberedEntity 54 = .ok (.bipush 10, 2) := dX13_numberedEntity_25g.2.2.2.2.2.2.2.2.2.2.2.2.2.2.1
theorem dX13_numberedEntity_56 : decode cX13_numberedEntity 56 = .ok (.iload_n 1, 1) := dX13_numberedEntity_25g.2.2.2.2.2.2.2.2.2.2.2.2.2.2.2
theorem dX13_numberedEntity_57g : decode cX13_numberedEntity 57 = .ok (.imul, 1) ∧ decode cX13_numberedEntity 58 = .ok (.aload_n 0, 1) ∧ decode cX13_numberedEntity 59 = .ok (.iconst 0, 1) ∧ decode cX13_numberedEntity 60 = .ok (.invokevirtual 282, 3) ∧ decode cX13_numberedEntity 63 = .ok (.iadd, 1) ∧ decode cX13_numberedEntity 64 = .ok (.bipush 48, 2) ∧ decode cX13_numberedEntity 66 = .ok (.isub, 1) ∧ decode cX13_numberedEntity 67 = .ok (.istore_n 1, 1) ∧ decode cX13_numberedEntity 68 = .ok (.iinc 2 1, 3) ∧ decode cX13_numberedEntity 71 = .ok (.aload_n 0, 1) ∧ decode cX13_numberedEntity 72 = .ok (.dup, 1) ∧ decode cX13_numberedEntity 73 = .ok (.getfield 279, 3) ∧ decode cX13_numberedEntity 76 = .ok (.iconst 1, 1) ∧ decode cX13_numberedEntity 77 = .ok (.iadd, 1) ∧ decode cX13_numberedEntity 78 = .ok (.putfield 279, 3) ∧ decode cX13_numberedEntity 81 = .ok (.goto (-67), 3) := by decide +kernel
theorem dX13_numberedEntity_57 : decode cX13_numberedEntity 57 = .ok (.imul, 1) := dX13_numberedEntity_57g.1
theorem dX13_numberedEntity_58 : decode cX13_numberedEntity 58 = .ok (.aload_n 0, 1) := dX13_numberedEntity_57g.2.1
theorem dX13_numberedEntity_59 : decode cX13_numberedEntity 59 = .ok (.iconst 0, 1) := dX13_numberedEntity_57g.2.2.1
theorem dX13_numberedEntity_60 : decode cX13_numberedEntity 60 = .ok (.invokevirtual 282, 3) := dX13_numberedEntity_57g.2.2.2.1
theorem dX13_numberedEntity_63 : decode cX13_numberedEntity 63 = .ok (.iadd, 1) := dX13_numberedEntity_57g.2.2.2.2.1
theorem dX13_numberedEntity_64 : decode cX13_numberedEntity 64 = .ok (.bipush 48, 2) := dX13_numberedEntity_57g.2.2.2.2.2.1
theorem dX13_numberedEntity_66 : decode cX13_numberedEntity 66 = .ok (.isub, 1) := dX13_numberedEntity_57g.2.2.2.2.2.2.1
theorem dX13_numberedEntity_67 : decode cX13_numberedEntity 67 = .ok (.istore_n 1, 1) := dX13_numberedEntity_57g.2.2.2.2.2.2.2.1
theorem dX13_numberedEntity_68 : decode cX13_numberedEntity 68 = .ok (.iinc 2 1, 3) := dX13_numberedEntity_57g.2.2.2.2.2.2.2.2.1
theorem dX13_numberedEntity_71 : decode cX13_numberedEntity 71 = .ok (.aload_n 0, 1) := dX13_numberedEntity_57g.2.2.2.2.2.2.2.2.2.1
theorem dX13_numberedEntity_72 : decode cX13_numberedEntity 72 = .ok (.dup, 1) := dX13_numberedEntity_57g.2.2.2.2.2.2.2.2.2.2.1
theorem dX13_numberedEntity_73 : decode cX13_numberedEntity 73 = .ok (.getfield 279, 3) := dX13_numberedEntity_57g.2.2.2.2.2.2.2.2.2.2.2.1
theorem dX13_numberedEntity_76 : decode cX13_numberedEntity 76 = .ok (.iconst 1, 1) := dX13_numberedEntity_57g.2.2.2.2.2.2.2.2.2.2.2.2.1
theorem dX13_numberedEntity_77 : decode cX13_numberedEntity 77 = .ok (.iadd, 1) := dX13_numberedEntity_57g.2.2.2.2.2.2.2.2.2.2.2.2.2.1
theorem dX13_numberedEntity_78 : decode cX13_numberedEntity 78 = .ok (.putfield 279, 3) := dX13_numberedEntity_57g.2.2.2.2.2.2.2.2.2.2.2.2.2.2.1
theorem dX13_numberedEntity_81 : decode cX13_numberedEntity 81 = .ok (.goto (-67), 3) := dX13_numberedEntity_57g.2.2.2.2.2.2.2.2.2.2.2.2.2.2.2
theorem dX13_numberedEntity_84g : decode cX13_numberedEntity 84 = .ok (.aload_n 0, 1) ∧ decode cX13_numberedEntity 85 = .ok (.getfield 276, 3) ∧ decode cX13_numberedEntity 88 = .ok (.ifCond .ne 25, 3) ∧ decode cX13_numberedEntity 91 = .ok (.iload_n 2, 1) ∧ decode cX13_numberedEntity 92 = .ok (.ifCond .eq 13, 3) ∧ decode cX13_numberedEntity 95 = .ok (.aload_n 0, 1) ∧ decode cX13_numberedEntity 96 = .ok (.iconst 0, 1) ∧ decode cX13_numberedEntity 97 = .ok (.invokevirtual 282, 3) ∧ decode cX13_numberedEntity 100 = .ok (.bipush 59, 2) ∧ decode cX13_numberedEntity 102 = .ok (.if_icmp .eq 11, 3) ∧ decode cX13_numberedEntity 105 = .ok (.aload_n 0, 1) ∧ decode cX13_numberedEntity 106 = .ok (.aload_n 0, 1) ∧ decode cX13_numberedEntity 107 = .ok (.getfield 279, 3) ∧ decode cX13_numberedEntity 110 = .ok (.invokevirtual 289, 3) ∧ decode cX13_numberedEntity 113 = .ok (.aload_n 0, 1) ∧ decode cX13_numberedEntity 114 = .ok (.getfield 276, 3) := by decide +kernel
theorem dX13_numberedEntity_84 : decode cX13_numberedEntity 84 = .ok (.aload_n 0, 1) := dX13_numberedEntity_84g.1
theorem dX13_numberedEntity_85 : decode cX13_numberedEntity 85 = .ok (.getfield 276, 3) := dX13_numberedEntity_84g.2.1
theorem dX13_numberedEntity_88 : decode cX13_numberedEntity 88 = .ok (.ifCond .ne 25, 3) := dX13_numberedEntity_84g.2.2.1
theorem dX13_numberedEntity_91 : decode cX13_numberedEntity 91 = .ok (.iload_n 2, 1) := dX13_numberedEntity_84g.2.2.2.1
theorem dX13_numberedEntity_92 : decode cX13_numberedEntity 92 = .ok (.ifCond .eq 13, 3) := dX13_numberedEntity_84g.2.2.2.2.1
theorem dX13_numberedEntity_95 : decode cX13_numberedEntity 95 = .ok (.aload_n 0, 1) := dX13_numberedEntity_84g.2.2.2.2.2.1
theorem dX13_numberedEntity_96 : decode cX13_numberedEntity 96 = .ok (.iconst 0, 1) := dX13_numberedEntity_84g.2.2.2.2.2.2.1
theorem dX13_numberedEntity_97 : decode cX13_numberedEntity 97 = .ok (.invokevirtual 282, 3) := dX13_numberedEntity_84g.2.2.2.2.2.2.2.1
theorem dX13_numberedEntity_100 : decode cX13_numberedEntity 100 = .ok (.bipush 59, 2) := dX13_numberedEntity_84g.2.2.2.2.2.2.2.2.1
theorem dX13_numberedEntity_102 : decode cX13_numberedEntity 102 = .ok (.if_icmp .eq 11, 3) := dX13_numberedEntity_84g.2.2.2.2.2.2.2.2.2.1
theorem dX13_numberedEntity_105 : decode cX13_numberedEntity 105 = .ok (.aload_n 0, 1) := dX13_numberedEntity_84g.2.2.2.2.2.2.2.2.2.2.1
theorem dX13_numberedEntity_106 : decode cX13_numberedEntity 106 = .ok (.aload_n 0, 1) := dX13_numberedEntity_84g.2.2.2.2.2.2.2.2.2.2.2.1
theorem dX13_numberedEntity_107 : decode cX13_numberedEntity 107 = .ok (.getfield 279, 3) := dX13_numberedEntity_84g.2.2.2.2.2.2.2.2.2.2.2.2.1
theorem dX13_numberedEntity_110 : decode cX13_numberedEntity 110 = .ok (.invokevirtual 289, 3) := dX13_numberedEntity_84g.2.2.2.2.2.2.2.2.2.2.2.2.2.1
theorem dX13_numberedEntity_113 : decode cX13_numberedEntity 113 = .ok (.aload_n 0, 1) := dX13_numberedEntity_84g.2.2.2.2.2.2.2.2.2.2.2.2.2.2.1
theorem dX13_numberedEntity_114 : decode cX13_numberedEntity 114 = .ok (.getfield 276, 3) := dX13_numberedEntity_84g.2.2.2.2.2.2.2.2.2.2.2.2.2.2.2
theorem dX13_numberedEntity_117g : decode cX13_numberedEntity 117 = .ok (.ifCond .ne 23, 3) ∧ decode cX13_numberedEntity 120 = .ok (.iload_n 1, 1) ∧ decode cX13_numberedEntity 121 = .ok (.bipush 32, 2) ∧ decode cX13_numberedEntity 123 = .ok (.if_icmp .lt 9, 3) ∧ decode cX13_numberedEntity 126 = .ok (.iload_n 1, 1) ∧ decode cX13_numberedEntity 127 = .ok (.bipush 126, 2) ∧ decode cX13_numberedEntity 129 = .ok (.if_icmp .le 11, 3) ∧ decode cX13_numberedEntity 132 = .ok (.aload_n 0, 1) ∧ decode cX13_numberedEntity 133 = .ok (.aload_n 0, 1) ∧ decode cX13_numberedEntity 134 = .ok (.getfield 279, 3) ∧ decode cX13_numberedEntity 137 = .ok (.invokevirtual 289, 3) ∧ decode cX13_numberedEntity 140 = .ok (.iload_n 1, 1) ∧ decode cX13_numberedEntity 141 = .ok (.ireturn, 1) := by decide +kernel
theorem dX13_numberedEntity_117 : decode cX13_numberedEntity 117 = .ok (.ifCond .ne 23, 3) := dX13_numberedEntity_117g.1
theorem dX13_numberedEntity_120 : decode cX13_numberedEntity 120 = .ok (.iload_n 1, 1) := dX13_numberedEntity_117g.2.1
theorem dX13_numberedEntity_121 : decode cX13_numberedEntity 121 = .ok (.bipush 32, 2) := dX13_numberedEntity_117g.2.2.1
theorem dX13_numberedEntity_123 : decode cX13_numberedEntity 123 = .ok (.if_icmp .lt 9, 3) := dX13_numberedEntity_117g.2.2.2.1
theorem dX13_numberedEntity_126 : decode cX13_numberedEntity 126 = .ok (.iload_n 1, 1) := dX13_numberedEntity_117g.2.2.2.2.1
theorem dX13_numberedEntity_127 : decode cX13_numberedEntity 127 = .ok (.bipush 126, 2) := dX13_numberedEntity_117g.2.2.2.2.2.1
theorem dX13_numberedEntity_129 : decode cX13_numberedEntity 129 = .ok (.if_icmp .le 11, 3) := dX13_numberedEntity_117g.2.2.2.2.2.2.1
theorem dX13_numberedEntity_132 : decode cX13_numberedEntity 132 = .ok (.aload_n 0, 1) := dX13_numberedEntity_117g.2.2.2.2.2.2.2.1
theorem dX13_numberedEntity_133 : decode cX13_numberedEntity 133 = .ok (.aload_n 0, 1) := dX13_numberedEntity_117g.2.2.2.2.2.2.2.2.1
theorem dX13_numberedEntity_134 : decode cX13_numberedEntity 134 = .ok (.getfield 279, 3) := dX13_numberedEntity_117g.2.2.2.2.2.2.2.2.2.1
theorem dX13_numberedEntity_137 : decode cX13_numberedEntity 137 = .ok (.invokevirtual 289, 3) := dX13_numberedEntity_117g.2.2.2.2.2.2.2.2.2.2.1
theorem dX13_numberedEntity_140 : decode cX13_numberedEntity 140 = .ok (.iload_n 1, 1) := dX13_numberedEntity_117g.2.2.2.2.2.2.2.2.2.2.2.1
theorem dX13_numberedEntity_141 : decode cX13_numberedEntity 141 = .ok (.ireturn, 1) := dX13_numberedEntity_117g.2.2.2.2.2.2.2.2.2.2.2.2
theorem dX13_attribute_0g : decode cX13_attribute 0 = .ok (.aload_n 0, 1) ∧ decode cX13_attribute 1 = .ok (.getfield 138, 3) ∧ decode cX13_attribute 4 = .ok (.iload_n 1, 1) ∧ decode cX13_attribute 5 = .ok (.iaload, 1) ∧ decode cX13_attribute 6 = .ok (.bipush 12, 2) ∧ decode cX13_attribute 8 = .ok (.if_icmp .ne 11, 3) ∧ decode cX13_attribute 11 = .ok (.aload_n 0, 1) ∧ decode cX13_attribute 12 = .ok (.aload_n 0, 1) ∧ decode cX13_attribute 13 = .ok (.getfield 279, 3) ∧ decode cX13_attribute 16 = .ok (.invokevirtual 289, 3) ∧ decode cX13_attribute 19 = .ok (.aload_n 0, 1) ∧ decode cX13_attribute 20 = .ok (.invokevirtual 315, 3) ∧ decode cX13_attribute 23 = .ok (.lstore_n 2, 1) ∧ decode cX13_attribute 24 = .ok (.aload_n 0, 1) ∧ decode cX13_attribute 25 = .ok (.getfield 276, 3) ∧ decode cX13_attribute 28 = .ok (.ifCond .ne 31, 3) := by decide +kernel
theorem dX13_attribute_0 : decode cX13_attribute 0 = .ok (.aload_n 0, 1) := dX13_attribute_0g.1
theorem dX13_attribute_1 : decode cX13_attribute 1 = .ok (.getfield 138, 3) := dX13_attribute_0g.2.1
theorem dX13_attribute_4 : decode cX13_attribute 4 = .ok (.iload_n 1, 1) := dX13_attribute_0g.2.2.1
theorem dX13_attribute_5 : decode cX13_attribute 5 = .ok (.iaload, 1) := dX13_attribute_0g.2.2.2.1
theorem dX13_attribute_6 : decode cX13_attribute 6 = .ok (.bipush 12, 2) := dX13_attribute_0g.2.2.2.2.1
theorem dX13_attribute_8 : decode cX13_attribute 8 = .ok (.if_icmp .ne 11, 3) := dX13_attribute_0g.2.2.2.2.2.1
theorem dX13_attribute_11 : decode cX13_attribute 11 = .ok (.aload_n 0, 1) := dX13_attribute_0g.2.2.2.2.2.2.1
theorem dX13_attribute_12 : decode cX13_attribute 12 = .ok (.aload_n 0, 1) := dX13_attribute_0g.2.2.2.2.2.2.2.1
theorem dX13_attribute_13 : decode cX13_attribute 13 = .ok (.getfield 279, 3) := dX13_attribute_0g.2.2.2.2.2.2.2.2.1
theorem dX13_attribute_16 : decode cX13_attribute 16 = .ok (.invokevirtual 289, 3) := dX13_attribute_0g.2.2.2.2.2.2.2.2.2.1
theorem dX13_attribute_19 : decode cX13_attribute 19 = .ok (.aload_n 0, 1) := dX13_attribute_0g.2.2.2.2.2.2.2.2.2.2.1
theorem dX13_attribute_20 : decode cX13_attribute 20 = .ok (.invokevirtual 315, 3) := dX13_attribute_0g.2.2.2.2.2.2.2.2.2.2.2.1
theorem dX13_attribute_23 : decode cX13_attribute 23 = .ok (.lstore_n 2, 1) := dX13_attribute_0g.2.2.2.2.2.2.2.2.2.2.2.2.1
theorem dX13_attribute_24 : decode cX13_attribute 24 = .ok (.aload_n 0, 1) := dX13_attribute_0g.2.2.2.2.2.2.2.2.2.2.2.2.2.1
theorem dX13_attribute_25 : decode cX13_attribute 25 = .ok (.getfield 276, 3) := dX13_attribute_0g.2.2.2.2.2.2.2.2.2.2.2.2.2.2.1
theorem dX13_attribute_28 : decode cX13_attribute 28 = .ok (.ifCond .ne 31, 3) := dX13_attribute_0g.2.2.2.2.2.2.2.2.2.2.2.2.2.2.2
theorem dX13_attribute_31g : decode cX13_attribute 31 = .ok (.aload_n 0, 1) ∧ decode cX13_attribute 32 = .ok (.iconst 0, 1) ∧ decode cX13_attribute 33 = .ok (.invokevirtual 282, 3) ∧ decode cX13_attribute 36 = .ok (.bipush 61, 2) ∧ decode cX13_attribute 38 = .ok (.if_icmp .ne 21, 3) ∧ decode cX13_attribute 41 = .ok (.aload_n 0, 1) ∧ decode cX13_attribute 42 = .ok (.iload_n 1, 1) ∧ decode cX13_attribute 43 = .ok (.lload_n 2, 1) ∧ decode cX13_attribute 44 = .ok (.invokevirtual 319, 3) ∧ decode cX13_attribute 47 = .ok (.iconst (-1), 1) ∧ decode cX13_attribute 48 = .ok (.if_icmp .eq 11, 3) ∧ decode cX13_attribute 51 = .ok (.aload_n 0, 1) ∧ decode cX13_attribute 52 = .ok (.aload_n 0, 1) ∧ decode cX13_attribute 53 = .ok (.getfield 279, 3) ∧ decode cX13_attribute 56 = .ok (.invokevirtual 289, 3) ∧ decode cX13_attribute 59 = .ok (.aload_n 0, 1) := by decide +kernel
theorem dX13_attribute_31 : decode cX13_attribute 31 = .ok (.aload_n 0, 1) := dX13_attribute_31g.1
theorem dX13_attribute_32 : decode cX13_attribute 32 = .ok (.iconst 0, 1) := dX13_attribute_31g.2.1
theorem dX13_attribute_33 : decode cX13_attribute 33 = .ok (.invokevirtual 282, 3) := dX13_attribute_31g.2.2.1
theorem dX13_attribute_36 : decode cX13_attribute 36 = .ok (.bipush 61, 2) := dX13_attribute_31g.2.2.2.1
theorem dX13_attribute_38 : decode cX13_attribute 38 = .ok (.if_icmp .ne 21, 3) := dX13_attribute_31g.2.2.2.2.1
theorem dX13_attribute_41 : decode cX13_attribute 41 = .ok (.aload_n 0, 1) := dX13_attribute_31g.2.2.2.2.2.1
theorem dX13_attribute_42 : decode cX13_attribute 42 = .ok (.iload_n 1, 1) := dX13_attribute_31g.2.2.2.2.2.2.1
theorem dX13_attribute_43 : decode cX13_attribute 43 = .ok (.lload_n 2, 1) := dX13_attribute_31g.2.2.2.2.2.2.2.1
theorem dX13_attribute_44 : decode cX13_attribute 44 = .ok (.invokevirtual 319, 3) := dX13_attribute_31g.2.2.2.2.2.2.2.2.1
theorem dX13_attribute_47 : decode cX13_attribute 47 = .ok (.iconst (-1), 1) := dX13_attribute_31g.2.2.2.2.2.2.2.2.2.1
theorem dX13_attribute_48 : decode cX13_attribute 48 = .ok (.if_icmp .eq 11, 3) := dX13_attribute_31g.2.2.2.2.2.2.2.2.2.2.1
theorem dX13_attribute_51 : decode cX13_attribute 51 = .ok (.aload_n 0, 1) := dX13_attribute_31g.2.2.2.2.2.2.2.2.2.2.2.1
theorem dX13_attribute_52 : decode cX13_attribute 52 = .ok (.aload_n 0, 1) := dX13_attribute_31g.2.2.2.2.2.2.2.2.2.2.2.2.1
theorem dX13_attribute_53 : decode cX13_attribute 53 = .ok (.getfield 279, 3) := dX13_attribute_31g.2.2.2.2.2.2.2.2.2.2.2.2.2.1
theorem dX13_attribute_56 : decode cX13_attribute 56 = .ok (.invokevirtual 289, 3) := dX13_attribute_31g.2.2.2.2.2.2.2.2.2.2.2.2.2.2.1
theorem dX13_attribute_59 : decode cX13_attribute 59 = .ok (.aload_n 0, 1) := dX13_attribute_31g.2.2.2.2.2.2.2.2.2.2.2.2.2.2.2
theorem dX13_attribute_60g : decode cX13_attribute 60 = .ok (.bipush 61, 2) ∧ decode cX13_attribute 62 = .ok (.invokevirtual 293, 3) ∧ decode cX13_attribute 65 = .ok (.aload_n 0, 1) ∧ decode cX13_attribute 66 = .ok (.bipush 34, 2) ∧ decode cX13_attribute 68 = .ok (.invokevirtual 293, 3) ∧ decode cX13_attribute 71 = .ok (.aload_n 0, 1) ∧ decode cX13_attribute 72 = .ok (.getfield 276, 3) ∧ decode cX13_attribute 75 = .ok (.ifCond .eq 4, 3) ∧ decode cX13_attribute 78 = .ok (.return_, 1) ∧ decode cX13_attribute 79 = .ok (.bipush 12, 2) ∧ decode cX13_attribute 81 = .ok (.iload_n 1, 1) ∧ decode cX13_attribute 82 = .ok (.imul, 1) ∧ decode cX13_attribute 83 = .ok (.aload_n 0, 1) ∧ decode cX13_attribute 84 = .ok (.getfield 138, 3) ∧ decode cX13_attribute 87 = .ok (.iload_n 1, 1) ∧ decode cX13_attribute 88 = .ok (.iaload, 1) := by decide +kernel
theorem dX13_attribute_60 : decode cX13_attribute 60 = .ok (.bipush 61, 2) := dX13_attribute_60g.1
theorem dX13_attribute_62 : decode cX13_attribute 62 = .ok (.invokevirtual 293, 3) := dX13_attribute_60g.2.1
theorem dX13_attribute_65 : decode cX13_attribute 65 = .ok (.aload_n 0, 1) := dX13_attribute_60g.2.2.1
theorem dX13_attribute_66 : decode cX13_attribute 66 = .ok (.bipush 34, 2) := dX13_attribute_60g.2.2.2.1
theorem dX13_attribute_68 : decode cX13_attribute 68 = .ok (.invokevirtual 293, 3) := dX13_attribute_60g.2.2.2.2.1
theorem dX13_attribute_71 : decode cX13_attribute 71 = .ok (.aload_n 0, 1) := dX13_attribute_60g.2.2.2.2.2.1
theorem dX13_attribute_72 : decode cX13_attribute 72 = .ok (.getfield 276, 3) := dX13_attribute_60g.2.2.2.2.2.2.1
theorem dX13_attribute_75 : decode cX13_attribute 75 = .ok (.ifCond .eq 4, 3) := dX13_attribute_60g.2.2.2.2.2.2.2.1
theorem dX13_attribute_78 : decode cX13_attribute 78 = .ok (.return_, 1) := dX13_attribute_60g.2.2.2.2.2.2.2.2.1
theorem dX13_attribute_79 : decode cX13_attribute 79 = .ok (.bipush 12, 2) := dX13_attribute_60g.2.2.2.2.2.2.2.2.2.1
theorem dX13_attribute_81 : decode cX13_attribute 81 = .ok (.iload_n 1, 1) := dX13_attribute_60g.2.2.2.2.2.2.2.2.2.2.1
theorem dX13_attribute_82 : decode cX13_attribute 82 = .ok (.imul, 1) := dX13_attribute_60g.2.2.2.2.2.2.2.2.2.2.2.1
theorem dX13_attribute_83 : decode cX13_attribute 83 = .ok (.aload_n 0, 1) := dX13_attribute_60g.2.2.2.2.2.2.2.2.2.2.2.2.1
theorem dX13_attribute_84 : decode cX13_attribute 84 = .ok (.getfield 138, 3) := dX13_attribute_60g.2.2.2.2.2.2.2.2.2.2.2.2.2.1
theorem dX13_attribute_87 : decode cX13_attribute 87 = .ok (.iload_n 1, 1) := dX13_attribute_60g.2.2.2.2.2.2.2.2.2.2.2.2.2.2.1
theorem dX13_attribute_88 : decode cX13_attribute 88 = .ok (.iaload, 1) := dX13_attribute_60g.2.2.2.2.2.2.2.2.2.2.2.2.2.2.2
theorem dX13_attribute_89g : decode cX13_attribute 89 = .ok (.iadd, 1) ∧ decode cX13_attribute 90 = .ok (.istore 4, 2) ∧ decode cX13_attribute 92 = .ok (.aload_n 0, 1) ∧ decode cX13_attribute 93 = .ok (.getfield 153, 3) ∧ decode cX13_attribute 96 = .ok (.iload 4, 2) ∧ decode cX13_attribute 98 = .ok (.lload_n 2, 1) ∧ decode cX13_attribute 99 = .ok (.lastore, 1) ∧ decode cX13_attribute 100 = .ok (.aload_n 0, 1) ∧ decode cX13_attribute 101 = .ok (.getfield 156, 3) ∧ decode cX13_attribute 104 = .ok (.iload 4, 2) ∧ decode cX13_attribute 106 = .ok (.aload_n 0, 1) ∧ decode cX13_attribute 107 = .ok (.getfield 323, 3) ∧ decode cX13_attribute 110 = .ok (.iastore, 1) ∧ decode cX13_attribute 111 = .ok (.aload_n 0, 1) ∧ decode cX13_attribute 112 = .ok (.getfield 159, 3) ∧ decode cX13_attribute 115 = .ok (.iload 4, 2) := by decide +kernel
theorem dX13_attribute_89 : decode cX13_attribute 89 = .ok (.iadd, 1) := dX13_attribute_89g.1
theorem dX13_attribute_90 : decode cX13_attribute 90 = .ok (.istore 4, 2) := dX13_attribute_89g.2.1
theorem dX13_attribute_92 : decode cX13_attribute 92 = .ok (.aload_n 0, 1) := dX13_attribute_89g.2.2.1
theorem dX13_attribute_93 : decode cX13_attribute 93 = .ok (.getfield 153, 3) := dX13_attribute_89g.2.2.2.1
theorem dX13_attribute_96 : decode cX13_attribute 96 = .ok (.iload 4, 2) := dX13_attribute_89g.2.2.2.2.1
theorem dX13_attribute_98 : decode cX13_attribute 98 = .ok (.lload_n 2, 1) := dX13_attribute_89g.2.2.2.2.2.1
theorem dX13_attribute_99 : decode cX13_attribute 99 = .ok (.lastore, 1) := dX13_attribute_89g.2.2.2.2.2.2.1
theorem dX13_attribute_100 : decode cX13_attribute 100 = .ok (.aload_n 0, 1) := dX13_attribute_89g.2.2.2.2.2.2.2.1
theorem dX13_attribute_101 : decode cX13_attribute 101 = .ok (.getfield 156, 3) := dX13_attribute_89g.2.2.2.2.2.2.2.2.1
theorem dX13_attribute_104 : decode cX13_attribute 104 = .ok (.iload 4, 2) := dX13_attribute_89g.2.2.2.2.2.2.2.2.2.1
theorem dX13_attribute_106 : decode cX13_attribute 106 = .ok (.aload_n 0, 1) := dX13_attribute_89g.2.2.2.2.2.2.2.2.2.2.1
theorem dX13_attribute_107 : decode cX13_attribute 107 = .ok (.getfield 323, 3) := dX13_attribute_89g.2.2.2.2.2.2.2.2.2.2.2.1
theorem dX13_attribute_110 : decode cX13_attribute 110 = .ok (.iastore, 1) := dX13_attribute_89g.2.2.2.2.2.2.2.2.2.2.2.2.1
theorem dX13_attribute_111 : decode cX13_attribute 111 = .ok (.aload_n 0, 1) := dX13_attribute_89g.2.2.2.2.2.2.2.2.2.2.2.2.2.1
theorem dX13_attribute_112 : decode cX13_attribute 112 = .ok (.getfield 159, 3) := dX13_attribute_89g.2.2.2.2.2.2.2.2.2.2.2.2.2.2.1
theorem dX13_attribute_115 : decode cX13_attribute 115 = .ok (.iload 4, 2) := dX13_attribute_89g.2.2.2.2.2.2.2.2.2.2.2.2.2.2.2
theorem dX13_attribute_117g : decode cX13_attribute 117 = .ok (.iconst 0, 1) ∧ decode cX13_attribute 118 = .ok (.iastore, 1) ∧ decode cX13_attribute 119 = .ok (.aload_n 0, 1) ∧ decode cX13_attribute 120 = .ok (.getfield 276, 3) ∧ decode cX13_attribute 123 = .ok (.ifCond .ne 128, 3) ∧ decode cX13_attribute 126 = .ok (.aload_n 0, 1) ∧ decode cX13_attribute 127 = .ok (.iconst 0, 1) ∧ decode cX13_attribute 128 = .ok (.invokevirtual 282, 3) ∧ decode cX13_attribute 131 = .ok (.bipush 34, 2) ∧ decode cX13_attribute 133 = .ok (.if_icmp .eq 118, 3) ∧ decode cX13_attribute 136 = .ok (.aload_n 0, 1) ∧ decode cX13_attribute 137 = .ok (.iconst 0, 1) ∧ decode cX13_attribute 138 = .ok (.invokevirtual 282, 3) ∧ decode cX13_attribute 141 = .ok (.istore 5, 2) ∧ decode cX13_attribute 143 = .ok (.iload 5, 2) ∧ decode cX13_attribute 145 = .ok (.iconst (-1), 1) := by decide +kernel
theorem dX13_attribute_117 : decode cX13_attribute 117 = .ok (.iconst 0, 1) := dX13_attribute_117g.1
theorem dX13_attribute_118 : decode cX13_attribute 118 = .ok (.iastore, 1) := dX13_attribute_117g.2.1
theorem dX13_attribute_119 : decode cX13_attribute 119 = .ok (.aload_n 0, 1) := dX13_attribute_117g.2.2.1
theorem dX13_attribute_120 : decode cX13_attribute 120 = .ok (.getfield 276, 3) := dX13_attribute_117g.2.2.2.1
theorem dX13_attribute_123 : decode cX13_attribute 123 = .ok (.ifCond .ne 128, 3) := dX13_attribute_117g.2.2.2.2.1
theorem dX13_attribute_126 : decode cX13_attribute 126 = .ok (.aload_n 0, 1) := dX13_attribute_117g.2.2.2.2.2.1
theorem dX13_attribute_127 : decode cX13_attribute 127 = .ok (.iconst 0, 1) := dX13_attribute_117g.2.2.2.2.2.2.1
theorem dX13_attribute_128 : decode cX13_attribute 128 = .ok (.invokevirtual 282, 3) := dX13_attribute_117g.2.2.2.2.2.2.2.1
theorem dX13_attribute_131 : decode cX13_attribute 131 = .ok (.bipush 34, 2) := dX13_attribute_117g.2.2.2.2.2.2.2.2.1
theorem dX13_attribute_133 : decode cX13_attribute 133 = .ok (.if_icmp .eq 118, 3) := dX13_attribute_117g.2.2.2.2.2.2.2.2.2.1
theorem dX13_attribute_136 : decode cX13_attribute 136 = .ok (.aload_n 0, 1) := dX13_attribute_117g.2.2.2.2.2.2.2.2.2.2.1
theorem dX13_attribute_137 : decode cX13_attribute 137 = .ok (.iconst 0, 1) := dX13_attribute_117g.2.2.2.2.2.2.2.2.2.2.2.1
theorem dX13_attribute_138 : decode cX13_attribute 138 = .ok (.invokevirtual 282, 3) := dX13_attribute_117g.2.2.2.2.2.2.2.2.2.2.2.2.1
theorem dX13_attribute_141 : decode cX13_attribute 141 = .ok (.istore 5, 2) := dX13_attribute_117g.2.2.2.2.2.2.2.2.2.2.2.2.2.1
theorem dX13_attribute_143 : decode cX13_attribute 143 = .ok (.iload 5, 2) := dX13_attribute_117g.2.2.2.2.2.2.2.2.2.2.2.2.2.2.1
theorem dX13_attribute_145 : decode cX13_attribute 145 = .ok (.iconst (-1), 1) := dX13_attribute_117g.2.2.2.2.2.2.2.2.2.2.2.2.2.2.2
theorem dX13_attribute_146g : decode cX13_attribute 146 = .ok (.if_icmp .eq 10, 3) ∧ decode cX13_attribute 149 = .ok (.iload 5, 2) ∧ decode cX13_attribute 151 = .ok (.bipush 60, 2) ∧ decode cX13_attribute 153 = .ok (.if_icmp .ne 11, 3) ∧ decode cX13_attribute 156 = .ok (.aload_n 0, 1) ∧ decode cX13_attribute 157 = .ok (.aload_n 0, 1) ∧ decode cX13_attribute 158 = .ok (.getfield 279, 3) ∧ decode cX13_attribute 161 = .ok (.invokevirtual 289, 3) ∧ decode cX13_attribute 164 = .ok (.iload 5, 2) ∧ decode cX13_attribute 166 = .ok (.bipush 38, 2) ∧ decode cX13_attribute 168 = .ok (.if_icmp .ne 9, 3) ∧ decode cX13_attribute 171 = .ok (.aload_n 0, 1) ∧ decode cX13_attribute 172 = .ok (.invokevirtual 326, 3) ∧ decode cX13_attribute 175 = .ok (.istore 5, 2) ∧ decode cX13_attribute 177 = .ok (.aload_n 0, 1) ∧ decode cX13_attribute 178 = .ok (.getfield 159, 3) := by decide +kernel
theorem dX13_attribute_146 : decode cX13_attribute 146 = .ok (.if_icmp .eq 10, 3) := dX13_attribute_146g.1
theorem dX13_attribute_149 : decode cX13_attribute 149 = .ok (.iload 5, 2) := dX13_attribute_146g.2.1
theorem dX13_attribute_151 : decode cX13_attribute 151 = .ok (.bipush 60, 2) := dX13_attribute_146g.2.2.1
theorem dX13_attribute_153 : decode cX13_attribute 153 = .ok (.if_icmp .ne 11, 3) := dX13_attribute_146g.2.2.2.1
theorem dX13_attribute_156 : decode cX13_attribute 156 = .ok (.aload_n 0, 1) := dX13_attribute_146g.2.2.2.2.1
theorem dX13_attribute_157 : decode cX13_attribute 157 = .ok (.aload_n 0, 1) := dX13_attribute_146g.2.2.2.2.2.1
theorem dX13_attribute_158 : decode cX13_attribute 158 = .ok (.getfield 279, 3) := dX13_attribute_146g.2.2.2.2.2.2.1
theorem dX13_attribute_161 : decode cX13_attribute 161 = .ok (.invokevirtual 289, 3) := dX13_attribute_146g.2.2.2.2.2.2.2.1
theorem dX13_attribute_164 : decode cX13_attribute 164 = .ok (.iload 5, 2) := dX13_attribute_146g.2.2.2.2.2.2.2.2.1
theorem dX13_attribute_166 : decode cX13_attribute 166 = .ok (.bipush 38, 2) := dX13_attribute_146g.2.2.2.2.2.2.2.2.2.1
theorem dX13_attribute_168 : decode cX13_attribute 168 = .ok (.if_icmp .ne 9, 3) := dX13_attribute_146g.2.2.2.2.2.2.2.2.2.2.1
theorem dX13_attribute_171 : decode cX13_attribute 171 = .ok (.aload_n 0, 1) := dX13_attribute_146g.2.2.2.2.2.2.2.2.2.2.2.1
theorem dX13_attribute_172 : decode cX13_attribute 172 = .ok (.invokevirtual 326, 3) := dX13_attribute_146g.2.2.2.2.2.2.2.2.2.2.2.2.1
theorem dX13_attribute_175 : decode cX13_attribute 175 = .ok (.istore 5, 2) := dX13_attribute_146g.2.2.2.2.2.2.2.2.2.2.2.2.2.1
theorem dX13_attribute_177 : decode cX13_attribute 177 = .ok (.aload_n 0, 1) := dX13_attribute_146g.2.2.2.2.2.2.2.2.2.2.2.2.2.2.1
theorem dX13_attribute_178 : decode cX13_attribute 178 = .ok (.getfield 159, 3) := dX13_attribute_146g.2.2.2.2.2.2.2.2.2.2.2.2.2.2.2
theorem dX13_attribute_181g : decode cX13_attribute 181 = .ok (.iload 4, 2) ∧ decode cX13_attribute 183 = .ok (.iaload, 1) ∧ decode cX13_attribute 184 = .ok (.bipush 24, 2) ∧ decode cX13_attribute 186 = .ok (.if_icmp .ne 11, 3) ∧ decode cX13_attribute 189 = .ok (.aload_n 0, 1) ∧ decode cX13_attribute 190 = .ok (.aload_n 0, 1) ∧ decode cX13_attribute 191 = .ok (.getfield 279, 3) ∧ decode cX13_attribute 194 = .ok (.invokevirtual 289, 3) ∧ decode cX13_attribute 197 = .ok (.aload_n 0, 1) ∧ decode cX13_attribute 198 = .ok (.getfield 276, 3) ∧ decode cX13_attribute 201 = .ok (.ifCond .eq 4, 3) ∧ decode cX13_attribute 204 = .ok (.return_, 1) ∧ decode cX13_attribute 205 = .ok (.aload_n 0, 1) ∧ decode cX13_attribute 206 = .ok (.getfield 162, 3) ∧ decode cX13_attribute 209 = .ok (.aload_n 0, 1) ∧ decode cX13_attribute 210 = .ok (.getfield 323, 3) := by decide +kernel
theorem dX13_attribute_181 : decode cX13_attribute 181 = .ok (.iload 4, 2) := dX13_attribute_181g.1
theorem dX13_attribute_183 : decode cX13_attribute 183 = .ok (.iaload, 1) := dX13_attribute_181g.2.1
theorem dX13_attribute_184 : decode cX13_attribute 184 = .ok (.bipush 24, 2) := dX13_attribute_181g.2.2.1
theorem dX13_attribute_186 : decode cX13_attribute 186 = .ok (.if_icmp .ne 11, 3) := dX13_attribute_181g.2.2.2.1
theorem dX13_attribute_189 : decode cX13_attribute 189 = .ok (.aload_n 0, 1) := dX13_attribute_181g.2.2.2.2.1
theorem dX13_attribute_190 : decode cX13_attribute 190 = .ok (.aload_n 0, 1) := dX13_attribute_181g.2.2.2.2.2.1
theorem dX13_attribute_191 : decode cX13_attribute 191 = .ok (.getfield 279, 3) := dX13_attribute_181g.2.2.2.2.2.2.1
theorem dX13_attribute_194 : decode cX13_attribute 194 = .ok (.invokevirtual 289, 3) := dX13_attribute_181g.2.2.2.2.2.2.2.1
theorem dX13_attribute_197 : decode cX13_attribute 197 = .ok (.aload_n 0, 1) := dX13_attribute_181g.2.2.2.2.2.2.2.2.1
theorem dX13_attribute_198 : decode cX13_attribute 198 = .ok (.getfield 276, 3) := dX13_attribute_181g.2.2.2.2.2.2.2.2.2.1
theorem dX13_attribute_201 : decode cX13_attribute 201 = .ok (.ifCond .eq 4, 3) := dX13_attribute_181g.2.2.2.2.2.2.2.2.2.2.1
theorem dX13_attribute_204 : decode cX13_attribute 204 = .ok (.return_, 1) := dX13_attribute_181g.2.2.2.2.2.2.2.2.2.2.2.1
theorem dX13_attribute_205 : decode cX13_attribute 205 = .ok (.aload_n 0, 1) := dX13_attribute_181g.2.2.2.2.2.2.2.2.2.2.2.2.1
theorem dX13_attribute_206 : decode cX13_attribute 206 = .ok (.getfield 162, 3) := dX13_attribute_181g.2.2.2.2.2.2.2.2.2.2.2.2.2.1
theorem dX13_attribute_209 : decode cX13_attribute 209 = .ok (.aload_n 0, 1) := dX13_attribute_181g.2.2.2.2.2.2.2.2.2.2.2.2.2.2.1
theorem dX13_attribute_210 : decode cX13_attribute 210 = .ok (.getfield 323, 3) := dX13_attribute_181g.2.2.2.2.2.2.2.2.2.2.2.2.2.2.2
theorem dX13_attribute_213g : decode cX13_attribute 213 = .ok (.iload 5, 2) ∧ decode cX13_attribute 215 = .ok (.i2b, 1) ∧ decode cX13_attribute 216 = .ok (.bastore, 1) ∧ decode cX13_attribute 217 = .ok (.aload_n 0, 1) ∧ decode cX13_attribute 218 = .ok (.dup, 1) ∧ decode cX13_attribute 219 = .ok (.getfield 323, 3) ∧ decode cX13_attribute 222 = .ok (.iconst 1, 1) ∧ decode cX13_attribute 223 = .ok (.iadd, 1) ∧ decode cX13_attribute 224 = .ok (.putfield 323, 3) ∧ decode cX13_attribute 227 = .ok (.aload_n 0, 1) ∧ decode cX13_attribute 228 = .ok (.getfield 159, 3) ∧ decode cX13_attribute 231 = .ok (.iload 4, 2) ∧ decode cX13_attribute 233 = .ok (.dup2, 1) ∧ decode cX13_attribute 234 = .ok (.iaload, 1) ∧ decode cX13_attribute 235 = .ok (.iconst 1, 1) ∧ decode cX13_attribute 236 = .ok (.iadd, 1) := by decide +kernel
theorem dX13_attribute_213 : decode cX13_attribute 213 = .ok (.iload 5, 2) := dX13_attribute_213g.1
theorem dX13_attribute_215 : decode cX13_attribute 215 = .ok (.i2b, 1) := dX13_attribute_213g.2.1
theorem dX13_attribute_216 : decode cX13_attribute 216 = .ok (.bastore, 1) := dX13_attribute_213g.2.2.1
theorem dX13_attribute_217 : decode cX13_attribute 217 = .ok (.aload_n 0, 1) := dX13_attribute_213g.2.2.2.1
theorem dX13_attribute_218 : decode cX13_attribute 218 = .ok (.dup, 1) := dX13_attribute_213g.2.2.2.2.1
theorem dX13_attribute_219 : decode cX13_attribute 219 = .ok (.getfield 323, 3) := dX13_attribute_213g.2.2.2.2.2.1
theorem dX13_attribute_222 : decode cX13_attribute 222 = .ok (.iconst 1, 1) := dX13_attribute_213g.2.2.2.2.2.2.1
theorem dX13_attribute_223 : decode cX13_attribute 223 = .ok (.iadd, 1) := dX13_attribute_213g.2.2.2.2.2.2.2.1
theorem dX13_attribute_224 : decode cX13_attribute 224 = .ok (.putfield 323, 3) := dX13_attribute_213g.2.2.2.2.2.2.2.2.1
theorem dX13_attribute_227 : decode cX13_attribute 227 = .ok (.aload_n 0, 1) := dX13_attribute_213g.2.2.2.2.2.2.2.2.2.1
theorem dX13_attribute_228 : decode cX13_attribute 228 = .ok (.getfield 159, 3) := dX13_attribute_213g.2.2.2.2.2.2.2.2.2.2.1
theorem dX13_attribute_231 : decode cX13_attribute 231 = .ok (.iload 4, 2) := dX13_attribute_213g.2.2.2.2.2.2.2.2.2.2.2.1
theorem dX13_attribute_233 : decode cX13_attribute 233 = .ok (.dup2, 1) := dX13_attribute_213g.2.2.2.2.2.2.2.2.2.2.2.2.1
theorem dX13_attribute_234 : decode cX13_attribute 234 = .ok (.iaload, 1) := dX13_attribute_213g.2.2.2.2.2.2.2.2.2.2.2.2.2.1
theorem dX13_attribute_235 : decode cX13_attribute 235 = .ok (.iconst 1, 1) := dX13_attribute_213g.2.2.2.2.2.2.2.2.2.2.2.2.2.2.1
theorem dX13_attribute_236 : decode cX13_attribute 236 = .ok (.iadd, 1) := dX13_attribute_213g.2.2.2.2.2.2.2.2.2.2.2.2.2.2.2
theorem dX13_attribute_237g : decode cX13_attribute 237 = .ok (.iastore, 1) ∧ decode cX13_attribute 238 = .ok (.aload_n 0, 1) ∧ decode cX13_attribute 239 = .ok (.dup, 1) ∧ decode cX13_attribute 240 = .ok (.getfield 279, 3) ∧ decode cX13_attribute 243 = .ok (.iconst 1, 1) ∧ decode cX13_attribute 244 = .ok (.iadd, 1) ∧ decode cX13_attribute 245 = .ok (.putfield 279, 3) ∧ decode cX13_attribute 248 = .ok (.goto (-129), 3) ∧ decode cX13_attribute 251 = .ok (.aload_n 0, 1) ∧ decode cX13_attribute 252 = .ok (.bipush 34, 2) ∧ decode cX13_attribute 254 = .ok (.invokevirtual 293, 3) ∧ decode cX13_attribute 257 = .ok (.aload_n 0, 1) ∧ decode cX13_attribute 258 = .ok (.getfield 138, 3) ∧ decode cX13_attribute 261 = .ok (.iload_n 1, 1) ∧ decode cX13_attribute 262 = .ok (.dup2, 1) ∧ decode cX13_attribute 263 = .ok (.iaload, 1) := by decide +kernel
theorem dX13_attribute_237 : decode cX13_attribute 237 = .ok (.iastore, 1) := dX13_attribute_237g.1
theorem dX13_attribute_238 : decode cX13_attribute 238 = .ok (.aload_n 0, 1) := dX13_attribute_237g.2.1
theorem dX13_attribute_239 : decode cX13_attribute 239 = .ok (.dup, 1) := dX13_attribute_237g.2.2.1
theorem dX13_attribute_240 : decode cX13_attribute 240 = .ok (.getfield 279, 3) := dX13_attribute_237g.2.2.2.1
theorem dX13_attribute_243 : decode cX13_attribute 243 = .ok (.iconst 1, 1) := dX13_attribute_237g.2.2.2.2.1
theorem dX13_attribute_244 : decode cX13_attribute 244 = .ok (.iadd, 1) := dX13_attribute_237g.2.2.2.2.2.1
theorem dX13_attribute_245 : decode cX13_attribute 245 = .ok (.putfield 279, 3) := dX13_attribute_237g.2.2.2.2.2.2.1
theorem dX13_attribute_248 : decode cX13_attribute 248 = .ok (.goto (-129), 3) := dX13_attribute_237g.2.2.2.2.2.2.2.1
theorem dX13_attribute_251 : decode cX13_attribute 251 = .ok (.aload_n 0, 1) := dX13_attribute_237g.2.2.2.2.2.2.2.2.1
theorem dX13_attribute_252 : decode cX13_attribute 252 = .ok (.bipush 34, 2) := dX13_attribute_237g.2.2.2.2.2.2.2.2.2.1
theorem dX13_attribute_254 : decode cX13_attribute 254 = .ok (.invokevirtual 293, 3) := dX13_attribute_237g.2.2.2.2.2.2.2.2.2.2.1
theorem dX13_attribute_257 : decode cX13_attribute 257 = .ok (.aload_n 0, 1) := dX13_attribute_237g.2.2.2.2.2.2.2.2.2.2.2.1
theorem dX13_attribute_258 : decode cX13_attribute 258 = .ok (.getfield 138, 3) := dX13_attribute_237g.2.2.2.2.2.2.2.2.2.2.2.2.1
theorem dX13_attribute_261 : decode cX13_attribute 261 = .ok (.iload_n 1, 1) := dX13_attribute_237g.2.2.2.2.2.2.2.2.2.2.2.2.2.1
theorem dX13_attribute_262 : decode cX13_attribute 262 = .ok (.dup2, 1) := dX13_attribute_237g.2.2.2.2.2.2.2.2.2.2.2.2.2.2.1
theorem dX13_attribute_263 : decode cX13_attribute 263 = .ok (.iaload, 1) := dX13_attribute_237g.2.2.2.2.2.2.2.2.2.2.2.2.2.2.2
theorem dX13_attribute_264g : decode cX13_attribute 264 = .ok (.iconst 1, 1) ∧ decode cX13_attribute 265 = .ok (.iadd, 1) ∧ decode cX13_attribute 266 = .ok (.iastore, 1) ∧ decode cX13_attribute 267 = .ok (.return_, 1) := by decide +kernel
theorem dX13_attribute_264 : decode cX13_attribute 264 = .ok (.iconst 1, 1) := dX13_attribute_264g.1
theorem dX13_attribute_265 : decode cX13_attribute 265 = .ok (.iadd, 1) := dX13_attribute_264g.2.1
theorem dX13_attribute_266 : decode cX13_attribute 266 = .ok (.iastore, 1) := dX13_attribute_264g.2.2.1
theorem dX13_attribute_267 : decode cX13_attribute 267 = .ok (.return_, 1) := dX13_attribute_264g.2.2.2
theorem dX13_add_0g : decode cX13_add 0 = .ok (.aload_n 0, 1) ∧ decode cX13_add 1 = .ok (.iload_n 2, 1) ∧ decode cX13_add 2 = .ok (.invokevirtual 286, 3) ∧ decode cX13_add 5 = .ok (.ifCond .eq 27, 3) ∧ decode cX13_add 8 = .ok (.aload_n 0, 1) ∧ decode cX13_add 9 = .ok (.getfield 144, 3) ∧ decode cX13_add 12 = .ok (.iload_n 1, 1) ∧ decode cX13_add 13 = .ok (.dup2, 1) ∧ decode cX13_add 14 = .ok (.iaload, 1) ∧ decode cX13_add 15 = .ok (.aload_n 0, 1) ∧ decode cX13_add 16 = .ok (.getfield 141, 3) ∧ decode cX13_add 19 = .ok (.iload_n 1, 1) ∧ decode cX13_add 20 = .ok (.iaload, 1) ∧ decode cX13_add 21 = .ok (.ifCond .le 7, 3) ∧ decode cX13_add 24 = .ok (.iconst 1, 1) ∧ decode cX13_add 25 = .ok (.goto 4, 3) := by decide +kernel
theorem dX13_add_0 : decode cX13_add 0 = .ok (.aload_n 0, 1) := dX13_add_0g.1
theorem dX13_add_1 : decode cX13_add 1 = .ok (.iload_n 2, 1) := dX13_add_0g.2.1
theorem dX13_add_2 : decode cX13_add 2 = .ok (.invokevirtual 286, 3) := dX13_add_0g.2.2.1
theorem dX13_add_5 : decode cX13_add 5 = .ok (.ifCond .eq 27, 3) := dX13_add_0g.2.2.2.1
theorem dX13_add_8 : decode cX13_add 8 = .ok (.aload_n 0, 1) := dX13_add_0g.2.2.2.2.1
theorem dX13_add_9 : decode cX13_add 9 = .ok (.getfield 144, 3) := dX13_add_0g.2.2.2.2.2.1
theorem dX13_add_12 : decode cX13_add 12 = .ok (.iload_n 1, 1) := dX13_add_0g.2.2.2.2.2.2.1
theorem dX13_add_13 : decode cX13_add 13 = .ok (.dup2, 1) := dX13_add_0g.2.2.2.2.2.2.2.1
theorem dX13_add_14 : decode cX13_add 14 = .ok (.iaload, 1) := dX13_add_0g.2.2.2.2.2.2.2.2.1
theorem dX13_add_15 : decode cX13_add 15 = .ok (.aload_n 0, 1) := dX13_add_0g.2.2.2.2.2.2.2.2.2.1
theorem dX13_add_16 : decode cX13_add 16 = .ok (.getfield 141, 3) := dX13_add_0g.2.2.2.2.2.2.2.2.2.2.1
theorem dX13_add_19 : decode cX13_add 19 = .ok (.iload_n 1, 1) := dX13_add_0g.2.2.2.2.2.2.2.2.2.2.2.1
theorem dX13_add_20 : decode cX13_add 20 = .ok (.iaload, 1) := dX13_add_0g.2.2.2.2.2.2.2.2.2.2.2.2.1
theorem dX13_add_21 : decode cX13_add 21 = .ok (.ifCond .le 7, 3) := dX13_add_0g.2.2.2.2.2.2.2.2.2.2.2.2.2.1
theorem dX13_add_24 : decode cX13_add 24 = .ok (.iconst 1, 1) := dX13_add_0g.2.2.2.2.2.2.2.2.2.2.2.2.2.2.1
theorem dX13_add_25 : decode cX13_add 25 = .ok (.goto 4, 3) := dX13_add_0g.2.2.2.2.2.2.2.2.2.2.2.2.2.2.2
theorem dX13_add_28g : decode cX13_add 28 = .ok (.iconst 0, 1) ∧ decode cX13_add 29 = .ok (.iadd, 1) ∧ decode cX13_add 30 = .ok (.iastore, 1) ∧ decode cX13_add 31 = .ok (.return_, 1) ∧ decode cX13_add 32 = .ok (.aload_n 0, 1) ∧ decode cX13_add 33 = .ok (.getfield 141, 3) ∧ decode cX13_add 36 = .ok (.iload_n 1, 1) ∧ decode cX13_add 37 = .ok (.iaload, 1) ∧ decode cX13_add 38 = .ok (.aload_n 0, 1) ∧ decode cX13_add 39 = .ok (.getfield 144, 3) ∧ decode cX13_add 42 = .ok (.iload_n 1, 1) ∧ decode cX13_add 43 = .ok (.iaload, 1) ∧ decode cX13_add 44 = .ok (.iadd, 1) ∧ decode cX13_add 45 = .ok (.iconst 1, 1) ∧ decode cX13_add 46 = .ok (.iadd, 1) ∧ decode cX13_add 47 = .ok (.bipush 24, 2) := by decide +kernel
theorem dX13_add_28 : decode cX13_add 28 = .ok (.iconst 0, 1) := dX13_add_28g.1
theorem dX13_add_29 : decode cX13_add 29 = .ok (.iadd, 1) := dX13_add_28g.2.1
theorem dX13_add_30 : decode cX13_add 30 = .ok (.iastore, 1) := dX13_add_28g.2.2.1
theorem dX13_add_31 : decode cX13_add 31 = .ok (.return_, 1) := dX13_add_28g.2.2.2.1
theorem dX13_add_32 : decode cX13_add 32 = .ok (.aload_n 0, 1) := dX13_add_28g.2.2.2.2.1
theorem dX13_add_33 : decode cX13_add 33 = .ok (.getfield 141, 3) := dX13_add_28g.2.2.2.2.2.1
theorem dX13_add_36 : decode cX13_add 36 = .ok (.iload_n 1, 1) := dX13_add_28g.2.2.2.2.2.2.1
theorem dX13_add_37 : decode cX13_add 37 = .ok (.iaload, 1) := dX13_add_28g.2.2.2.2.2.2.2.1
theorem dX13_add_38 : decode cX13_add 38 = .ok (.aload_n 0, 1) := dX13_add_28g.2.2.2.2.2.2.2.2.1
theorem dX13_add_39 : decode cX13_add 39 = .ok (.getfield 144, 3) := dX13_add_28g.2.2.2.2.2.2.2.2.2.1
theorem dX13_add_42 : decode cX13_add 42 = .ok (.iload_n 1, 1) := dX13_add_28g.2.2.2.2.2.2.2.2.2.2.1
theorem dX13_add_43 : decode cX13_add 43 = .ok (.iaload, 1) := dX13_add_28g.2.2.2.2.2.2.2.2.2.2.2.1
theorem dX13_add_44 : decode cX13_add 44 = .ok (.iadd, 1) := dX13_add_28g.2.2.2.2.2.2.2.2.2.2.2.2.1
theorem dX13_add_45 : decode cX13_add 45 = .ok (.iconst 1, 1) := dX13_add_28g.2.2.2.2.2.2.2.2.2.2.2.2.2.1
theorem dX13_add_46 : decode cX13_add 46 = .ok (.iadd, 1) := dX13_add_28g.2.2.2.2.2.2.2.2.2.2.2.2.2.2.1
theorem dX13_add_47 : decode cX13_add 47 = .ok (.bipush 24, 2) := dX13_add_28g.2.2.2.2.2.2.2.2.2.2.2.2.2.2.2
theorem dX13_add_49g : decode cX13_add 49 = .ok (.if_icmp .le 11, 3) ∧ decode cX13_add 52 = .ok (.aload_n 0, 1) ∧ decode cX13_add 53 = .ok (.aload_n 0, 1) ∧ decode cX13_add 54 = .ok (.getfield 279, 3) ∧ decode cX13_add 57 = .ok (.invokevirtual 289, 3) ∧ decode cX13_add 60 = .ok (.aload_n 0, 1) ∧ decode cX13_add 61 = .ok (.getfield 276, 3) ∧ decode cX13_add 64 = .ok (.ifCond .eq 4, 3) ∧ decode cX13_add 67 = .ok (.return_, 1) ∧ decode cX13_add 68 = .ok (.aload_n 0, 1) ∧ decode cX13_add 69 = .ok (.getfield 144, 3) ∧ decode cX13_add 72 = .ok (.iload_n 1, 1) ∧ decode cX13_add 73 = .ok (.iaload, 1) ∧ decode cX13_add 74 = .ok (.ifCond .le 44, 3) ∧ decode cX13_add 77 = .ok (.aload_n 0, 1) ∧ decode cX13_add 78 = .ok (.getfield 165, 3) := by decide +kernel
theorem dX13_add_49 : decode cX13_add 49 = .ok (.if_icmp .le 11, 3) := dX13_add_49g.1
theorem dX13_add_52 : decode cX13_add 52 = .ok (.aload_n 0, 1) := dX13_add_49g.2.1
theorem dX13_add_53 : decode cX13_add 53 = .ok (.aload_n 0, 1) := dX13_add_49g.2.2.1
theorem dX13_add_54 : decode cX13_add 54 = .ok (.getfield 279, 3) := dX13_add_49g.2.2.2.1
theorem dX13_add_57 : decode cX13_add 57 = .ok (.invokevirtual 289, 3) := dX13_add_49g.2.2.2.2.1
theorem dX13_add_60 : decode cX13_add 60 = .ok (.aload_n 0, 1) := dX13_add_49g.2.2.2.2.2.1
theorem dX13_add_61 : decode cX13_add 61 = .ok (.getfield 276, 3) := dX13_add_49g.2.2.2.2.2.2.1
theorem dX13_add_64 : decode cX13_add 64 = .ok (.ifCond .eq 4, 3) := dX13_add_49g.2.2.2.2.2.2.2.1
theorem dX13_add_67 : decode cX13_add 67 = .ok (.return_, 1) := dX13_add_49g.2.2.2.2.2.2.2.2.1
theorem dX13_add_68 : decode cX13_add 68 = .ok (.aload_n 0, 1) := dX13_add_49g.2.2.2.2.2.2.2.2.2.1
theorem dX13_add_69 : decode cX13_add 69 = .ok (.getfield 144, 3) := dX13_add_49g.2.2.2.2.2.2.2.2.2.2.1
theorem dX13_add_72 : decode cX13_add 72 = .ok (.iload_n 1, 1) := dX13_add_49g.2.2.2.2.2.2.2.2.2.2.2.1
theorem dX13_add_73 : decode cX13_add 73 = .ok (.iaload, 1) := dX13_add_49g.2.2.2.2.2.2.2.2.2.2.2.2.1
theorem dX13_add_74 : decode cX13_add 74 = .ok (.ifCond .le 44, 3) := dX13_add_49g.2.2.2.2.2.2.2.2.2.2.2.2.2.1
theorem dX13_add_77 : decode cX13_add 77 = .ok (.aload_n 0, 1) := dX13_add_49g.2.2.2.2.2.2.2.2.2.2.2.2.2.2.1
theorem dX13_add_78 : decode cX13_add 78 = .ok (.getfield 165, 3) := dX13_add_49g.2.2.2.2.2.2.2.2.2.2.2.2.2.2.2
theorem dX13_add_81g : decode cX13_add 81 = .ok (.bipush 24, 2) ∧ decode cX13_add 83 = .ok (.iload_n 1, 1) ∧ decode cX13_add 84 = .ok (.imul, 1) ∧ decode cX13_add 85 = .ok (.aload_n 0, 1) ∧ decode cX13_add 86 = .ok (.getfield 141, 3) ∧ decode cX13_add 89 = .ok (.iload_n 1, 1) ∧ decode cX13_add 90 = .ok (.iaload, 1) ∧ decode cX13_add 91 = .ok (.iadd, 1) ∧ decode cX13_add 92 = .ok (.bipush 32, 2) ∧ decode cX13_add 94 = .ok (.bastore, 1) ∧ decode cX13_add 95 = .ok (.aload_n 0, 1) ∧ decode cX13_add 96 = .ok (.getfield 141, 3) ∧ decode cX13_add 99 = .ok (.iload_n 1, 1) ∧ decode cX13_add 100 = .ok (.dup2, 1) ∧ decode cX13_add 101 = .ok (.iaload, 1) ∧ decode cX13_add 102 = .ok (.iconst 1, 1) := by decide +kernel
theorem dX13_add_81 : decode cX13_add 81 = .ok (.bipush 24, 2) := dX13_add_81g.1
theorem dX13_add_83 : decode cX13_add 83 = .ok (.iload_n 1, 1) := dX13_add_81g.2.1
theorem dX13_add_84 : decode cX13_add 84 = .ok (.imul, 1) := dX13_add_81g.2.2.1
theorem dX13_add_85 : decode cX13_add 85 = .ok (.aload_n 0, 1) := dX13_add_81g.2.2.2.1
theorem dX13_add_86 : decode cX13_add 86 = .ok (.getfield 141, 3) := dX13_add_81g.2.2.2.2.1
theorem dX13_add_89 : decode cX13_add 89 = .ok (.iload_n 1, 1) := dX13_add_81g.2.2.2.2.2.1
theorem dX13_add_90 : decode cX13_add 90 = .ok (.iaload, 1) := dX13_add_81g.2.2.2.2.2.2.1
theorem dX13_add_91 : decode cX13_add 91 = .ok (.iadd, 1) := dX13_add_81g.2.2.2.2.2.2.2.1
theorem dX13_add_92 : decode cX13_add 92 = .ok (.bipush 32, 2) := dX13_add_81g.2.2.2.2.2.2.2.2.1
theorem dX13_add_94 : decode cX13_add 94 = .ok (.bastore, 1) := dX13_add_81g.2.2.2.2.2.2.2.2.2.1
theorem dX13_add_95 : decode cX13_add 95 = .ok (.aload_n 0, 1) := dX13_add_81g.2.2.2.2.2.2.2.2.2.2.1
theorem dX13_add_96 : decode cX13_add 96 = .ok (.getfield 141, 3) := dX13_add_81g.2.2.2.2.2.2.2.2.2.2.2.1
theorem dX13_add_99 : decode cX13_add 99 = .ok (.iload_n 1, 1) := dX13_add_81g.2.2.2.2.2.2.2.2.2.2.2.2.1
theorem dX13_add_100 : decode cX13_add 100 = .ok (.dup2, 1) := dX13_add_81g.2.2.2.2.2.2.2.2.2.2.2.2.2.1
theorem dX13_add_101 : decode cX13_add 101 = .ok (.iaload, 1) := dX13_add_81g.2.2.2.2.2.2.2.2.2.2.2.2.2.2.1
theorem dX13_add_102 : decode cX13_add 102 = .ok (.iconst 1, 1) := dX13_add_81g.2.2.2.2.2.2.2.2.2.2.2.2.2.2.2
theorem dX13_add_103g : decode cX13_add 103 = .ok (.iadd, 1) ∧ decode cX13_add 104 = .ok (.iastore, 1) ∧ decode cX13_add 105 = .ok (.aload_n 0, 1) ∧ decode cX13_add 106 = .ok (.getfield 144, 3) ∧ decode cX13_add 109 = .ok (.iload_n 1, 1) ∧ decode cX13_add 110 = .ok (.dup2, 1) ∧ decode cX13_add 111 = .ok (.iaload, 1) ∧ decode cX13_add 112 = .ok (.iconst 1, 1) ∧ decode cX13_add 113 = .ok (.isub, 1) ∧ decode cX13_add 114 = .ok (.iastore, 1) ∧ decode cX13_add 115 = .ok (.goto (-47), 3) ∧ decode cX13_add 118 = .ok (.aload_n 0, 1) ∧ decode cX13_add 119 = .ok (.getfield 165, 3) ∧ decode cX13_add 122 = .ok (.bipush 24, 2) ∧ decode cX13_add 124 = .ok (.iload_n 1, 1) ∧ decode cX13_add 125 = .ok (.imul, 1) := by decide +kernel
theorem dX13_add_103 : decode cX13_add 103 = .ok (.iadd, 1) := dX13_add_103g.1
theorem dX13_add_104 : decode cX13_add 104 = .ok (.iastore, 1) := dX13_add_103g.2.1
theorem dX13_add_105 : decode cX13_add 105 = .ok (.aload_n 0, 1) := dX13_add_103g.2.2.1
theorem dX13_add_106 : decode cX13_add 106 = .ok (.getfield 144, 3) := dX13_add_103g.2.2.2.1
theorem dX13_add_109 : decode cX13_add 109 = .ok (.iload_n 1, 1) := dX13_add_103g.2.2.2.2.1
theorem dX13_add_110 : decode cX13_add 110 = .ok (.dup2, 1) := dX13_add_103g.2.2.2.2.2.1
theorem dX13_add_111 : decode cX13_add 111 = .ok (.iaload, 1) := dX13_add_103g.2.2.2.2.2.2.1
theorem dX13_add_112 : decode cX13_add 112 = .ok (.iconst 1, 1) := dX13_add_103g.2.2.2.2.2.2.2.1
theorem dX13_add_113 : decode cX13_add 113 = .ok (.isub, 1) := dX13_add_103g.2.2.2.2.2.2.2.2.1
theorem dX13_add_114 : decode cX13_add 114 = .ok (.iastore, 1) := dX13_add_103g.2.2.2.2.2.2.2.2.2.1
theorem dX13_add_115 : decode cX13_add 115 = .ok (.goto (-47), 3) := dX13_add_103g.2.2.2.2.2.2.2.2.2.2.1
theorem dX13_add_118 : decode cX13_add 118 = .ok (.aload_n 0, 1) := dX13_add_103g.2.2.2.2.2.2.2.2.2.2.2.1
theorem dX13_add_119 : decode cX13_add 119 = .ok (.getfield 165, 3) := dX13_add_103g.2.2.2.2.2.2.2.2.2.2.2.2.1
theorem dX13_add_122 : decode cX13_add 122 = .ok (.bipush 24, 2) := dX13_add_103g.2.2.2.2.2.2.2.2.2.2.2.2.2.1
theorem dX13_add_124 : decode cX13_add 124 = .ok (.iload_n 1, 1) := dX13_add_103g.2.2.2.2.2.2.2.2.2.2.2.2.2.2.1
theorem dX13_add_125 : decode cX13_add 125 = .ok (.imul, 1) := dX13_add_103g.2.2.2.2.2.2.2.2.2.2.2.2.2.2.2
theorem dX13_add_126g : decode cX13_add 126 = .ok (.aload_n 0, 1) ∧ decode cX13_add 127 = .ok (.getfield 141, 3) ∧ decode cX13_add 130 = .ok (.iload_n 1, 1) ∧ decode cX13_add 131 = .ok (.iaload, 1) ∧ decode cX13_add 132 = .ok (.iadd, 1) ∧ decode cX13_add 133 = .ok (.iload_n 2, 1) ∧ decode cX13_add 134 = .ok (.i2b, 1) ∧ decode cX13_add 135 = .ok (.bastore, 1) ∧ decode cX13_add 136 = .ok (.aload_n 0, 1) ∧ decode cX13_add 137 = .ok (.getfield 141, 3) ∧ decode cX13_add 140 = .ok (.iload_n 1, 1) ∧ decode cX13_add 141 = .ok (.dup2, 1) ∧ decode cX13_add 142 = .ok (.iaload, 1) ∧ decode cX13_add 143 = .ok (.iconst 1, 1) ∧ decode cX13_add 144 = .ok (.iadd, 1) ∧ decode cX13_add 145 = .ok (.iastore, 1) := by decide +kernel
theorem dX13_add_126 : decode cX13_add 126 = .ok (.aload_n 0, 1) := dX13_add_126g.1
theorem dX13_add_127 : decode cX13_add 127 = .ok (.getfield 141, 3) := dX13_add_126g.2.1
theorem dX13_add_130 : decode cX13_add 130 = .ok (.iload_n 1, 1) := dX13_add_126g.2.2.1
theorem dX13_add_131 : decode cX13_add 131 = .ok (.iaload, 1) := dX13_add_126g.2.2.2.1
theorem dX13_add_132 : decode cX13_add 132 = .ok (.iadd, 1) := dX13_add_126g.2.2.2.2.1
theorem dX13_add_133 : decode cX13_add 133 = .ok (.iload_n 2, 1) := dX13_add_126g.2.2.2.2.2.1
theorem dX13_add_134 : decode cX13_add 134 = .ok (.i2b, 1) := dX13_add_126g.2.2.2.2.2.2.1
theorem dX13_add_135 : decode cX13_add 135 = .ok (.bastore, 1) := dX13_add_126g.2.2.2.2.2.2.2.1
theorem dX13_add_136 : decode cX13_add 136 = .ok (.aload_n 0, 1) := dX13_add_126g.2.2.2.2.2.2.2.2.1
theorem dX13_add_137 : decode cX13_add 137 = .ok (.getfield 141, 3) := dX13_add_126g.2.2.2.2.2.2.2.2.2.1
theorem dX13_add_140 : decode cX13_add 140 = .ok (.iload_n 1, 1) := dX13_add_126g.2.2.2.2.2.2.2.2.2.2.1
theorem dX13_add_141 : decode cX13_add 141 = .ok (.dup2, 1) := dX13_add_126g.2.2.2.2.2.2.2.2.2.2.2.1
theorem dX13_add_142 : decode cX13_add 142 = .ok (.iaload, 1) := dX13_add_126g.2.2.2.2.2.2.2.2.2.2.2.2.1
theorem dX13_add_143 : decode cX13_add 143 = .ok (.iconst 1, 1) := dX13_add_126g.2.2.2.2.2.2.2.2.2.2.2.2.2.1
theorem dX13_add_144 : decode cX13_add 144 = .ok (.iadd, 1) := dX13_add_126g.2.2.2.2.2.2.2.2.2.2.2.2.2.2.1
theorem dX13_add_145 : decode cX13_add 145 = .ok (.iastore, 1) := dX13_add_126g.2.2.2.2.2.2.2.2.2.2.2.2.2.2.2
theorem dX13_add_146 : decode cX13_add 146 = .ok (.return_, 1) := by decide +kernel
theorem dX13_begin_0g : decode cX13_begin 0 = .ok (.aload_n 0, 1) ∧ decode cX13_begin 1 = .ok (.getfield 329, 3) ∧ decode cX13_begin 4 = .ok (.bipush 80, 2) ∧ decode cX13_begin 6 = .ok (.if_icmp .eq 9, 3) ∧ decode cX13_begin 9 = .ok (.iload_n 2, 1) ∧ decode cX13_begin 10 = .ok (.bipush 6, 2) ∧ decode cX13_begin 12 = .ok (.if_icmp .ne 11, 3) ∧ decode cX13_begin 15 = .ok (.aload_n 0, 1) ∧ decode cX13_begin 16 = .ok (.aload_n 0, 1) ∧ decode cX13_begin 17 = .ok (.getfield 279, 3) ∧ decode cX13_begin 20 = .ok (.invokevirtual 289, 3) ∧ decode cX13_begin 23 = .ok (.aload_n 0, 1) ∧ decode cX13_begin 24 = .ok (.getfield 276, 3) ∧ decode cX13_begin 27 = .ok (.ifCond .eq 5, 3) ∧ decode cX13_begin 30 = .ok (.iconst 0, 1) ∧ decode cX13_begin 31 = .ok (.ireturn, 1) := by decide +kernel
theorem dX13_begin_0 : decode cX13_begin 0 = .ok (.aload_n 0, 1) := dX13_begin_0g.1
theorem dX13_begin_1 : decode cX13_begin 1 = .ok (.getfield 329, 3) := dX13_begin_0g.2.1
theorem dX13_begin_4 : decode cX13_begin 4 = .ok (.bipush 80, 2) := dX13_begin_0g.2.2.1
theorem dX13_begin_6 : decode cX13_begin 6 = .ok (.if_icmp .eq 9, 3) := dX13_begin_0g.2.2.2.1
theorem dX13_begin_9 : decode cX13_begin 9 = .ok (.iload_n 2, 1) := dX13_begin_0g.2.2.2.2.1
theorem dX13_begin_10 : decode cX13_begin 10 = .ok (.bipush 6, 2) := dX13_begin_0g.2.2.2.2.2.1
theorem dX13_begin_12 : decode cX13_begin 12 = .ok (.if_icmp .ne 11, 3) := dX13_begin_0g.2.2.2.2.2.2.1
theorem dX13_begin_15 : decode cX13_begin 15 = .ok (.aload_n 0, 1) := dX13_begin_0g.2.2.2.2.2.2.2.1
theorem dX13_begin_16 : decode cX13_begin 16 = .ok (.aload_n 0, 1) := dX13_begin_0g.2.2.2.2.2.2.2.2.1
theorem dX13_begin_17 : decode cX13_begin 17 = .ok (.getfield 279, 3) := dX13_begin_0g.2.2.2.2.2.2.2.2.2.1
theorem dX13_begin_20 : decode cX13_begin 20 = .ok (.invokevirtual 289, 3) := dX13_begin_0g.2.2.2.2.2.2.2.2.2.2.1
theorem dX13_begin_23 : decode cX13_begin 23 = .ok (.aload_n 0, 1) := dX13_begin_0g.2.2.2.2.2.2.2.2.2.2.2.1
theorem dX13_begin_24 : decode cX13_begin 24 = .ok (.getfield 276, 3) := dX13_begin_0g.2.2.2.2.2.2.2.2.2.2.2.2.1
theorem dX13_begin_27 : decode cX13_begin 27 = .ok (.ifCond .eq 5, 3) := dX13_begin_0g.2.2.2.2.2.2.2.2.2.2.2.2.2.1
theorem dX13_begin_30 : decode cX13_begin 30 = .ok (.iconst 0, 1) := dX13_begin_0g.2.2.2.2.2.2.2.2.2.2.2.2.2.2.1
theorem dX13_begin_31 : decode cX13_begin 31 = .ok (.ireturn, 1) := dX13_begin_0g.2.2.2.2.2.2.2.2.2.2.2.2.2.2.2
theorem dX13_begin_32g : decode cX13_begin 32 = .ok (.aload_n 0, 1) ∧ decode cX13_begin 33 = .ok (.getfield 329, 3) ∧ decode cX13_begin 36 = .ok (.istore_n 3, 1) ∧ decode cX13_begin 37 = .ok (.aload_n 0, 1) ∧ decode cX13_begin 38 = .ok (.dup, 1) ∧ decode cX13_begin 39 = .ok (.getfield 329, 3) ∧ decode cX13_begin 42 = .ok (.iconst 1, 1) ∧ decode cX13_begin 43 = .ok (.iadd, 1) ∧ decode cX13_begin 44 = .ok (.putfield 329, 3) ∧ decode cX13_begin 47 = .ok (.aload_n 0, 1) ∧ decode cX13_begin 48 = .ok (.getfield 129, 3) ∧ decode cX13_begin 51 = .ok (.iload_n 3, 1) ∧ decode cX13_begin 52 = .ok (.aload_n 0, 1) ∧ decode cX13_begin 53 = .ok (.getfield 279, 3) ∧ decode cX13_begin 56 = .ok (.iastore, 1) ∧ decode cX13_begin 57 = .ok (.aload_n 0, 1) := by decide +kernel
theorem dX13_begin_32 : decode cX13_begin 32 = .ok (.aload_n 0, 1) := dX13_begin_32g.1
theorem dX13_begin_33 : decode cX13_begin 33 = .ok (.getfield 329, 3) := dX13_begin_32g.2.1
theorem dX13_begin_36 : decode cX13_begin 36 = .ok (.istore_n 3, 1) := dX13_begin_32g.2.2.1
theorem dX13_begin_37 : decode cX13_begin 37 = .ok (.aload_n 0, 1) := dX13_begin_32g.2.2.2.1
theorem dX13_begin_38 : decode cX13_begin 38 = .ok (.dup, 1) := dX13_begin_32g.2.2.2.2.1
theorem dX13_begin_39 : decode cX13_begin 39 = .ok (.getfield 329, 3) := dX13_begin_32g.2.2.2.2.2.1
theorem dX13_begin_42 : decode cX13_begin 42 = .ok (.iconst 1, 1) := dX13_begin_32g.2.2.2.2.2.2.1
theorem dX13_begin_43 : decode cX13_begin 43 = .ok (.iadd, 1) := dX13_begin_32g.2.2.2.2.2.2.2.1
theorem dX13_begin_44 : decode cX13_begin 44 = .ok (.putfield 329, 3) := dX13_begin_32g.2.2.2.2.2.2.2.2.1
theorem dX13_begin_47 : decode cX13_begin 47 = .ok (.aload_n 0, 1) := dX13_begin_32g.2.2.2.2.2.2.2.2.2.1
theorem dX13_begin_48 : decode cX13_begin 48 = .ok (.getfield 129, 3) := dX13_begin_32g.2.2.2.2.2.2.2.2.2.2.1
theorem dX13_begin_51 : decode cX13_begin 51 = .ok (.iload_n 3, 1) := dX13_begin_32g.2.2.2.2.2.2.2.2.2.2.2.1
theorem dX13_begin_52 : decode cX13_begin 52 = .ok (.aload_n 0, 1) := dX13_begin_32g.2.2.2.2.2.2.2.2.2.2.2.2.1
theorem dX13_begin_53 : decode cX13_begin 53 = .ok (.getfield 279, 3) := dX13_begin_32g.2.2.2.2.2.2.2.2.2.2.2.2.2.1
theorem dX13_begin_56 : decode cX13_begin 56 = .ok (.iastore, 1) := dX13_begin_32g.2.2.2.2.2.2.2.2.2.2.2.2.2.2.1
theorem dX13_begin_57 : decode cX13_begin 57 = .ok (.aload_n 0, 1) := dX13_begin_32g.2.2.2.2.2.2.2.2.2.2.2.2.2.2.2
theorem dX13_begin_58g : decode cX13_begin 58 = .ok (.getfield 132, 3) ∧ decode cX13_begin 61 = .ok (.iload_n 3, 1) ∧ decode cX13_begin 62 = .ok (.iload_n 1, 1) ∧ decode cX13_begin 63 = .ok (.iastore, 1) ∧ decode cX13_begin 64 = .ok (.aload_n 0, 1) ∧ decode cX13_begin 65 = .ok (.getfield 135, 3) ∧ decode cX13_begin 68 = .ok (.iload_n 3, 1) ∧ decode cX13_begin 69 = .ok (.iconst 0, 1) ∧ decode cX13_begin 70 = .ok (.iastore, 1) ∧ decode cX13_begin 71 = .ok (.aload_n 0, 1) ∧ decode cX13_begin 72 = .ok (.getfield 138, 3) ∧ decode cX13_begin 75 = .ok (.iload_n 3, 1) ∧ decode cX13_begin 76 = .ok (.iconst 0, 1) ∧ decode cX13_begin 77 = .ok (.iastore, 1) ∧ decode cX13_begin 78 = .ok (.aload_n 0, 1) ∧ decode cX13_begin 79 = .ok (.getfield 141, 3) := by decide +kernel
theorem dX13_begin_58 : decode cX13_begin 58 = .ok (.getfield 132, 3) := dX13_begin_58g.1
theorem dX13_begin_61 : decode cX13_begin 61 = .ok (.iload_n 3, 1) := dX13_begin_58g.2.1
theorem dX13_begin_62 : decode cX13_begin 62 = .ok (.iload_n 1, 1) := dX13_begin_58g.2.2.1
theorem dX13_begin_63 : decode cX13_begin 63 = .ok (.iastore, 1) := dX13_begin_58g.2.2.2.1
theorem dX13_begin_64 : decode cX13_begin 64 = .ok (.aload_n 0, 1) := dX13_begin_58g.2.2.2.2.1
theorem dX13_begin_65 : decode cX13_begin 65 = .ok (.getfield 135, 3) := dX13_begin_58g.2.2.2.2.2.1
theorem dX13_begin_68 : decode cX13_begin 68 = .ok (.iload_n 3, 1) := dX13_begin_58g.2.2.2.2.2.2.1
theorem dX13_begin_69 : decode cX13_begin 69 = .ok (.iconst 0, 1) := dX13_begin_58g.2.2.2.2.2.2.2.1
theorem dX13_begin_70 : decode cX13_begin 70 = .ok (.iastore, 1) := dX13_begin_58g.2.2.2.2.2.2.2.2.1
theorem dX13_begin_71 : decode cX13_begin 71 = .ok (.aload_n 0, 1) := dX13_begin_58g.2.2.2.2.2.2.2.2.2.1
theorem dX13_begin_72 : decode cX13_begin 72 = .ok (.getfield 138, 3) := dX13_begin_58g.2.2.2.2.2.2.2.2.2.2.1
theorem dX13_begin_75 : decode cX13_begin 75 = .ok (.iload_n 3, 1) := dX13_begin_58g.2.2.2.2.2.2.2.2.2.2.2.1
theorem dX13_begin_76 : decode cX13_begin 76 = .ok (.iconst 0, 1) := dX13_begin_58g.2.2.2.2.2.2.2.2.2.2.2.2.1
theorem dX13_begin_77 : decode cX13_begin 77 = .ok (.iastore, 1) := dX13_begin_58g.2.2.2.2.2.2.2.2.2.2.2.2.2.1
theorem dX13_begin_78 : decode cX13_begin 78 = .ok (.aload_n 0, 1) := dX13_begin_58g.2.2.2.2.2.2.2.2.2.2.2.2.2.2.1
theorem dX13_begin_79 : decode cX13_begin 79 = .ok (.getfield 141, 3) := dX13_begin_58g.2.2.2.2.2.2.2.2.2.2.2.2.2.2.2
theorem dX13_begin_82g : decode cX13_begin 82 = .ok (.iload_n 3, 1) ∧ decode cX13_begin 83 = .ok (.iconst 0, 1) ∧ decode cX13_begin 84 = .ok (.iastore, 1) ∧ decode cX13_begin 85 = .ok (.aload_n 0, 1) ∧ decode cX13_begin 86 = .ok (.getfield 144, 3) ∧ decode cX13_begin 89 = .ok (.iload_n 3, 1) ∧ decode cX13_begin 90 = .ok (.iconst 0, 1) ∧ decode cX13_begin 91 = .ok (.iastore, 1) ∧ decode cX13_begin 92 = .ok (.iload_n 1, 1) ∧ decode cX13_begin 93 = .ok (.iconst (-1), 1) ∧ decode cX13_begin 94 = .ok (.if_icmp .eq 13, 3) ∧ decode cX13_begin 97 = .ok (.aload_n 0, 1) ∧ decode cX13_begin 98 = .ok (.getfield 135, 3) ∧ decode cX13_begin 101 = .ok (.iload_n 1, 1) ∧ decode cX13_begin 102 = .ok (.dup2, 1) ∧ decode cX13_begin 103 = .ok (.iaload, 1) := by decide +kernel
theorem dX13_begin_82 : decode cX13_begin 82 = .ok (.iload_n 3, 1) := dX13_begin_82g.1
theorem dX13_begin_83 : decode cX13_begin 83 = .ok (.iconst 0, 1) := dX13_begin_82g.2.1
theorem dX13_begin_84 : decode cX13_begin 84 = .ok (.iastore, 1) := dX13_begin_82g.2.2.1
theorem dX13_begin_85 : decode cX13_begin 85 = .ok (.aload_n 0, 1) := dX13_begin_82g.2.2.2.1
theorem dX13_begin_86 : decode cX13_begin 86 = .ok (.getfield 144, 3) := dX13_begin_82g.2.2.2.2.1
theorem dX13_begin_89 : decode cX13_begin 89 = .ok (.iload_n 3, 1) := dX13_begin_82g.2.2.2.2.2.1
theorem dX13_begin_90 : decode cX13_begin 90 = .ok (.iconst 0, 1) := dX13_begin_82g.2.2.2.2.2.2.1
theorem dX13_begin_91 : decode cX13_begin 91 = .ok (.iastore, 1) := dX13_begin_82g.2.2.2.2.2.2.2.1
theorem dX13_begin_92 : decode cX13_begin 92 = .ok (.iload_n 1, 1) := dX13_begin_82g.2.2.2.2.2.2.2.2.1
theorem dX13_begin_93 : decode cX13_begin 93 = .ok (.iconst (-1), 1) := dX13_begin_82g.2.2.2.2.2.2.2.2.2.1
theorem dX13_begin_94 : decode cX13_begin 94 = .ok (.if_icmp .eq 13, 3) := dX13_begin_82g.2.2.2.2.2.2.2.2.2.2.1
theorem dX13_begin_97 : decode cX13_begin 97 = .ok (.aload_n 0, 1) := dX13_begin_82g.2.2.2.2.2.2.2.2.2.2.2.1
theorem dX13_begin_98 : decode cX13_begin 98 = .ok (.getfield 135, 3) := dX13_begin_82g.2.2.2.2.2.2.2.2.2.2.2.2.1
theorem dX13_begin_101 : decode cX13_begin 101 = .ok (.iload_n 1, 1) := dX13_begin_82g.2.2.2.2.2.2.2.2.2.2.2.2.2.1
theorem dX13_begin_102 : decode cX13_begin 102 = .ok (.dup2, 1) := dX13_begin_82g.2.2.2.2.2.2.2.2.2.2.2.2.2.2.1
theorem dX13_begin_103 : decode cX13_begin 103 = .ok (.iaload, 1) := dX13_begin_82g.2.2.2.2.2.2.2.2.2.2.2.2.2.2.2
theorem dX13_begin_104g : decode cX13_begin 104 = .ok (.iconst 1, 1) ∧ decode cX13_begin 105 = .ok (.iadd, 1) ∧ decode cX13_begin 106 = .ok (.iastore, 1) ∧ decode cX13_begin 107 = .ok (.aload_n 0, 1) ∧ decode cX13_begin 108 = .ok (.dup, 1) ∧ decode cX13_begin 109 = .ok (.getfield 279, 3) ∧ decode cX13_begin 112 = .ok (.iconst 1, 1) ∧ decode cX13_begin 113 = .ok (.iadd, 1) ∧ decode cX13_begin 114 = .ok (.putfield 279, 3) ∧ decode cX13_begin 117 = .ok (.aload_n 0, 1) ∧ decode cX13_begin 118 = .ok (.getfield 150, 3) ∧ decode cX13_begin 121 = .ok (.iload_n 3, 1) ∧ decode cX13_begin 122 = .ok (.aload_n 0, 1) ∧ decode cX13_begin 123 = .ok (.invokevirtual 315, 3) ∧ decode cX13_begin 126 = .ok (.lastore, 1) ∧ decode cX13_begin 127 = .ok (.iconst 1, 1) := by decide +kernel
theorem dX13_begin_104 : decode cX13_begin 104 = .ok (.iconst 1, 1) := dX13_begin_104g.1
theorem dX13_begin_105 : decode cX13_begin 105 = .ok (.iadd, 1) := dX13_begin_104g.2.1
theorem dX13_begin_106 : decode cX13_begin 106 = .ok (.iastore, 1) := dX13_begin_104g.2.2.1
theorem dX13_begin_107 : decode cX13_begin 107 = .ok (.aload_n 0, 1) := dX13_begin_104g.2.2.2.1
theorem dX13_begin_108 : decode cX13_begin 108 = .ok (.dup, 1) := dX13_begin_104g.2.2.2.2.1
theorem dX13_begin_109 : decode cX13_begin 109 = .ok (.getfield 279, 3) := dX13_begin_104g.2.2.2.2.2.1
theorem dX13_begin_112 : decode cX13_begin 112 = .ok (.iconst 1, 1) := dX13_begin_104g.2.2.2.2.2.2.1
theorem dX13_begin_113 : decode cX13_begin 113 = .ok (.iadd, 1) := dX13_begin_104g.2.2.2.2.2.2.2.1
theorem dX13_begin_114 : decode cX13_begin 114 = .ok (.putfield 279, 3) := dX13_begin_104g.2.2.2.2.2.2.2.2.1
theorem dX13_begin_117 : decode cX13_begin 117 = .ok (.aload_n 0, 1) := dX13_begin_104g.2.2.2.2.2.2.2.2.2.1
theorem dX13_begin_118 : decode cX13_begin 118 = .ok (.getfield 150, 3) := dX13_begin_104g.2.2.2.2.2.2.2.2.2.2.1
theorem dX13_begin_121 : decode cX13_begin 121 = .ok (.iload_n 3, 1) := dX13_begin_104g.2.2.2.2.2.2.2.2.2.2.2.1
theorem dX13_begin_122 : decode cX13_begin 122 = .ok (.aload_n 0, 1) := dX13_begin_104g.2.2.2.2.2.2.2.2.2.2.2.2.1
theorem dX13_begin_123 : decode cX13_begin 123 = .ok (.invokevirtual 315, 3) := dX13_begin_104g.2.2.2.2.2.2.2.2.2.2.2.2.2.1
theorem dX13_begin_126 : decode cX13_begin 126 = .ok (.lastore, 1) := dX13_begin_104g.2.2.2.2.2.2.2.2.2.2.2.2.2.2.1
theorem dX13_begin_127 : decode cX13_begin 127 = .ok (.iconst 1, 1) := dX13_begin_104g.2.2.2.2.2.2.2.2.2.2.2.2.2.2.2
theorem dX13_begin_128g : decode cX13_begin 128 = .ok (.istore 4, 2) ∧ decode cX13_begin 130 = .ok (.iload 4, 2) ∧ decode cX13_begin 132 = .ok (.ifCond .eq 53, 3) ∧ decode cX13_begin 135 = .ok (.aload_n 0, 1) ∧ decode cX13_begin 136 = .ok (.getfield 276, 3) ∧ decode cX13_begin 139 = .ok (.ifCond .ne 46, 3) ∧ decode cX13_begin 142 = .ok (.aload_n 0, 1) ∧ decode cX13_begin 143 = .ok (.invokevirtual 296, 3) ∧ decode cX13_begin 146 = .ok (.istore 5, 2) ∧ decode cX13_begin 148 = .ok (.iload 5, 2) ∧ decode cX13_begin 150 = .ok (.ifCond .le 19, 3) ∧ decode cX13_begin 153 = .ok (.aload_n 0, 1) ∧ decode cX13_begin 154 = .ok (.aload_n 0, 1) ∧ decode cX13_begin 155 = .ok (.iconst 0, 1) ∧ decode cX13_begin 156 = .ok (.invokevirtual 282, 3) ∧ decode cX13_begin 159 = .ok (.invokevirtual 303, 3) := by decide +kernel
theorem dX13_begin_128 : decode cX13_begin 128 = .ok (.istore 4, 2) := dX13_begin_128g.1
theorem dX13_begin_130 : decode cX13_begin 130 = .ok (.iload 4, 2) := dX13_begin_128g.2.1
theorem dX13_begin_132 : decode cX13_begin 132 = .ok (.ifCond .eq 53, 3) := dX13_begin_128g.2.2.1
theorem dX13_begin_135 : decode cX13_begin 135 = .ok (.aload_n 0, 1) := dX13_begin_128g.2.2.2.1
theorem dX13_begin_136 : decode cX13_begin 136 = .ok (.getfield 276, 3) := dX13_begin_128g.2.2.2.2.1
theorem dX13_begin_139 : decode cX13_begin 139 = .ok (.ifCond .ne 46, 3) := dX13_begin_128g.2.2.2.2.2.1
theorem dX13_begin_142 : decode cX13_begin 142 = .ok (.aload_n 0, 1) := dX13_begin_128g.2.2.2.2.2.2.1
theorem dX13_begin_143 : decode cX13_begin 143 = .ok (.invokevirtual 296, 3) := dX13_begin_128g.2.2.2.2.2.2.2.1
theorem dX13_begin_146 : decode cX13_begin 146 = .ok (.istore 5, 2) := dX13_begin_128g.2.2.2.2.2.2.2.2.1
theorem dX13_begin_148 : decode cX13_begin 148 = .ok (.iload 5, 2) := dX13_begin_128g.2.2.2.2.2.2.2.2.2.1
theorem dX13_begin_150 : decode cX13_begin 150 = .ok (.ifCond .le 19, 3) := dX13_begin_128g.2.2.2.2.2.2.2.2.2.2.1
theorem dX13_begin_153 : decode cX13_begin 153 = .ok (.aload_n 0, 1) := dX13_begin_128g.2.2.2.2.2.2.2.2.2.2.2.1
theorem dX13_begin_154 : decode cX13_begin 154 = .ok (.aload_n 0, 1) := dX13_begin_128g.2.2.2.2.2.2.2.2.2.2.2.2.1
theorem dX13_begin_155 : decode cX13_begin 155 = .ok (.iconst 0, 1) := dX13_begin_128g.2.2.2.2.2.2.2.2.2.2.2.2.2.1
theorem dX13_begin_156 : decode cX13_begin 156 = .ok (.invokevirtual 282, 3) := dX13_begin_128g.2.2.2.2.2.2.2.2.2.2.2.2.2.2.1
theorem dX13_begin_159 : decode cX13_begin 159 = .ok (.invokevirtual 303, 3) := dX13_begin_128g.2.2.2.2.2.2.2.2.2.2.2.2.2.2.2
theorem dX13_begin_162g : decode cX13_begin 162 = .ok (.ifCond .eq 7, 3) ∧ decode cX13_begin 165 = .ok (.iconst 1, 1) ∧ decode cX13_begin 166 = .ok (.goto 4, 3) ∧ decode cX13_begin 169 = .ok (.iconst 0, 1) ∧ decode cX13_begin 170 = .ok (.istore 4, 2) ∧ decode cX13_begin 172 = .ok (.iload 4, 2) ∧ decode cX13_begin 174 = .ok (.ifCond .eq 8, 3) ∧ decode cX13_begin 177 = .ok (.aload_n 0, 1) ∧ decode cX13_begin 178 = .ok (.iload_n 3, 1) ∧ decode cX13_begin 179 = .ok (.invokevirtual 332, 3) ∧ decode cX13_begin 182 = .ok (.goto (-52), 3) ∧ decode cX13_begin 185 = .ok (.aload_n 0, 1) ∧ decode cX13_begin 186 = .ok (.aload_n 0, 1) ∧ decode cX13_begin 187 = .ok (.iconst 0, 1) ∧ decode cX13_begin 188 = .ok (.invokevirtual 282, 3) ∧ decode cX13_begin 191 = .ok (.bipush 47, 2) := by decide +kernel
theorem dX13_begin_162 : decode cX13_begin 162 = .ok (.ifCond .eq 7, 3) := dX13_begin_162g.1
theorem dX13_begin_165 : decode cX13_begin 165 = .ok (.iconst 1, 1) := dX13_begin_162g.2.1
theorem dX13_begin_166 : decode cX13_begin 166 = .ok (.goto 4, 3) := dX13_begin_162g.2.2.1
theorem dX13_begin_169 : decode cX13_begin 169 = .ok (.iconst 0, 1) := dX13_begin_162g.2.2.2.1
theorem dX13_begin_170 : decode cX13_begin 170 = .ok (.istore 4, 2) := dX13_begin_162g.2.2.2.2.1
theorem dX13_begin_172 : decode cX13_begin 172 = .ok (.iload 4, 2) := dX13_begin_162g.2.2.2.2.2.1
theorem dX13_begin_174 : decode cX13_begin 174 = .ok (.ifCond .eq 8, 3) := dX13_begin_162g.2.2.2.2.2.2.1
theorem dX13_begin_177 : decode cX13_begin 177 = .ok (.aload_n 0, 1) := dX13_begin_162g.2.2.2.2.2.2.2.1
theorem dX13_begin_178 : decode cX13_begin 178 = .ok (.iload_n 3, 1) := dX13_begin_162g.2.2.2.2.2.2.2.2.1
theorem dX13_begin_179 : decode cX13_begin 179 = .ok (.invokevirtual 332, 3) := dX13_begin_162g.2.2.2.2.2.2.2.2.2.1
theorem dX13_begin_182 : decode cX13_begin 182 = .ok (.goto (-52), 3) := dX13_begin_162g.2.2.2.2.2.2.2.2.2.2.1
theorem dX13_begin_185 : decode cX13_begin 185 = .ok (.aload_n 0, 1) := dX13_begin_162g.2.2.2.2.2.2.2.2.2.2.2.1
theorem dX13_begin_186 : decode cX13_begin 186 = .ok (.aload_n 0, 1) := dX13_begin_162g.2.2.2.2.2.2.2.2.2.2.2.2.1
theorem dX13_begin_187 : decode cX13_begin 187 = .ok (.iconst 0, 1) := dX13_begin_162g.2.2.2.2.2.2.2.2.2.2.2.2.2.1
theorem dX13_begin_188 : decode cX13_begin 188 = .ok (.invokevirtual 282, 3) := dX13_begin_162g.2.2.2.2.2.2.2.2.2.2.2.2.2.2.1
theorem dX13_begin_191 : decode cX13_begin 191 = .ok (.bipush 47, 2) := dX13_begin_162g.2.2.2.2.2.2.2.2.2.2.2.2.2.2.2
theorem dX13_begin_193g : decode cX13_begin 193 = .ok (.if_icmp .ne 7, 3) ∧ decode cX13_begin 196 = .ok (.iconst 1, 1) ∧ decode cX13_begin 197 = .ok (.goto 4, 3) ∧ decode cX13_begin 200 = .ok (.iconst 0, 1) ∧ decode cX13_begin 201 = .ok (.putfield 335, 3) ∧ decode cX13_begin 204 = .ok (.aload_n 0, 1) ∧ decode cX13_begin 205 = .ok (.getfield 335, 3) ∧ decode cX13_begin 208 = .ok (.ifCond .eq 13, 3) ∧ decode cX13_begin 211 = .ok (.aload_n 0, 1) ∧ decode cX13_begin 212 = .ok (.dup, 1) ∧ decode cX13_begin 213 = .ok (.getfield 279, 3) ∧ decode cX13_begin 216 = .ok (.iconst 1, 1) ∧ decode cX13_begin 217 = .ok (.iadd, 1) ∧ decode cX13_begin 218 = .ok (.putfield 279, 3) ∧ decode cX13_begin 221 = .ok (.aload_n 0, 1) ∧ decode cX13_begin 222 = .ok (.bipush 62, 2) := by decide +kernel
theorem dX13_begin_193 : decode cX13_begin 193 = .ok (.if_icmp .ne 7, 3) := dX13_begin_193g.1
theorem dX13_begin_196 : decode cX13_begin 196 = .ok (.iconst 1, 1) := dX13_begin_193g.2.1
theorem dX13_begin_197 : decode cX13_begin 197 = .ok (.goto 4, 3) := dX13_begin_193g.2.2.1
theorem dX13_begin_200 : decode cX13_begin 200 = .ok (.iconst 0, 1) := dX13_begin_193g.2.2.2.1
theorem dX13_begin_201 : decode cX13_begin 201 = .ok (.putfield 335, 3) := dX13_begin_193g.2.2.2.2.1
theorem dX13_begin_204 : decode cX13_begin 204 = .ok (.aload_n 0, 1) := dX13_begin_193g.2.2.2.2.2.1
theorem dX13_begin_205 : decode cX13_begin 205 = .ok (.getfield 335, 3) := dX13_begin_193g.2.2.2.2.2.2.1
theorem dX13_begin_208 : decode cX13_begin 208 = .ok (.ifCond .eq 13, 3) := dX13_begin_193g.2.2.2.2.2.2.2.1
theorem dX13_begin_211 : decode cX13_begin 211 = .ok (.aload_n 0, 1) := dX13_begin_193g.2.2.2.2.2.2.2.2.1
theorem dX13_begin_212 : decode cX13_begin 212 = .ok (.dup, 1) := dX13_begin_193g.2.2.2.2.2.2.2.2.2.1
theorem dX13_begin_213 : decode cX13_begin 213 = .ok (.getfield 279, 3) := dX13_begin_193g.2.2.2.2.2.2.2.2.2.2.1
theorem dX13_begin_216 : decode cX13_begin 216 = .ok (.iconst 1, 1) := dX13_begin_193g.2.2.2.2.2.2.2.2.2.2.2.1
theorem dX13_begin_217 : decode cX13_begin 217 = .ok (.iadd, 1) := dX13_begin_193g.2.2.2.2.2.2.2.2.2.2.2.2.1
theorem dX13_begin_218 : decode cX13_begin 218 = .ok (.putfield 279, 3) := dX13_begin_193g.2.2.2.2.2.2.2.2.2.2.2.2.2.1
theorem dX13_begin_221 : decode cX13_begin 221 = .ok (.aload_n 0, 1) := dX13_begin_193g.2.2.2.2.2.2.2.2.2.2.2.2.2.2.1
theorem dX13_begin_222 : decode cX13_begin 222 = .ok (.bipush 62, 2) := dX13_begin_193g.2.2.2.2.2.2.2.2.2.2.2.2.2.2.2
theorem dX13_begin_224g : decode cX13_begin 224 = .ok (.invokevirtual 293, 3) ∧ decode cX13_begin 227 = .ok (.iload_n 3, 1) ∧ decode cX13_begin 228 = .ok (.ireturn, 1) := by decide +kernel
theorem dX13_begin_224 : decode cX13_begin 224 = .ok (.invokevirtual 293, 3) := dX13_begin_224g.1
theorem dX13_begin_227 : decode cX13_begin 227 = .ok (.iload_n 3, 1) := dX13_begin_224g.2.1
theorem dX13_begin_228 : decode cX13_begin 228 = .ok (.ireturn, 1) := dX13_begin_224g.2.2
theorem dX13_end_0g : decode cX13_end 0 = .ok (.aload_n 0, 1) ∧ decode cX13_end 1 = .ok (.dup, 1) ∧ decode cX13_end 2 = .ok (.getfield 279, 3) ∧ decode cX13_end 5 = .ok (.iconst 2, 1) ∧ decode cX13_end 6 = .ok (.iadd, 1) ∧ decode cX13_end 7 = .ok (.putfield 279, 3) ∧ decode cX13_end 10 = .ok (.iconst 0, 1) ∧ decode cX13_end 11 = .ok (.istore_n 2, 1) ∧ decode cX13_end 12 = .ok (.aload_n 0, 1) ∧ decode cX13_end 13 = .ok (.getfield 150, 3) ∧ decode cX13_end 16 = .ok (.iload_n 1, 1) ∧ decode cX13_end 17 = .ok (.laload, 1) ∧ decode cX13_end 18 = .ok (.lstore_n 3, 1) ∧ decode cX13_end 19 = .ok (.lload_n 3, 1) ∧ decode cX13_end 20 = .ok (.lconst 0, 1) ∧ decode cX13_end 21 = .ok (.lcmp, 1) := by decide +kernel
theorem dX13_end_0 : decode cX13_end 0 = .ok (.aload_n 0, 1) := dX13_end_0g.1
theorem dX13_end_1 : decode cX13_end 1 = .ok (.dup, 1) := dX13_end_0g.2.1
theorem dX13_end_2 : decode cX13_end 2 = .ok (.getfield 279, 3) := dX13_end_0g.2.2.1
theorem dX13_end_5 : decode cX13_end 5 = .ok (.iconst 2, 1) := dX13_end_0g.2.2.2.1
theorem dX13_end_6 : decode cX13_end 6 = .ok (.iadd, 1) := dX13_end_0g.2.2.2.2.1
theorem dX13_end_7 : decode cX13_end 7 = .ok (.putfield 279, 3) := dX13_end_0g.2.2.2.2.2.1
theorem dX13_end_10 : decode cX13_end 10 = .ok (.iconst 0, 1) := dX13_end_0g.2.2.2.2.2.2.1
theorem dX13_end_11 : decode cX13_end 11 = .ok (.istore_n 2, 1) := dX13_end_0g.2.2.2.2.2.2.2.1
theorem dX13_end_12 : decode cX13_end 12 = .ok (.aload_n 0, 1) := dX13_end_0g.2.2.2.2.2.2.2.2.1
theorem dX13_end_13 : decode cX13_end 13 = .ok (.getfield 150, 3) := dX13_end_0g.2.2.2.2.2.2.2.2.2.1
theorem dX13_end_16 : decode cX13_end 16 = .ok (.iload_n 1, 1) := dX13_end_0g.2.2.2.2.2.2.2.2.2.2.1
theorem dX13_end_17 : decode cX13_end 17 = .ok (.laload, 1) := dX13_end_0g.2.2.2.2.2.2.2.2.2.2.2.1
theorem dX13_end_18 : decode cX13_end 18 = .ok (.lstore_n 3, 1) := dX13_end_0g.2.2.2.2.2.2.2.2.2.2.2.2.1
theorem dX13_end_19 : decode cX13_end 19 = .ok (.lload_n 3, 1) := dX13_end_0g.2.2.2.2.2.2.2.2.2.2.2.2.2.1
theorem dX13_end_20 : decode cX13_end 20 = .ok (.lconst 0, 1) := dX13_end_0g.2.2.2.2.2.2.2.2.2.2.2.2.2.2.1
theorem dX13_end_21 : decode cX13_end 21 = .ok (.lcmp, 1) := dX13_end_0g.2.2.2.2.2.2.2.2.2.2.2.2.2.2.2
theorem dX13_end_22g : decode cX13_end 22 = .ok (.ifCond .eq 14, 3) ∧ decode cX13_end 25 = .ok (.iinc 2 1, 3) ∧ decode cX13_end 28 = .ok (.lload_n 3, 1) ∧ decode cX13_end 29 = .ok (.bipush 8, 2) ∧ decode cX13_end 31 = .ok (.lshr, 1) ∧ decode cX13_end 32 = .ok (.lstore_n 3, 1) ∧ decode cX13_end 33 = .ok (.goto (-14), 3) ∧ decode cX13_end 36 = .ok (.iload_n 2, 1) ∧ decode cX13_end 37 = .ok (.iconst 1, 1) ∧ decode cX13_end 38 = .ok (.isub, 1) ∧ decode cX13_end 39 = .ok (.istore_n 3, 1) ∧ decode cX13_end 40 = .ok (.iload_n 3, 1) ∧ decode cX13_end 41 = .ok (.ifCond .lt 29, 3) ∧ decode cX13_end 44 = .ok (.aload_n 0, 1) ∧ decode cX13_end 45 = .ok (.aload_n 0, 1) ∧ decode cX13_end 46 = .ok (.getfield 150, 3) := by decide +kernel
theorem dX13_end_22 : decode cX13_end 22 = .ok (.ifCond .eq 14, 3) := dX13_end_22g.1
theorem dX13_end_25 : decode cX13_end 25 = .ok (.iinc 2 1, 3) := dX13_end_22g.2.1
theorem dX13_end_28 : decode cX13_end 28 = .ok (.lload_n 3, 1) := dX13_end_22g.2.2.1
theorem dX13_end_29 : decode cX13_end 29 = .ok (.bipush 8, 2) := dX13_end_22g.2.2.2.1
theorem dX13_end_31 : decode cX13_end 31 = .ok (.lshr, 1) := dX13_end_22g.2.2.2.2.1
theorem dX13_end_32 : decode cX13_end 32 = .ok (.lstore_n 3, 1) := dX13_end_22g.2.2.2.2.2.1
theorem dX13_end_33 : decode cX13_end 33 = .ok (.goto (-14), 3) := dX13_end_22g.2.2.2.2.2.2.1
theorem dX13_end_36 : decode cX13_end 36 = .ok (.iload_n 2, 1) := dX13_end_22g.2.2.2.2.2.2.2.1
theorem dX13_end_37 : decode cX13_end 37 = .ok (.iconst 1, 1) := dX13_end_22g.2.2.2.2.2.2.2.2.1
theorem dX13_end_38 : decode cX13_end 38 = .ok (.isub, 1) := dX13_end_22g.2.2.2.2.2.2.2.2.2.1
theorem dX13_end_39 : decode cX13_end 39 = .ok (.istore_n 3, 1) := dX13_end_22g.2.2.2.2.2.2.2.2.2.2.1
theorem dX13_end_40 : decode cX13_end 40 = .ok (.iload_n 3, 1) := dX13_end_22g.2.2.2.2.2.2.2.2.2.2.2.1
theorem dX13_end_41 : decode cX13_end 41 = .ok (.ifCond .lt 29, 3) := dX13_end_22g.2.2.2.2.2.2.2.2.2.2.2.2.1
theorem dX13_end_44 : decode cX13_end 44 = .ok (.aload_n 0, 1) := dX13_end_22g.2.2.2.2.2.2.2.2.2.2.2.2.2.1
theorem dX13_end_45 : decode cX13_end 45 = .ok (.aload_n 0, 1) := dX13_end_22g.2.2.2.2.2.2.2.2.2.2.2.2.2.2.1
theorem dX13_end_46 : decode cX13_end 46 = .ok (.getfield 150, 3) := dX13_end_22g.2.2.2.2.2.2.2.2.2.2.2.2.2.2.2
theorem dX13_end_49g : decode cX13_end 49 = .ok (.iload_n 1, 1) ∧ decode cX13_end 50 = .ok (.laload, 1) ∧ decode cX13_end 51 = .ok (.bipush 8, 2) ∧ decode cX13_end 53 = .ok (.iload_n 3, 1) ∧ decode cX13_end 54 = .ok (.imul, 1) ∧ decode cX13_end 55 = .ok (.lshr, 1) ∧ decode cX13_end 56 = .ok (.ldc2_w 313, 3) ∧ decode cX13_end 59 = .ok (.land, 1) ∧ decode cX13_end 60 = .ok (.l2i, 1) ∧ decode cX13_end 61 = .ok (.invokevirtual 293, 3) ∧ decode cX13_end 64 = .ok (.iinc 3 (-1), 3) ∧ decode cX13_end 67 = .ok (.goto (-27), 3) ∧ decode cX13_end 70 = .ok (.aload_n 0, 1) ∧ decode cX13_end 71 = .ok (.getfield 276, 3) ∧ decode cX13_end 74 = .ok (.ifCond .ne 8, 3) ∧ decode cX13_end 77 = .ok (.aload_n 0, 1) := by decide +kernel
theorem dX13_end_49 : decode cX13_end 49 = .ok (.iload_n 1, 1) := dX13_end_49g.1
theorem dX13_end_50 : decode cX13_end 50 = .ok (.laload, 1) := dX13_end_49g.2.1
theorem dX13_end_51 : decode cX13_end 51 = .ok (.bipush 8, 2) := dX13_end_49g.2.2.1
theorem dX13_end_53 : decode cX13_end 53 = .ok (.iload_n 3, 1) := dX13_end_49g.2.2.2.1
theorem dX13_end_54 : decode cX13_end 54 = .ok (.imul, 1) := dX13_end_49g.2.2.2.2.1
theorem dX13_end_55 : decode cX13_end 55 = .ok (.lshr, 1) := dX13_end_49g.2.2.2.2.2.1
theorem dX13_end_56 : decode cX13_end 56 = .ok (.ldc2_w 313, 3) := dX13_end_49g.2.2.2.2.2.2.1
theorem dX13_end_59 : decode cX13_end 59 = .ok (.land, 1) := dX13_end_49g.2.2.2.2.2.2.2.1
theorem dX13_end_60 : decode cX13_end 60 = .ok (.l2i, 1) := dX13_end_49g.2.2.2.2.2.2.2.2.1
theorem dX13_end_61 : decode cX13_end 61 = .ok (.invokevirtual 293, 3) := dX13_end_49g.2.2.2.2.2.2.2.2.2.1
theorem dX13_end_64 : decode cX13_end 64 = .ok (.iinc 3 (-1), 3) := dX13_end_49g.2.2.2.2.2.2.2.2.2.2.1
theorem dX13_end_67 : decode cX13_end 67 = .ok (.goto (-27), 3) := dX13_end_49g.2.2.2.2.2.2.2.2.2.2.2.1
theorem dX13_end_70 : decode cX13_end 70 = .ok (.aload_n 0, 1) := dX13_end_49g.2.2.2.2.2.2.2.2.2.2.2.2.1
theorem dX13_end_71 : decode cX13_end 71 = .ok (.getfield 276, 3) := dX13_end_49g.2.2.2.2.2.2.2.2.2.2.2.2.2.1
theorem dX13_end_74 : decode cX13_end 74 = .ok (.ifCond .ne 8, 3) := dX13_end_49g.2.2.2.2.2.2.2.2.2.2.2.2.2.2.1
theorem dX13_end_77 : decode cX13_end 77 = .ok (.aload_n 0, 1) := dX13_end_49g.2.2.2.2.2.2.2.2.2.2.2.2.2.2.2
theorem dX13_end_78g : decode cX13_end 78 = .ok (.invokevirtual 296, 3) ∧ decode cX13_end 81 = .ok (.istore_n 2, 1) ∧ decode cX13_end 82 = .ok (.aload_n 0, 1) ∧ decode cX13_end 83 = .ok (.bipush 62, 2) ∧ decode cX13_end 85 = .ok (.invokevirtual 293, 3) ∧ decode cX13_end 88 = .ok (.return_, 1) := by decide +kernel
theorem dX13_end_78 : decode cX13_end 78 = .ok (.invokevirtual 296, 3) := dX13_end_78g.1
theorem dX13_end_81 : decode cX13_end 81 = .ok (.istore_n 2, 1) := dX13_end_78g.2.1
theorem dX13_end_82 : decode cX13_end 82 = .ok (.aload_n 0, 1) := dX13_end_78g.2.2.1
theorem dX13_end_83 : decode cX13_end 83 = .ok (.bipush 62, 2) := dX13_end_78g.2.2.2.1
theorem dX13_end_85 : decode cX13_end 85 = .ok (.invokevirtual 293, 3) := dX13_end_78g.2.2.2.2.1
theorem dX13_end_88 : decode cX13_end 88 = .ok (.return_, 1) := dX13_end_78g.2.2.2.2.2
