theorem dX13_thrown_0 : decode cX13_thrown 0 = .ok (.aload_n 0, 1) := by decide +kernel
theorem dX13_thrown_1 : decode cX13_thrown 1 = .ok (.getfield 252, 3) := by decide +kernel
theorem dX13_thrown_4 : decode cX13_thrown 4 = .ok (.ireturn, 1) := by decide +kernel
theorem dX13_isClass_0 : decode cX13_isClass 0 = .ok (.iload_n 0, 1) := by decide +kernel
theorem dX13_isClass_1 : decode cX13_isClass 1 = .ok (.ifCond .lt 13, 3) := by decide +kernel
theorem dX13_isClass_4 : decode cX13_isClass 4 = .ok (.iload_n 0, 1) := by decide +kernel
theorem dX13_isClass_5 : decode cX13_isClass 5 = .ok (.bipush 8, 2) := by decide +kernel
theorem dX13_isClass_7 : decode cX13_isClass 7 = .ok (.if_icmp .ge 7, 3) := by decide +kernel
theorem dX13_isClass_10 : decode cX13_isClass 10 = .ok (.iconst 1, 1) := by decide +kernel
theorem dX13_isClass_11 : decode cX13_isClass 11 = .ok (.goto 4, 3) := by decide +kernel
theorem dX13_isClass_14 : decode cX13_isClass 14 = .ok (.iconst 0, 1) := by decide +kernel
theorem dX13_isClass_15 : decode cX13_isClass 15 = .ok (.ireturn, 1) := by decide +kernel
theorem dX13_isType_0 : decode cX13_isType 0 = .ok (.iload_n 0, 1) := by decide +kernel
theorem dX13_isType_1 : decode cX13_isType 1 = .ok (.ifCond .lt 8, 3) := by decide +kernel
theorem dX13_isType_4 : decode cX13_isType 4 = .ok (.iload_n 0, 1) := by decide +kernel
theorem dX13_isType_5 : decode cX13_isType 5 = .ok (.iconst 5, 1) := by decide +kernel
theorem dX13_isType_6 : decode cX13_isType 6 = .ok (.if_icmp .lt 15, 3) := by decide +kernel
theorem dX13_isType_9 : decode cX13_isType 9 = .ok (.iload_n 0, 1) := by decide +kernel
theorem dX13_isType_10 : decode cX13_isType 10 = .ok (.bipush 8, 2) := by decide +kernel
theorem dX13_isType_12 : decode cX13_isType 12 = .ok (.if_icmp .lt 13, 3) := by decide +kernel
theorem dX13_isType_15 : decode cX13_isType 15 = .ok (.iload_n 0, 1) := by decide +kernel
theorem dX13_isType_16 : decode cX13_isType 16 = .ok (.bipush 16, 2) := by decide +kernel
theorem dX13_isType_18 : decode cX13_isType 18 = .ok (.if_icmp .ge 7, 3) := by decide +kernel
theorem dX13_isType_21 : decode cX13_isType 21 = .ok (.iconst 1, 1) := by decide +kernel
theorem dX13_isType_22 : decode cX13_isType 22 = .ok (.goto 4, 3) := by decide +kernel
theorem dX13_isType_25 : decode cX13_isType 25 = .ok (.iconst 0, 1) := by decide +kernel
theorem dX13_isType_26 : decode cX13_isType 26 = .ok (.ireturn, 1) := by decide +kernel
theorem dX13_areTypes_0 : decode cX13_areTypes 0 = .ok (.iload_n 0, 1) := by decide +kernel
theorem dX13_areTypes_1 : decode cX13_areTypes 1 = .ok (.ifCond .lt 48, 3) := by decide +kernel
theorem dX13_areTypes_4 : decode cX13_areTypes 4 = .ok (.iload_n 0, 1) := by decide +kernel
theorem dX13_areTypes_5 : decode cX13_areTypes 5 = .ok (.iconst 4, 1) := by decide +kernel
theorem dX13_areTypes_6 : decode cX13_areTypes 6 = .ok (.if_icmp .ge 43, 3) := by decide +kernel
theorem dX13_areTypes_9 : decode cX13_areTypes 9 = .ok (.iload_n 0, 1) := by decide +kernel
theorem dX13_areTypes_10 : decode cX13_areTypes 10 = .ok (.iconst 1, 1) := by decide +kernel
theorem dX13_areTypes_11 : decode cX13_areTypes 11 = .ok (.if_icmp .lt 10, 3) := by decide +kernel
theorem dX13_areTypes_14 : decode cX13_areTypes 14 = .ok (.iload_n 1, 1) := by decide +kernel
theorem dX13_areTypes_15 : decode cX13_areTypes 15 = .ok (.invokestatic 255, 3) := by decide +kernel
theorem dX13_areTypes_18 : decode cX13_areTypes 18 = .ok (.ifCond .eq 31, 3) := by decide +kernel
theorem dX13_areTypes_21 : decode cX13_areTypes 21 = .ok (.iload_n 0, 1) := by decide +kernel
theorem dX13_areTypes_22 : decode cX13_areTypes 22 = .ok (.iconst 2, 1) := by decide +kernel
theorem dX13_areTypes_23 : decode cX13_areTypes 23 = .ok (.if_icmp .lt 10, 3) := by decide +kernel
theorem dX13_areTypes_26 : decode cX13_areTypes 26 = .ok (.iload_n 2, 1) := by decide +kernel
theorem dX13_areTypes_27 : decode cX13_areTypes 27 = .ok (.invokestatic 255, 3) := by decide +kernel
theorem dX13_areTypes_30 : decode cX13_areTypes 30 = .ok (.ifCond .eq 19, 3) := by decide +kernel
theorem dX13_areTypes_33 : decode cX13_areTypes 33 = .ok (.iload_n 0, 1) := by decide +kernel
theorem dX13_areTypes_34 : decode cX13_areTypes 34 = .ok (.iconst 3, 1) := by decide +kernel
theorem dX13_areTypes_35 : decode cX13_areTypes 35 = .ok (.if_icmp .lt 10, 3) := by decide +kernel
theorem dX13_areTypes_38 : decode cX13_areTypes 38 = .ok (.iload_n 3, 1) := by decide +kernel
theorem dX13_areTypes_39 : decode cX13_areTypes 39 = .ok (.invokestatic 255, 3) := by decide +kernel
theorem dX13_areTypes_42 : decode cX13_areTypes 42 = .ok (.ifCond .eq 7, 3) := by decide +kernel
theorem dX13_areTypes_45 : decode cX13_areTypes 45 = .ok (.iconst 1, 1) := by decide +kernel
theorem dX13_areTypes_46 : decode cX13_areTypes 46 = .ok (.goto 4, 3) := by decide +kernel
theorem dX13_areTypes_49 : decode cX13_areTypes 49 = .ok (.iconst 0, 1) := by decide +kernel
theorem dX13_areTypes_50 : decode cX13_areTypes 50 = .ok (.ireturn, 1) := by decide +kernel
theorem dX13_isLetter_0 : decode cX13_isLetter 0 = .ok (.iload_n 0, 1) := by decide +kernel
theorem dX13_isLetter_1 : decode cX13_isLetter 1 = .ok (.ifCond .lt 13, 3) := by decide +kernel
theorem dX13_isLetter_4 : decode cX13_isLetter 4 = .ok (.iload_n 0, 1) := by decide +kernel
theorem dX13_isLetter_5 : decode cX13_isLetter 5 = .ok (.bipush 26, 2) := by decide +kernel
theorem dX13_isLetter_7 : decode cX13_isLetter 7 = .ok (.if_icmp .ge 7, 3) := by decide +kernel
theorem dX13_isLetter_10 : decode cX13_isLetter 10 = .ok (.iconst 1, 1) := by decide +kernel
theorem dX13_isLetter_11 : decode cX13_isLetter 11 = .ok (.goto 4, 3) := by decide +kernel
theorem dX13_isLetter_14 : decode cX13_isLetter 14 = .ok (.iconst 0, 1) := by decide +kernel
theorem dX13_isLetter_15 : decode cX13_isLetter 15 = .ok (.ireturn, 1) := by decide +kernel
theorem dX13_declare_0 : decode cX13_declare 0 = .ok (.aload_n 0, 1) := by decide +kernel
theorem dX13_declare_1 : decode cX13_declare 1 = .ok (.iconst 0, 1) := by decide +kernel
theorem dX13_declare_2 : decode cX13_declare 2 = .ok (.putfield 252, 3) := by decide +kernel
theorem dX13_declare_5 : decode cX13_declare 5 = .ok (.iload_n 1, 1) := by decide +kernel
theorem dX13_declare_6 : decode cX13_declare 6 = .ok (.invokestatic 259, 3) := by decide +kernel
theorem dX13_declare_9 : decode cX13_declare 9 = .ok (.ifCond .eq 13, 3) := by decide +kernel
theorem dX13_declare_12 : decode cX13_declare 12 = .ok (.iload_n 2, 1) := by decide +kernel
theorem dX13_declare_13 : decode cX13_declare 13 = .ok (.iconst (-1), 1) := by decide +kernel
theorem dX13_declare_14 : decode cX13_declare 14 = .ok (.if_icmp .lt 8, 3) := by decide +kernel
theorem dX13_declare_17 : decode cX13_declare 17 = .ok (.iload_n 2, 1) := by decide +kernel
theorem dX13_declare_18 : decode cX13_declare 18 = .ok (.iload_n 1, 1) := by decide +kernel
theorem dX13_declare_19 : decode cX13_declare 19 = .ok (.if_icmp .lt 5, 3) := by decide +kernel
theorem dX13_declare_22 : decode cX13_declare 22 = .ok (.iconst 0, 1) := by decide +kernel
theorem dX13_declare_23 : decode cX13_declare 23 = .ok (.ireturn, 1) := by decide +kernel
theorem dX13_declare_24 : decode cX13_declare 24 = .ok (.aload_n 0, 1) := by decide +kernel
theorem dX13_declare_25 : decode cX13_declare 25 = .ok (.getfield 78, 3) := by decide +kernel
theorem dX13_declare_28 : decode cX13_declare 28 = .ok (.iload_n 1, 1) := by decide +kernel
theorem dX13_declare_29 : decode cX13_declare 29 = .ok (.iload_n 2, 1) := by decide +kernel
theorem dX13_declare_30 : decode cX13_declare 30 = .ok (.iastore, 1) := by decide +kernel
theorem dX13_declare_31 : decode cX13_declare 31 = .ok (.aload_n 0, 1) := by decide +kernel
theorem dX13_declare_32 : decode cX13_declare 32 = .ok (.getfield 81, 3) := by decide +kernel
theorem dX13_declare_35 : decode cX13_declare 35 = .ok (.iload_n 1, 1) := by decide +kernel
theorem dX13_declare_36 : decode cX13_declare 36 = .ok (.iconst 0, 1) := by decide +kernel
theorem dX13_declare_37 : decode cX13_declare 37 = .ok (.iastore, 1) := by decide +kernel
theorem dX13_declare_38 : decode cX13_declare 38 = .ok (.aload_n 0, 1) := by decide +kernel
theorem dX13_declare_39 : decode cX13_declare 39 = .ok (.getfield 90, 3) := by decide +kernel
theorem dX13_declare_42 : decode cX13_declare 42 = .ok (.iload_n 1, 1) := by decide +kernel
theorem dX13_declare_43 : decode cX13_declare 43 = .ok (.iconst 0, 1) := by decide +kernel
theorem dX13_declare_44 : decode cX13_declare 44 = .ok (.iastore, 1) := by decide +kernel
theorem dX13_declare_45 : decode cX13_declare 45 = .ok (.aload_n 0, 1) := by decide +kernel
theorem dX13_declare_46 : decode cX13_declare 46 = .ok (.getfield 99, 3) := by decide +kernel
theorem dX13_declare_49 : decode cX13_declare 49 = .ok (.iload_n 1, 1) := by decide +kernel
theorem dX13_declare_50 : decode cX13_declare 50 = .ok (.iconst 0, 1) := by decide +kernel
theorem dX13_declare_51 : decode cX13_declare 51 = .ok (.iastore, 1) := by decide +kernel
theorem dX13_declare_52 : decode cX13_declare 52 = .ok (.iconst 1, 1) := by decide +kernel
theorem dX13_declare_53 : decode cX13_declare 53 = .ok (.ireturn, 1) := by decide +kernel
theorem dX13_constructor_0 : decode cX13_constructor 0 = .ok (.aload_n 0, 1) := by decide +kernel
theorem dX13_constructor_1 : decode cX13_constructor 1 = .ok (.iconst 0, 1) := by decide +kernel
theorem dX13_constructor_2 : decode cX13_constructor 2 = .ok (.putfield 252, 3) := by decide +kernel
theorem dX13_constructor_5 : decode cX13_constructor 5 = .ok (.iload_n 1, 1) := by decide +kernel
theorem dX13_constructor_6 : decode cX13_constructor 6 = .ok (.invokestatic 259, 3) := by decide +kernel
theorem dX13_constructor_9 : decode cX13_constructor 9 = .ok (.ifCond .eq 25, 3) := by decide +kernel
theorem dX13_constructor_12 : decode cX13_constructor 12 = .ok (.iload_n 2, 1) := by decide +kernel
theorem dX13_constructor_13 : decode cX13_constructor 13 = .ok (.iload_n 3, 1) := by decide +kernel
theorem dX13_constructor_14 : decode cX13_constructor 14 = .ok (.iload 4, 2) := by decide +kernel
theorem dX13_constructor_16 : decode cX13_constructor 16 = .ok (.iload 5, 2) := by decide +kernel
theorem dX13_constructor_18 : decode cX13_constructor 18 = .ok (.invokestatic 262, 3) := by decide +kernel
theorem dX13_constructor_21 : decode cX13_constructor 21 = .ok (.ifCond .eq 13, 3) := by decide +kernel
theorem dX13_constructor_24 : decode cX13_constructor 24 = .ok (.aload_n 0, 1) := by decide +kernel
theorem dX13_constructor_25 : decode cX13_constructor 25 = .ok (.getfield 81, 3) := by decide +kernel
theorem dX13_constructor_28 : decode cX13_constructor 28 = .ok (.iload_n 1, 1) := by decide +kernel
theorem dX13_constructor_29 : decode cX13_constructor 29 = .ok (.iaload, 1) := by decide +kernel
theorem dX13_constructor_30 : decode cX13_constructor 30 = .ok (.iconst 4, 1) := by decide +kernel
theorem dX13_constructor_31 : decode cX13_constructor 31 = .ok (.if_icmp .ne 5, 3) := by decide +kernel
theorem dX13_constructor_34 : decode cX13_constructor 34 = .ok (.iconst 0, 1) := by decide +kernel
theorem dX13_constructor_35 : decode cX13_constructor 35 = .ok (.ireturn, 1) := by decide +kernel
theorem dX13_constructor_36 : decode cX13_constructor 36 = .ok (.iconst 4, 1) := by decide +kernel
theorem dX13_constructor_37 : decode cX13_constructor 37 = .ok (.iload_n 1, 1) := by decide +kernel
theorem dX13_constructor_38 : decode cX13_constructor 38 = .ok (.imul, 1) := by decide +kernel
theorem dX13_constructor_39 : decode cX13_constructor 39 = .ok (.aload_n 0, 1) := by decide +kernel
theorem dX13_constructor_40 : decode cX13_constructor 40 = .ok (.getfield 81, 3) := by decide +kernel
theorem dX13_constructor_43 : decode cX13_constructor 43 = .ok (.iload_n 1, 1) := by decide +kernel
theorem dX13_constructor_44 : decode cX13_constructor 44 = .ok (.iaload, 1) := by decide +kernel
theorem dX13_constructor_45 : decode cX13_constructor 45 = .ok (.iadd, 1) := by decide +kernel
theorem dX13_constructor_46 : decode cX13_constructor 46 = .ok (.istore 6, 2) := by decide +kernel
theorem dX13_constructor_48 : decode cX13_constructor 48 = .ok (.aload_n 0, 1) := by decide +kernel
theorem dX13_constructor_49 : decode cX13_constructor 49 = .ok (.getfield 84, 3) := by decide +kernel
theorem dX13_constructor_52 : decode cX13_constructor 52 = .ok (.iload 6, 2) := by decide +kernel
theorem dX13_constructor_54 : decode cX13_constructor 54 = .ok (.iload_n 2, 1) := by decide +kernel
theorem dX13_constructor_55 : decode cX13_constructor 55 = .ok (.iastore, 1) := by decide +kernel
theorem dX13_constructor_56 : decode cX13_constructor 56 = .ok (.aload_n 0, 1) := by decide +kernel
theorem dX13_constructor_57 : decode cX13_constructor 57 = .ok (.getfield 87, 3) := by decide +kernel
theorem dX13_constructor_60 : decode cX13_constructor 60 = .ok (.iconst 3, 1) := by decide +kernel
theorem dX13_constructor_61 : decode cX13_constructor 61 = .ok (.iload 6, 2) := by decide +kernel
theorem dX13_constructor_63 : decode cX13_constructor 63 = .ok (.imul, 1) := by decide +kernel
theorem dX13_constructor_64 : decode cX13_constructor 64 = .ok (.iload_n 3, 1) := by decide +kernel
theorem dX13_constructor_65 : decode cX13_constructor 65 = .ok (.iastore, 1) := by decide +kernel
theorem dX13_constructor_66 : decode cX13_constructor 66 = .ok (.aload_n 0, 1) := by decide +kernel
theorem dX13_constructor_67 : decode cX13_constructor 67 = .ok (.getfield 87, 3) := by decide +kernel
theorem dX13_constructor_70 : decode cX13_constructor 70 = .ok (.iconst 3, 1) := by decide +kernel
theorem dX13_constructor_71 : decode cX13_constructor 71 = .ok (.iload 6, 2) := by decide +kernel
theorem dX13_constructor_73 : decode cX13_constructor 73 = .ok (.imul, 1) := by decide +kernel
theorem dX13_constructor_74 : decode cX13_constructor 74 = .ok (.iconst 1, 1) := by decide +kernel
theorem dX13_constructor_75 : decode cX13_constructor 75 = .ok (.iadd, 1) := by decide +kernel
theorem dX13_constructor_76 : decode cX13_constructor 76 = .ok (.iload 4, 2) := by decide +kernel
theorem dX13_constructor_78 : decode cX13_constructor 78 = .ok (.iastore, 1) := by decide +kernel
theorem dX13_constructor_79 : decode cX13_constructor 79 = .ok (.aload_n 0, 1) := by decide +kernel
theorem dX13_constructor_80 : decode cX13_constructor 80 = .ok (.getfield 87, 3) := by decide +kernel
theorem dX13_constructor_83 : decode cX13_constructor 83 = .ok (.iconst 3, 1) := by decide +kernel
theorem dX13_constructor_84 : decode cX13_constructor 84 = .ok (.iload 6, 2) := by decide +kernel
theorem dX13_constructor_86 : decode cX13_constructor 86 = .ok (.imul, 1) := by decide +kernel
theorem dX13_constructor_87 : decode cX13_constructor 87 = .ok (.iconst 2, 1) := by decide +kernel
theorem dX13_constructor_88 : decode cX13_constructor 88 = .ok (.iadd, 1) := by decide +kernel
theorem dX13_constructor_89 : decode cX13_constructor 89 = .ok (.iload 5, 2) := by decide +kernel
theorem dX13_constructor_91 : decode cX13_constructor 91 = .ok (.iastore, 1) := by decide +kernel
theorem dX13_constructor_92 : decode cX13_constructor 92 = .ok (.aload_n 0, 1) := by decide +kernel
theorem dX13_constructor_93 : decode cX13_constructor 93 = .ok (.getfield 81, 3) := by decide +kernel
theorem dX13_constructor_96 : decode cX13_constructor 96 = .ok (.iload_n 1, 1) := by decide +kernel
theorem dX13_constructor_97 : decode cX13_constructor 97 = .ok (.dup2, 1) := by decide +kernel
theorem dX13_constructor_98 : decode cX13_constructor 98 = .ok (.iaload, 1) := by decide +kernel
theorem dX13_constructor_99 : decode cX13_constructor 99 = .ok (.iconst 1, 1) := by decide +kernel
theorem dX13_constructor_100 : decode cX13_constructor 100 = .ok (.iadd, 1) := by decide +kernel
theorem dX13_constructor_101 : decode cX13_constructor 101 = .ok (.iastore, 1) := by decide +kernel
theorem dX13_constructor_102 : decode cX13_constructor 102 = .ok (.iconst 1, 1) := by decide +kernel
theorem dX13_constructor_103 : decode cX13_constructor 103 = .ok (.ireturn, 1) := by decide +kernel
theorem dX13_setter_0 : decode cX13_setter 0 = .ok (.aload_n 0, 1) := by decide +kernel
theorem dX13_setter_1 : decode cX13_setter 1 = .ok (.iconst 0, 1) := by decide +kernel
theorem dX13_setter_2 : decode cX13_setter 2 = .ok (.putfield 252, 3) := by decide +kernel
theorem dX13_setter_5 : decode cX13_setter 5 = .ok (.iload_n 1, 1) := by decide +kernel
theorem dX13_setter_6 : decode cX13_setter 6 = .ok (.invokestatic 259, 3) := by decide +kernel
theorem dX13_setter_9 : decode cX13_setter 9 = .ok (.ifCond .eq 28, 3) := by decide +kernel
theorem dX13_setter_12 : decode cX13_setter 12 = .ok (.iload_n 2, 1) := by decide +kernel
theorem dX13_setter_13 : decode cX13_setter 13 = .ok (.invokestatic 266, 3) := by decide +kernel
theorem dX13_setter_16 : decode cX13_setter 16 = .ok (.ifCond .eq 21, 3) := by decide +kernel
theorem dX13_setter_19 : decode cX13_setter 19 = .ok (.iload_n 3, 1) := by decide +kernel
theorem dX13_setter_20 : decode cX13_setter 20 = .ok (.invokestatic 255, 3) := by decide +kernel
theorem dX13_setter_23 : decode cX13_setter 23 = .ok (.ifCond .eq 14, 3) := by decide +kernel
theorem dX13_setter_26 : decode cX13_setter 26 = .ok (.aload_n 0, 1) := by decide +kernel
theorem dX13_setter_27 : decode cX13_setter 27 = .ok (.getfield 90, 3) := by decide +kernel
theorem dX13_setter_30 : decode cX13_setter 30 = .ok (.iload_n 1, 1) := by decide +kernel
theorem dX13_setter_31 : decode cX13_setter 31 = .ok (.iaload, 1) := by decide +kernel
theorem dX13_setter_32 : decode cX13_setter 32 = .ok (.bipush 8, 2) := by decide +kernel
theorem dX13_setter_34 : decode cX13_setter 34 = .ok (.if_icmp .ne 5, 3) := by decide +kernel
theorem dX13_setter_37 : decode cX13_setter 37 = .ok (.iconst 0, 1) := by decide +kernel
theorem dX13_setter_38 : decode cX13_setter 38 = .ok (.ireturn, 1) := by decide +kernel
theorem dX13_setter_39 : decode cX13_setter 39 = .ok (.iconst 0, 1) := by decide +kernel
theorem dX13_setter_40 : decode cX13_setter 40 = .ok (.istore 4, 2) := by decide +kernel
theorem dX13_setter_42 : decode cX13_setter 42 = .ok (.iload 4, 2) := by decide +kernel
theorem dX13_setter_44 : decode cX13_setter 44 = .ok (.aload_n 0, 1) := by decide +kernel
theorem dX13_setter_45 : decode cX13_setter 45 = .ok (.getfield 90, 3) := by decide +kernel
theorem dX13_setter_48 : decode cX13_setter 48 = .ok (.iload_n 1, 1) := by decide +kernel
theorem dX13_setter_49 : decode cX13_setter 49 = .ok (.iaload, 1) := by decide +kernel
theorem dX13_setter_50 : decode cX13_setter 50 = .ok (.if_icmp .ge 27, 3) := by decide +kernel
theorem dX13_setter_53 : decode cX13_setter 53 = .ok (.aload_n 0, 1) := by decide +kernel
theorem dX13_setter_54 : decode cX13_setter 54 = .ok (.getfield 93, 3) := by decide +kernel
theorem dX13_setter_57 : decode cX13_setter 57 = .ok (.bipush 8, 2) := by decide +kernel
theorem dX13_setter_59 : decode cX13_setter 59 = .ok (.iload_n 1, 1) := by decide +kernel
theorem dX13_setter_60 : decode cX13_setter 60 = .ok (.imul, 1) := by decide +kernel
theorem dX13_setter_61 : decode cX13_setter 61 = .ok (.iload 4, 2) := by decide +kernel
theorem dX13_setter_63 : decode cX13_setter 63 = .ok (.iadd, 1) := by decide +kernel
theorem dX13_setter_64 : decode cX13_setter 64 = .ok (.iaload, 1) := by decide +kernel
theorem dX13_setter_65 : decode cX13_setter 65 = .ok (.iload_n 2, 1) := by decide +kernel
theorem dX13_setter_66 : decode cX13_setter 66 = .ok (.if_icmp .ne 5, 3) := by decide +kernel
theorem dX13_setter_69 : decode cX13_setter 69 = .ok (.iconst 0, 1) := by decide +kernel
theorem dX13_setter_70 : decode cX13_setter 70 = .ok (.ireturn, 1) := by decide +kernel
theorem dX13_setter_71 : decode cX13_setter 71 = .ok (.iinc 4 1, 3) := by decide +kernel
theorem dX13_setter_74 : decode cX13_setter 74 = .ok (.goto (-32), 3) := by decide +kernel
theorem dX13_setter_77 : decode cX13_setter 77 = .ok (.aload_n 0, 1) := by decide +kernel
theorem dX13_setter_78 : decode cX13_setter 78 = .ok (.getfield 93, 3) := by decide +kernel
theorem dX13_setter_81 : decode cX13_setter 81 = .ok (.bipush 8, 2) := by decide +kernel
theorem dX13_setter_83 : decode cX13_setter 83 = .ok (.iload_n 1, 1) := by decide +kernel
theorem dX13_setter_84 : decode cX13_setter 84 = .ok (.imul, 1) := by decide +kernel
theorem dX13_setter_85 : decode cX13_setter 85 = .ok (.aload_n 0, 1) := by decide +kernel
theorem dX13_setter_86 : decode cX13_setter 86 = .ok (.getfield 90, 3) := by decide +kernel
theorem dX13_setter_89 : decode cX13_setter 89 = .ok (.iload_n 1, 1) := by decide +kernel
theorem dX13_setter_90 : decode cX13_setter 90 = .ok (.iaload, 1) := by decide +kernel
theorem dX13_setter_91 : decode cX13_setter 91 = .ok (.iadd, 1) := by decide +kernel
theorem dX13_setter_92 : decode cX13_setter 92 = .ok (.iload_n 2, 1) := by decide +kernel
theorem dX13_setter_93 : decode cX13_setter 93 = .ok (.iastore, 1) := by decide +kernel
theorem dX13_setter_94 : decode cX13_setter 94 = .ok (.aload_n 0, 1) := by decide +kernel
theorem dX13_setter_95 : decode cX13_setter 95 = .ok (.getfield 96, 3) := by decide +kernel
theorem dX13_setter_98 : decode cX13_setter 98 = .ok (.bipush 8, 2) := by decide +kernel
theorem dX13_setter_100 : decode cX13_setter 100 = .ok (.iload_n 1, 1) := by decide +kernel
theorem dX13_setter_101 : decode cX13_setter 101 = .ok (.imul, 1) := by decide +kernel
theorem dX13_setter_102 : decode cX13_setter 102 = .ok (.aload_n 0, 1) := by decide +kernel
theorem dX13_setter_103 : decode cX13_setter 103 = .ok (.getfield 90, 3) := by decide +kernel
theorem dX13_setter_106 : decode cX13_setter 106 = .ok (.iload_n 1, 1) := by decide +kernel
theorem dX13_setter_107 : decode cX13_setter 107 = .ok (.iaload, 1) := by decide +kernel
theorem dX13_setter_108 : decode cX13_setter 108 = .ok (.iadd, 1) := by decide +kernel
theorem dX13_setter_109 : decode cX13_setter 109 = .ok (.iload_n 3, 1) := by decide +kernel
theorem dX13_setter_110 : decode cX13_setter 110 = .ok (.iastore, 1) := by decide +kernel
theorem dX13_setter_111 : decode cX13_setter 111 = .ok (.aload_n 0, 1) := by decide +kernel
theorem dX13_setter_112 : decode cX13_setter 112 = .ok (.getfield 90, 3) := by decide +kernel
theorem dX13_setter_115 : decode cX13_setter 115 = .ok (.iload_n 1, 1) := by decide +kernel
theorem dX13_setter_116 : decode cX13_setter 116 = .ok (.dup2, 1) := by decide +kernel
theorem dX13_setter_117 : decode cX13_setter 117 = .ok (.iaload, 1) := by decide +kernel
theorem dX13_setter_118 : decode cX13_setter 118 = .ok (.iconst 1, 1) := by decide +kernel
theorem dX13_setter_119 : decode cX13_setter 119 = .ok (.iadd, 1) := by decide +kernel
theorem dX13_setter_120 : decode cX13_setter 120 = .ok (.iastore, 1) := by decide +kernel
theorem dX13_setter_121 : decode cX13_setter 121 = .ok (.iconst 1, 1) := by decide +kernel
theorem dX13_setter_122 : decode cX13_setter 122 = .ok (.ireturn, 1) := by decide +kernel
theorem dX13_factory_0 : decode cX13_factory 0 = .ok (.aload_n 0, 1) := by decide +kernel
theorem dX13_factory_1 : decode cX13_factory 1 = .ok (.iconst 0, 1) := by decide +kernel
theorem dX13_factory_2 : decode cX13_factory 2 = .ok (.putfield 252, 3) := by decide +kernel
theorem dX13_factory_5 : decode cX13_factory 5 = .ok (.iload_n 1, 1) := by decide +kernel
theorem dX13_factory_6 : decode cX13_factory 6 = .ok (.invokestatic 259, 3) := by decide +kernel
theorem dX13_factory_9 : decode cX13_factory 9 = .ok (.ifCond .eq 42, 3) := by decide +kernel
theorem dX13_factory_12 : decode cX13_factory 12 = .ok (.iload_n 2, 1) := by decide +kernel
theorem dX13_factory_13 : decode cX13_factory 13 = .ok (.invokestatic 266, 3) := by decide +kernel
theorem dX13_factory_16 : decode cX13_factory 16 = .ok (.ifCond .eq 35, 3) := by decide +kernel
theorem dX13_factory_19 : decode cX13_factory 19 = .ok (.iload 4, 2) := by decide +kernel
theorem dX13_factory_21 : decode cX13_factory 21 = .ok (.invokestatic 259, 3) := by decide +kernel
theorem dX13_factory_24 : decode cX13_factory 24 = .ok (.ifCond .eq 27, 3) := by decide +kernel
theorem dX13_factory_27 : decode cX13_factory 27 = .ok (.iload 5, 2) := by decide +kernel
theorem dX13_factory_29 : decode cX13_factory 29 = .ok (.iload 6, 2) := by decide +kernel
theorem dX13_factory_31 : decode cX13_factory 31 = .ok (.iload 7, 2) := by decide +kernel
theorem dX13_factory_33 : decode cX13_factory 33 = .ok (.iload 8, 2) := by decide +kernel
theorem dX13_factory_35 : decode cX13_factory 35 = .ok (.invokestatic 262, 3) := by decide +kernel
theorem dX13_factory_38 : decode cX13_factory 38 = .ok (.ifCond .eq 13, 3) := by decide +kernel
theorem dX13_factory_41 : decode cX13_factory 41 = .ok (.aload_n 0, 1) := by decide +kernel
theorem dX13_factory_42 : decode cX13_factory 42 = .ok (.getfield 99, 3) := by decide +kernel
theorem dX13_factory_45 : decode cX13_factory 45 = .ok (.iload_n 1, 1) := by decide +kernel
theorem dX13_factory_46 : decode cX13_factory 46 = .ok (.iaload, 1) := by decide +kernel
theorem dX13_factory_47 : decode cX13_factory 47 = .ok (.iconst 4, 1) := by decide +kernel
theorem dX13_factory_48 : decode cX13_factory 48 = .ok (.if_icmp .ne 5, 3) := by decide +kernel
theorem dX13_factory_51 : decode cX13_factory 51 = .ok (.iconst 0, 1) := by decide +kernel
theorem dX13_factory_52 : decode cX13_factory 52 = .ok (.ireturn, 1) := by decide +kernel
theorem dX13_factory_53 : decode cX13_factory 53 = .ok (.iconst 4, 1) := by decide +kernel
theorem dX13_factory_54 : decode cX13_factory 54 = .ok (.iload_n 1, 1) := by decide +kernel
theorem dX13_factory_55 : decode cX13_factory 55 = .ok (.imul, 1) := by decide +kernel
theorem dX13_factory_56 : decode cX13_factory 56 = .ok (.aload_n 0, 1) := by decide +kernel
theorem dX13_factory_57 : decode cX13_factory 57 = .ok (.getfield 99, 3) := by decide +kernel
theorem dX13_factory_60 : decode cX13_factory 60 = .ok (.iload_n 1, 1) := by decide +kernel
theorem dX13_factory_61 : decode cX13_factory 61 = .ok (.iaload, 1) := by decide +kernel
theorem dX13_factory_62 : decode cX13_factory 62 = .ok (.iadd, 1) := by decide +kernel
theorem dX13_factory_63 : decode cX13_factory 63 = .ok (.istore 9, 2) := by decide +kernel
theorem dX13_factory_65 : decode cX13_factory 65 = .ok (.aload_n 0, 1) := by decide +kernel
theorem dX13_factory_66 : decode cX13_factory 66 = .ok (.getfield 102, 3) := by decide +kernel
theorem dX13_factory_69 : decode cX13_factory 69 = .ok (.iload 9, 2) := by decide +kernel
theorem dX13_factory_71 : decode cX13_factory 71 = .ok (.iload_n 2, 1) := by decide +kernel
theorem dX13_factory_72 : decode cX13_factory 72 = .ok (.iastore, 1) := by decide +kernel
theorem dX13_factory_73 : decode cX13_factory 73 = .ok (.aload_n 0, 1) := by decide +kernel
theorem dX13_factory_74 : decode cX13_factory 74 = .ok (.getfield 114, 3) := by decide +kernel
theorem dX13_factory_77 : decode cX13_factory 77 = .ok (.iload 9, 2) := by decide +kernel
theorem dX13_factory_79 : decode cX13_factory 79 = .ok (.iload_n 3, 1) := by decide +kernel
theorem dX13_factory_80 : decode cX13_factory 80 = .ok (.bastore, 1) := by decide +kernel
theorem dX13_factory_81 : decode cX13_factory 81 = .ok (.aload_n 0, 1) := by decide +kernel
theorem dX13_factory_82 : decode cX13_factory 82 = .ok (.getfield 105, 3) := by decide +kernel
theorem dX13_factory_85 : decode cX13_factory 85 = .ok (.iload 9, 2) := by decide +kernel
theorem dX13_factory_87 : decode cX13_factory 87 = .ok (.iload 4, 2) := by decide +kernel
theorem dX13_factory_89 : decode cX13_factory 89 = .ok (.iastore, 1) := by decide +kernel
theorem dX13_factory_90 : decode cX13_factory 90 = .ok (.aload_n 0, 1) := by decide +kernel
theorem dX13_factory_91 : decode cX13_factory 91 = .ok (.getfield 108, 3) := by decide +kernel
theorem dX13_factory_94 : decode cX13_factory 94 = .ok (.iload 9, 2) := by decide +kernel
theorem dX13_factory_96 : decode cX13_factory 96 = .ok (.iload 5, 2) := by decide +kernel
theorem dX13_factory_98 : decode cX13_factory 98 = .ok (.iastore, 1) := by decide +kernel
theorem dX13_factory_99 : decode cX13_factory 99 = .ok (.aload_n 0, 1) := by decide +kernel
theorem dX13_factory_100 : decode cX13_factory 100 = .ok (.getfield 111, 3) := by decide +kernel
theorem dX13_factory_103 : decode cX13_factory 103 = .ok (.iconst 3, 1) := by decide +kernel
theorem dX13_factory_104 : decode cX13_factory 104 = .ok (.iload 9, 2) := by decide +kernel
theorem dX13_factory_106 : decode cX13_factory 106 = .ok (.imul, 1) := by decide +kernel
theorem dX13_factory_107 : decode cX13_factory 107 = .ok (.iload 6, 2) := by decide +kernel
theorem dX13_factory_109 : decode cX13_factory 109 = .ok (.iastore, 1) := by decide +kernel
theorem dX13_factory_110 : decode cX13_factory 110 = .ok (.aload_n 0, 1) := by decide +kernel
theorem dX13_factory_111 : decode cX13_factory 111 = .ok (.getfield 111, 3) := by decide +kernel
theorem dX13_factory_114 : decode cX13_factory 114 = .ok (.iconst 3, 1) := by decide +kernel
theorem dX13_factory_115 : decode cX13_factory 115 = .ok (.iload 9, 2) := by decide +kernel
theorem dX13_factory_117 : decode cX13_factory 117 = .ok (.imul, 1) := by decide +kernel
theorem dX13_factory_118 : decode cX13_factory 118 = .ok (.iconst 1, 1) := by decide +kernel
theorem dX13_factory_119 : decode cX13_factory 119 = .ok (.iadd, 1) := by decide +kernel
theorem dX13_factory_120 : decode cX13_factory 120 = .ok (.iload 7, 2) := by decide +kernel
theorem dX13_factory_122 : decode cX13_factory 122 = .ok (.iastore, 1) := by decide +kernel
theorem dX13_factory_123 : decode cX13_factory 123 = .ok (.aload_n 0, 1) := by decide +kernel
theorem dX13_factory_124 : decode cX13_factory 124 = .ok (.getfield 111, 3) := by decide +kernel
theorem dX13_factory_127 : decode cX13_factory 127 = .ok (.iconst 3, 1) := by decide +kernel
theorem dX13_factory_128 : decode cX13_factory 128 = .ok (.iload 9, 2) := by decide +kernel
theorem dX13_factory_130 : decode cX13_factory 130 = .ok (.imul, 1) := by decide +kernel
theorem dX13_factory_131 : decode cX13_factory 131 = .ok (.iconst 2, 1) := by decide +kernel
theorem dX13_factory_132 : decode cX13_factory 132 = .ok (.iadd, 1) := by decide +kernel
theorem dX13_factory_133 : decode cX13_factory 133 = .ok (.iload 8, 2) := by decide +kernel
theorem dX13_factory_135 : decode cX13_factory 135 = .ok (.iastore, 1) := by decide +kernel
theorem dX13_factory_136 : decode cX13_factory 136 = .ok (.aload_n 0, 1) := by decide +kernel
theorem dX13_factory_137 : decode cX13_factory 137 = .ok (.getfield 99, 3) := by decide +kernel
theorem dX13_factory_140 : decode cX13_factory 140 = .ok (.iload_n 1, 1) := by decide +kernel
theorem dX13_factory_141 : decode cX13_factory 141 = .ok (.dup2, 1) := by decide +kernel
theorem dX13_factory_142 : decode cX13_factory 142 = .ok (.iaload, 1) := by decide +kernel
theorem dX13_factory_143 : decode cX13_factory 143 = .ok (.iconst 1, 1) := by decide +kernel
theorem dX13_factory_144 : decode cX13_factory 144 = .ok (.iadd, 1) := by decide +kernel
theorem dX13_factory_145 : decode cX13_factory 145 = .ok (.iastore, 1) := by decide +kernel
theorem dX13_factory_146 : decode cX13_factory 146 = .ok (.iconst 1, 1) := by decide +kernel
theorem dX13_factory_147 : decode cX13_factory 147 = .ok (.ireturn, 1) := by decide +kernel
theorem dX13_type_0 : decode cX13_type 0 = .ok (.aload_n 0, 1) := by decide +kernel
theorem dX13_type_1 : decode cX13_type 1 = .ok (.iconst 0, 1) := by decide +kernel
theorem dX13_type_2 : decode cX13_type 2 = .ok (.putfield 252, 3) := by decide +kernel
theorem dX13_type_5 : decode cX13_type 5 = .ok (.iconst 0, 1) := by decide +kernel
theorem dX13_type_6 : decode cX13_type 6 = .ok (.istore 6, 2) := by decide +kernel
theorem dX13_type_8 : decode cX13_type 8 = .ok (.iconst 0, 1) := by decide +kernel
theorem dX13_type_9 : decode cX13_type 9 = .ok (.istore 7, 2) := by decide +kernel
theorem dX13_type_11 : decode cX13_type 11 = .ok (.iload 7, 2) := by decide +kernel
theorem dX13_type_13 : decode cX13_type 13 = .ok (.bipush 20, 2) := by decide +kernel
theorem dX13_type_15 : decode cX13_type 15 = .ok (.if_icmp .ge 119, 3) := by decide +kernel
theorem dX13_type_18 : decode cX13_type 18 = .ok (.iload 7, 2) := by decide +kernel
theorem dX13_type_20 : decode cX13_type 20 = .ok (.iconst 4, 1) := by decide +kernel
theorem dX13_type_21 : decode cX13_type 21 = .ok (.if_icmp .ge 7, 3) := by decide +kernel
theorem dX13_type_24 : decode cX13_type 24 = .ok (.iload_n 1, 1) := by decide +kernel
theorem dX13_type_25 : decode cX13_type 25 = .ok (.goto 39, 3) := by decide +kernel
theorem dX13_type_28 : decode cX13_type 28 = .ok (.iload 7, 2) := by decide +kernel
theorem dX13_type_30 : decode cX13_type 30 = .ok (.bipush 8, 2) := by decide +kernel
theorem dX13_type_32 : decode cX13_type 32 = .ok (.if_icmp .ge 7, 3) := by decide +kernel
theorem dX13_type_35 : decode cX13_type 35 = .ok (.iload_n 2, 1) := by decide +kernel
theorem dX13_type_36 : decode cX13_type 36 = .ok (.goto 28, 3) := by decide +kernel
theorem dX13_type_39 : decode cX13_type 39 = .ok (.iload 7, 2) := by decide +kernel
theorem dX13_type_41 : decode cX13_type 41 = .ok (.bipush 12, 2) := by decide +kernel
theorem dX13_type_43 : decode cX13_type 43 = .ok (.if_icmp .ge 7, 3) := by decide +kernel
theorem dX13_type_46 : decode cX13_type 46 = .ok (.iload_n 3, 1) := by decide +kernel
theorem dX13_type_47 : decode cX13_type 47 = .ok (.goto 17, 3) := by decide +kernel
theorem dX13_type_50 : decode cX13_type 50 = .ok (.iload 7, 2) := by decide +kernel
theorem dX13_type_52 : decode cX13_type 52 = .ok (.bipush 16, 2) := by decide +kernel
theorem dX13_type_54 : decode cX13_type 54 = .ok (.if_icmp .ge 8, 3) := by decide +kernel
theorem dX13_type_57 : decode cX13_type 57 = .ok (.iload 4, 2) := by decide +kernel
theorem dX13_type_59 : decode cX13_type 59 = .ok (.goto 5, 3) := by decide +kernel
theorem dX13_type_62 : decode cX13_type 62 = .ok (.iload 5, 2) := by decide +kernel
theorem dX13_type_64 : decode cX13_type 64 = .ok (.istore 8, 2) := by decide +kernel
theorem dX13_type_66 : decode cX13_type 66 = .ok (.iload 8, 2) := by decide +kernel
theorem dX13_type_68 : decode cX13_type 68 = .ok (.bipush 24, 2) := by decide +kernel
theorem dX13_type_70 : decode cX13_type 70 = .ok (.bipush 8, 2) := by decide +kernel
theorem dX13_type_72 : decode cX13_type 72 = .ok (.iload 7, 2) := by decide +kernel
theorem dX13_type_74 : decode cX13_type 74 = .ok (.iconst 4, 1) := by decide +kernel
theorem dX13_type_75 : decode cX13_type 75 = .ok (.irem, 1) := by decide +kernel
theorem dX13_type_76 : decode cX13_type 76 = .ok (.imul, 1) := by decide +kernel
theorem dX13_type_77 : decode cX13_type 77 = .ok (.isub, 1) := by decide +kernel
theorem dX13_type_78 : decode cX13_type 78 = .ok (.ishr, 1) := by decide +kernel
theorem dX13_type_79 : decode cX13_type 79 = .ok (.sipush 255, 3) := by decide +kernel
theorem dX13_type_82 : decode cX13_type 82 = .ok (.iand, 1) := by decide +kernel
theorem dX13_type_83 : decode cX13_type 83 = .ok (.istore 9, 2) := by decide +kernel
theorem dX13_type_85 : decode cX13_type 85 = .ok (.iload 9, 2) := by decide +kernel
theorem dX13_type_87 : decode cX13_type 87 = .ok (.ifCond .eq 26, 3) := by decide +kernel
theorem dX13_type_90 : decode cX13_type 90 = .ok (.iload 9, 2) := by decide +kernel
theorem dX13_type_92 : decode cX13_type 92 = .ok (.bipush 10, 2) := by decide +kernel
theorem dX13_type_94 : decode cX13_type 94 = .ok (.if_icmp .eq 19, 3) := by decide +kernel
theorem dX13_type_97 : decode cX13_type 97 = .ok (.iload 9, 2) := by decide +kernel
theorem dX13_type_99 : decode cX13_type 99 = .ok (.bipush 32, 2) := by decide +kernel
theorem dX13_type_101 : decode cX13_type 101 = .ok (.if_icmp .lt 10, 3) := by decide +kernel
theorem dX13_type_104 : decode cX13_type 104 = .ok (.iload 9, 2) := by decide +kernel
theorem dX13_type_106 : decode cX13_type 106 = .ok (.bipush 126, 2) := by decide +kernel
theorem dX13_type_108 : decode cX13_type 108 = .ok (.if_icmp .le 5, 3) := by decide +kernel
theorem dX13_type_111 : decode cX13_type 111 = .ok (.iconst (-1), 1) := by decide +kernel
theorem dX13_type_112 : decode cX13_type 112 = .ok (.ireturn, 1) := by decide +kernel
theorem dX13_type_113 : decode cX13_type 113 = .ok (.iload 6, 2) := by decide +kernel
theorem dX13_type_115 : decode cX13_type 115 = .ok (.iload 9, 2) := by decide +kernel
theorem dX13_type_117 : decode cX13_type 117 = .ok (.ifCond .eq 7, 3) := by decide +kernel
theorem dX13_type_120 : decode cX13_type 120 = .ok (.iconst 1, 1) := by decide +kernel
theorem dX13_type_121 : decode cX13_type 121 = .ok (.goto 4, 3) := by decide +kernel
theorem dX13_type_124 : decode cX13_type 124 = .ok (.iconst 0, 1) := by decide +kernel
theorem dX13_type_125 : decode cX13_type 125 = .ok (.iadd, 1) := by decide +kernel
theorem dX13_type_126 : decode cX13_type 126 = .ok (.istore 6, 2) := by decide +kernel
theorem dX13_type_128 : decode cX13_type 128 = .ok (.iinc 7 1, 3) := by decide +kernel
theorem dX13_type_131 : decode cX13_type 131 = .ok (.goto (-120), 3) := by decide +kernel
theorem dX13_type_134 : decode cX13_type 134 = .ok (.aload_n 0, 1) := by decide +kernel
theorem dX13_type_135 : decode cX13_type 135 = .ok (.getfield 273, 3) := by decide +kernel
theorem dX13_type_138 : decode cX13_type 138 = .ok (.iload 6, 2) := by decide +kernel
theorem dX13_type_140 : decode cX13_type 140 = .ok (.iadd, 1) := by decide +kernel
theorem dX13_type_141 : decode cX13_type 141 = .ok (.sipush 1200, 3) := by decide +kernel
theorem dX13_type_144 : decode cX13_type 144 = .ok (.if_icmp .le 5, 3) := by decide +kernel
theorem dX13_type_147 : decode cX13_type 147 = .ok (.iconst (-1), 1) := by decide +kernel
theorem dX13_type_148 : decode cX13_type 148 = .ok (.ireturn, 1) := by decide +kernel
theorem dX13_type_149 : decode cX13_type 149 = .ok (.iconst 0, 1) := by decide +kernel
theorem dX13_type_150 : decode cX13_type 150 = .ok (.istore 7, 2) := by decide +kernel
theorem dX13_type_152 : decode cX13_type 152 = .ok (.iload 7, 2) := by decide +kernel
theorem dX13_type_154 : decode cX13_type 154 = .ok (.bipush 20, 2) := by decide +kernel
theorem dX13_type_156 : decode cX13_type 156 = .ok (.if_icmp .ge 103, 3) := by decide +kernel
theorem dX13_type_159 : decode cX13_type 159 = .ok (.iload 7, 2) := by decide +kernel
theorem dX13_type_161 : decode cX13_type 161 = .ok (.iconst 4, 1) := by decide +kernel
theorem dX13_type_162 : decode cX13_type 162 = .ok (.if_icmp .ge 7, 3) := by decide +kernel
theorem dX13_type_165 : decode cX13_type 165 = .ok (.iload_n 1, 1) := by decide +kernel
theorem dX13_type_166 : decode cX13_type 166 = .ok (.goto 39, 3) := by decide +kernel
theorem dX13_type_169 : decode cX13_type 169 = .ok (.iload 7, 2) := by decide +kernel
theorem dX13_type_171 : decode cX13_type 171 = .ok (.bipush 8, 2) := by decide +kernel
theorem dX13_type_173 : decode cX13_type 173 = .ok (.if_icmp .ge 7, 3) := by decide +kernel
theorem dX13_type_176 : decode cX13_type 176 = .ok (.iload_n 2, 1) := by decide +kernel
theorem dX13_type_177 : decode cX13_type 177 = .ok (.goto 28, 3) := by decide +kernel
theorem dX13_type_180 : decode cX13_type 180 = .ok (.iload 7, 2) := by decide +kernel
theorem dX13_type_182 : decode cX13_type 182 = .ok (.bipush 12, 2) := by decide +kernel
theorem dX13_type_184 : decode cX13_type 184 = .ok (.if_icmp .ge 7, 3) := by decide +kernel
theorem dX13_type_187 : decode cX13_type 187 = .ok (.iload_n 3, 1) := by decide +kernel
theorem dX13_type_188 : decode cX13_type 188 = .ok (.goto 17, 3) := by decide +kernel
theorem dX13_type_191 : decode cX13_type 191 = .ok (.iload 7, 2) := by decide +kernel
theorem dX13_type_193 : decode cX13_type 193 = .ok (.bipush 16, 2) := by decide +kernel
theorem dX13_type_195 : decode cX13_type 195 = .ok (.if_icmp .ge 8, 3) := by decide +kernel
theorem dX13_type_198 : decode cX13_type 198 = .ok (.iload 4, 2) := by decide +kernel
theorem dX13_type_200 : decode cX13_type 200 = .ok (.goto 5, 3) := by decide +kernel
theorem dX13_type_203 : decode cX13_type 203 = .ok (.iload 5, 2) := by decide +kernel
theorem dX13_type_205 : decode cX13_type 205 = .ok (.istore 8, 2) := by decide +kernel
theorem dX13_type_207 : decode cX13_type 207 = .ok (.iload 8, 2) := by decide +kernel
theorem dX13_type_209 : decode cX13_type 209 = .ok (.bipush 24, 2) := by decide +kernel
theorem dX13_type_211 : decode cX13_type 211 = .ok (.bipush 8, 2) := by decide +kernel
theorem dX13_type_213 : decode cX13_type 213 = .ok (.iload 7, 2) := by decide +kernel
theorem dX13_type_215 : decode cX13_type 215 = .ok (.iconst 4, 1) := by decide +kernel
theorem dX13_type_216 : decode cX13_type 216 = .ok (.irem, 1) := by decide +kernel
theorem dX13_type_217 : decode cX13_type 217 = .ok (.imul, 1) := by decide +kernel
theorem dX13_type_218 : decode cX13_type 218 = .ok (.isub, 1) := by decide +kernel
theorem dX13_type_219 : decode cX13_type 219 = .ok (.ishr, 1) := by decide +kernel
theorem dX13_type_220 : decode cX13_type 220 = .ok (.sipush 255, 3) := by decide +kernel
theorem dX13_type_223 : decode cX13_type 223 = .ok (.iand, 1) := by decide +kernel
theorem dX13_type_224 : decode cX13_type 224 = .ok (.istore 9, 2) := by decide +kernel
theorem dX13_type_226 : decode cX13_type 226 = .ok (.iload 9, 2) := by decide +kernel
theorem dX13_type_228 : decode cX13_type 228 = .ok (.ifCond .eq 25, 3) := by decide +kernel
theorem dX13_type_231 : decode cX13_type 231 = .ok (.aload_n 0, 1) := by decide +kernel
theorem dX13_type_232 : decode cX13_type 232 = .ok (.getfield 118, 3) := by decide +kernel
theorem dX13_type_235 : decode cX13_type 235 = .ok (.aload_n 0, 1) := by decide +kernel
theorem dX13_type_236 : decode cX13_type 236 = .ok (.getfield 273, 3) := by decide +kernel
theorem dX13_type_239 : decode cX13_type 239 = .ok (.iload 9, 2) := by decide +kernel
theorem dX13_type_241 : decode cX13_type 241 = .ok (.i2b, 1) := by decide +kernel
theorem dX13_type_242 : decode cX13_type 242 = .ok (.bastore, 1) := by decide +kernel
theorem dX13_type_243 : decode cX13_type 243 = .ok (.aload_n 0, 1) := by decide +kernel
theorem dX13_type_244 : decode cX13_type 244 = .ok (.dup, 1) := by decide +kernel
theorem dX13_type_245 : decode cX13_type 245 = .ok (.getfield 273, 3) := by decide +kernel
theorem dX13_type_248 : decode cX13_type 248 = .ok (.iconst 1, 1) := by decide +kernel
theorem dX13_type_249 : decode cX13_type 249 = .ok (.iadd, 1) := by decide +kernel
theorem dX13_type_250 : decode cX13_type 250 = .ok (.putfield 273, 3) := by decide +kernel
theorem dX13_type_253 : decode cX13_type 253 = .ok (.iinc 7 1, 3) := by decide +kernel
theorem dX13_type_256 : decode cX13_type 256 = .ok (.goto (-104), 3) := by decide +kernel
theorem dX13_type_259 : decode cX13_type 259 = .ok (.aload_n 0, 1) := by decide +kernel
theorem dX13_type_260 : decode cX13_type 260 = .ok (.getfield 273, 3) := by decide +kernel
theorem dX13_type_263 : decode cX13_type 263 = .ok (.ireturn, 1) := by decide +kernel
theorem dX13_bad_0 : decode cX13_bad 0 = .ok (.aload_n 0, 1) := by decide +kernel
theorem dX13_bad_1 : decode cX13_bad 1 = .ok (.getfield 276, 3) := by decide +kernel
theorem dX13_bad_4 : decode cX13_bad 4 = .ok (.ifCond .eq 4, 3) := by decide +kernel
theorem dX13_bad_7 : decode cX13_bad 7 = .ok (.return_, 1) := by decide +kernel
theorem dX13_bad_8 : decode cX13_bad 8 = .ok (.aload_n 0, 1) := by decide +kernel
theorem dX13_bad_9 : decode cX13_bad 9 = .ok (.iconst 1, 1) := by decide +kernel
theorem dX13_bad_10 : decode cX13_bad 10 = .ok (.putfield 276, 3) := by decide +kernel
theorem dX13_bad_13 : decode cX13_bad 13 = .ok (.aload_n 0, 1) := by decide +kernel
theorem dX13_bad_14 : decode cX13_bad 14 = .ok (.iload_n 1, 1) := by decide +kernel
theorem dX13_bad_15 : decode cX13_bad 15 = .ok (.putfield 122, 3) := by decide +kernel
theorem dX13_bad_18 : decode cX13_bad 18 = .ok (.return_, 1) := by decide +kernel
theorem dX13_here_0 : decode cX13_here 0 = .ok (.aload_n 0, 1) := by decide +kernel
theorem dX13_here_1 : decode cX13_here 1 = .ok (.getfield 279, 3) := by decide +kernel
theorem dX13_here_4 : decode cX13_here 4 = .ok (.iload_n 1, 1) := by decide +kernel
theorem dX13_here_5 : decode cX13_here 5 = .ok (.iadd, 1) := by decide +kernel
theorem dX13_here_6 : decode cX13_here 6 = .ok (.aload_n 0, 1) := by decide +kernel
theorem dX13_here_7 : decode cX13_here 7 = .ok (.getfield 273, 3) := by decide +kernel
theorem dX13_here_10 : decode cX13_here 10 = .ok (.if_icmp .ge 17, 3) := by decide +kernel
theorem dX13_here_13 : decode cX13_here 13 = .ok (.aload_n 0, 1) := by decide +kernel
theorem dX13_here_14 : decode cX13_here 14 = .ok (.getfield 118, 3) := by decide +kernel
theorem dX13_here_17 : decode cX13_here 17 = .ok (.aload_n 0, 1) := by decide +kernel
theorem dX13_here_18 : decode cX13_here 18 = .ok (.getfield 279, 3) := by decide +kernel
theorem dX13_here_21 : decode cX13_here 21 = .ok (.iload_n 1, 1) := by decide +kernel
theorem dX13_here_22 : decode cX13_here 22 = .ok (.iadd, 1) := by decide +kernel
theorem dX13_here_23 : decode cX13_here 23 = .ok (.baload, 1) := by decide +kernel
theorem dX13_here_24 : decode cX13_here 24 = .ok (.goto 4, 3) := by decide +kernel
theorem dX13_here_27 : decode cX13_here 27 = .ok (.iconst (-1), 1) := by decide +kernel
theorem dX13_here_28 : decode cX13_here 28 = .ok (.ireturn, 1) := by decide +kernel
theorem dX13_isWhite_0 : decode cX13_isWhite 0 = .ok (.iload_n 1, 1) := by decide +kernel
theorem dX13_isWhite_1 : decode cX13_isWhite 1 = .ok (.bipush 32, 2) := by decide +kernel
theorem dX13_isWhite_3 : decode cX13_isWhite 3 = .ok (.if_icmp .eq 9, 3) := by decide +kernel
theorem dX13_isWhite_6 : decode cX13_isWhite 6 = .ok (.iload_n 1, 1) := by decide +kernel
theorem dX13_isWhite_7 : decode cX13_isWhite 7 = .ok (.bipush 10, 2) := by decide +kernel
theorem dX13_isWhite_9 : decode cX13_isWhite 9 = .ok (.if_icmp .ne 7, 3) := by decide +kernel
theorem dX13_isWhite_12 : decode cX13_isWhite 12 = .ok (.iconst 1, 1) := by decide +kernel
theorem dX13_isWhite_13 : decode cX13_isWhite 13 = .ok (.goto 4, 3) := by decide +kernel
theorem dX13_isWhite_16 : decode cX13_isWhite 16 = .ok (.iconst 0, 1) := by decide +kernel
theorem dX13_isWhite_17 : decode cX13_isWhite 17 = .ok (.ireturn, 1) := by decide +kernel
theorem dX13_white_0 : decode cX13_white 0 = .ok (.iconst 0, 1) := by decide +kernel
theorem dX13_white_1 : decode cX13_white 1 = .ok (.istore_n 1, 1) := by decide +kernel
theorem dX13_white_2 : decode cX13_white 2 = .ok (.aload_n 0, 1) := by decide +kernel
theorem dX13_white_3 : decode cX13_white 3 = .ok (.aload_n 0, 1) := by decide +kernel
theorem dX13_white_4 : decode cX13_white 4 = .ok (.iconst 0, 1) := by decide +kernel
theorem dX13_white_5 : decode cX13_white 5 = .ok (.invokevirtual 282, 3) := by decide +kernel
theorem dX13_white_8 : decode cX13_white 8 = .ok (.invokevirtual 286, 3) := by decide +kernel
theorem dX13_white_11 : decode cX13_white 11 = .ok (.ifCond .eq 19, 3) := by decide +kernel
theorem dX13_white_14 : decode cX13_white 14 = .ok (.aload_n 0, 1) := by decide +kernel
theorem dX13_white_15 : decode cX13_white 15 = .ok (.dup, 1) := by decide +kernel
theorem dX13_white_16 : decode cX13_white 16 = .ok (.getfield 279, 3) := by decide +kernel
theorem dX13_white_19 : decode cX13_white 19 = .ok (.iconst 1, 1) := by decide +kernel
theorem dX13_white_20 : decode cX13_white 20 = .ok (.iadd, 1) := by decide +kernel
theorem dX13_white_21 : decode cX13_white 21 = .ok (.putfield 279, 3) := by decide +kernel
theorem dX13_white_24 : decode cX13_white 24 = .ok (.iinc 1 1, 3) := by decide +kernel
theorem dX13_white_27 : decode cX13_white 27 = .ok (.goto (-25), 3) := by decide +kernel
theorem dX13_white_30 : decode cX13_white 30 = .ok (.iload_n 1, 1) := by decide +kernel
theorem dX13_white_31 : decode cX13_white 31 = .ok (.ireturn, 1) := by decide +kernel
theorem dX13_between_0 : decode cX13_between 0 = .ok (.aload_n 0, 1) := by decide +kernel
theorem dX13_between_1 : decode cX13_between 1 = .ok (.invokevirtual 296, 3) := by decide +kernel
theorem dX13_between_4 : decode cX13_between 4 = .ok (.istore_n 1, 1) := by decide +kernel
theorem dX13_between_5 : decode cX13_between 5 = .ok (.aload_n 0, 1) := by decide +kernel
theorem dX13_between_6 : decode cX13_between 6 = .ok (.getfield 276, 3) := by decide +kernel
theorem dX13_between_9 : decode cX13_between 9 = .ok (.ifCond .ne 37, 3) := by decide +kernel
theorem dX13_between_12 : decode cX13_between 12 = .ok (.aload_n 0, 1) := by decide +kernel
theorem dX13_between_13 : decode cX13_between 13 = .ok (.iconst 0, 1) := by decide +kernel
theorem dX13_between_14 : decode cX13_between 14 = .ok (.invokevirtual 282, 3) := by decide +kernel
theorem dX13_between_17 : decode cX13_between 17 = .ok (.bipush 60, 2) := by decide +kernel
theorem dX13_between_19 : decode cX13_between 19 = .ok (.if_icmp .ne 27, 3) := by decide +kernel
theorem dX13_between_22 : decode cX13_between 22 = .ok (.aload_n 0, 1) := by decide +kernel
theorem dX13_between_23 : decode cX13_between 23 = .ok (.iconst 1, 1) := by decide +kernel
theorem dX13_between_24 : decode cX13_between 24 = .ok (.invokevirtual 282, 3) := by decide +kernel
theorem dX13_between_27 : decode cX13_between 27 = .ok (.bipush 33, 2) := by decide +kernel
theorem dX13_between_29 : decode cX13_between 29 = .ok (.if_icmp .ne 17, 3) := by decide +kernel
theorem dX13_between_32 : decode cX13_between 32 = .ok (.aload_n 0, 1) := by decide +kernel
theorem dX13_between_33 : decode cX13_between 33 = .ok (.invokevirtual 300, 3) := by decide +kernel
theorem dX13_between_36 : decode cX13_between 36 = .ok (.iload_n 1, 1) := by decide +kernel
theorem dX13_between_37 : decode cX13_between 37 = .ok (.aload_n 0, 1) := by decide +kernel
theorem dX13_between_38 : decode cX13_between 38 = .ok (.invokevirtual 296, 3) := by decide +kernel
theorem dX13_between_41 : decode cX13_between 41 = .ok (.iadd, 1) := by decide +kernel
theorem dX13_between_42 : decode cX13_between 42 = .ok (.istore_n 1, 1) := by decide +kernel
theorem dX13_between_43 : decode cX13_between 43 = .ok (.goto (-38), 3) := by decide +kernel
theorem dX13_between_46 : decode cX13_between 46 = .ok (.return_, 1) := by decide +kernel
theorem dX13_begin_0 : decode cX13_begin 0 = .ok (.aload_n 0, 1) := by decide +kernel
theorem dX13_begin_1 : decode cX13_begin 1 = .ok (.getfield 329, 3) := by decide +kernel
theorem dX13_begin_4 : decode cX13_begin 4 = .ok (.bipush 80, 2) := by decide +kernel
theorem dX13_begin_6 : decode cX13_begin 6 = .ok (.if_icmp .eq 9, 3) := by decide +kernel
theorem dX13_begin_9 : decode cX13_begin 9 = .ok (.iload_n 2, 1) := by decide +kernel
theorem dX13_begin_10 : decode cX13_begin 10 = .ok (.bipush 6, 2) := by decide +kernel
theorem dX13_begin_12 : decode cX13_begin 12 = .ok (.if_icmp .ne 11, 3) := by decide +kernel
theorem dX13_begin_15 : decode cX13_begin 15 = .ok (.aload_n 0, 1) := by decide +kernel
theorem dX13_begin_16 : decode cX13_begin 16 = .ok (.aload_n 0, 1) := by decide +kernel
theorem dX13_begin_17 : decode cX13_begin 17 = .ok (.getfield 279, 3) := by decide +kernel
theorem dX13_begin_20 : decode cX13_begin 20 = .ok (.invokevirtual 289, 3) := by decide +kernel
theorem dX13_begin_23 : decode cX13_begin 23 = .ok (.aload_n 0, 1) := by decide +kernel
theorem dX13_begin_24 : decode cX13_begin 24 = .ok (.getfield 276, 3) := by decide +kernel
theorem dX13_begin_27 : decode cX13_begin 27 = .ok (.ifCond .eq 5, 3) := by decide +kernel
theorem dX13_begin_30 : decode cX13_begin 30 = .ok (.iconst 0, 1) := by decide +kernel
theorem dX13_begin_31 : decode cX13_begin 31 = .ok (.ireturn, 1) := by decide +kernel
theorem dX13_begin_32 : decode cX13_begin 32 = .ok (.aload_n 0, 1) := by decide +kernel
theorem dX13_begin_33 : decode cX13_begin 33 = .ok (.getfield 329, 3) := by decide +kernel
theorem dX13_begin_36 : decode cX13_begin 36 = .ok (.istore_n 3, 1) := by decide +kernel
theorem dX13_begin_37 : decode cX13_begin 37 = .ok (.aload_n 0, 1) := by decide +kernel
theorem dX13_begin_38 : decode cX13_begin 38 = .ok (.dup, 1) := by decide +kernel
theorem dX13_begin_39 : decode cX13_begin 39 = .ok (.getfield 329, 3) := by decide +kernel
theorem dX13_begin_42 : decode cX13_begin 42 = .ok (.iconst 1, 1) := by decide +kernel
theorem dX13_begin_43 : decode cX13_begin 43 = .ok (.iadd, 1) := by decide +kernel
theorem dX13_begin_44 : decode cX13_begin 44 = .ok (.putfield 329, 3) := by decide +kernel
theorem dX13_begin_47 : decode cX13_begin 47 = .ok (.aload_n 0, 1) := by decide +kernel
theorem dX13_begin_48 : decode cX13_begin 48 = .ok (.getfield 129, 3) := by decide +kernel
theorem dX13_begin_51 : decode cX13_begin 51 = .ok (.iload_n 3, 1) := by decide +kernel
theorem dX13_begin_52 : decode cX13_begin 52 = .ok (.aload_n 0, 1) := by decide +kernel
theorem dX13_begin_53 : decode cX13_begin 53 = .ok (.getfield 279, 3) := by decide +kernel
theorem dX13_begin_56 : decode cX13_begin 56 = .ok (.iastore, 1) := by decide +kernel
theorem dX13_begin_57 : decode cX13_begin 57 = .ok (.aload_n 0, 1) := by decide +kernel
theorem dX13_begin_58 : decode cX13_begin 58 = .ok (.getfield 132, 3) := by decide +kernel
theorem dX13_begin_61 : decode cX13_begin 61 = .ok (.iload_n 3, 1) := by decide +kernel
theorem dX13_begin_62 : decode cX13_begin 62 = .ok (.iload_n 1, 1) := by decide +kernel
theorem dX13_begin_63 : decode cX13_begin 63 = .ok (.iastore, 1) := by decide +kernel
theorem dX13_begin_64 : decode cX13_begin 64 = .ok (.aload_n 0, 1) := by decide +kernel
theorem dX13_begin_65 : decode cX13_begin 65 = .ok (.getfield 135, 3) := by decide +kernel
theorem dX13_begin_68 : decode cX13_begin 68 = .ok (.iload_n 3, 1) := by decide +kernel
theorem dX13_begin_69 : decode cX13_begin 69 = .ok (.iconst 0, 1) := by decide +kernel
theorem dX13_begin_70 : decode cX13_begin 70 = .ok (.iastore, 1) := by decide +kernel
theorem dX13_begin_71 : decode cX13_begin 71 = .ok (.aload_n 0, 1) := by decide +kernel
theorem dX13_begin_72 : decode cX13_begin 72 = .ok (.getfield 138, 3) := by decide +kernel
theorem dX13_begin_75 : decode cX13_begin 75 = .ok (.iload_n 3, 1) := by decide +kernel
theorem dX13_begin_76 : decode cX13_begin 76 = .ok (.iconst 0, 1) := by decide +kernel
theorem dX13_begin_77 : decode cX13_begin 77 = .ok (.iastore, 1) := by decide +kernel
theorem dX13_begin_78 : decode cX13_begin 78 = .ok (.aload_n 0, 1) := by decide +kernel
theorem dX13_begin_79 : decode cX13_begin 79 = .ok (.getfield 141, 3) := by decide +kernel
theorem dX13_begin_82 : decode cX13_begin 82 = .ok (.iload_n 3, 1) := by decide +kernel
theorem dX13_begin_83 : decode cX13_begin 83 = .ok (.iconst 0, 1) := by decide +kernel
theorem dX13_begin_84 : decode cX13_begin 84 = .ok (.iastore, 1) := by decide +kernel
theorem dX13_begin_85 : decode cX13_begin 85 = .ok (.aload_n 0, 1) := by decide +kernel
theorem dX13_begin_86 : decode cX13_begin 86 = .ok (.getfield 144, 3) := by decide +kernel
theorem dX13_begin_89 : decode cX13_begin 89 = .ok (.iload_n 3, 1) := by decide +kernel
theorem dX13_begin_90 : decode cX13_begin 90 = .ok (.iconst 0, 1) := by decide +kernel
theorem dX13_begin_91 : decode cX13_begin 91 = .ok (.iastore, 1) := by decide +kernel
theorem dX13_begin_92 : decode cX13_begin 92 = .ok (.iload_n 1, 1) := by decide +kernel
theorem dX13_begin_93 : decode cX13_begin 93 = .ok (.iconst (-1), 1) := by decide +kernel
theorem dX13_begin_94 : decode cX13_begin 94 = .ok (.if_icmp .eq 13, 3) := by decide +kernel
theorem dX13_begin_97 : decode cX13_begin 97 = .ok (.aload_n 0, 1) := by decide +kernel
theorem dX13_begin_98 : decode cX13_begin 98 = .ok (.getfield 135, 3) := by decide +kernel
theorem dX13_begin_101 : decode cX13_begin 101 = .ok (.iload_n 1, 1) := by decide +kernel
theorem dX13_begin_102 : decode cX13_begin 102 = .ok (.dup2, 1) := by decide +kernel
theorem dX13_begin_103 : decode cX13_begin 103 = .ok (.iaload, 1) := by decide +kernel
theorem dX13_begin_104 : decode cX13_begin 104 = .ok (.iconst 1, 1) := by decide +kernel
theorem dX13_begin_105 : decode cX13_begin 105 = .ok (.iadd, 1) := by decide +kernel
theorem dX13_begin_106 : decode cX13_begin 106 = .ok (.iastore, 1) := by decide +kernel
theorem dX13_begin_107 : decode cX13_begin 107 = .ok (.aload_n 0, 1) := by decide +kernel
theorem dX13_begin_108 : decode cX13_begin 108 = .ok (.dup, 1) := by decide +kernel
theorem dX13_begin_109 : decode cX13_begin 109 = .ok (.getfield 279, 3) := by decide +kernel
theorem dX13_begin_112 : decode cX13_begin 112 = .ok (.iconst 1, 1) := by decide +kernel
theorem dX13_begin_113 : decode cX13_begin 113 = .ok (.iadd, 1) := by decide +kernel
theorem dX13_begin_114 : decode cX13_begin 114 = .ok (.putfield 279, 3) := by decide +kernel
theorem dX13_begin_117 : decode cX13_begin 117 = .ok (.aload_n 0, 1) := by decide +kernel
theorem dX13_begin_118 : decode cX13_begin 118 = .ok (.getfield 150, 3) := by decide +kernel
theorem dX13_begin_121 : decode cX13_begin 121 = .ok (.iload_n 3, 1) := by decide +kernel
theorem dX13_begin_122 : decode cX13_begin 122 = .ok (.aload_n 0, 1) := by decide +kernel
theorem dX13_begin_123 : decode cX13_begin 123 = .ok (.invokevirtual 315, 3) := by decide +kernel
theorem dX13_begin_126 : decode cX13_begin 126 = .ok (.lastore, 1) := by decide +kernel
theorem dX13_begin_127 : decode cX13_begin 127 = .ok (.iconst 1, 1) := by decide +kernel
theorem dX13_begin_128 : decode cX13_begin 128 = .ok (.istore 4, 2) := by decide +kernel
theorem dX13_begin_130 : decode cX13_begin 130 = .ok (.iload 4, 2) := by decide +kernel
theorem dX13_begin_132 : decode cX13_begin 132 = .ok (.ifCond .eq 53, 3) := by decide +kernel
theorem dX13_begin_135 : decode cX13_begin 135 = .ok (.aload_n 0, 1) := by decide +kernel
theorem dX13_begin_136 : decode cX13_begin 136 = .ok (.getfield 276, 3) := by decide +kernel
theorem dX13_begin_139 : decode cX13_begin 139 = .ok (.ifCond .ne 46, 3) := by decide +kernel
theorem dX13_begin_142 : decode cX13_begin 142 = .ok (.aload_n 0, 1) := by decide +kernel
theorem dX13_begin_143 : decode cX13_begin 143 = .ok (.invokevirtual 296, 3) := by decide +kernel
theorem dX13_begin_146 : decode cX13_begin 146 = .ok (.istore 5, 2) := by decide +kernel
theorem dX13_begin_148 : decode cX13_begin 148 = .ok (.iload 5, 2) := by decide +kernel
theorem dX13_begin_150 : decode cX13_begin 150 = .ok (.ifCond .le 19, 3) := by decide +kernel
theorem dX13_begin_153 : decode cX13_begin 153 = .ok (.aload_n 0, 1) := by decide +kernel
theorem dX13_begin_154 : decode cX13_begin 154 = .ok (.aload_n 0, 1) := by decide +kernel
theorem dX13_begin_155 : decode cX13_begin 155 = .ok (.iconst 0, 1) := by decide +kernel
theorem dX13_begin_156 : decode cX13_begin 156 = .ok (.invokevirtual 282, 3) := by decide +kernel
theorem dX13_begin_159 : decode cX13_begin 159 = .ok (.invokevirtual 303, 3) := by decide +kernel
theorem dX13_begin_162 : decode cX13_begin 162 = .ok (.ifCond .eq 7, 3) := by decide +kernel
theorem dX13_begin_165 : decode cX13_begin 165 = .ok (.iconst 1, 1) := by decide +kernel
theorem dX13_begin_166 : decode cX13_begin 166 = .ok (.goto 4, 3) := by decide +kernel
theorem dX13_begin_169 : decode cX13_begin 169 = .ok (.iconst 0, 1) := by decide +kernel
theorem dX13_begin_170 : decode cX13_begin 170 = .ok (.istore 4, 2) := by decide +kernel
theorem dX13_begin_172 : decode cX13_begin 172 = .ok (.iload 4, 2) := by decide +kernel
theorem dX13_begin_174 : decode cX13_begin 174 = .ok (.ifCond .eq 8, 3) := by decide +kernel
theorem dX13_begin_177 : decode cX13_begin 177 = .ok (.aload_n 0, 1) := by decide +kernel
theorem dX13_begin_178 : decode cX13_begin 178 = .ok (.iload_n 3, 1) := by decide +kernel
theorem dX13_begin_179 : decode cX13_begin 179 = .ok (.invokevirtual 332, 3) := by decide +kernel
theorem dX13_begin_182 : decode cX13_begin 182 = .ok (.goto (-52), 3) := by decide +kernel
theorem dX13_begin_185 : decode cX13_begin 185 = .ok (.aload_n 0, 1) := by decide +kernel
theorem dX13_begin_186 : decode cX13_begin 186 = .ok (.aload_n 0, 1) := by decide +kernel
theorem dX13_begin_187 : decode cX13_begin 187 = .ok (.iconst 0, 1) := by decide +kernel
theorem dX13_begin_188 : decode cX13_begin 188 = .ok (.invokevirtual 282, 3) := by decide +kernel
theorem dX13_begin_191 : decode cX13_begin 191 = .ok (.bipush 47, 2) := by decide +kernel
theorem dX13_begin_193 : decode cX13_begin 193 = .ok (.if_icmp .ne 7, 3) := by decide +kernel
theorem dX13_begin_196 : decode cX13_begin 196 = .ok (.iconst 1, 1) := by decide +kernel
theorem dX13_begin_197 : decode cX13_begin 197 = .ok (.goto 4, 3) := by decide +kernel
theorem dX13_begin_200 : decode cX13_begin 200 = .ok (.iconst 0, 1) := by decide +kernel
theorem dX13_begin_201 : decode cX13_begin 201 = .ok (.putfield 335, 3) := by decide +kernel
theorem dX13_begin_204 : decode cX13_begin 204 = .ok (.aload_n 0, 1) := by decide +kernel
theorem dX13_begin_205 : decode cX13_begin 205 = .ok (.getfield 335, 3) := by decide +kernel
theorem dX13_begin_208 : decode cX13_begin 208 = .ok (.ifCond .eq 13, 3) := by decide +kernel
theorem dX13_begin_211 : decode cX13_begin 211 = .ok (.aload_n 0, 1) := by decide +kernel
theorem dX13_begin_212 : decode cX13_begin 212 = .ok (.dup, 1) := by decide +kernel
theorem dX13_begin_213 : decode cX13_begin 213 = .ok (.getfield 279, 3) := by decide +kernel
theorem dX13_begin_216 : decode cX13_begin 216 = .ok (.iconst 1, 1) := by decide +kernel
theorem dX13_begin_217 : decode cX13_begin 217 = .ok (.iadd, 1) := by decide +kernel
theorem dX13_begin_218 : decode cX13_begin 218 = .ok (.putfield 279, 3) := by decide +kernel
theorem dX13_begin_221 : decode cX13_begin 221 = .ok (.aload_n 0, 1) := by decide +kernel
theorem dX13_begin_222 : decode cX13_begin 222 = .ok (.bipush 62, 2) := by decide +kernel
theorem dX13_begin_224 : decode cX13_begin 224 = .ok (.invokevirtual 293, 3) := by decide +kernel
theorem dX13_begin_227 : decode cX13_begin 227 = .ok (.iload_n 3, 1) := by decide +kernel
theorem dX13_begin_228 : decode cX13_begin 228 = .ok (.ireturn, 1) := by decide +kernel
theorem dX13_readDocument_0 : decode cX13_readDocument 0 = .ok (.aload_n 0, 1) := by decide +kernel
theorem dX13_readDocument_1 : decode cX13_readDocument 1 = .ok (.invokevirtual 339, 3) := by decide +kernel
theorem dX13_readDocument_4 : decode cX13_readDocument 4 = .ok (.aload_n 0, 1) := by decide +kernel
theorem dX13_readDocument_5 : decode cX13_readDocument 5 = .ok (.getfield 276, 3) := by decide +kernel
theorem dX13_readDocument_8 : decode cX13_readDocument 8 = .ok (.ifCond .ne 21, 3) := by decide +kernel
theorem dX13_readDocument_11 : decode cX13_readDocument 11 = .ok (.aload_n 0, 1) := by decide +kernel
theorem dX13_readDocument_12 : decode cX13_readDocument 12 = .ok (.iconst 0, 1) := by decide +kernel
theorem dX13_readDocument_13 : decode cX13_readDocument 13 = .ok (.invokevirtual 282, 3) := by decide +kernel
theorem dX13_readDocument_16 : decode cX13_readDocument 16 = .ok (.bipush 60, 2) := by decide +kernel
theorem dX13_readDocument_18 : decode cX13_readDocument 18 = .ok (.if_icmp .eq 11, 3) := by decide +kernel
theorem dX13_readDocument_21 : decode cX13_readDocument 21 = .ok (.aload_n 0, 1) := by decide +kernel
theorem dX13_readDocument_22 : decode cX13_readDocument 22 = .ok (.aload_n 0, 1) := by decide +kernel
theorem dX13_readDocument_23 : decode cX13_readDocument 23 = .ok (.getfield 279, 3) := by decide +kernel
theorem dX13_readDocument_26 : decode cX13_readDocument 26 = .ok (.invokevirtual 289, 3) := by decide +kernel
theorem dX13_readDocument_29 : decode cX13_readDocument 29 = .ok (.aload_n 0, 1) := by decide +kernel
theorem dX13_readDocument_30 : decode cX13_readDocument 30 = .ok (.getfield 276, 3) := by decide +kernel
theorem dX13_readDocument_33 : decode cX13_readDocument 33 = .ok (.ifCond .ne 25, 3) := by decide +kernel
theorem dX13_readDocument_36 : decode cX13_readDocument 36 = .ok (.aload_n 0, 1) := by decide +kernel
theorem dX13_readDocument_37 : decode cX13_readDocument 37 = .ok (.aload_n 0, 1) := by decide +kernel
theorem dX13_readDocument_38 : decode cX13_readDocument 38 = .ok (.iconst 1, 1) := by decide +kernel
theorem dX13_readDocument_39 : decode cX13_readDocument 39 = .ok (.invokevirtual 282, 3) := by decide +kernel
theorem dX13_readDocument_42 : decode cX13_readDocument 42 = .ok (.invokevirtual 303, 3) := by decide +kernel
theorem dX13_readDocument_45 : decode cX13_readDocument 45 = .ok (.ifCond .ne 13, 3) := by decide +kernel
theorem dX13_readDocument_48 : decode cX13_readDocument 48 = .ok (.aload_n 0, 1) := by decide +kernel
theorem dX13_readDocument_49 : decode cX13_readDocument 49 = .ok (.aload_n 0, 1) := by decide +kernel
theorem dX13_readDocument_50 : decode cX13_readDocument 50 = .ok (.getfield 279, 3) := by decide +kernel
theorem dX13_readDocument_53 : decode cX13_readDocument 53 = .ok (.iconst 1, 1) := by decide +kernel
theorem dX13_readDocument_54 : decode cX13_readDocument 54 = .ok (.iadd, 1) := by decide +kernel
theorem dX13_readDocument_55 : decode cX13_readDocument 55 = .ok (.invokevirtual 289, 3) := by decide +kernel
theorem dX13_readDocument_58 : decode cX13_readDocument 58 = .ok (.aload_n 0, 1) := by decide +kernel
theorem dX13_readDocument_59 : decode cX13_readDocument 59 = .ok (.iconst (-1), 1) := by decide +kernel
theorem dX13_readDocument_60 : decode cX13_readDocument 60 = .ok (.iconst 0, 1) := by decide +kernel
theorem dX13_readDocument_61 : decode cX13_readDocument 61 = .ok (.invokevirtual 342, 3) := by decide +kernel
theorem dX13_readDocument_64 : decode cX13_readDocument 64 = .ok (.istore_n 1, 1) := by decide +kernel
theorem dX13_readDocument_65 : decode cX13_readDocument 65 = .ok (.iconst 1, 1) := by decide +kernel
theorem dX13_readDocument_66 : decode cX13_readDocument 66 = .ok (.istore_n 2, 1) := by decide +kernel
theorem dX13_readDocument_67 : decode cX13_readDocument 67 = .ok (.aload_n 0, 1) := by decide +kernel
theorem dX13_readDocument_68 : decode cX13_readDocument 68 = .ok (.getfield 335, 3) := by decide +kernel
theorem dX13_readDocument_71 : decode cX13_readDocument 71 = .ok (.ifCond .eq 5, 3) := by decide +kernel
theorem dX13_readDocument_74 : decode cX13_readDocument 74 = .ok (.iconst 0, 1) := by decide +kernel
theorem dX13_readDocument_75 : decode cX13_readDocument 75 = .ok (.istore_n 2, 1) := by decide +kernel
theorem dX13_readDocument_76 : decode cX13_readDocument 76 = .ok (.aload_n 0, 1) := by decide +kernel
theorem dX13_readDocument_77 : decode cX13_readDocument 77 = .ok (.getfield 276, 3) := by decide +kernel
theorem dX13_readDocument_80 : decode cX13_readDocument 80 = .ok (.ifCond .ne 173, 3) := by decide +kernel
theorem dX13_readDocument_83 : decode cX13_readDocument 83 = .ok (.iload_n 2, 1) := by decide +kernel
theorem dX13_readDocument_84 : decode cX13_readDocument 84 = .ok (.ifCond .le 169, 3) := by decide +kernel
theorem dX13_readDocument_87 : decode cX13_readDocument 87 = .ok (.aload_n 0, 1) := by decide +kernel
theorem dX13_readDocument_88 : decode cX13_readDocument 88 = .ok (.iconst 0, 1) := by decide +kernel
theorem dX13_readDocument_89 : decode cX13_readDocument 89 = .ok (.invokevirtual 282, 3) := by decide +kernel
theorem dX13_readDocument_92 : decode cX13_readDocument 92 = .ok (.istore_n 3, 1) := by decide +kernel
theorem dX13_readDocument_93 : decode cX13_readDocument 93 = .ok (.iload_n 3, 1) := by decide +kernel
theorem dX13_readDocument_94 : decode cX13_readDocument 94 = .ok (.iconst (-1), 1) := by decide +kernel
theorem dX13_readDocument_95 : decode cX13_readDocument 95 = .ok (.if_icmp .ne 14, 3) := by decide +kernel
theorem dX13_readDocument_98 : decode cX13_readDocument 98 = .ok (.aload_n 0, 1) := by decide +kernel
theorem dX13_readDocument_99 : decode cX13_readDocument 99 = .ok (.aload_n 0, 1) := by decide +kernel
theorem dX13_readDocument_100 : decode cX13_readDocument 100 = .ok (.getfield 279, 3) := by decide +kernel
theorem dX13_readDocument_103 : decode cX13_readDocument 103 = .ok (.invokevirtual 289, 3) := by decide +kernel
theorem dX13_readDocument_106 : decode cX13_readDocument 106 = .ok (.goto 144, 3) := by decide +kernel
theorem dX13_readDocument_109 : decode cX13_readDocument 109 = .ok (.iload_n 3, 1) := by decide +kernel
theorem dX13_readDocument_110 : decode cX13_readDocument 110 = .ok (.bipush 60, 2) := by decide +kernel
theorem dX13_readDocument_112 : decode cX13_readDocument 112 = .ok (.if_icmp .eq 40, 3) := by decide +kernel
theorem dX13_readDocument_115 : decode cX13_readDocument 115 = .ok (.iload_n 3, 1) := by decide +kernel
theorem dX13_readDocument_116 : decode cX13_readDocument 116 = .ok (.bipush 38, 2) := by decide +kernel
theorem dX13_readDocument_118 : decode cX13_readDocument 118 = .ok (.if_icmp .ne 8, 3) := by decide +kernel
theorem dX13_readDocument_121 : decode cX13_readDocument 121 = .ok (.aload_n 0, 1) := by decide +kernel
theorem dX13_readDocument_122 : decode cX13_readDocument 122 = .ok (.invokevirtual 326, 3) := by decide +kernel
theorem dX13_readDocument_125 : decode cX13_readDocument 125 = .ok (.istore_n 3, 1) := by decide +kernel
theorem dX13_readDocument_126 : decode cX13_readDocument 126 = .ok (.aload_n 0, 1) := by decide +kernel
theorem dX13_readDocument_127 : decode cX13_readDocument 127 = .ok (.getfield 276, 3) := by decide +kernel
theorem dX13_readDocument_130 : decode cX13_readDocument 130 = .ok (.ifCond .ne 9, 3) := by decide +kernel
theorem dX13_readDocument_133 : decode cX13_readDocument 133 = .ok (.aload_n 0, 1) := by decide +kernel
theorem dX13_readDocument_134 : decode cX13_readDocument 134 = .ok (.iload_n 1, 1) := by decide +kernel
theorem dX13_readDocument_135 : decode cX13_readDocument 135 = .ok (.iload_n 3, 1) := by decide +kernel
theorem dX13_readDocument_136 : decode cX13_readDocument 136 = .ok (.invokevirtual 346, 3) := by decide +kernel
theorem dX13_readDocument_139 : decode cX13_readDocument 139 = .ok (.aload_n 0, 1) := by decide +kernel
theorem dX13_readDocument_140 : decode cX13_readDocument 140 = .ok (.dup, 1) := by decide +kernel
theorem dX13_readDocument_141 : decode cX13_readDocument 141 = .ok (.getfield 279, 3) := by decide +kernel
theorem dX13_readDocument_144 : decode cX13_readDocument 144 = .ok (.iconst 1, 1) := by decide +kernel
theorem dX13_readDocument_145 : decode cX13_readDocument 145 = .ok (.iadd, 1) := by decide +kernel
theorem dX13_readDocument_146 : decode cX13_readDocument 146 = .ok (.putfield 279, 3) := by decide +kernel
theorem dX13_readDocument_149 : decode cX13_readDocument 149 = .ok (.goto 101, 3) := by decide +kernel
theorem dX13_readDocument_152 : decode cX13_readDocument 152 = .ok (.aload_n 0, 1) := by decide +kernel
theorem dX13_readDocument_153 : decode cX13_readDocument 153 = .ok (.iconst 1, 1) := by decide +kernel
theorem dX13_readDocument_154 : decode cX13_readDocument 154 = .ok (.invokevirtual 282, 3) := by decide +kernel
theorem dX13_readDocument_157 : decode cX13_readDocument 157 = .ok (.bipush 33, 2) := by decide +kernel
theorem dX13_readDocument_159 : decode cX13_readDocument 159 = .ok (.if_icmp .ne 10, 3) := by decide +kernel
theorem dX13_readDocument_162 : decode cX13_readDocument 162 = .ok (.aload_n 0, 1) := by decide +kernel
theorem dX13_readDocument_163 : decode cX13_readDocument 163 = .ok (.invokevirtual 300, 3) := by decide +kernel
theorem dX13_readDocument_166 : decode cX13_readDocument 166 = .ok (.goto 84, 3) := by decide +kernel
theorem dX13_readDocument_169 : decode cX13_readDocument 169 = .ok (.aload_n 0, 1) := by decide +kernel
theorem dX13_readDocument_170 : decode cX13_readDocument 170 = .ok (.iconst 1, 1) := by decide +kernel
theorem dX13_readDocument_171 : decode cX13_readDocument 171 = .ok (.invokevirtual 282, 3) := by decide +kernel
theorem dX13_readDocument_174 : decode cX13_readDocument 174 = .ok (.bipush 47, 2) := by decide +kernel
theorem dX13_readDocument_176 : decode cX13_readDocument 176 = .ok (.if_icmp .ne 21, 3) := by decide +kernel
theorem dX13_readDocument_179 : decode cX13_readDocument 179 = .ok (.aload_n 0, 1) := by decide +kernel
theorem dX13_readDocument_180 : decode cX13_readDocument 180 = .ok (.iload_n 1, 1) := by decide +kernel
theorem dX13_readDocument_181 : decode cX13_readDocument 181 = .ok (.invokevirtual 350, 3) := by decide +kernel
theorem dX13_readDocument_184 : decode cX13_readDocument 184 = .ok (.aload_n 0, 1) := by decide +kernel
theorem dX13_readDocument_185 : decode cX13_readDocument 185 = .ok (.getfield 132, 3) := by decide +kernel
theorem dX13_readDocument_188 : decode cX13_readDocument 188 = .ok (.iload_n 1, 1) := by decide +kernel
theorem dX13_readDocument_189 : decode cX13_readDocument 189 = .ok (.iaload, 1) := by decide +kernel
theorem dX13_readDocument_190 : decode cX13_readDocument 190 = .ok (.istore_n 1, 1) := by decide +kernel
theorem dX13_readDocument_191 : decode cX13_readDocument 191 = .ok (.iinc 2 (-1), 3) := by decide +kernel
theorem dX13_readDocument_194 : decode cX13_readDocument 194 = .ok (.goto 56, 3) := by decide +kernel
theorem dX13_readDocument_197 : decode cX13_readDocument 197 = .ok (.aload_n 0, 1) := by decide +kernel
theorem dX13_readDocument_198 : decode cX13_readDocument 198 = .ok (.aload_n 0, 1) := by decide +kernel
theorem dX13_readDocument_199 : decode cX13_readDocument 199 = .ok (.iconst 1, 1) := by decide +kernel
theorem dX13_readDocument_200 : decode cX13_readDocument 200 = .ok (.invokevirtual 282, 3) := by decide +kernel
theorem dX13_readDocument_203 : decode cX13_readDocument 203 = .ok (.invokevirtual 303, 3) := by decide +kernel
theorem dX13_readDocument_206 : decode cX13_readDocument 206 = .ok (.ifCond .eq 34, 3) := by decide +kernel
theorem dX13_readDocument_209 : decode cX13_readDocument 209 = .ok (.aload_n 0, 1) := by decide +kernel
theorem dX13_readDocument_210 : decode cX13_readDocument 210 = .ok (.iload_n 1, 1) := by decide +kernel
theorem dX13_readDocument_211 : decode cX13_readDocument 211 = .ok (.iload_n 2, 1) := by decide +kernel
theorem dX13_readDocument_212 : decode cX13_readDocument 212 = .ok (.invokevirtual 342, 3) := by decide +kernel
theorem dX13_readDocument_215 : decode cX13_readDocument 215 = .ok (.istore 4, 2) := by decide +kernel
theorem dX13_readDocument_217 : decode cX13_readDocument 217 = .ok (.aload_n 0, 1) := by decide +kernel
theorem dX13_readDocument_218 : decode cX13_readDocument 218 = .ok (.getfield 276, 3) := by decide +kernel
theorem dX13_readDocument_221 : decode cX13_readDocument 221 = .ok (.ifCond .ne 16, 3) := by decide +kernel
theorem dX13_readDocument_224 : decode cX13_readDocument 224 = .ok (.aload_n 0, 1) := by decide +kernel
theorem dX13_readDocument_225 : decode cX13_readDocument 225 = .ok (.getfield 335, 3) := by decide +kernel
theorem dX13_readDocument_228 : decode cX13_readDocument 228 = .ok (.ifCond .ne 9, 3) := by decide +kernel
theorem dX13_readDocument_231 : decode cX13_readDocument 231 = .ok (.iload 4, 2) := by decide +kernel
theorem dX13_readDocument_233 : decode cX13_readDocument 233 = .ok (.istore_n 1, 1) := by decide +kernel
theorem dX13_readDocument_234 : decode cX13_readDocument 234 = .ok (.iinc 2 1, 3) := by decide +kernel
theorem dX13_readDocument_237 : decode cX13_readDocument 237 = .ok (.goto 13, 3) := by decide +kernel
theorem dX13_readDocument_240 : decode cX13_readDocument 240 = .ok (.aload_n 0, 1) := by decide +kernel
theorem dX13_readDocument_241 : decode cX13_readDocument 241 = .ok (.aload_n 0, 1) := by decide +kernel
theorem dX13_readDocument_242 : decode cX13_readDocument 242 = .ok (.getfield 279, 3) := by decide +kernel
theorem dX13_readDocument_245 : decode cX13_readDocument 245 = .ok (.iconst 1, 1) := by decide +kernel
theorem dX13_readDocument_246 : decode cX13_readDocument 246 = .ok (.iadd, 1) := by decide +kernel
theorem dX13_readDocument_247 : decode cX13_readDocument 247 = .ok (.invokevirtual 289, 3) := by decide +kernel
theorem dX13_readDocument_250 : decode cX13_readDocument 250 = .ok (.goto (-174), 3) := by decide +kernel
theorem dX13_readDocument_253 : decode cX13_readDocument 253 = .ok (.aload_n 0, 1) := by decide +kernel
theorem dX13_readDocument_254 : decode cX13_readDocument 254 = .ok (.getfield 276, 3) := by decide +kernel
theorem dX13_readDocument_257 : decode cX13_readDocument 257 = .ok (.ifCond .ne 7, 3) := by decide +kernel
theorem dX13_readDocument_260 : decode cX13_readDocument 260 = .ok (.aload_n 0, 1) := by decide +kernel
theorem dX13_readDocument_261 : decode cX13_readDocument 261 = .ok (.invokevirtual 339, 3) := by decide +kernel
theorem dX13_readDocument_264 : decode cX13_readDocument 264 = .ok (.aload_n 0, 1) := by decide +kernel
theorem dX13_readDocument_265 : decode cX13_readDocument 265 = .ok (.getfield 276, 3) := by decide +kernel
theorem dX13_readDocument_268 : decode cX13_readDocument 268 = .ok (.ifCond .ne 41, 3) := by decide +kernel
theorem dX13_readDocument_271 : decode cX13_readDocument 271 = .ok (.aload_n 0, 1) := by decide +kernel
theorem dX13_readDocument_272 : decode cX13_readDocument 272 = .ok (.getfield 279, 3) := by decide +kernel
theorem dX13_readDocument_275 : decode cX13_readDocument 275 = .ok (.aload_n 0, 1) := by decide +kernel
theorem dX13_readDocument_276 : decode cX13_readDocument 276 = .ok (.getfield 273, 3) := by decide +kernel
theorem dX13_readDocument_279 : decode cX13_readDocument 279 = .ok (.if_icmp .ge 30, 3) := by decide +kernel
theorem dX13_readDocument_282 : decode cX13_readDocument 282 = .ok (.aload_n 0, 1) := by decide +kernel
theorem dX13_readDocument_283 : decode cX13_readDocument 283 = .ok (.aload_n 0, 1) := by decide +kernel
theorem dX13_readDocument_284 : decode cX13_readDocument 284 = .ok (.iconst 0, 1) := by decide +kernel
theorem dX13_readDocument_285 : decode cX13_readDocument 285 = .ok (.invokevirtual 282, 3) := by decide +kernel
theorem dX13_readDocument_288 : decode cX13_readDocument 288 = .ok (.bipush 60, 2) := by decide +kernel
theorem dX13_readDocument_290 : decode cX13_readDocument 290 = .ok (.if_icmp .ne 12, 3) := by decide +kernel
theorem dX13_readDocument_293 : decode cX13_readDocument 293 = .ok (.aload_n 0, 1) := by decide +kernel
theorem dX13_readDocument_294 : decode cX13_readDocument 294 = .ok (.getfield 279, 3) := by decide +kernel
theorem dX13_readDocument_297 : decode cX13_readDocument 297 = .ok (.iconst 1, 1) := by decide +kernel
theorem dX13_readDocument_298 : decode cX13_readDocument 298 = .ok (.iadd, 1) := by decide +kernel
theorem dX13_readDocument_299 : decode cX13_readDocument 299 = .ok (.goto 7, 3) := by decide +kernel
theorem dX13_readDocument_302 : decode cX13_readDocument 302 = .ok (.aload_n 0, 1) := by decide +kernel
theorem dX13_readDocument_303 : decode cX13_readDocument 303 = .ok (.getfield 279, 3) := by decide +kernel
theorem dX13_readDocument_306 : decode cX13_readDocument 306 = .ok (.invokevirtual 289, 3) := by decide +kernel
theorem dX13_readDocument_309 : decode cX13_readDocument 309 = .ok (.return_, 1) := by decide +kernel
theorem dX13_clear_0 : decode cX13_clear 0 = .ok (.aload_n 0, 1) := by decide +kernel
theorem dX13_clear_1 : decode cX13_clear 1 = .ok (.iconst 0, 1) := by decide +kernel
theorem dX13_clear_2 : decode cX13_clear 2 = .ok (.putfield 471, 3) := by decide +kernel
theorem dX13_clear_5 : decode cX13_clear 5 = .ok (.aload_n 0, 1) := by decide +kernel
theorem dX13_clear_6 : decode cX13_clear 6 = .ok (.iconst 0, 1) := by decide +kernel
theorem dX13_clear_7 : decode cX13_clear 7 = .ok (.putfield 474, 3) := by decide +kernel
theorem dX13_clear_10 : decode cX13_clear 10 = .ok (.iconst 0, 1) := by decide +kernel
theorem dX13_clear_11 : decode cX13_clear 11 = .ok (.istore_n 1, 1) := by decide +kernel
theorem dX13_clear_12 : decode cX13_clear 12 = .ok (.iload_n 1, 1) := by decide +kernel
theorem dX13_clear_13 : decode cX13_clear 13 = .ok (.bipush 80, 2) := by decide +kernel
theorem dX13_clear_15 : decode cX13_clear 15 = .ok (.if_icmp .ge 30, 3) := by decide +kernel
theorem dX13_clear_18 : decode cX13_clear 18 = .ok (.aload_n 0, 1) := by decide +kernel
theorem dX13_clear_19 : decode cX13_clear 19 = .ok (.getfield 213, 3) := by decide +kernel
theorem dX13_clear_22 : decode cX13_clear 22 = .ok (.iload_n 1, 1) := by decide +kernel
theorem dX13_clear_23 : decode cX13_clear 23 = .ok (.iconst 0, 1) := by decide +kernel
theorem dX13_clear_24 : decode cX13_clear 24 = .ok (.bastore, 1) := by decide +kernel
theorem dX13_clear_25 : decode cX13_clear 25 = .ok (.aload_n 0, 1) := by decide +kernel
theorem dX13_clear_26 : decode cX13_clear 26 = .ok (.getfield 216, 3) := by decide +kernel
theorem dX13_clear_29 : decode cX13_clear 29 = .ok (.iload_n 1, 1) := by decide +kernel
theorem dX13_clear_30 : decode cX13_clear 30 = .ok (.iconst 0, 1) := by decide +kernel
theorem dX13_clear_31 : decode cX13_clear 31 = .ok (.bastore, 1) := by decide +kernel
theorem dX13_clear_32 : decode cX13_clear 32 = .ok (.aload_n 0, 1) := by decide +kernel
theorem dX13_clear_33 : decode cX13_clear 33 = .ok (.getfield 210, 3) := by decide +kernel
theorem dX13_clear_36 : decode cX13_clear 36 = .ok (.iload_n 1, 1) := by decide +kernel
theorem dX13_clear_37 : decode cX13_clear 37 = .ok (.iconst (-1), 1) := by decide +kernel
theorem dX13_clear_38 : decode cX13_clear 38 = .ok (.iastore, 1) := by decide +kernel
theorem dX13_clear_39 : decode cX13_clear 39 = .ok (.iinc 1 1, 3) := by decide +kernel
theorem dX13_clear_42 : decode cX13_clear 42 = .ok (.goto (-30), 3) := by decide +kernel
theorem dX13_clear_45 : decode cX13_clear 45 = .ok (.return_, 1) := by decide +kernel
theorem dX13_read_0 : decode cX13_read 0 = .ok (.aload_n 0, 1) := by decide +kernel
theorem dX13_read_1 : decode cX13_read 1 = .ok (.iconst 0, 1) := by decide +kernel
theorem dX13_read_2 : decode cX13_read 2 = .ok (.putfield 276, 3) := by decide +kernel
theorem dX13_read_5 : decode cX13_read 5 = .ok (.aload_n 0, 1) := by decide +kernel
theorem dX13_read_6 : decode cX13_read 6 = .ok (.iconst (-1), 1) := by decide +kernel
theorem dX13_read_7 : decode cX13_read 7 = .ok (.putfield 122, 3) := by decide +kernel
theorem dX13_read_10 : decode cX13_read 10 = .ok (.aload_n 0, 1) := by decide +kernel
theorem dX13_read_11 : decode cX13_read 11 = .ok (.iconst 0, 1) := by decide +kernel
theorem dX13_read_12 : decode cX13_read 12 = .ok (.putfield 279, 3) := by decide +kernel
theorem dX13_read_15 : decode cX13_read 15 = .ok (.aload_n 0, 1) := by decide +kernel
theorem dX13_read_16 : decode cX13_read 16 = .ok (.iconst 0, 1) := by decide +kernel
theorem dX13_read_17 : decode cX13_read 17 = .ok (.putfield 329, 3) := by decide +kernel
theorem dX13_read_20 : decode cX13_read 20 = .ok (.aload_n 0, 1) := by decide +kernel
theorem dX13_read_21 : decode cX13_read 21 = .ok (.iconst 0, 1) := by decide +kernel
theorem dX13_read_22 : decode cX13_read 22 = .ok (.putfield 323, 3) := by decide +kernel
theorem dX13_read_25 : decode cX13_read 25 = .ok (.aload_n 0, 1) := by decide +kernel
theorem dX13_read_26 : decode cX13_read 26 = .ok (.iconst 0, 1) := by decide +kernel
theorem dX13_read_27 : decode cX13_read 27 = .ok (.putfield 439, 3) := by decide +kernel
theorem dX13_read_30 : decode cX13_read 30 = .ok (.aload_n 0, 1) := by decide +kernel
theorem dX13_read_31 : decode cX13_read 31 = .ok (.iconst 0, 1) := by decide +kernel
theorem dX13_read_32 : decode cX13_read 32 = .ok (.putfield 477, 3) := by decide +kernel
theorem dX13_read_35 : decode cX13_read 35 = .ok (.aload_n 0, 1) := by decide +kernel
theorem dX13_read_36 : decode cX13_read 36 = .ok (.iconst 0, 1) := by decide +kernel
theorem dX13_read_37 : decode cX13_read 37 = .ok (.putfield 480, 3) := by decide +kernel
theorem dX13_read_40 : decode cX13_read 40 = .ok (.aload_n 0, 1) := by decide +kernel
theorem dX13_read_41 : decode cX13_read 41 = .ok (.invokevirtual 483, 3) := by decide +kernel
theorem dX13_read_44 : decode cX13_read 44 = .ok (.aload_n 0, 1) := by decide +kernel
theorem dX13_read_45 : decode cX13_read 45 = .ok (.invokevirtual 486, 3) := by decide +kernel
theorem dX13_read_48 : decode cX13_read 48 = .ok (.aload_n 0, 1) := by decide +kernel
theorem dX13_read_49 : decode cX13_read 49 = .ok (.getfield 276, 3) := by decide +kernel
theorem dX13_read_52 : decode cX13_read 52 = .ok (.ifCond .ne 10, 3) := by decide +kernel
theorem dX13_read_55 : decode cX13_read 55 = .ok (.aload_n 0, 1) := by decide +kernel
theorem dX13_read_56 : decode cX13_read 56 = .ok (.invokevirtual 489, 3) := by decide +kernel
theorem dX13_read_59 : decode cX13_read 59 = .ok (.goto 4, 3) := by decide +kernel
theorem dX13_read_62 : decode cX13_read 62 = .ok (.iconst (-1), 1) := by decide +kernel
theorem dX13_read_63 : decode cX13_read 63 = .ok (.istore_n 1, 1) := by decide +kernel
theorem dX13_read_64 : decode cX13_read 64 = .ok (.iconst 2, 1) := by decide +kernel
theorem dX13_read_65 : decode cX13_read 65 = .ok (.istore_n 2, 1) := by decide +kernel
theorem dX13_read_66 : decode cX13_read 66 = .ok (.aload_n 0, 1) := by decide +kernel
theorem dX13_read_67 : decode cX13_read 67 = .ok (.getfield 276, 3) := by decide +kernel
theorem dX13_read_70 : decode cX13_read 70 = .ok (.ifCond .ne 74, 3) := by decide +kernel
theorem dX13_read_73 : decode cX13_read 73 = .ok (.iload_n 1, 1) := by decide +kernel
theorem dX13_read_74 : decode cX13_read 74 = .ok (.iconst (-1), 1) := by decide +kernel
theorem dX13_read_75 : decode cX13_read 75 = .ok (.if_icmp .ne 69, 3) := by decide +kernel
theorem dX13_read_78 : decode cX13_read 78 = .ok (.iconst 0, 1) := by decide +kernel
theorem dX13_read_79 : decode cX13_read 79 = .ok (.istore_n 3, 1) := by decide +kernel
theorem dX13_read_80 : decode cX13_read 80 = .ok (.iload_n 3, 1) := by decide +kernel
theorem dX13_read_81 : decode cX13_read 81 = .ok (.aload_n 0, 1) := by decide +kernel
theorem dX13_read_82 : decode cX13_read 82 = .ok (.getfield 329, 3) := by decide +kernel
theorem dX13_read_85 : decode cX13_read 85 = .ok (.if_icmp .ge 52, 3) := by decide +kernel
theorem dX13_read_88 : decode cX13_read 88 = .ok (.aload_n 0, 1) := by decide +kernel
theorem dX13_read_89 : decode cX13_read 89 = .ok (.getfield 126, 3) := by decide +kernel
theorem dX13_read_92 : decode cX13_read 92 = .ok (.iload_n 3, 1) := by decide +kernel
theorem dX13_read_93 : decode cX13_read 93 = .ok (.iaload, 1) := by decide +kernel
theorem dX13_read_94 : decode cX13_read 94 = .ok (.iconst 3, 1) := by decide +kernel
theorem dX13_read_95 : decode cX13_read 95 = .ok (.if_icmp .eq 6, 3) := by decide +kernel
theorem dX13_read_98 : decode cX13_read 98 = .ok (.goto 33, 3) := by decide +kernel
theorem dX13_read_101 : decode cX13_read 101 = .ok (.aload_n 0, 1) := by decide +kernel
theorem dX13_read_102 : decode cX13_read 102 = .ok (.getfield 171, 3) := by decide +kernel
theorem dX13_read_105 : decode cX13_read 105 = .ok (.iload_n 3, 1) := by decide +kernel
theorem dX13_read_106 : decode cX13_read 106 = .ok (.aload_n 0, 1) := by decide +kernel
theorem dX13_read_107 : decode cX13_read 107 = .ok (.getfield 439, 3) := by decide +kernel
theorem dX13_read_110 : decode cX13_read 110 = .ok (.iastore, 1) := by decide +kernel
theorem dX13_read_111 : decode cX13_read 111 = .ok (.aload_n 0, 1) := by decide +kernel
theorem dX13_read_112 : decode cX13_read 112 = .ok (.getfield 168, 3) := by decide +kernel
theorem dX13_read_115 : decode cX13_read 115 = .ok (.aload_n 0, 1) := by decide +kernel
theorem dX13_read_116 : decode cX13_read 116 = .ok (.getfield 439, 3) := by decide +kernel
theorem dX13_read_119 : decode cX13_read 119 = .ok (.iload_n 3, 1) := by decide +kernel
theorem dX13_read_120 : decode cX13_read 120 = .ok (.iastore, 1) := by decide +kernel
theorem dX13_read_121 : decode cX13_read 121 = .ok (.aload_n 0, 1) := by decide +kernel
theorem dX13_read_122 : decode cX13_read 122 = .ok (.dup, 1) := by decide +kernel
theorem dX13_read_123 : decode cX13_read 123 = .ok (.getfield 439, 3) := by decide +kernel
theorem dX13_read_126 : decode cX13_read 126 = .ok (.iconst 1, 1) := by decide +kernel
theorem dX13_read_127 : decode cX13_read 127 = .ok (.iadd, 1) := by decide +kernel
theorem dX13_read_128 : decode cX13_read 128 = .ok (.putfield 439, 3) := by decide +kernel
theorem dX13_read_131 : decode cX13_read 131 = .ok (.iinc 3 1, 3) := by decide +kernel
theorem dX13_read_134 : decode cX13_read 134 = .ok (.goto (-54), 3) := by decide +kernel
theorem dX13_read_137 : decode cX13_read 137 = .ok (.aload_n 0, 1) := by decide +kernel
theorem dX13_read_138 : decode cX13_read 138 = .ok (.invokevirtual 492, 3) := by decide +kernel
theorem dX13_read_141 : decode cX13_read 141 = .ok (.istore_n 1, 1) := by decide +kernel
theorem dX13_read_142 : decode cX13_read 142 = .ok (.iconst 3, 1) := by decide +kernel
theorem dX13_read_143 : decode cX13_read 143 = .ok (.istore_n 2, 1) := by decide +kernel
theorem dX13_read_144 : decode cX13_read 144 = .ok (.aload_n 0, 1) := by decide +kernel
theorem dX13_read_145 : decode cX13_read 145 = .ok (.iconst 0, 1) := by decide +kernel
theorem dX13_read_146 : decode cX13_read 146 = .ok (.putfield 273, 3) := by decide +kernel
theorem dX13_read_149 : decode cX13_read 149 = .ok (.iload_n 1, 1) := by decide +kernel
theorem dX13_read_150 : decode cX13_read 150 = .ok (.iconst (-1), 1) := by decide +kernel
theorem dX13_read_151 : decode cX13_read 151 = .ok (.if_icmp .eq 18, 3) := by decide +kernel
theorem dX13_read_154 : decode cX13_read 154 = .ok (.aload_n 0, 1) := by decide +kernel
theorem dX13_read_155 : decode cX13_read 155 = .ok (.iload_n 2, 1) := by decide +kernel
theorem dX13_read_156 : decode cX13_read 156 = .ok (.putfield 276, 3) := by decide +kernel
theorem dX13_read_159 : decode cX13_read 159 = .ok (.aload_n 0, 1) := by decide +kernel
theorem dX13_read_160 : decode cX13_read 160 = .ok (.aload_n 0, 1) := by decide +kernel
theorem dX13_read_161 : decode cX13_read 161 = .ok (.getfield 129, 3) := by decide +kernel
theorem dX13_read_164 : decode cX13_read 164 = .ok (.iload_n 1, 1) := by decide +kernel
theorem dX13_read_165 : decode cX13_read 165 = .ok (.iaload, 1) := by decide +kernel
theorem dX13_read_166 : decode cX13_read 166 = .ok (.putfield 122, 3) := by decide +kernel
theorem dX13_read_169 : decode cX13_read 169 = .ok (.aload_n 0, 1) := by decide +kernel
theorem dX13_read_170 : decode cX13_read 170 = .ok (.aload_n 0, 1) := by decide +kernel
theorem dX13_read_171 : decode cX13_read 171 = .ok (.getfield 276, 3) := by decide +kernel
theorem dX13_read_174 : decode cX13_read 174 = .ok (.ifCond .le 7, 3) := by decide +kernel
theorem dX13_read_177 : decode cX13_read 177 = .ok (.iconst 1, 1) := by decide +kernel
theorem dX13_read_178 : decode cX13_read 178 = .ok (.goto 4, 3) := by decide +kernel
theorem dX13_read_181 : decode cX13_read 181 = .ok (.iconst 0, 1) := by decide +kernel
theorem dX13_read_182 : decode cX13_read 182 = .ok (.putfield 252, 3) := by decide +kernel
theorem dX13_read_185 : decode cX13_read 185 = .ok (.aload_n 0, 1) := by decide +kernel
theorem dX13_read_186 : decode cX13_read 186 = .ok (.getfield 276, 3) := by decide +kernel
theorem dX13_read_189 : decode cX13_read 189 = .ok (.ifCond .le 5, 3) := by decide +kernel
theorem dX13_read_192 : decode cX13_read 192 = .ok (.iconst 0, 1) := by decide +kernel
theorem dX13_read_193 : decode cX13_read 193 = .ok (.ireturn, 1) := by decide +kernel
theorem dX13_read_194 : decode cX13_read 194 = .ok (.iconst 0, 1) := by decide +kernel
theorem dX13_read_195 : decode cX13_read 195 = .ok (.istore_n 3, 1) := by decide +kernel
theorem dX13_read_196 : decode cX13_read 196 = .ok (.iload_n 3, 1) := by decide +kernel
theorem dX13_read_197 : decode cX13_read 197 = .ok (.aload_n 0, 1) := by decide +kernel
theorem dX13_read_198 : decode cX13_read 198 = .ok (.getfield 439, 3) := by decide +kernel
theorem dX13_read_201 : decode cX13_read 201 = .ok (.if_icmp .ge 14, 3) := by decide +kernel
theorem dX13_read_204 : decode cX13_read 204 = .ok (.aload_n 0, 1) := by decide +kernel
theorem dX13_read_205 : decode cX13_read 205 = .ok (.iload_n 3, 1) := by decide +kernel
theorem dX13_read_206 : decode cX13_read 206 = .ok (.invokevirtual 495, 3) := by decide +kernel
theorem dX13_read_209 : decode cX13_read 209 = .ok (.iinc 3 1, 3) := by decide +kernel
theorem dX13_read_212 : decode cX13_read 212 = .ok (.goto (-16), 3) := by decide +kernel
theorem dX13_read_215 : decode cX13_read 215 = .ok (.aload_n 0, 1) := by decide +kernel
theorem dX13_read_216 : decode cX13_read 216 = .ok (.iconst 1, 1) := by decide +kernel
theorem dX13_read_217 : decode cX13_read 217 = .ok (.putfield 477, 3) := by decide +kernel
theorem dX13_read_220 : decode cX13_read 220 = .ok (.aload_n 0, 1) := by decide +kernel
theorem dX13_read_221 : decode cX13_read 221 = .ok (.getfield 439, 3) := by decide +kernel
theorem dX13_read_224 : decode cX13_read 224 = .ok (.ireturn, 1) := by decide +kernel
theorem dX13_fault_0 : decode cX13_fault 0 = .ok (.aload_n 0, 1) := by decide +kernel
theorem dX13_fault_1 : decode cX13_fault 1 = .ok (.iconst 0, 1) := by decide +kernel
theorem dX13_fault_2 : decode cX13_fault 2 = .ok (.putfield 252, 3) := by decide +kernel
theorem dX13_fault_5 : decode cX13_fault 5 = .ok (.iload_n 1, 1) := by decide +kernel
theorem dX13_fault_6 : decode cX13_fault 6 = .ok (.tableswitch 50 0 3 #[30, 35, 40, 45], 30) := by decide +kernel
theorem dX13_fault_36 : decode cX13_fault 36 = .ok (.aload_n 0, 1) := by decide +kernel
theorem dX13_fault_37 : decode cX13_fault 37 = .ok (.getfield 276, 3) := by decide +kernel
theorem dX13_fault_40 : decode cX13_fault 40 = .ok (.ireturn, 1) := by decide +kernel
theorem dX13_fault_41 : decode cX13_fault 41 = .ok (.aload_n 0, 1) := by decide +kernel
theorem dX13_fault_42 : decode cX13_fault 42 = .ok (.getfield 122, 3) := by decide +kernel
theorem dX13_fault_45 : decode cX13_fault 45 = .ok (.ireturn, 1) := by decide +kernel
theorem dX13_fault_46 : decode cX13_fault 46 = .ok (.aload_n 0, 1) := by decide +kernel
theorem dX13_fault_47 : decode cX13_fault 47 = .ok (.getfield 498, 3) := by decide +kernel
theorem dX13_fault_50 : decode cX13_fault 50 = .ok (.ireturn, 1) := by decide +kernel
theorem dX13_fault_51 : decode cX13_fault 51 = .ok (.aload_n 0, 1) := by decide +kernel
theorem dX13_fault_52 : decode cX13_fault 52 = .ok (.getfield 186, 3) := by decide +kernel
theorem dX13_fault_55 : decode cX13_fault 55 = .ok (.ireturn, 1) := by decide +kernel
theorem dX13_fault_56 : decode cX13_fault 56 = .ok (.iconst (-1), 1) := by decide +kernel
theorem dX13_fault_57 : decode cX13_fault 57 = .ok (.ireturn, 1) := by decide +kernel
theorem dX13_refresh_0 : decode cX13_refresh 0 = .ok (.aload_n 0, 1) := by decide +kernel
theorem dX13_refresh_1 : decode cX13_refresh 1 = .ok (.iconst 0, 1) := by decide +kernel
theorem dX13_refresh_2 : decode cX13_refresh 2 = .ok (.putfield 498, 3) := by decide +kernel
theorem dX13_refresh_5 : decode cX13_refresh 5 = .ok (.aload_n 0, 1) := by decide +kernel
theorem dX13_refresh_6 : decode cX13_refresh 6 = .ok (.iconst (-1), 1) := by decide +kernel
theorem dX13_refresh_7 : decode cX13_refresh 7 = .ok (.putfield 186, 3) := by decide +kernel
theorem dX13_refresh_10 : decode cX13_refresh 10 = .ok (.aload_n 0, 1) := by decide +kernel
theorem dX13_refresh_11 : decode cX13_refresh 11 = .ok (.aload_n 0, 1) := by decide +kernel
theorem dX13_refresh_12 : decode cX13_refresh 12 = .ok (.getfield 477, 3) := by decide +kernel
theorem dX13_refresh_15 : decode cX13_refresh 15 = .ok (.ifCond .eq 7, 3) := by decide +kernel
theorem dX13_refresh_18 : decode cX13_refresh 18 = .ok (.iconst 0, 1) := by decide +kernel
theorem dX13_refresh_19 : decode cX13_refresh 19 = .ok (.goto 4, 3) := by decide +kernel
theorem dX13_refresh_22 : decode cX13_refresh 22 = .ok (.iconst 1, 1) := by decide +kernel
theorem dX13_refresh_23 : decode cX13_refresh 23 = .ok (.putfield 252, 3) := by decide +kernel
theorem dX13_refresh_26 : decode cX13_refresh 26 = .ok (.aload_n 0, 1) := by decide +kernel
theorem dX13_refresh_27 : decode cX13_refresh 27 = .ok (.getfield 252, 3) := by decide +kernel
theorem dX13_refresh_30 : decode cX13_refresh 30 = .ok (.ifCond .le 5, 3) := by decide +kernel
theorem dX13_refresh_33 : decode cX13_refresh 33 = .ok (.iconst 0, 1) := by decide +kernel
theorem dX13_refresh_34 : decode cX13_refresh 34 = .ok (.ireturn, 1) := by decide +kernel
theorem dX13_refresh_35 : decode cX13_refresh 35 = .ok (.aload_n 0, 1) := by decide +kernel
theorem dX13_refresh_36 : decode cX13_refresh 36 = .ok (.invokevirtual 483, 3) := by decide +kernel
theorem dX13_refresh_39 : decode cX13_refresh 39 = .ok (.iconst 1, 1) := by decide +kernel
theorem dX13_refresh_40 : decode cX13_refresh 40 = .ok (.istore_n 1, 1) := by decide +kernel
theorem dX13_refresh_41 : decode cX13_refresh 41 = .ok (.iconst 0, 1) := by decide +kernel
theorem dX13_refresh_42 : decode cX13_refresh 42 = .ok (.istore_n 2, 1) := by decide +kernel
theorem dX13_refresh_43 : decode cX13_refresh 43 = .ok (.iload_n 2, 1) := by decide +kernel
theorem dX13_refresh_44 : decode cX13_refresh 44 = .ok (.aload_n 0, 1) := by decide +kernel
theorem dX13_refresh_45 : decode cX13_refresh 45 = .ok (.getfield 439, 3) := by decide +kernel
theorem dX13_refresh_48 : decode cX13_refresh 48 = .ok (.if_icmp .ge 69, 3) := by decide +kernel
theorem dX13_refresh_51 : decode cX13_refresh 51 = .ok (.iload_n 1, 1) := by decide +kernel
theorem dX13_refresh_52 : decode cX13_refresh 52 = .ok (.ifCond .eq 65, 3) := by decide +kernel
theorem dX13_refresh_55 : decode cX13_refresh 55 = .ok (.aload_n 0, 1) := by decide +kernel
theorem dX13_refresh_56 : decode cX13_refresh 56 = .ok (.getfield 168, 3) := by decide +kernel
theorem dX13_refresh_59 : decode cX13_refresh 59 = .ok (.iload_n 2, 1) := by decide +kernel
theorem dX13_refresh_60 : decode cX13_refresh 60 = .ok (.iaload, 1) := by decide +kernel
theorem dX13_refresh_61 : decode cX13_refresh 61 = .ok (.istore_n 3, 1) := by decide +kernel
theorem dX13_refresh_62 : decode cX13_refresh 62 = .ok (.aload_n 0, 1) := by decide +kernel
theorem dX13_refresh_63 : decode cX13_refresh 63 = .ok (.getfield 132, 3) := by decide +kernel
theorem dX13_refresh_66 : decode cX13_refresh 66 = .ok (.iload_n 3, 1) := by decide +kernel
theorem dX13_refresh_67 : decode cX13_refresh 67 = .ok (.iaload, 1) := by decide +kernel
theorem dX13_refresh_68 : decode cX13_refresh 68 = .ok (.ifCond .ne 43, 3) := by decide +kernel
theorem dX13_refresh_71 : decode cX13_refresh 71 = .ok (.aload_n 0, 1) := by decide +kernel
theorem dX13_refresh_72 : decode cX13_refresh 72 = .ok (.iload_n 2, 1) := by decide +kernel
theorem dX13_refresh_73 : decode cX13_refresh 73 = .ok (.invokevirtual 507, 3) := by decide +kernel
theorem dX13_refresh_76 : decode cX13_refresh 76 = .ok (.ifCond .ne 35, 3) := by decide +kernel
theorem dX13_refresh_79 : decode cX13_refresh 79 = .ok (.aload_n 0, 1) := by decide +kernel
theorem dX13_refresh_80 : decode cX13_refresh 80 = .ok (.iload_n 2, 1) := by decide +kernel
theorem dX13_refresh_81 : decode cX13_refresh 81 = .ok (.invokevirtual 510, 3) := by decide +kernel
theorem dX13_refresh_84 : decode cX13_refresh 84 = .ok (.ifCond .ne 27, 3) := by decide +kernel
theorem dX13_refresh_87 : decode cX13_refresh 87 = .ok (.aload_n 0, 1) := by decide +kernel
theorem dX13_refresh_88 : decode cX13_refresh 88 = .ok (.iload_n 3, 1) := by decide +kernel
theorem dX13_refresh_89 : decode cX13_refresh 89 = .ok (.ldc2_w 394, 3) := by decide +kernel
theorem dX13_refresh_92 : decode cX13_refresh 92 = .ok (.invokevirtual 359, 3) := by decide +kernel
theorem dX13_refresh_95 : decode cX13_refresh 95 = .ok (.aload_n 0, 1) := by decide +kernel
theorem dX13_refresh_96 : decode cX13_refresh 96 = .ok (.getfield 55, 3) := by decide +kernel
theorem dX13_refresh_99 : decode cX13_refresh 99 = .ok (.iconst 0, 1) := by decide +kernel
theorem dX13_refresh_100 : decode cX13_refresh 100 = .ok (.laload, 1) := by decide +kernel
theorem dX13_refresh_101 : decode cX13_refresh 101 = .ok (.lcmp, 1) := by decide +kernel
theorem dX13_refresh_102 : decode cX13_refresh 102 = .ok (.ifCond .eq 9, 3) := by decide +kernel
theorem dX13_refresh_105 : decode cX13_refresh 105 = .ok (.aload_n 0, 1) := by decide +kernel
theorem dX13_refresh_106 : decode cX13_refresh 106 = .ok (.iload_n 2, 1) := by decide +kernel
theorem dX13_refresh_107 : decode cX13_refresh 107 = .ok (.invokevirtual 614, 3) := by decide +kernel
theorem dX13_refresh_110 : decode cX13_refresh 110 = .ok (.istore_n 1, 1) := by decide +kernel
theorem dX13_refresh_111 : decode cX13_refresh 111 = .ok (.iinc 2 1, 3) := by decide +kernel
theorem dX13_refresh_114 : decode cX13_refresh 114 = .ok (.goto (-71), 3) := by decide +kernel
theorem dX13_refresh_117 : decode cX13_refresh 117 = .ok (.iload_n 1, 1) := by decide +kernel
theorem dX13_refresh_118 : decode cX13_refresh 118 = .ok (.ifCond .ne 7, 3) := by decide +kernel
theorem dX13_refresh_121 : decode cX13_refresh 121 = .ok (.aload_n 0, 1) := by decide +kernel
theorem dX13_refresh_122 : decode cX13_refresh 122 = .ok (.invokevirtual 617, 3) := by decide +kernel
theorem dX13_refresh_125 : decode cX13_refresh 125 = .ok (.aload_n 0, 1) := by decide +kernel
theorem dX13_refresh_126 : decode cX13_refresh 126 = .ok (.iload_n 1, 1) := by decide +kernel
theorem dX13_refresh_127 : decode cX13_refresh 127 = .ok (.ifCond .eq 7, 3) := by decide +kernel
theorem dX13_refresh_130 : decode cX13_refresh 130 = .ok (.iconst 0, 1) := by decide +kernel
theorem dX13_refresh_131 : decode cX13_refresh 131 = .ok (.goto 4, 3) := by decide +kernel
theorem dX13_refresh_134 : decode cX13_refresh 134 = .ok (.iconst 2, 1) := by decide +kernel
theorem dX13_refresh_135 : decode cX13_refresh 135 = .ok (.putfield 252, 3) := by decide +kernel
theorem dX13_refresh_138 : decode cX13_refresh 138 = .ok (.iload_n 1, 1) := by decide +kernel
theorem dX13_refresh_139 : decode cX13_refresh 139 = .ok (.ifCond .eq 10, 3) := by decide +kernel
theorem dX13_refresh_142 : decode cX13_refresh 142 = .ok (.aload_n 0, 1) := by decide +kernel
theorem dX13_refresh_143 : decode cX13_refresh 143 = .ok (.getfield 480, 3) := by decide +kernel
theorem dX13_refresh_146 : decode cX13_refresh 146 = .ok (.goto 4, 3) := by decide +kernel
theorem dX13_refresh_149 : decode cX13_refresh 149 = .ok (.iconst 0, 1) := by decide +kernel
theorem dX13_refresh_150 : decode cX13_refresh 150 = .ok (.ireturn, 1) := by decide +kernel
theorem dX13_get_0 : decode cX13_get 0 = .ok (.aload_n 0, 1) := by decide +kernel
theorem dX13_get_1 : decode cX13_get 1 = .ok (.iconst 0, 1) := by decide +kernel
theorem dX13_get_2 : decode cX13_get 2 = .ok (.putfield 498, 3) := by decide +kernel
theorem dX13_get_5 : decode cX13_get 5 = .ok (.aload_n 0, 1) := by decide +kernel
theorem dX13_get_6 : decode cX13_get 6 = .ok (.iconst (-1), 1) := by decide +kernel
theorem dX13_get_7 : decode cX13_get 7 = .ok (.putfield 186, 3) := by decide +kernel
theorem dX13_get_10 : decode cX13_get 10 = .ok (.aload_n 0, 1) := by decide +kernel
theorem dX13_get_11 : decode cX13_get 11 = .ok (.aload_n 0, 1) := by decide +kernel
theorem dX13_get_12 : decode cX13_get 12 = .ok (.getfield 477, 3) := by decide +kernel
theorem dX13_get_15 : decode cX13_get 15 = .ok (.ifCond .eq 7, 3) := by decide +kernel
theorem dX13_get_18 : decode cX13_get 18 = .ok (.iconst 0, 1) := by decide +kernel
theorem dX13_get_19 : decode cX13_get 19 = .ok (.goto 4, 3) := by decide +kernel
theorem dX13_get_22 : decode cX13_get 22 = .ok (.iconst 1, 1) := by decide +kernel
theorem dX13_get_23 : decode cX13_get 23 = .ok (.putfield 252, 3) := by decide +kernel
theorem dX13_get_26 : decode cX13_get 26 = .ok (.aload_n 0, 1) := by decide +kernel
theorem dX13_get_27 : decode cX13_get 27 = .ok (.getfield 252, 3) := by decide +kernel
theorem dX13_get_30 : decode cX13_get 30 = .ok (.ifCond .le 5, 3) := by decide +kernel
theorem dX13_get_33 : decode cX13_get 33 = .ok (.iconst 0, 1) := by decide +kernel
theorem dX13_get_34 : decode cX13_get 34 = .ok (.ireturn, 1) := by decide +kernel
theorem dX13_get_35 : decode cX13_get 35 = .ok (.aload_n 0, 1) := by decide +kernel
theorem dX13_get_36 : decode cX13_get 36 = .ok (.aload_n 0, 1) := by decide +kernel
theorem dX13_get_37 : decode cX13_get 37 = .ok (.aload_n 0, 1) := by decide +kernel
theorem dX13_get_38 : decode cX13_get 38 = .ok (.lload_n 1, 1) := by decide +kernel
theorem dX13_get_39 : decode cX13_get 39 = .ok (.invokestatic 620, 3) := by decide +kernel
theorem dX13_get_42 : decode cX13_get 42 = .ok (.invokevirtual 520, 3) := by decide +kernel
theorem dX13_get_45 : decode cX13_get 45 = .ok (.invokevirtual 614, 3) := by decide +kernel
theorem dX13_get_48 : decode cX13_get 48 = .ok (.ifCond .eq 7, 3) := by decide +kernel
theorem dX13_get_51 : decode cX13_get 51 = .ok (.iconst 0, 1) := by decide +kernel
theorem dX13_get_52 : decode cX13_get 52 = .ok (.goto 4, 3) := by decide +kernel
theorem dX13_get_55 : decode cX13_get 55 = .ok (.iconst 2, 1) := by decide +kernel
theorem dX13_get_56 : decode cX13_get 56 = .ok (.putfield 252, 3) := by decide +kernel
theorem dX13_get_59 : decode cX13_get 59 = .ok (.aload_n 0, 1) := by decide +kernel
theorem dX13_get_60 : decode cX13_get 60 = .ok (.getfield 252, 3) := by decide +kernel
theorem dX13_get_63 : decode cX13_get 63 = .ok (.ifCond .le 7, 3) := by decide +kernel
theorem dX13_get_66 : decode cX13_get 66 = .ok (.iconst 0, 1) := by decide +kernel
theorem dX13_get_67 : decode cX13_get 67 = .ok (.goto 7, 3) := by decide +kernel
theorem dX13_get_70 : decode cX13_get 70 = .ok (.aload_n 0, 1) := by decide +kernel
theorem dX13_get_71 : decode cX13_get 71 = .ok (.getfield 513, 3) := by decide +kernel
theorem dX13_get_74 : decode cX13_get 74 = .ok (.ireturn, 1) := by decide +kernel
theorem dX13_call_0 : decode cX13_call 0 = .ok (.aload_n 0, 1) := by decide +kernel
theorem dX13_call_1 : decode cX13_call 1 = .ok (.iconst 0, 1) := by decide +kernel
theorem dX13_call_2 : decode cX13_call 2 = .ok (.putfield 498, 3) := by decide +kernel
theorem dX13_call_5 : decode cX13_call 5 = .ok (.aload_n 0, 1) := by decide +kernel
theorem dX13_call_6 : decode cX13_call 6 = .ok (.iconst (-1), 1) := by decide +kernel
theorem dX13_call_7 : decode cX13_call 7 = .ok (.putfield 186, 3) := by decide +kernel
theorem dX13_call_10 : decode cX13_call 10 = .ok (.aload_n 0, 1) := by decide +kernel
theorem dX13_call_11 : decode cX13_call 11 = .ok (.aload_n 0, 1) := by decide +kernel
theorem dX13_call_12 : decode cX13_call 12 = .ok (.getfield 477, 3) := by decide +kernel
theorem dX13_call_15 : decode cX13_call 15 = .ok (.ifCond .eq 7, 3) := by decide +kernel
theorem dX13_call_18 : decode cX13_call 18 = .ok (.iconst 0, 1) := by decide +kernel
theorem dX13_call_19 : decode cX13_call 19 = .ok (.goto 4, 3) := by decide +kernel
theorem dX13_call_22 : decode cX13_call 22 = .ok (.iconst 1, 1) := by decide +kernel
theorem dX13_call_23 : decode cX13_call 23 = .ok (.putfield 252, 3) := by decide +kernel
theorem dX13_call_26 : decode cX13_call 26 = .ok (.aload_n 0, 1) := by decide +kernel
theorem dX13_call_27 : decode cX13_call 27 = .ok (.getfield 252, 3) := by decide +kernel
theorem dX13_call_30 : decode cX13_call 30 = .ok (.ifCond .le 5, 3) := by decide +kernel
theorem dX13_call_33 : decode cX13_call 33 = .ok (.iconst 0, 1) := by decide +kernel
theorem dX13_call_34 : decode cX13_call 34 = .ok (.ireturn, 1) := by decide +kernel
theorem dX13_call_35 : decode cX13_call 35 = .ok (.iconst (-1), 1) := by decide +kernel
theorem dX13_call_36 : decode cX13_call 36 = .ok (.istore_n 3, 1) := by decide +kernel
theorem dX13_call_37 : decode cX13_call 37 = .ok (.iload_n 1, 1) := by decide +kernel
theorem dX13_call_38 : decode cX13_call 38 = .ok (.ifCond .lt 15, 3) := by decide +kernel
theorem dX13_call_41 : decode cX13_call 41 = .ok (.iload_n 1, 1) := by decide +kernel
theorem dX13_call_42 : decode cX13_call 42 = .ok (.aload_n 0, 1) := by decide +kernel
theorem dX13_call_43 : decode cX13_call 43 = .ok (.getfield 480, 3) := by decide +kernel
theorem dX13_call_46 : decode cX13_call 46 = .ok (.if_icmp .ge 7, 3) := by decide +kernel
theorem dX13_call_49 : decode cX13_call 49 = .ok (.iconst 1, 1) := by decide +kernel
theorem dX13_call_50 : decode cX13_call 50 = .ok (.goto 4, 3) := by decide +kernel
theorem dX13_call_53 : decode cX13_call 53 = .ok (.iconst 0, 1) := by decide +kernel
theorem dX13_call_54 : decode cX13_call 54 = .ok (.istore 4, 2) := by decide +kernel
theorem dX13_call_56 : decode cX13_call 56 = .ok (.iconst 0, 1) := by decide +kernel
theorem dX13_call_57 : decode cX13_call 57 = .ok (.istore 5, 2) := by decide +kernel
theorem dX13_call_59 : decode cX13_call 59 = .ok (.iload 4, 2) := by decide +kernel
theorem dX13_call_61 : decode cX13_call 61 = .ok (.ifCond .eq 68, 3) := by decide +kernel
theorem dX13_call_64 : decode cX13_call 64 = .ok (.iload 5, 2) := by decide +kernel
theorem dX13_call_66 : decode cX13_call 66 = .ok (.aload_n 0, 1) := by decide +kernel
theorem dX13_call_67 : decode cX13_call 67 = .ok (.getfield 180, 3) := by decide +kernel
theorem dX13_call_70 : decode cX13_call 70 = .ok (.aload_n 0, 1) := by decide +kernel
theorem dX13_call_71 : decode cX13_call 71 = .ok (.getfield 192, 3) := by decide +kernel
theorem dX13_call_74 : decode cX13_call 74 = .ok (.iload_n 1, 1) := by decide +kernel
theorem dX13_call_75 : decode cX13_call 75 = .ok (.iaload, 1) := by decide +kernel
theorem dX13_call_76 : decode cX13_call 76 = .ok (.iaload, 1) := by decide +kernel
theorem dX13_call_77 : decode cX13_call 77 = .ok (.if_icmp .ge 52, 3) := by decide +kernel
theorem dX13_call_80 : decode cX13_call 80 = .ok (.aload_n 0, 1) := by decide +kernel
theorem dX13_call_81 : decode cX13_call 81 = .ok (.getfield 183, 3) := by decide +kernel
theorem dX13_call_84 : decode cX13_call 84 = .ok (.bipush 26, 2) := by decide +kernel
theorem dX13_call_86 : decode cX13_call 86 = .ok (.aload_n 0, 1) := by decide +kernel
theorem dX13_call_87 : decode cX13_call 87 = .ok (.getfield 192, 3) := by decide +kernel
theorem dX13_call_90 : decode cX13_call 90 = .ok (.iload_n 1, 1) := by decide +kernel
theorem dX13_call_91 : decode cX13_call 91 = .ok (.iaload, 1) := by decide +kernel
theorem dX13_call_92 : decode cX13_call 92 = .ok (.imul, 1) := by decide +kernel
theorem dX13_call_93 : decode cX13_call 93 = .ok (.iload 5, 2) := by decide +kernel
theorem dX13_call_95 : decode cX13_call 95 = .ok (.iadd, 1) := by decide +kernel
theorem dX13_call_96 : decode cX13_call 96 = .ok (.iaload, 1) := by decide +kernel
theorem dX13_call_97 : decode cX13_call 97 = .ok (.istore 6, 2) := by decide +kernel
theorem dX13_call_99 : decode cX13_call 99 = .ok (.aload_n 0, 1) := by decide +kernel
theorem dX13_call_100 : decode cX13_call 100 = .ok (.iload 6, 2) := by decide +kernel
theorem dX13_call_102 : decode cX13_call 102 = .ok (.ldc2_w 380, 3) := by decide +kernel
theorem dX13_call_105 : decode cX13_call 105 = .ok (.invokevirtual 359, 3) := by decide +kernel
theorem dX13_call_108 : decode cX13_call 108 = .ok (.l2i, 1) := by decide +kernel
theorem dX13_call_109 : decode cX13_call 109 = .ok (.bipush 97, 2) := by decide +kernel
theorem dX13_call_111 : decode cX13_call 111 = .ok (.isub, 1) := by decide +kernel
theorem dX13_call_112 : decode cX13_call 112 = .ok (.iload_n 2, 1) := by decide +kernel
theorem dX13_call_113 : decode cX13_call 113 = .ok (.if_icmp .ne 8, 3) := by decide +kernel
theorem dX13_call_116 : decode cX13_call 116 = .ok (.iload 6, 2) := by decide +kernel
theorem dX13_call_118 : decode cX13_call 118 = .ok (.goto 4, 3) := by decide +kernel
theorem dX13_call_121 : decode cX13_call 121 = .ok (.iload_n 3, 1) := by decide +kernel
theorem dX13_call_122 : decode cX13_call 122 = .ok (.istore_n 3, 1) := by decide +kernel
theorem dX13_call_123 : decode cX13_call 123 = .ok (.iinc 5 1, 3) := by decide +kernel
theorem dX13_call_126 : decode cX13_call 126 = .ok (.goto (-67), 3) := by decide +kernel
theorem dX13_call_129 : decode cX13_call 129 = .ok (.aload_n 0, 1) := by decide +kernel
theorem dX13_call_130 : decode cX13_call 130 = .ok (.iload_n 3, 1) := by decide +kernel
theorem dX13_call_131 : decode cX13_call 131 = .ok (.iconst (-1), 1) := by decide +kernel
theorem dX13_call_132 : decode cX13_call 132 = .ok (.if_icmp .ne 7, 3) := by decide +kernel
theorem dX13_call_135 : decode cX13_call 135 = .ok (.iconst 2, 1) := by decide +kernel
theorem dX13_call_136 : decode cX13_call 136 = .ok (.goto 4, 3) := by decide +kernel
theorem dX13_call_139 : decode cX13_call 139 = .ok (.iconst 0, 1) := by decide +kernel
theorem dX13_call_140 : decode cX13_call 140 = .ok (.putfield 252, 3) := by decide +kernel
theorem dX13_call_143 : decode cX13_call 143 = .ok (.aload_n 0, 1) := by decide +kernel
theorem dX13_call_144 : decode cX13_call 144 = .ok (.getfield 252, 3) := by decide +kernel
theorem dX13_call_147 : decode cX13_call 147 = .ok (.ifCond .le 5, 3) := by decide +kernel
theorem dX13_call_150 : decode cX13_call 150 = .ok (.iconst 0, 1) := by decide +kernel
theorem dX13_call_151 : decode cX13_call 151 = .ok (.ireturn, 1) := by decide +kernel
theorem dX13_call_152 : decode cX13_call 152 = .ok (.aload_n 0, 1) := by decide +kernel
theorem dX13_call_153 : decode cX13_call 153 = .ok (.aload_n 0, 1) := by decide +kernel
theorem dX13_call_154 : decode cX13_call 154 = .ok (.aload_n 0, 1) := by decide +kernel
theorem dX13_call_155 : decode cX13_call 155 = .ok (.aload_n 0, 1) := by decide +kernel
theorem dX13_call_156 : decode cX13_call 156 = .ok (.iload_n 3, 1) := by decide +kernel
theorem dX13_call_157 : decode cX13_call 157 = .ok (.ldc2_w 11, 3) := by decide +kernel
theorem dX13_call_160 : decode cX13_call 160 = .ok (.invokevirtual 359, 3) := by decide +kernel
theorem dX13_call_163 : decode cX13_call 163 = .ok (.invokevirtual 520, 3) := by decide +kernel
theorem dX13_call_166 : decode cX13_call 166 = .ok (.invokevirtual 614, 3) := by decide +kernel
theorem dX13_call_169 : decode cX13_call 169 = .ok (.ifCond .eq 7, 3) := by decide +kernel
theorem dX13_call_172 : decode cX13_call 172 = .ok (.iconst 0, 1) := by decide +kernel
theorem dX13_call_173 : decode cX13_call 173 = .ok (.goto 4, 3) := by decide +kernel
theorem dX13_call_176 : decode cX13_call 176 = .ok (.iconst 3, 1) := by decide +kernel
theorem dX13_call_177 : decode cX13_call 177 = .ok (.putfield 252, 3) := by decide +kernel
theorem dX13_call_180 : decode cX13_call 180 = .ok (.aload_n 0, 1) := by decide +kernel
theorem dX13_call_181 : decode cX13_call 181 = .ok (.getfield 252, 3) := by decide +kernel
theorem dX13_call_184 : decode cX13_call 184 = .ok (.ifCond .le 7, 3) := by decide +kernel
theorem dX13_call_187 : decode cX13_call 187 = .ok (.iconst 0, 1) := by decide +kernel
theorem dX13_call_188 : decode cX13_call 188 = .ok (.goto 7, 3) := by decide +kernel
theorem dX13_call_191 : decode cX13_call 191 = .ok (.aload_n 0, 1) := by decide +kernel
theorem dX13_call_192 : decode cX13_call 192 = .ok (.getfield 513, 3) := by decide +kernel
theorem dX13_call_195 : decode cX13_call 195 = .ok (.ireturn, 1) := by decide +kernel
theorem dX13_close_0 : decode cX13_close 0 = .ok (.aload_n 0, 1) := by decide +kernel
theorem dX13_close_1 : decode cX13_close 1 = .ok (.iconst 0, 1) := by decide +kernel
theorem dX13_close_2 : decode cX13_close 2 = .ok (.putfield 252, 3) := by decide +kernel
theorem dX13_close_5 : decode cX13_close 5 = .ok (.aload_n 0, 1) := by decide +kernel
theorem dX13_close_6 : decode cX13_close 6 = .ok (.getfield 477, 3) := by decide +kernel
theorem dX13_close_9 : decode cX13_close 9 = .ok (.ifCond .eq 7, 3) := by decide +kernel
theorem dX13_close_12 : decode cX13_close 12 = .ok (.aload_n 0, 1) := by decide +kernel
theorem dX13_close_13 : decode cX13_close 13 = .ok (.invokevirtual 617, 3) := by decide +kernel
theorem dX13_close_16 : decode cX13_close 16 = .ok (.aload_n 0, 1) := by decide +kernel
theorem dX13_close_17 : decode cX13_close 17 = .ok (.getfield 471, 3) := by decide +kernel
theorem dX13_close_20 : decode cX13_close 20 = .ok (.ireturn, 1) := by decide +kernel
theorem dX13_events_0 : decode cX13_events 0 = .ok (.aload_n 0, 1) := by decide +kernel
theorem dX13_events_1 : decode cX13_events 1 = .ok (.iconst 0, 1) := by decide +kernel
theorem dX13_events_2 : decode cX13_events 2 = .ok (.putfield 252, 3) := by decide +kernel
theorem dX13_events_5 : decode cX13_events 5 = .ok (.aload_n 0, 1) := by decide +kernel
theorem dX13_events_6 : decode cX13_events 6 = .ok (.getfield 471, 3) := by decide +kernel
theorem dX13_events_9 : decode cX13_events 9 = .ok (.ireturn, 1) := by decide +kernel
theorem dX13_event_0 : decode cX13_event 0 = .ok (.aload_n 0, 1) := by decide +kernel
theorem dX13_event_1 : decode cX13_event 1 = .ok (.iconst 0, 1) := by decide +kernel
theorem dX13_event_2 : decode cX13_event 2 = .ok (.putfield 252, 3) := by decide +kernel
theorem dX13_event_5 : decode cX13_event 5 = .ok (.iload_n 1, 1) := by decide +kernel
theorem dX13_event_6 : decode cX13_event 6 = .ok (.ifCond .lt 11, 3) := by decide +kernel
theorem dX13_event_9 : decode cX13_event 9 = .ok (.iload_n 1, 1) := by decide +kernel
theorem dX13_event_10 : decode cX13_event 10 = .ok (.aload_n 0, 1) := by decide +kernel
theorem dX13_event_11 : decode cX13_event 11 = .ok (.getfield 471, 3) := by decide +kernel
theorem dX13_event_14 : decode cX13_event 14 = .ok (.if_icmp .lt 5, 3) := by decide +kernel
theorem dX13_event_17 : decode cX13_event 17 = .ok (.iconst (-1), 1) := by decide +kernel
theorem dX13_event_18 : decode cX13_event 18 = .ok (.ireturn, 1) := by decide +kernel
theorem dX13_event_19 : decode cX13_event 19 = .ok (.iload_n 2, 1) := by decide +kernel
theorem dX13_event_20 : decode cX13_event 20 = .ok (.tableswitch 60 0 3 #[32, 39, 46, 53], 32) := by decide +kernel
theorem dX13_event_52 : decode cX13_event 52 = .ok (.aload_n 0, 1) := by decide +kernel
theorem dX13_event_53 : decode cX13_event 53 = .ok (.getfield 195, 3) := by decide +kernel
theorem dX13_event_56 : decode cX13_event 56 = .ok (.iload_n 1, 1) := by decide +kernel
theorem dX13_event_57 : decode cX13_event 57 = .ok (.iaload, 1) := by decide +kernel
theorem dX13_event_58 : decode cX13_event 58 = .ok (.ireturn, 1) := by decide +kernel
theorem dX13_event_59 : decode cX13_event 59 = .ok (.aload_n 0, 1) := by decide +kernel
theorem dX13_event_60 : decode cX13_event 60 = .ok (.getfield 198, 3) := by decide +kernel
theorem dX13_event_63 : decode cX13_event 63 = .ok (.iload_n 1, 1) := by decide +kernel
theorem dX13_event_64 : decode cX13_event 64 = .ok (.iaload, 1) := by decide +kernel
theorem dX13_event_65 : decode cX13_event 65 = .ok (.ireturn, 1) := by decide +kernel
theorem dX13_event_66 : decode cX13_event 66 = .ok (.aload_n 0, 1) := by decide +kernel
theorem dX13_event_67 : decode cX13_event 67 = .ok (.getfield 201, 3) := by decide +kernel
theorem dX13_event_70 : decode cX13_event 70 = .ok (.iload_n 1, 1) := by decide +kernel
theorem dX13_event_71 : decode cX13_event 71 = .ok (.iaload, 1) := by decide +kernel
theorem dX13_event_72 : decode cX13_event 72 = .ok (.ireturn, 1) := by decide +kernel
theorem dX13_event_73 : decode cX13_event 73 = .ok (.aload_n 0, 1) := by decide +kernel
theorem dX13_event_74 : decode cX13_event 74 = .ok (.getfield 204, 3) := by decide +kernel
theorem dX13_event_77 : decode cX13_event 77 = .ok (.iload_n 1, 1) := by decide +kernel
theorem dX13_event_78 : decode cX13_event 78 = .ok (.iaload, 1) := by decide +kernel
theorem dX13_event_79 : decode cX13_event 79 = .ok (.ireturn, 1) := by decide +kernel
theorem dX13_event_80 : decode cX13_event 80 = .ok (.iconst (-1), 1) := by decide +kernel
theorem dX13_event_81 : decode cX13_event 81 = .ok (.ireturn, 1) := by decide +kernel
theorem dX13_object_0 : decode cX13_object 0 = .ok (.aload_n 0, 1) := by decide +kernel
theorem dX13_object_1 : decode cX13_object 1 = .ok (.iconst 0, 1) := by decide +kernel
theorem dX13_object_2 : decode cX13_object 2 = .ok (.putfield 252, 3) := by decide +kernel
theorem dX13_object_5 : decode cX13_object 5 = .ok (.iload_n 1, 1) := by decide +kernel
theorem dX13_object_6 : decode cX13_object 6 = .ok (.ifCond .lt 20, 3) := by decide +kernel
theorem dX13_object_9 : decode cX13_object 9 = .ok (.iload_n 1, 1) := by decide +kernel
theorem dX13_object_10 : decode cX13_object 10 = .ok (.aload_n 0, 1) := by decide +kernel
theorem dX13_object_11 : decode cX13_object 11 = .ok (.getfield 480, 3) := by decide +kernel
theorem dX13_object_14 : decode cX13_object 14 = .ok (.if_icmp .ge 12, 3) := by decide +kernel
theorem dX13_object_17 : decode cX13_object 17 = .ok (.iload_n 2, 1) := by decide +kernel
theorem dX13_object_18 : decode cX13_object 18 = .ok (.ifCond .lt 8, 3) := by decide +kernel
theorem dX13_object_21 : decode cX13_object 21 = .ok (.iload_n 2, 1) := by decide +kernel
theorem dX13_object_22 : decode cX13_object 22 = .ok (.iconst 1, 1) := by decide +kernel
theorem dX13_object_23 : decode cX13_object 23 = .ok (.if_icmp .le 7, 3) := by decide +kernel
theorem dX13_object_26 : decode cX13_object 26 = .ok (.iconst (-1), 1) := by decide +kernel
theorem dX13_object_27 : decode cX13_object 27 = .ok (.goto 22, 3) := by decide +kernel
theorem dX13_object_30 : decode cX13_object 30 = .ok (.iload_n 2, 1) := by decide +kernel
theorem dX13_object_31 : decode cX13_object 31 = .ok (.ifCond .ne 12, 3) := by decide +kernel
theorem dX13_object_34 : decode cX13_object 34 = .ok (.aload_n 0, 1) := by decide +kernel
theorem dX13_object_35 : decode cX13_object 35 = .ok (.getfield 189, 3) := by decide +kernel
theorem dX13_object_38 : decode cX13_object 38 = .ok (.iload_n 1, 1) := by decide +kernel
theorem dX13_object_39 : decode cX13_object 39 = .ok (.iaload, 1) := by decide +kernel
theorem dX13_object_40 : decode cX13_object 40 = .ok (.goto 9, 3) := by decide +kernel
theorem dX13_object_43 : decode cX13_object 43 = .ok (.aload_n 0, 1) := by decide +kernel
theorem dX13_object_44 : decode cX13_object 44 = .ok (.getfield 192, 3) := by decide +kernel
theorem dX13_object_47 : decode cX13_object 47 = .ok (.iload_n 1, 1) := by decide +kernel
theorem dX13_object_48 : decode cX13_object 48 = .ok (.iaload, 1) := by decide +kernel
theorem dX13_object_49 : decode cX13_object 49 = .ok (.ireturn, 1) := by decide +kernel
theorem dX13_bean_0 : decode cX13_bean 0 = .ok (.aload_n 0, 1) := by decide +kernel
theorem dX13_bean_1 : decode cX13_bean 1 = .ok (.iconst 0, 1) := by decide +kernel
theorem dX13_bean_2 : decode cX13_bean 2 = .ok (.putfield 252, 3) := by decide +kernel
theorem dX13_bean_5 : decode cX13_bean 5 = .ok (.iload_n 1, 1) := by decide +kernel
theorem dX13_bean_6 : decode cX13_bean 6 = .ok (.ifCond .lt 18, 3) := by decide +kernel
theorem dX13_bean_9 : decode cX13_bean 9 = .ok (.iload_n 1, 1) := by decide +kernel
theorem dX13_bean_10 : decode cX13_bean 10 = .ok (.aload_n 0, 1) := by decide +kernel
theorem dX13_bean_11 : decode cX13_bean 11 = .ok (.getfield 439, 3) := by decide +kernel
theorem dX13_bean_14 : decode cX13_bean 14 = .ok (.if_icmp .ge 10, 3) := by decide +kernel
theorem dX13_bean_17 : decode cX13_bean 17 = .ok (.aload_n 0, 1) := by decide +kernel
theorem dX13_bean_18 : decode cX13_bean 18 = .ok (.getfield 477, 3) := by decide +kernel
theorem dX13_bean_21 : decode cX13_bean 21 = .ok (.ifCond .ne 5, 3) := by decide +kernel
theorem dX13_bean_24 : decode cX13_bean 24 = .ok (.iconst (-1), 1) := by decide +kernel
theorem dX13_bean_25 : decode cX13_bean 25 = .ok (.ireturn, 1) := by decide +kernel
theorem dX13_bean_26 : decode cX13_bean 26 = .ok (.aload_n 0, 1) := by decide +kernel
theorem dX13_bean_27 : decode cX13_bean 27 = .ok (.getfield 168, 3) := by decide +kernel
theorem dX13_bean_30 : decode cX13_bean 30 = .ok (.iload_n 1, 1) := by decide +kernel
theorem dX13_bean_31 : decode cX13_bean 31 = .ok (.iaload, 1) := by decide +kernel
theorem dX13_bean_32 : decode cX13_bean 32 = .ok (.istore_n 3, 1) := by decide +kernel
theorem dX13_bean_33 : decode cX13_bean 33 = .ok (.iload_n 2, 1) := by decide +kernel
theorem dX13_bean_34 : decode cX13_bean 34 = .ok (.tableswitch 199 0 11 #[62, 68, 74, 81, 88, 97, 106, 115, 129, 153, 177, 192], 62) := by decide +kernel
theorem dX13_bean_96 : decode cX13_bean 96 = .ok (.aload_n 0, 1) := by decide +kernel
theorem dX13_bean_97 : decode cX13_bean 97 = .ok (.iload_n 1, 1) := by decide +kernel
theorem dX13_bean_98 : decode cX13_bean 98 = .ok (.invokevirtual 574, 3) := by decide +kernel
theorem dX13_bean_101 : decode cX13_bean 101 = .ok (.ireturn, 1) := by decide +kernel
theorem dX13_bean_102 : decode cX13_bean 102 = .ok (.aload_n 0, 1) := by decide +kernel
theorem dX13_bean_103 : decode cX13_bean 103 = .ok (.iload_n 1, 1) := by decide +kernel
theorem dX13_bean_104 : decode cX13_bean 104 = .ok (.invokevirtual 557, 3) := by decide +kernel
theorem dX13_bean_107 : decode cX13_bean 107 = .ok (.ireturn, 1) := by decide +kernel
theorem dX13_bean_108 : decode cX13_bean 108 = .ok (.aload_n 0, 1) := by decide +kernel
theorem dX13_bean_109 : decode cX13_bean 109 = .ok (.getfield 174, 3) := by decide +kernel
theorem dX13_bean_112 : decode cX13_bean 112 = .ok (.iload_n 1, 1) := by decide +kernel
theorem dX13_bean_113 : decode cX13_bean 113 = .ok (.iaload, 1) := by decide +kernel
theorem dX13_bean_114 : decode cX13_bean 114 = .ok (.ireturn, 1) := by decide +kernel
theorem dX13_bean_115 : decode cX13_bean 115 = .ok (.aload_n 0, 1) := by decide +kernel
theorem dX13_bean_116 : decode cX13_bean 116 = .ok (.getfield 180, 3) := by decide +kernel
theorem dX13_bean_119 : decode cX13_bean 119 = .ok (.iload_n 1, 1) := by decide +kernel
theorem dX13_bean_120 : decode cX13_bean 120 = .ok (.iaload, 1) := by decide +kernel
theorem dX13_bean_121 : decode cX13_bean 121 = .ok (.ireturn, 1) := by decide +kernel
theorem dX13_bean_122 : decode cX13_bean 122 = .ok (.aload_n 0, 1) := by decide +kernel
theorem dX13_bean_123 : decode cX13_bean 123 = .ok (.iload_n 1, 1) := by decide +kernel
theorem dX13_bean_124 : decode cX13_bean 124 = .ok (.ldc2_w 398, 3) := by decide +kernel
theorem dX13_bean_127 : decode cX13_bean 127 = .ok (.invokevirtual 567, 3) := by decide +kernel
theorem dX13_bean_130 : decode cX13_bean 130 = .ok (.ireturn, 1) := by decide +kernel
theorem dX13_bean_131 : decode cX13_bean 131 = .ok (.aload_n 0, 1) := by decide +kernel
theorem dX13_bean_132 : decode cX13_bean 132 = .ok (.iload_n 1, 1) := by decide +kernel
theorem dX13_bean_133 : decode cX13_bean 133 = .ok (.ldc2_w 400, 3) := by decide +kernel
theorem dX13_bean_136 : decode cX13_bean 136 = .ok (.invokevirtual 567, 3) := by decide +kernel
theorem dX13_bean_139 : decode cX13_bean 139 = .ok (.ireturn, 1) := by decide +kernel
theorem dX13_bean_140 : decode cX13_bean 140 = .ok (.aload_n 0, 1) := by decide +kernel
theorem dX13_bean_141 : decode cX13_bean 141 = .ok (.iload_n 1, 1) := by decide +kernel
theorem dX13_bean_142 : decode cX13_bean 142 = .ok (.ldc2_w 402, 3) := by decide +kernel
theorem dX13_bean_145 : decode cX13_bean 145 = .ok (.invokevirtual 567, 3) := by decide +kernel
theorem dX13_bean_148 : decode cX13_bean 148 = .ok (.ireturn, 1) := by decide +kernel
theorem dX13_bean_149 : decode cX13_bean 149 = .ok (.aload_n 0, 1) := by decide +kernel
theorem dX13_bean_150 : decode cX13_bean 150 = .ok (.iload_n 1, 1) := by decide +kernel
theorem dX13_bean_151 : decode cX13_bean 151 = .ok (.invokevirtual 507, 3) := by decide +kernel
theorem dX13_bean_154 : decode cX13_bean 154 = .ok (.ifCond .eq 7, 3) := by decide +kernel
theorem dX13_bean_157 : decode cX13_bean 157 = .ok (.iconst 1, 1) := by decide +kernel
theorem dX13_bean_158 : decode cX13_bean 158 = .ok (.goto 4, 3) := by decide +kernel
theorem dX13_bean_161 : decode cX13_bean 161 = .ok (.iconst 0, 1) := by decide +kernel
theorem dX13_bean_162 : decode cX13_bean 162 = .ok (.ireturn, 1) := by decide +kernel
theorem dX13_bean_163 : decode cX13_bean 163 = .ok (.aload_n 0, 1) := by decide +kernel
theorem dX13_bean_164 : decode cX13_bean 164 = .ok (.iload_n 3, 1) := by decide +kernel
theorem dX13_bean_165 : decode cX13_bean 165 = .ok (.ldc2_w 392, 3) := by decide +kernel
theorem dX13_bean_168 : decode cX13_bean 168 = .ok (.invokevirtual 359, 3) := by decide +kernel
theorem dX13_bean_171 : decode cX13_bean 171 = .ok (.aload_n 0, 1) := by decide +kernel
theorem dX13_bean_172 : decode cX13_bean 172 = .ok (.getfield 55, 3) := by decide +kernel
theorem dX13_bean_175 : decode cX13_bean 175 = .ok (.iconst 3, 1) := by decide +kernel
theorem dX13_bean_176 : decode cX13_bean 176 = .ok (.laload, 1) := by decide +kernel
theorem dX13_bean_177 : decode cX13_bean 177 = .ok (.lcmp, 1) := by decide +kernel
theorem dX13_bean_178 : decode cX13_bean 178 = .ok (.ifCond .ne 7, 3) := by decide +kernel
theorem dX13_bean_181 : decode cX13_bean 181 = .ok (.iconst 1, 1) := by decide +kernel
theorem dX13_bean_182 : decode cX13_bean 182 = .ok (.goto 4, 3) := by decide +kernel
theorem dX13_bean_185 : decode cX13_bean 185 = .ok (.iconst 0, 1) := by decide +kernel
theorem dX13_bean_186 : decode cX13_bean 186 = .ok (.ireturn, 1) := by decide +kernel
theorem dX13_bean_187 : decode cX13_bean 187 = .ok (.aload_n 0, 1) := by decide +kernel
theorem dX13_bean_188 : decode cX13_bean 188 = .ok (.iload_n 3, 1) := by decide +kernel
theorem dX13_bean_189 : decode cX13_bean 189 = .ok (.ldc2_w 394, 3) := by decide +kernel
theorem dX13_bean_192 : decode cX13_bean 192 = .ok (.invokevirtual 359, 3) := by decide +kernel
theorem dX13_bean_195 : decode cX13_bean 195 = .ok (.aload_n 0, 1) := by decide +kernel
theorem dX13_bean_196 : decode cX13_bean 196 = .ok (.getfield 55, 3) := by decide +kernel
theorem dX13_bean_199 : decode cX13_bean 199 = .ok (.iconst 0, 1) := by decide +kernel
theorem dX13_bean_200 : decode cX13_bean 200 = .ok (.laload, 1) := by decide +kernel
theorem dX13_bean_201 : decode cX13_bean 201 = .ok (.lcmp, 1) := by decide +kernel
theorem dX13_bean_202 : decode cX13_bean 202 = .ok (.ifCond .ne 7, 3) := by decide +kernel
theorem dX13_bean_205 : decode cX13_bean 205 = .ok (.iconst 1, 1) := by decide +kernel
theorem dX13_bean_206 : decode cX13_bean 206 = .ok (.goto 4, 3) := by decide +kernel
theorem dX13_bean_209 : decode cX13_bean 209 = .ok (.iconst 0, 1) := by decide +kernel
theorem dX13_bean_210 : decode cX13_bean 210 = .ok (.ireturn, 1) := by decide +kernel
theorem dX13_bean_211 : decode cX13_bean 211 = .ok (.aload_n 0, 1) := by decide +kernel
theorem dX13_bean_212 : decode cX13_bean 212 = .ok (.getfield 213, 3) := by decide +kernel
theorem dX13_bean_215 : decode cX13_bean 215 = .ok (.iload_n 1, 1) := by decide +kernel
theorem dX13_bean_216 : decode cX13_bean 216 = .ok (.baload, 1) := by decide +kernel
theorem dX13_bean_217 : decode cX13_bean 217 = .ok (.ifCond .eq 7, 3) := by decide +kernel
theorem dX13_bean_220 : decode cX13_bean 220 = .ok (.iconst 1, 1) := by decide +kernel
theorem dX13_bean_221 : decode cX13_bean 221 = .ok (.goto 4, 3) := by decide +kernel
theorem dX13_bean_224 : decode cX13_bean 224 = .ok (.iconst 0, 1) := by decide +kernel
theorem dX13_bean_225 : decode cX13_bean 225 = .ok (.ireturn, 1) := by decide +kernel
theorem dX13_bean_226 : decode cX13_bean 226 = .ok (.aload_n 0, 1) := by decide +kernel
theorem dX13_bean_227 : decode cX13_bean 227 = .ok (.getfield 129, 3) := by decide +kernel
theorem dX13_bean_230 : decode cX13_bean 230 = .ok (.iload_n 3, 1) := by decide +kernel
theorem dX13_bean_231 : decode cX13_bean 231 = .ok (.iaload, 1) := by decide +kernel
theorem dX13_bean_232 : decode cX13_bean 232 = .ok (.ireturn, 1) := by decide +kernel
theorem dX13_bean_233 : decode cX13_bean 233 = .ok (.iconst (-1), 1) := by decide +kernel
theorem dX13_bean_234 : decode cX13_bean 234 = .ok (.ireturn, 1) := by decide +kernel
