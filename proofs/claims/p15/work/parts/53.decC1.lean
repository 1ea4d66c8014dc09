theorem dX5_workOut_0g : decode cX5_workOut 0 = .ok (.aload_n 1, 1) ∧ decode cX5_workOut 1 = .ok (.getfield 205, 3) ∧ decode cX5_workOut 4 = .ok (.getstatic 209, 3) ∧ decode cX5_workOut 7 = .ok (.if_acmp .ne 56, 3) ∧ decode cX5_workOut 10 = .ok (.aload_n 1, 1) ∧ decode cX5_workOut 11 = .ok (.getfield 214, 3) ∧ decode cX5_workOut 14 = .ok (.astore 4, 2) ∧ decode cX5_workOut 16 = .ok (.iconst 0, 1) ∧ decode cX5_workOut 17 = .ok (.istore 5, 2) ∧ decode cX5_workOut 19 = .ok (.iload 5, 2) ∧ decode cX5_workOut 21 = .ok (.bipush 6, 2) ∧ decode cX5_workOut 23 = .ok (.if_icmp .ge 37, 3) ∧ decode cX5_workOut 26 = .ok (.aload 4, 2) ∧ decode cX5_workOut 28 = .ok (.ifnull 32, 3) ∧ decode cX5_workOut 31 = .ok (.aload_n 0, 1) ∧ decode cX5_workOut 32 = .ok (.getfield 40, 3) := by decide +kernel
theorem dX5_workOut_0 : decode cX5_workOut 0 = .ok (.aload_n 1, 1) := dX5_workOut_0g.1
theorem dX5_workOut_1 : decode cX5_workOut 1 = .ok (.getfield 205, 3) := dX5_workOut_0g.2.1
theorem dX5_workOut_4 : decode cX5_workOut 4 = .ok (.getstatic 209, 3) := dX5_workOut_0g.2.2.1
theorem dX5_workOut_7 : decode cX5_workOut 7 = .ok (.if_acmp .ne 56, 3) := dX5_workOut_0g.2.2.2.1
theorem dX5_workOut_10 : decode cX5_workOut 10 = .ok (.aload_n 1, 1) := dX5_workOut_0g.2.2.2.2.1
theorem dX5_workOut_11 : decode cX5_workOut 11 = .ok (.getfield 214, 3) := dX5_workOut_0g.2.2.2.2.2.1
theorem dX5_workOut_14 : decode cX5_workOut 14 = .ok (.astore 4, 2) := dX5_workOut_0g.2.2.2.2.2.2.1
theorem dX5_workOut_16 : decode cX5_workOut 16 = .ok (.iconst 0, 1) := dX5_workOut_0g.2.2.2.2.2.2.2.1
theorem dX5_workOut_17 : decode cX5_workOut 17 = .ok (.istore 5, 2) := dX5_workOut_0g.2.2.2.2.2.2.2.2.1
theorem dX5_workOut_19 : decode cX5_workOut 19 = .ok (.iload 5, 2) := dX5_workOut_0g.2.2.2.2.2.2.2.2.2.1
theorem dX5_workOut_21 : decode cX5_workOut 21 = .ok (.bipush 6, 2) := dX5_workOut_0g.2.2.2.2.2.2.2.2.2.2.1
theorem dX5_workOut_23 : decode cX5_workOut 23 = .ok (.if_icmp .ge 37, 3) := dX5_workOut_0g.2.2.2.2.2.2.2.2.2.2.2.1
theorem dX5_workOut_26 : decode cX5_workOut 26 = .ok (.aload 4, 2) := dX5_workOut_0g.2.2.2.2.2.2.2.2.2.2.2.2.1
theorem dX5_workOut_28 : decode cX5_workOut 28 = .ok (.ifnull 32, 3) := dX5_workOut_0g.2.2.2.2.2.2.2.2.2.2.2.2.2.1
theorem dX5_workOut_31 : decode cX5_workOut 31 = .ok (.aload_n 0, 1) := dX5_workOut_0g.2.2.2.2.2.2.2.2.2.2.2.2.2.2.1
theorem dX5_workOut_32 : decode cX5_workOut 32 = .ok (.getfield 40, 3) := dX5_workOut_0g.2.2.2.2.2.2.2.2.2.2.2.2.2.2.2
theorem dX5_workOut_35g : decode cX5_workOut 35 = .ok (.iload_n 2, 1) ∧ decode cX5_workOut 36 = .ok (.iload 5, 2) ∧ decode cX5_workOut 38 = .ok (.iadd, 1) ∧ decode cX5_workOut 39 = .ok (.aload_n 0, 1) ∧ decode cX5_workOut 40 = .ok (.aload 4, 2) ∧ decode cX5_workOut 42 = .ok (.iload_n 3, 1) ∧ decode cX5_workOut 43 = .ok (.invokevirtual 217, 3) ∧ decode cX5_workOut 46 = .ok (.iastore, 1) ∧ decode cX5_workOut 47 = .ok (.aload 4, 2) ∧ decode cX5_workOut 49 = .ok (.getfield 221, 3) ∧ decode cX5_workOut 52 = .ok (.astore 4, 2) ∧ decode cX5_workOut 54 = .ok (.iinc 5 1, 3) ∧ decode cX5_workOut 57 = .ok (.goto (-38), 3) ∧ decode cX5_workOut 60 = .ok (.goto 35, 3) ∧ decode cX5_workOut 63 = .ok (.aload_n 1, 1) ∧ decode cX5_workOut 64 = .ok (.getfield 205, 3) := by decide +kernel
theorem dX5_workOut_35 : decode cX5_workOut 35 = .ok (.iload_n 2, 1) := dX5_workOut_35g.1
theorem dX5_workOut_36 : decode cX5_workOut 36 = .ok (.iload 5, 2) := dX5_workOut_35g.2.1
theorem dX5_workOut_38 : decode cX5_workOut 38 = .ok (.iadd, 1) := dX5_workOut_35g.2.2.1
theorem dX5_workOut_39 : decode cX5_workOut 39 = .ok (.aload_n 0, 1) := dX5_workOut_35g.2.2.2.1
theorem dX5_workOut_40 : decode cX5_workOut 40 = .ok (.aload 4, 2) := dX5_workOut_35g.2.2.2.2.1
theorem dX5_workOut_42 : decode cX5_workOut 42 = .ok (.iload_n 3, 1) := dX5_workOut_35g.2.2.2.2.2.1
theorem dX5_workOut_43 : decode cX5_workOut 43 = .ok (.invokevirtual 217, 3) := dX5_workOut_35g.2.2.2.2.2.2.1
theorem dX5_workOut_46 : decode cX5_workOut 46 = .ok (.iastore, 1) := dX5_workOut_35g.2.2.2.2.2.2.2.1
theorem dX5_workOut_47 : decode cX5_workOut 47 = .ok (.aload 4, 2) := dX5_workOut_35g.2.2.2.2.2.2.2.2.1
theorem dX5_workOut_49 : decode cX5_workOut 49 = .ok (.getfield 221, 3) := dX5_workOut_35g.2.2.2.2.2.2.2.2.2.1
theorem dX5_workOut_52 : decode cX5_workOut 52 = .ok (.astore 4, 2) := dX5_workOut_35g.2.2.2.2.2.2.2.2.2.2.1
theorem dX5_workOut_54 : decode cX5_workOut 54 = .ok (.iinc 5 1, 3) := dX5_workOut_35g.2.2.2.2.2.2.2.2.2.2.2.1
theorem dX5_workOut_57 : decode cX5_workOut 57 = .ok (.goto (-38), 3) := dX5_workOut_35g.2.2.2.2.2.2.2.2.2.2.2.2.1
theorem dX5_workOut_60 : decode cX5_workOut 60 = .ok (.goto 35, 3) := dX5_workOut_35g.2.2.2.2.2.2.2.2.2.2.2.2.2.1
theorem dX5_workOut_63 : decode cX5_workOut 63 = .ok (.aload_n 1, 1) := dX5_workOut_35g.2.2.2.2.2.2.2.2.2.2.2.2.2.2.1
theorem dX5_workOut_64 : decode cX5_workOut 64 = .ok (.getfield 205, 3) := dX5_workOut_35g.2.2.2.2.2.2.2.2.2.2.2.2.2.2.2
theorem dX5_workOut_67g : decode cX5_workOut 67 = .ok (.getstatic 224, 3) ∧ decode cX5_workOut 70 = .ok (.if_acmp .eq 13, 3) ∧ decode cX5_workOut 73 = .ok (.aload_n 1, 1) ∧ decode cX5_workOut 74 = .ok (.getfield 205, 3) ∧ decode cX5_workOut 77 = .ok (.getstatic 227, 3) ∧ decode cX5_workOut 80 = .ok (.if_acmp .ne 15, 3) ∧ decode cX5_workOut 83 = .ok (.aload_n 0, 1) ∧ decode cX5_workOut 84 = .ok (.getfield 40, 3) ∧ decode cX5_workOut 87 = .ok (.iload_n 2, 1) ∧ decode cX5_workOut 88 = .ok (.aload_n 0, 1) ∧ decode cX5_workOut 89 = .ok (.aload_n 1, 1) ∧ decode cX5_workOut 90 = .ok (.iload_n 3, 1) ∧ decode cX5_workOut 91 = .ok (.invokevirtual 230, 3) ∧ decode cX5_workOut 94 = .ok (.iastore, 1) ∧ decode cX5_workOut 95 = .ok (.return_, 1) := by decide +kernel
theorem dX5_workOut_67 : decode cX5_workOut 67 = .ok (.getstatic 224, 3) := dX5_workOut_67g.1
theorem dX5_workOut_70 : decode cX5_workOut 70 = .ok (.if_acmp .eq 13, 3) := dX5_workOut_67g.2.1
theorem dX5_workOut_73 : decode cX5_workOut 73 = .ok (.aload_n 1, 1) := dX5_workOut_67g.2.2.1
theorem dX5_workOut_74 : decode cX5_workOut 74 = .ok (.getfield 205, 3) := dX5_workOut_67g.2.2.2.1
theorem dX5_workOut_77 : decode cX5_workOut 77 = .ok (.getstatic 227, 3) := dX5_workOut_67g.2.2.2.2.1
theorem dX5_workOut_80 : decode cX5_workOut 80 = .ok (.if_acmp .ne 15, 3) := dX5_workOut_67g.2.2.2.2.2.1
theorem dX5_workOut_83 : decode cX5_workOut 83 = .ok (.aload_n 0, 1) := dX5_workOut_67g.2.2.2.2.2.2.1
theorem dX5_workOut_84 : decode cX5_workOut 84 = .ok (.getfield 40, 3) := dX5_workOut_67g.2.2.2.2.2.2.2.1
theorem dX5_workOut_87 : decode cX5_workOut 87 = .ok (.iload_n 2, 1) := dX5_workOut_67g.2.2.2.2.2.2.2.2.1
theorem dX5_workOut_88 : decode cX5_workOut 88 = .ok (.aload_n 0, 1) := dX5_workOut_67g.2.2.2.2.2.2.2.2.2.1
theorem dX5_workOut_89 : decode cX5_workOut 89 = .ok (.aload_n 1, 1) := dX5_workOut_67g.2.2.2.2.2.2.2.2.2.2.1
theorem dX5_workOut_90 : decode cX5_workOut 90 = .ok (.iload_n 3, 1) := dX5_workOut_67g.2.2.2.2.2.2.2.2.2.2.2.1
theorem dX5_workOut_91 : decode cX5_workOut 91 = .ok (.invokevirtual 230, 3) := dX5_workOut_67g.2.2.2.2.2.2.2.2.2.2.2.2.1
theorem dX5_workOut_94 : decode cX5_workOut 94 = .ok (.iastore, 1) := dX5_workOut_67g.2.2.2.2.2.2.2.2.2.2.2.2.2.1
theorem dX5_workOut_95 : decode cX5_workOut 95 = .ok (.return_, 1) := dX5_workOut_67g.2.2.2.2.2.2.2.2.2.2.2.2.2.2
theorem dX5_itemValue_0g : decode cX5_itemValue 0 = .ok (.aload_n 1, 1) ∧ decode cX5_itemValue 1 = .ok (.getfield 205, 3) ∧ decode cX5_itemValue 4 = .ok (.getstatic 233, 3) ∧ decode cX5_itemValue 7 = .ok (.if_acmp .ne 12, 3) ∧ decode cX5_itemValue 10 = .ok (.sipush 1000, 3) ∧ decode cX5_itemValue 13 = .ok (.aload_n 1, 1) ∧ decode cX5_itemValue 14 = .ok (.getfield 236, 3) ∧ decode cX5_itemValue 17 = .ok (.iadd, 1) ∧ decode cX5_itemValue 18 = .ok (.ireturn, 1) ∧ decode cX5_itemValue 19 = .ok (.aload_n 1, 1) ∧ decode cX5_itemValue 20 = .ok (.getfield 205, 3) ∧ decode cX5_itemValue 23 = .ok (.getstatic 239, 3) ∧ decode cX5_itemValue 26 = .ok (.if_acmp .ne 7, 3) ∧ decode cX5_itemValue 29 = .ok (.iconst (-1), 1) ∧ decode cX5_itemValue 30 = .ok (.goto 13, 3) ∧ decode cX5_itemValue 33 = .ok (.sipush 3000, 3) := by decide +kernel
theorem dX5_itemValue_0 : decode cX5_itemValue 0 = .ok (.aload_n 1, 1) := dX5_itemValue_0g.1
theorem dX5_itemValue_1 : decode cX5_itemValue 1 = .ok (.getfield 205, 3) := dX5_itemValue_0g.2.1
theorem dX5_itemValue_4 : decode cX5_itemValue 4 = .ok (.getstatic 233, 3) := dX5_itemValue_0g.2.2.1
theorem dX5_itemValue_7 : decode cX5_itemValue 7 = .ok (.if_acmp .ne 12, 3) := dX5_itemValue_0g.2.2.2.1
theorem dX5_itemValue_10 : decode cX5_itemValue 10 = .ok (.sipush 1000, 3) := dX5_itemValue_0g.2.2.2.2.1
theorem dX5_itemValue_13 : decode cX5_itemValue 13 = .ok (.aload_n 1, 1) := dX5_itemValue_0g.2.2.2.2.2.1
theorem dX5_itemValue_14 : decode cX5_itemValue 14 = .ok (.getfield 236, 3) := dX5_itemValue_0g.2.2.2.2.2.2.1
theorem dX5_itemValue_17 : decode cX5_itemValue 17 = .ok (.iadd, 1) := dX5_itemValue_0g.2.2.2.2.2.2.2.1
theorem dX5_itemValue_18 : decode cX5_itemValue 18 = .ok (.ireturn, 1) := dX5_itemValue_0g.2.2.2.2.2.2.2.2.1
theorem dX5_itemValue_19 : decode cX5_itemValue 19 = .ok (.aload_n 1, 1) := dX5_itemValue_0g.2.2.2.2.2.2.2.2.2.1
theorem dX5_itemValue_20 : decode cX5_itemValue 20 = .ok (.getfield 205, 3) := dX5_itemValue_0g.2.2.2.2.2.2.2.2.2.2.1
theorem dX5_itemValue_23 : decode cX5_itemValue 23 = .ok (.getstatic 239, 3) := dX5_itemValue_0g.2.2.2.2.2.2.2.2.2.2.2.1
theorem dX5_itemValue_26 : decode cX5_itemValue 26 = .ok (.if_acmp .ne 7, 3) := dX5_itemValue_0g.2.2.2.2.2.2.2.2.2.2.2.2.1
theorem dX5_itemValue_29 : decode cX5_itemValue 29 = .ok (.iconst (-1), 1) := dX5_itemValue_0g.2.2.2.2.2.2.2.2.2.2.2.2.2.1
theorem dX5_itemValue_30 : decode cX5_itemValue 30 = .ok (.goto 13, 3) := dX5_itemValue_0g.2.2.2.2.2.2.2.2.2.2.2.2.2.2.1
theorem dX5_itemValue_33 : decode cX5_itemValue 33 = .ok (.sipush 3000, 3) := dX5_itemValue_0g.2.2.2.2.2.2.2.2.2.2.2.2.2.2.2
theorem dX5_itemValue_36g : decode cX5_itemValue 36 = .ok (.aload_n 0, 1) ∧ decode cX5_itemValue 37 = .ok (.aload_n 1, 1) ∧ decode cX5_itemValue 38 = .ok (.iload_n 2, 1) ∧ decode cX5_itemValue 39 = .ok (.invokevirtual 230, 3) ∧ decode cX5_itemValue 42 = .ok (.iadd, 1) ∧ decode cX5_itemValue 43 = .ok (.ireturn, 1) := by decide +kernel
theorem dX5_itemValue_36 : decode cX5_itemValue 36 = .ok (.aload_n 0, 1) := dX5_itemValue_36g.1
theorem dX5_itemValue_37 : decode cX5_itemValue 37 = .ok (.aload_n 1, 1) := dX5_itemValue_36g.2.1
theorem dX5_itemValue_38 : decode cX5_itemValue 38 = .ok (.iload_n 2, 1) := dX5_itemValue_36g.2.2.1
theorem dX5_itemValue_39 : decode cX5_itemValue 39 = .ok (.invokevirtual 230, 3) := dX5_itemValue_36g.2.2.2.1
theorem dX5_itemValue_42 : decode cX5_itemValue 42 = .ok (.iadd, 1) := dX5_itemValue_36g.2.2.2.2.1
theorem dX5_itemValue_43 : decode cX5_itemValue 43 = .ok (.ireturn, 1) := dX5_itemValue_36g.2.2.2.2.2
theorem dX5_objectOf_0g : decode cX5_objectOf 0 = .ok (.aload_n 1, 1) ∧ decode cX5_objectOf 1 = .ok (.getfield 242, 3) ∧ decode cX5_objectOf 4 = .ok (.ifnonnull 17, 3) ∧ decode cX5_objectOf 7 = .ok (.aload_n 0, 1) ∧ decode cX5_objectOf 8 = .ok (.aload_n 1, 1) ∧ decode cX5_objectOf 9 = .ok (.getfield 245, 3) ∧ decode cX5_objectOf 12 = .ok (.iload_n 2, 1) ∧ decode cX5_objectOf 13 = .ok (.iconst 1, 1) ∧ decode cX5_objectOf 14 = .ok (.iadd, 1) ∧ decode cX5_objectOf 15 = .ok (.invokevirtual 99, 3) ∧ decode cX5_objectOf 18 = .ok (.goto 14, 3) ∧ decode cX5_objectOf 21 = .ok (.aload_n 0, 1) ∧ decode cX5_objectOf 22 = .ok (.aload_n 1, 1) ∧ decode cX5_objectOf 23 = .ok (.getfield 242, 3) ∧ decode cX5_objectOf 26 = .ok (.iload_n 2, 1) ∧ decode cX5_objectOf 27 = .ok (.iconst 1, 1) := by decide +kernel
theorem dX5_objectOf_0 : decode cX5_objectOf 0 = .ok (.aload_n 1, 1) := dX5_objectOf_0g.1
theorem dX5_objectOf_1 : decode cX5_objectOf 1 = .ok (.getfield 242, 3) := dX5_objectOf_0g.2.1
theorem dX5_objectOf_4 : decode cX5_objectOf 4 = .ok (.ifnonnull 17, 3) := dX5_objectOf_0g.2.2.1
theorem dX5_objectOf_7 : decode cX5_objectOf 7 = .ok (.aload_n 0, 1) := dX5_objectOf_0g.2.2.2.1
theorem dX5_objectOf_8 : decode cX5_objectOf 8 = .ok (.aload_n 1, 1) := dX5_objectOf_0g.2.2.2.2.1
theorem dX5_objectOf_9 : decode cX5_objectOf 9 = .ok (.getfield 245, 3) := dX5_objectOf_0g.2.2.2.2.2.1
theorem dX5_objectOf_12 : decode cX5_objectOf 12 = .ok (.iload_n 2, 1) := dX5_objectOf_0g.2.2.2.2.2.2.1
theorem dX5_objectOf_13 : decode cX5_objectOf 13 = .ok (.iconst 1, 1) := dX5_objectOf_0g.2.2.2.2.2.2.2.1
theorem dX5_objectOf_14 : decode cX5_objectOf 14 = .ok (.iadd, 1) := dX5_objectOf_0g.2.2.2.2.2.2.2.2.1
theorem dX5_objectOf_15 : decode cX5_objectOf 15 = .ok (.invokevirtual 99, 3) := dX5_objectOf_0g.2.2.2.2.2.2.2.2.2.1
theorem dX5_objectOf_18 : decode cX5_objectOf 18 = .ok (.goto 14, 3) := dX5_objectOf_0g.2.2.2.2.2.2.2.2.2.2.1
theorem dX5_objectOf_21 : decode cX5_objectOf 21 = .ok (.aload_n 0, 1) := dX5_objectOf_0g.2.2.2.2.2.2.2.2.2.2.2.1
theorem dX5_objectOf_22 : decode cX5_objectOf 22 = .ok (.aload_n 1, 1) := dX5_objectOf_0g.2.2.2.2.2.2.2.2.2.2.2.2.1
theorem dX5_objectOf_23 : decode cX5_objectOf 23 = .ok (.getfield 242, 3) := dX5_objectOf_0g.2.2.2.2.2.2.2.2.2.2.2.2.2.1
theorem dX5_objectOf_26 : decode cX5_objectOf 26 = .ok (.iload_n 2, 1) := dX5_objectOf_0g.2.2.2.2.2.2.2.2.2.2.2.2.2.2.1
theorem dX5_objectOf_27 : decode cX5_objectOf 27 = .ok (.iconst 1, 1) := dX5_objectOf_0g.2.2.2.2.2.2.2.2.2.2.2.2.2.2.2
theorem dX5_objectOf_28g : decode cX5_objectOf 28 = .ok (.iadd, 1) ∧ decode cX5_objectOf 29 = .ok (.invokevirtual 143, 3) ∧ decode cX5_objectOf 32 = .ok (.ireturn, 1) := by decide +kernel
theorem dX5_objectOf_28 : decode cX5_objectOf 28 = .ok (.iadd, 1) := dX5_objectOf_28g.1
theorem dX5_objectOf_29 : decode cX5_objectOf 29 = .ok (.invokevirtual 143, 3) := dX5_objectOf_28g.2.1
theorem dX5_objectOf_32 : decode cX5_objectOf 32 = .ok (.ireturn, 1) := dX5_objectOf_28g.2.2
theorem dX5_chooseFor_0g : decode cX5_chooseFor 0 = .ok (.aload_n 0, 1) ∧ decode cX5_chooseFor 1 = .ok (.getfield 17, 3) ∧ decode cX5_chooseFor 4 = .ok (.iload_n 2, 1) ∧ decode cX5_chooseFor 5 = .ok (.iconst (-1), 1) ∧ decode cX5_chooseFor 6 = .ok (.if_icmp .ne 10, 3) ∧ decode cX5_chooseFor 9 = .ok (.aload_n 1, 1) ∧ decode cX5_chooseFor 10 = .ok (.getfield 150, 3) ∧ decode cX5_chooseFor 13 = .ok (.goto 9, 3) ∧ decode cX5_chooseFor 16 = .ok (.aload_n 0, 1) ∧ decode cX5_chooseFor 17 = .ok (.getfield 25, 3) ∧ decode cX5_chooseFor 20 = .ok (.iload_n 2, 1) ∧ decode cX5_chooseFor 21 = .ok (.iaload, 1) ∧ decode cX5_chooseFor 22 = .ok (.aaload, 1) ∧ decode cX5_chooseFor 23 = .ok (.astore 4, 2) ∧ decode cX5_chooseFor 25 = .ok (.aload_n 1, 1) ∧ decode cX5_chooseFor 26 = .ok (.getfield 248, 3) := by decide +kernel
theorem dX5_chooseFor_0 : decode cX5_chooseFor 0 = .ok (.aload_n 0, 1) := dX5_chooseFor_0g.1
theorem dX5_chooseFor_1 : decode cX5_chooseFor 1 = .ok (.getfield 17, 3) := dX5_chooseFor_0g.2.1
theorem dX5_chooseFor_4 : decode cX5_chooseFor 4 = .ok (.iload_n 2, 1) := dX5_chooseFor_0g.2.2.1
theorem dX5_chooseFor_5 : decode cX5_chooseFor 5 = .ok (.iconst (-1), 1) := dX5_chooseFor_0g.2.2.2.1
theorem dX5_chooseFor_6 : decode cX5_chooseFor 6 = .ok (.if_icmp .ne 10, 3) := dX5_chooseFor_0g.2.2.2.2.1
theorem dX5_chooseFor_9 : decode cX5_chooseFor 9 = .ok (.aload_n 1, 1) := dX5_chooseFor_0g.2.2.2.2.2.1
theorem dX5_chooseFor_10 : decode cX5_chooseFor 10 = .ok (.getfield 150, 3) := dX5_chooseFor_0g.2.2.2.2.2.2.1
theorem dX5_chooseFor_13 : decode cX5_chooseFor 13 = .ok (.goto 9, 3) := dX5_chooseFor_0g.2.2.2.2.2.2.2.1
theorem dX5_chooseFor_16 : decode cX5_chooseFor 16 = .ok (.aload_n 0, 1) := dX5_chooseFor_0g.2.2.2.2.2.2.2.2.1
theorem dX5_chooseFor_17 : decode cX5_chooseFor 17 = .ok (.getfield 25, 3) := dX5_chooseFor_0g.2.2.2.2.2.2.2.2.2.1
theorem dX5_chooseFor_20 : decode cX5_chooseFor 20 = .ok (.iload_n 2, 1) := dX5_chooseFor_0g.2.2.2.2.2.2.2.2.2.2.1
theorem dX5_chooseFor_21 : decode cX5_chooseFor 21 = .ok (.iaload, 1) := dX5_chooseFor_0g.2.2.2.2.2.2.2.2.2.2.2.1
theorem dX5_chooseFor_22 : decode cX5_chooseFor 22 = .ok (.aaload, 1) := dX5_chooseFor_0g.2.2.2.2.2.2.2.2.2.2.2.2.1
theorem dX5_chooseFor_23 : decode cX5_chooseFor 23 = .ok (.astore 4, 2) := dX5_chooseFor_0g.2.2.2.2.2.2.2.2.2.2.2.2.2.1
theorem dX5_chooseFor_25 : decode cX5_chooseFor 25 = .ok (.aload_n 1, 1) := dX5_chooseFor_0g.2.2.2.2.2.2.2.2.2.2.2.2.2.2.1
theorem dX5_chooseFor_26 : decode cX5_chooseFor 26 = .ok (.getfield 248, 3) := dX5_chooseFor_0g.2.2.2.2.2.2.2.2.2.2.2.2.2.2.2
theorem dX5_chooseFor_29g : decode cX5_chooseFor 29 = .ok (.iconst (-1), 1) ∧ decode cX5_chooseFor 30 = .ok (.if_icmp .eq 12, 3) ∧ decode cX5_chooseFor 33 = .ok (.iload_n 2, 1) ∧ decode cX5_chooseFor 34 = .ok (.iconst (-1), 1) ∧ decode cX5_chooseFor 35 = .ok (.if_icmp .ne 7, 3) ∧ decode cX5_chooseFor 38 = .ok (.iconst 1, 1) ∧ decode cX5_chooseFor 39 = .ok (.goto 4, 3) ∧ decode cX5_chooseFor 42 = .ok (.iconst 0, 1) ∧ decode cX5_chooseFor 43 = .ok (.istore 5, 2) ∧ decode cX5_chooseFor 45 = .ok (.aload 4, 2) ∧ decode cX5_chooseFor 47 = .ok (.getfield 251, 3) ∧ decode cX5_chooseFor 50 = .ok (.astore 6, 2) ∧ decode cX5_chooseFor 52 = .ok (.aload 4, 2) ∧ decode cX5_chooseFor 54 = .ok (.getfield 257, 3) ∧ decode cX5_chooseFor 57 = .ok (.istore 7, 2) ∧ decode cX5_chooseFor 59 = .ok (.aload_n 1, 1) := by decide +kernel
theorem dX5_chooseFor_29 : decode cX5_chooseFor 29 = .ok (.iconst (-1), 1) := dX5_chooseFor_29g.1
theorem dX5_chooseFor_30 : decode cX5_chooseFor 30 = .ok (.if_icmp .eq 12, 3) := dX5_chooseFor_29g.2.1
theorem dX5_chooseFor_33 : decode cX5_chooseFor 33 = .ok (.iload_n 2, 1) := dX5_chooseFor_29g.2.2.1
theorem dX5_chooseFor_34 : decode cX5_chooseFor 34 = .ok (.iconst (-1), 1) := dX5_chooseFor_29g.2.2.2.1
theorem dX5_chooseFor_35 : decode cX5_chooseFor 35 = .ok (.if_icmp .ne 7, 3) := dX5_chooseFor_29g.2.2.2.2.1
theorem dX5_chooseFor_38 : decode cX5_chooseFor 38 = .ok (.iconst 1, 1) := dX5_chooseFor_29g.2.2.2.2.2.1
theorem dX5_chooseFor_39 : decode cX5_chooseFor 39 = .ok (.goto 4, 3) := dX5_chooseFor_29g.2.2.2.2.2.2.1
theorem dX5_chooseFor_42 : decode cX5_chooseFor 42 = .ok (.iconst 0, 1) := dX5_chooseFor_29g.2.2.2.2.2.2.2.1
theorem dX5_chooseFor_43 : decode cX5_chooseFor 43 = .ok (.istore 5, 2) := dX5_chooseFor_29g.2.2.2.2.2.2.2.2.1
theorem dX5_chooseFor_45 : decode cX5_chooseFor 45 = .ok (.aload 4, 2) := dX5_chooseFor_29g.2.2.2.2.2.2.2.2.2.1
theorem dX5_chooseFor_47 : decode cX5_chooseFor 47 = .ok (.getfield 251, 3) := dX5_chooseFor_29g.2.2.2.2.2.2.2.2.2.2.1
theorem dX5_chooseFor_50 : decode cX5_chooseFor 50 = .ok (.astore 6, 2) := dX5_chooseFor_29g.2.2.2.2.2.2.2.2.2.2.2.1
theorem dX5_chooseFor_52 : decode cX5_chooseFor 52 = .ok (.aload 4, 2) := dX5_chooseFor_29g.2.2.2.2.2.2.2.2.2.2.2.2.1
theorem dX5_chooseFor_54 : decode cX5_chooseFor 54 = .ok (.getfield 257, 3) := dX5_chooseFor_29g.2.2.2.2.2.2.2.2.2.2.2.2.2.1
theorem dX5_chooseFor_57 : decode cX5_chooseFor 57 = .ok (.istore 7, 2) := dX5_chooseFor_29g.2.2.2.2.2.2.2.2.2.2.2.2.2.2.1
theorem dX5_chooseFor_59 : decode cX5_chooseFor 59 = .ok (.aload_n 1, 1) := dX5_chooseFor_29g.2.2.2.2.2.2.2.2.2.2.2.2.2.2.2
theorem dX5_chooseFor_60g : decode cX5_chooseFor 60 = .ok (.getfield 248, 3) ∧ decode cX5_chooseFor 63 = .ok (.iconst (-1), 1) ∧ decode cX5_chooseFor 64 = .ok (.if_icmp .eq 48, 3) ∧ decode cX5_chooseFor 67 = .ok (.aload 4, 2) ∧ decode cX5_chooseFor 69 = .ok (.aload_n 1, 1) ∧ decode cX5_chooseFor 70 = .ok (.getfield 248, 3) ∧ decode cX5_chooseFor 73 = .ok (.iload 5, 2) ∧ decode cX5_chooseFor 75 = .ok (.invokevirtual 260, 3) ∧ decode cX5_chooseFor 78 = .ok (.astore 8, 2) ∧ decode cX5_chooseFor 80 = .ok (.aload 8, 2) ∧ decode cX5_chooseFor 82 = .ok (.ifnonnull 7, 3) ∧ decode cX5_chooseFor 85 = .ok (.aconst_null, 1) ∧ decode cX5_chooseFor 86 = .ok (.goto 8, 3) ∧ decode cX5_chooseFor 89 = .ok (.aload 8, 2) ∧ decode cX5_chooseFor 91 = .ok (.getfield 264, 3) ∧ decode cX5_chooseFor 94 = .ok (.astore 6, 2) := by decide +kernel
theorem dX5_chooseFor_60 : decode cX5_chooseFor 60 = .ok (.getfield 248, 3) := dX5_chooseFor_60g.1
theorem dX5_chooseFor_63 : decode cX5_chooseFor 63 = .ok (.iconst (-1), 1) := dX5_chooseFor_60g.2.1
theorem dX5_chooseFor_64 : decode cX5_chooseFor 64 = .ok (.if_icmp .eq 48, 3) := dX5_chooseFor_60g.2.2.1
theorem dX5_chooseFor_67 : decode cX5_chooseFor 67 = .ok (.aload 4, 2) := dX5_chooseFor_60g.2.2.2.1
theorem dX5_chooseFor_69 : decode cX5_chooseFor 69 = .ok (.aload_n 1, 1) := dX5_chooseFor_60g.2.2.2.2.1
theorem dX5_chooseFor_70 : decode cX5_chooseFor 70 = .ok (.getfield 248, 3) := dX5_chooseFor_60g.2.2.2.2.2.1
theorem dX5_chooseFor_73 : decode cX5_chooseFor 73 = .ok (.iload 5, 2) := dX5_chooseFor_60g.2.2.2.2.2.2.1
theorem dX5_chooseFor_75 : decode cX5_chooseFor 75 = .ok (.invokevirtual 260, 3) := dX5_chooseFor_60g.2.2.2.2.2.2.2.1
theorem dX5_chooseFor_78 : decode cX5_chooseFor 78 = .ok (.astore 8, 2) := dX5_chooseFor_60g.2.2.2.2.2.2.2.2.1
theorem dX5_chooseFor_80 : decode cX5_chooseFor 80 = .ok (.aload 8, 2) := dX5_chooseFor_60g.2.2.2.2.2.2.2.2.2.1
theorem dX5_chooseFor_82 : decode cX5_chooseFor 82 = .ok (.ifnonnull 7, 3) := dX5_chooseFor_60g.2.2.2.2.2.2.2.2.2.2.1
theorem dX5_chooseFor_85 : decode cX5_chooseFor 85 = .ok (.aconst_null, 1) := dX5_chooseFor_60g.2.2.2.2.2.2.2.2.2.2.2.1
theorem dX5_chooseFor_86 : decode cX5_chooseFor 86 = .ok (.goto 8, 3) := dX5_chooseFor_60g.2.2.2.2.2.2.2.2.2.2.2.2.1
theorem dX5_chooseFor_89 : decode cX5_chooseFor 89 = .ok (.aload 8, 2) := dX5_chooseFor_60g.2.2.2.2.2.2.2.2.2.2.2.2.2.1
theorem dX5_chooseFor_91 : decode cX5_chooseFor 91 = .ok (.getfield 264, 3) := dX5_chooseFor_60g.2.2.2.2.2.2.2.2.2.2.2.2.2.2.1
theorem dX5_chooseFor_94 : decode cX5_chooseFor 94 = .ok (.astore 6, 2) := dX5_chooseFor_60g.2.2.2.2.2.2.2.2.2.2.2.2.2.2.2
theorem dX5_chooseFor_96g : decode cX5_chooseFor 96 = .ok (.aload 8, 2) ∧ decode cX5_chooseFor 98 = .ok (.ifnonnull 7, 3) ∧ decode cX5_chooseFor 101 = .ok (.iconst 0, 1) ∧ decode cX5_chooseFor 102 = .ok (.goto 8, 3) ∧ decode cX5_chooseFor 105 = .ok (.aload 8, 2) ∧ decode cX5_chooseFor 107 = .ok (.getfield 267, 3) ∧ decode cX5_chooseFor 110 = .ok (.istore 7, 2) ∧ decode cX5_chooseFor 112 = .ok (.aconst_null, 1) ∧ decode cX5_chooseFor 113 = .ok (.astore 8, 2) ∧ decode cX5_chooseFor 115 = .ok (.iconst 0, 1) ∧ decode cX5_chooseFor 116 = .ok (.istore 9, 2) ∧ decode cX5_chooseFor 118 = .ok (.aload_n 0, 1) ∧ decode cX5_chooseFor 119 = .ok (.aload_n 1, 1) ∧ decode cX5_chooseFor 120 = .ok (.invokevirtual 270, 3) ∧ decode cX5_chooseFor 123 = .ok (.istore 10, 2) ∧ decode cX5_chooseFor 125 = .ok (.iconst 0, 1) := by decide +kernel
theorem dX5_chooseFor_96 : decode cX5_chooseFor 96 = .ok (.aload 8, 2) := dX5_chooseFor_96g.1
theorem dX5_chooseFor_98 : decode cX5_chooseFor 98 = .ok (.ifnonnull 7, 3) := dX5_chooseFor_96g.2.1
theorem dX5_chooseFor_101 : decode cX5_chooseFor 101 = .ok (.iconst 0, 1) := dX5_chooseFor_96g.2.2.1
theorem dX5_chooseFor_102 : decode cX5_chooseFor 102 = .ok (.goto 8, 3) := dX5_chooseFor_96g.2.2.2.1
theorem dX5_chooseFor_105 : decode cX5_chooseFor 105 = .ok (.aload 8, 2) := dX5_chooseFor_96g.2.2.2.2.1
theorem dX5_chooseFor_107 : decode cX5_chooseFor 107 = .ok (.getfield 267, 3) := dX5_chooseFor_96g.2.2.2.2.2.1
theorem dX5_chooseFor_110 : decode cX5_chooseFor 110 = .ok (.istore 7, 2) := dX5_chooseFor_96g.2.2.2.2.2.2.1
theorem dX5_chooseFor_112 : decode cX5_chooseFor 112 = .ok (.aconst_null, 1) := dX5_chooseFor_96g.2.2.2.2.2.2.2.1
theorem dX5_chooseFor_113 : decode cX5_chooseFor 113 = .ok (.astore 8, 2) := dX5_chooseFor_96g.2.2.2.2.2.2.2.2.1
theorem dX5_chooseFor_115 : decode cX5_chooseFor 115 = .ok (.iconst 0, 1) := dX5_chooseFor_96g.2.2.2.2.2.2.2.2.2.1
theorem dX5_chooseFor_116 : decode cX5_chooseFor 116 = .ok (.istore 9, 2) := dX5_chooseFor_96g.2.2.2.2.2.2.2.2.2.2.1
theorem dX5_chooseFor_118 : decode cX5_chooseFor 118 = .ok (.aload_n 0, 1) := dX5_chooseFor_96g.2.2.2.2.2.2.2.2.2.2.2.1
theorem dX5_chooseFor_119 : decode cX5_chooseFor 119 = .ok (.aload_n 1, 1) := dX5_chooseFor_96g.2.2.2.2.2.2.2.2.2.2.2.2.1
theorem dX5_chooseFor_120 : decode cX5_chooseFor 120 = .ok (.invokevirtual 270, 3) := dX5_chooseFor_96g.2.2.2.2.2.2.2.2.2.2.2.2.2.1
theorem dX5_chooseFor_123 : decode cX5_chooseFor 123 = .ok (.istore 10, 2) := dX5_chooseFor_96g.2.2.2.2.2.2.2.2.2.2.2.2.2.2.1
theorem dX5_chooseFor_125 : decode cX5_chooseFor 125 = .ok (.iconst 0, 1) := dX5_chooseFor_96g.2.2.2.2.2.2.2.2.2.2.2.2.2.2.2
theorem dX5_chooseFor_126g : decode cX5_chooseFor 126 = .ok (.istore 11, 2) ∧ decode cX5_chooseFor 128 = .ok (.iload 10, 2) ∧ decode cX5_chooseFor 130 = .ok (.ifCond .eq 79, 3) ∧ decode cX5_chooseFor 133 = .ok (.iload 11, 2) ∧ decode cX5_chooseFor 135 = .ok (.iload 7, 2) ∧ decode cX5_chooseFor 137 = .ok (.if_icmp .ge 72, 3) ∧ decode cX5_chooseFor 140 = .ok (.aload 6, 2) ∧ decode cX5_chooseFor 142 = .ok (.iload 11, 2) ∧ decode cX5_chooseFor 144 = .ok (.aaload, 1) ∧ decode cX5_chooseFor 145 = .ok (.aload_n 1, 1) ∧ decode cX5_chooseFor 146 = .ok (.getfield 248, 3) ∧ decode cX5_chooseFor 149 = .ok (.iload 5, 2) ∧ decode cX5_chooseFor 151 = .ok (.invokevirtual 274, 3) ∧ decode cX5_chooseFor 154 = .ok (.ifCond .eq 17, 3) ∧ decode cX5_chooseFor 157 = .ok (.aload_n 0, 1) ∧ decode cX5_chooseFor 158 = .ok (.aload_n 1, 1) := by decide +kernel
theorem dX5_chooseFor_126 : decode cX5_chooseFor 126 = .ok (.istore 11, 2) := dX5_chooseFor_126g.1
theorem dX5_chooseFor_128 : decode cX5_chooseFor 128 = .ok (.iload 10, 2) := dX5_chooseFor_126g.2.1
theorem dX5_chooseFor_130 : decode cX5_chooseFor 130 = .ok (.ifCond .eq 79, 3) := dX5_chooseFor_126g.2.2.1
theorem dX5_chooseFor_133 : decode cX5_chooseFor 133 = .ok (.iload 11, 2) := dX5_chooseFor_126g.2.2.2.1
theorem dX5_chooseFor_135 : decode cX5_chooseFor 135 = .ok (.iload 7, 2) := dX5_chooseFor_126g.2.2.2.2.1
theorem dX5_chooseFor_137 : decode cX5_chooseFor 137 = .ok (.if_icmp .ge 72, 3) := dX5_chooseFor_126g.2.2.2.2.2.1
theorem dX5_chooseFor_140 : decode cX5_chooseFor 140 = .ok (.aload 6, 2) := dX5_chooseFor_126g.2.2.2.2.2.2.1
theorem dX5_chooseFor_142 : decode cX5_chooseFor 142 = .ok (.iload 11, 2) := dX5_chooseFor_126g.2.2.2.2.2.2.2.1
theorem dX5_chooseFor_144 : decode cX5_chooseFor 144 = .ok (.aaload, 1) := dX5_chooseFor_126g.2.2.2.2.2.2.2.2.1
theorem dX5_chooseFor_145 : decode cX5_chooseFor 145 = .ok (.aload_n 1, 1) := dX5_chooseFor_126g.2.2.2.2.2.2.2.2.2.1
theorem dX5_chooseFor_146 : decode cX5_chooseFor 146 = .ok (.getfield 248, 3) := dX5_chooseFor_126g.2.2.2.2.2.2.2.2.2.2.1
theorem dX5_chooseFor_149 : decode cX5_chooseFor 149 = .ok (.iload 5, 2) := dX5_chooseFor_126g.2.2.2.2.2.2.2.2.2.2.2.1
theorem dX5_chooseFor_151 : decode cX5_chooseFor 151 = .ok (.invokevirtual 274, 3) := dX5_chooseFor_126g.2.2.2.2.2.2.2.2.2.2.2.2.1
theorem dX5_chooseFor_154 : decode cX5_chooseFor 154 = .ok (.ifCond .eq 17, 3) := dX5_chooseFor_126g.2.2.2.2.2.2.2.2.2.2.2.2.2.1
theorem dX5_chooseFor_157 : decode cX5_chooseFor 157 = .ok (.aload_n 0, 1) := dX5_chooseFor_126g.2.2.2.2.2.2.2.2.2.2.2.2.2.2.1
theorem dX5_chooseFor_158 : decode cX5_chooseFor 158 = .ok (.aload_n 1, 1) := dX5_chooseFor_126g.2.2.2.2.2.2.2.2.2.2.2.2.2.2.2
theorem dX5_chooseFor_159g : decode cX5_chooseFor 159 = .ok (.aload 6, 2) ∧ decode cX5_chooseFor 161 = .ok (.iload 11, 2) ∧ decode cX5_chooseFor 163 = .ok (.aaload, 1) ∧ decode cX5_chooseFor 164 = .ok (.iload_n 3, 1) ∧ decode cX5_chooseFor 165 = .ok (.invokevirtual 280, 3) ∧ decode cX5_chooseFor 168 = .ok (.goto 4, 3) ∧ decode cX5_chooseFor 171 = .ok (.iconst (-1), 1) ∧ decode cX5_chooseFor 172 = .ok (.istore 12, 2) ∧ decode cX5_chooseFor 174 = .ok (.iload 12, 2) ∧ decode cX5_chooseFor 176 = .ok (.iconst (-1), 1) ∧ decode cX5_chooseFor 177 = .ok (.if_icmp .eq 26, 3) ∧ decode cX5_chooseFor 180 = .ok (.aload 8, 2) ∧ decode cX5_chooseFor 182 = .ok (.ifnull 10, 3) ∧ decode cX5_chooseFor 185 = .ok (.iload 12, 2) ∧ decode cX5_chooseFor 187 = .ok (.iload 9, 2) ∧ decode cX5_chooseFor 189 = .ok (.if_icmp .ge 14, 3) := by decide +kernel
theorem dX5_chooseFor_159 : decode cX5_chooseFor 159 = .ok (.aload 6, 2) := dX5_chooseFor_159g.1
theorem dX5_chooseFor_161 : decode cX5_chooseFor 161 = .ok (.iload 11, 2) := dX5_chooseFor_159g.2.1
theorem dX5_chooseFor_163 : decode cX5_chooseFor 163 = .ok (.aaload, 1) := dX5_chooseFor_159g.2.2.1
theorem dX5_chooseFor_164 : decode cX5_chooseFor 164 = .ok (.iload_n 3, 1) := dX5_chooseFor_159g.2.2.2.1
theorem dX5_chooseFor_165 : decode cX5_chooseFor 165 = .ok (.invokevirtual 280, 3) := dX5_chooseFor_159g.2.2.2.2.1
theorem dX5_chooseFor_168 : decode cX5_chooseFor 168 = .ok (.goto 4, 3) := dX5_chooseFor_159g.2.2.2.2.2.1
theorem dX5_chooseFor_171 : decode cX5_chooseFor 171 = .ok (.iconst (-1), 1) := dX5_chooseFor_159g.2.2.2.2.2.2.1
theorem dX5_chooseFor_172 : decode cX5_chooseFor 172 = .ok (.istore 12, 2) := dX5_chooseFor_159g.2.2.2.2.2.2.2.1
theorem dX5_chooseFor_174 : decode cX5_chooseFor 174 = .ok (.iload 12, 2) := dX5_chooseFor_159g.2.2.2.2.2.2.2.2.1
theorem dX5_chooseFor_176 : decode cX5_chooseFor 176 = .ok (.iconst (-1), 1) := dX5_chooseFor_159g.2.2.2.2.2.2.2.2.2.1
theorem dX5_chooseFor_177 : decode cX5_chooseFor 177 = .ok (.if_icmp .eq 26, 3) := dX5_chooseFor_159g.2.2.2.2.2.2.2.2.2.2.1
theorem dX5_chooseFor_180 : decode cX5_chooseFor 180 = .ok (.aload 8, 2) := dX5_chooseFor_159g.2.2.2.2.2.2.2.2.2.2.2.1
theorem dX5_chooseFor_182 : decode cX5_chooseFor 182 = .ok (.ifnull 10, 3) := dX5_chooseFor_159g.2.2.2.2.2.2.2.2.2.2.2.2.1
theorem dX5_chooseFor_185 : decode cX5_chooseFor 185 = .ok (.iload 12, 2) := dX5_chooseFor_159g.2.2.2.2.2.2.2.2.2.2.2.2.2.1
theorem dX5_chooseFor_187 : decode cX5_chooseFor 187 = .ok (.iload 9, 2) := dX5_chooseFor_159g.2.2.2.2.2.2.2.2.2.2.2.2.2.2.1
theorem dX5_chooseFor_189 : decode cX5_chooseFor 189 = .ok (.if_icmp .ge 14, 3) := dX5_chooseFor_159g.2.2.2.2.2.2.2.2.2.2.2.2.2.2.2
theorem dX5_chooseFor_192g : decode cX5_chooseFor 192 = .ok (.aload 6, 2) ∧ decode cX5_chooseFor 194 = .ok (.iload 11, 2) ∧ decode cX5_chooseFor 196 = .ok (.aaload, 1) ∧ decode cX5_chooseFor 197 = .ok (.astore 8, 2) ∧ decode cX5_chooseFor 199 = .ok (.iload 12, 2) ∧ decode cX5_chooseFor 201 = .ok (.istore 9, 2) ∧ decode cX5_chooseFor 203 = .ok (.iinc 11 1, 3) ∧ decode cX5_chooseFor 206 = .ok (.goto (-78), 3) ∧ decode cX5_chooseFor 209 = .ok (.aload 8, 2) ∧ decode cX5_chooseFor 211 = .ok (.ifnonnull 9, 3) ∧ decode cX5_chooseFor 214 = .ok (.aload_n 0, 1) ∧ decode cX5_chooseFor 215 = .ok (.iconst 5, 1) ∧ decode cX5_chooseFor 216 = .ok (.invokevirtual 139, 3) ∧ decode cX5_chooseFor 220 = .ok (.aload 8, 2) ∧ decode cX5_chooseFor 222 = .ok (.areturn, 1) := by decide +kernel
theorem dX5_chooseFor_192 : decode cX5_chooseFor 192 = .ok (.aload 6, 2) := dX5_chooseFor_192g.1
theorem dX5_chooseFor_194 : decode cX5_chooseFor 194 = .ok (.iload 11, 2) := dX5_chooseFor_192g.2.1
theorem dX5_chooseFor_196 : decode cX5_chooseFor 196 = .ok (.aaload, 1) := dX5_chooseFor_192g.2.2.1
theorem dX5_chooseFor_197 : decode cX5_chooseFor 197 = .ok (.astore 8, 2) := dX5_chooseFor_192g.2.2.2.1
theorem dX5_chooseFor_199 : decode cX5_chooseFor 199 = .ok (.iload 12, 2) := dX5_chooseFor_192g.2.2.2.2.1
theorem dX5_chooseFor_201 : decode cX5_chooseFor 201 = .ok (.istore 9, 2) := dX5_chooseFor_192g.2.2.2.2.2.1
theorem dX5_chooseFor_203 : decode cX5_chooseFor 203 = .ok (.iinc 11 1, 3) := dX5_chooseFor_192g.2.2.2.2.2.2.1
theorem dX5_chooseFor_206 : decode cX5_chooseFor 206 = .ok (.goto (-78), 3) := dX5_chooseFor_192g.2.2.2.2.2.2.2.1
theorem dX5_chooseFor_209 : decode cX5_chooseFor 209 = .ok (.aload 8, 2) := dX5_chooseFor_192g.2.2.2.2.2.2.2.2.1
theorem dX5_chooseFor_211 : decode cX5_chooseFor 211 = .ok (.ifnonnull 9, 3) := dX5_chooseFor_192g.2.2.2.2.2.2.2.2.2.1
theorem dX5_chooseFor_214 : decode cX5_chooseFor 214 = .ok (.aload_n 0, 1) := dX5_chooseFor_192g.2.2.2.2.2.2.2.2.2.2.1
theorem dX5_chooseFor_215 : decode cX5_chooseFor 215 = .ok (.iconst 5, 1) := dX5_chooseFor_192g.2.2.2.2.2.2.2.2.2.2.2.1
theorem dX5_chooseFor_216 : decode cX5_chooseFor 216 = .ok (.invokevirtual 139, 3) := dX5_chooseFor_192g.2.2.2.2.2.2.2.2.2.2.2.2.1
theorem dX5_chooseFor_220 : decode cX5_chooseFor 220 = .ok (.aload 8, 2) := dX5_chooseFor_192g.2.2.2.2.2.2.2.2.2.2.2.2.2.1
theorem dX5_chooseFor_222 : decode cX5_chooseFor 222 = .ok (.areturn, 1) := dX5_chooseFor_192g.2.2.2.2.2.2.2.2.2.2.2.2.2.2
theorem dX5_placesArgs_0g : decode cX5_placesArgs 0 = .ok (.aload_n 1, 1) ∧ decode cX5_placesArgs 1 = .ok (.getfield 178, 3) ∧ decode cX5_placesArgs 4 = .ok (.invokevirtual 182, 3) ∧ decode cX5_placesArgs 7 = .ok (.istore_n 2, 1) ∧ decode cX5_placesArgs 8 = .ok (.iload_n 2, 1) ∧ decode cX5_placesArgs 9 = .ok (.iconst 3, 1) ∧ decode cX5_placesArgs 10 = .ok (.if_icmp .le 5, 3) ∧ decode cX5_placesArgs 13 = .ok (.iconst 0, 1) ∧ decode cX5_placesArgs 14 = .ok (.ireturn, 1) ∧ decode cX5_placesArgs 15 = .ok (.iconst 0, 1) ∧ decode cX5_placesArgs 16 = .ok (.istore_n 3, 1) ∧ decode cX5_placesArgs 17 = .ok (.iload_n 3, 1) ∧ decode cX5_placesArgs 18 = .ok (.iconst 3, 1) ∧ decode cX5_placesArgs 19 = .ok (.if_icmp .ge 16, 3) ∧ decode cX5_placesArgs 22 = .ok (.aload_n 0, 1) ∧ decode cX5_placesArgs 23 = .ok (.getfield 43, 3) := by decide +kernel
theorem dX5_placesArgs_0 : decode cX5_placesArgs 0 = .ok (.aload_n 1, 1) := dX5_placesArgs_0g.1
theorem dX5_placesArgs_1 : decode cX5_placesArgs 1 = .ok (.getfield 178, 3) := dX5_placesArgs_0g.2.1
theorem dX5_placesArgs_4 : decode cX5_placesArgs 4 = .ok (.invokevirtual 182, 3) := dX5_placesArgs_0g.2.2.1
theorem dX5_placesArgs_7 : decode cX5_placesArgs 7 = .ok (.istore_n 2, 1) := dX5_placesArgs_0g.2.2.2.1
theorem dX5_placesArgs_8 : decode cX5_placesArgs 8 = .ok (.iload_n 2, 1) := dX5_placesArgs_0g.2.2.2.2.1
theorem dX5_placesArgs_9 : decode cX5_placesArgs 9 = .ok (.iconst 3, 1) := dX5_placesArgs_0g.2.2.2.2.2.1
theorem dX5_placesArgs_10 : decode cX5_placesArgs 10 = .ok (.if_icmp .le 5, 3) := dX5_placesArgs_0g.2.2.2.2.2.2.1
theorem dX5_placesArgs_13 : decode cX5_placesArgs 13 = .ok (.iconst 0, 1) := dX5_placesArgs_0g.2.2.2.2.2.2.2.1
theorem dX5_placesArgs_14 : decode cX5_placesArgs 14 = .ok (.ireturn, 1) := dX5_placesArgs_0g.2.2.2.2.2.2.2.2.1
theorem dX5_placesArgs_15 : decode cX5_placesArgs 15 = .ok (.iconst 0, 1) := dX5_placesArgs_0g.2.2.2.2.2.2.2.2.2.1
theorem dX5_placesArgs_16 : decode cX5_placesArgs 16 = .ok (.istore_n 3, 1) := dX5_placesArgs_0g.2.2.2.2.2.2.2.2.2.2.1
theorem dX5_placesArgs_17 : decode cX5_placesArgs 17 = .ok (.iload_n 3, 1) := dX5_placesArgs_0g.2.2.2.2.2.2.2.2.2.2.2.1
theorem dX5_placesArgs_18 : decode cX5_placesArgs 18 = .ok (.iconst 3, 1) := dX5_placesArgs_0g.2.2.2.2.2.2.2.2.2.2.2.2.1
theorem dX5_placesArgs_19 : decode cX5_placesArgs 19 = .ok (.if_icmp .ge 16, 3) := dX5_placesArgs_0g.2.2.2.2.2.2.2.2.2.2.2.2.2.1
theorem dX5_placesArgs_22 : decode cX5_placesArgs 22 = .ok (.aload_n 0, 1) := dX5_placesArgs_0g.2.2.2.2.2.2.2.2.2.2.2.2.2.2.1
theorem dX5_placesArgs_23 : decode cX5_placesArgs 23 = .ok (.getfield 43, 3) := dX5_placesArgs_0g.2.2.2.2.2.2.2.2.2.2.2.2.2.2.2
theorem dX5_placesArgs_26g : decode cX5_placesArgs 26 = .ok (.iload_n 3, 1) ∧ decode cX5_placesArgs 27 = .ok (.iconst (-1), 1) ∧ decode cX5_placesArgs 28 = .ok (.iastore, 1) ∧ decode cX5_placesArgs 29 = .ok (.iinc 3 1, 3) ∧ decode cX5_placesArgs 32 = .ok (.goto (-15), 3) ∧ decode cX5_placesArgs 35 = .ok (.iconst 0, 1) ∧ decode cX5_placesArgs 36 = .ok (.istore_n 3, 1) ∧ decode cX5_placesArgs 37 = .ok (.iload_n 3, 1) ∧ decode cX5_placesArgs 38 = .ok (.iload_n 2, 1) ∧ decode cX5_placesArgs 39 = .ok (.if_icmp .ge 58, 3) ∧ decode cX5_placesArgs 42 = .ok (.aload_n 1, 1) ∧ decode cX5_placesArgs 43 = .ok (.getfield 178, 3) ∧ decode cX5_placesArgs 46 = .ok (.iload_n 3, 1) ∧ decode cX5_placesArgs 47 = .ok (.invokevirtual 187, 3) ∧ decode cX5_placesArgs 50 = .ok (.checkcast 191, 3) ∧ decode cX5_placesArgs 53 = .ok (.getfield 284, 3) := by decide +kernel
theorem dX5_placesArgs_26 : decode cX5_placesArgs 26 = .ok (.iload_n 3, 1) := dX5_placesArgs_26g.1
theorem dX5_placesArgs_27 : decode cX5_placesArgs 27 = .ok (.iconst (-1), 1) := dX5_placesArgs_26g.2.1
theorem dX5_placesArgs_28 : decode cX5_placesArgs 28 = .ok (.iastore, 1) := dX5_placesArgs_26g.2.2.1
theorem dX5_placesArgs_29 : decode cX5_placesArgs 29 = .ok (.iinc 3 1, 3) := dX5_placesArgs_26g.2.2.2.1
theorem dX5_placesArgs_32 : decode cX5_placesArgs 32 = .ok (.goto (-15), 3) := dX5_placesArgs_26g.2.2.2.2.1
theorem dX5_placesArgs_35 : decode cX5_placesArgs 35 = .ok (.iconst 0, 1) := dX5_placesArgs_26g.2.2.2.2.2.1
theorem dX5_placesArgs_36 : decode cX5_placesArgs 36 = .ok (.istore_n 3, 1) := dX5_placesArgs_26g.2.2.2.2.2.2.1
theorem dX5_placesArgs_37 : decode cX5_placesArgs 37 = .ok (.iload_n 3, 1) := dX5_placesArgs_26g.2.2.2.2.2.2.2.1
theorem dX5_placesArgs_38 : decode cX5_placesArgs 38 = .ok (.iload_n 2, 1) := dX5_placesArgs_26g.2.2.2.2.2.2.2.2.1
theorem dX5_placesArgs_39 : decode cX5_placesArgs 39 = .ok (.if_icmp .ge 58, 3) := dX5_placesArgs_26g.2.2.2.2.2.2.2.2.2.1
theorem dX5_placesArgs_42 : decode cX5_placesArgs 42 = .ok (.aload_n 1, 1) := dX5_placesArgs_26g.2.2.2.2.2.2.2.2.2.2.1
theorem dX5_placesArgs_43 : decode cX5_placesArgs 43 = .ok (.getfield 178, 3) := dX5_placesArgs_26g.2.2.2.2.2.2.2.2.2.2.2.1
theorem dX5_placesArgs_46 : decode cX5_placesArgs 46 = .ok (.iload_n 3, 1) := dX5_placesArgs_26g.2.2.2.2.2.2.2.2.2.2.2.2.1
theorem dX5_placesArgs_47 : decode cX5_placesArgs 47 = .ok (.invokevirtual 187, 3) := dX5_placesArgs_26g.2.2.2.2.2.2.2.2.2.2.2.2.2.1
theorem dX5_placesArgs_50 : decode cX5_placesArgs 50 = .ok (.checkcast 191, 3) := dX5_placesArgs_26g.2.2.2.2.2.2.2.2.2.2.2.2.2.2.1
theorem dX5_placesArgs_53 : decode cX5_placesArgs 53 = .ok (.getfield 284, 3) := dX5_placesArgs_26g.2.2.2.2.2.2.2.2.2.2.2.2.2.2.2
theorem dX5_placesArgs_56g : decode cX5_placesArgs 56 = .ok (.istore 4, 2) ∧ decode cX5_placesArgs 58 = .ok (.iload 4, 2) ∧ decode cX5_placesArgs 60 = .ok (.iconst (-1), 1) ∧ decode cX5_placesArgs 61 = .ok (.if_icmp .eq 30, 3) ∧ decode cX5_placesArgs 64 = .ok (.iload 4, 2) ∧ decode cX5_placesArgs 66 = .ok (.iload_n 2, 1) ∧ decode cX5_placesArgs 67 = .ok (.if_icmp .ge 14, 3) ∧ decode cX5_placesArgs 70 = .ok (.aload_n 0, 1) ∧ decode cX5_placesArgs 71 = .ok (.getfield 43, 3) ∧ decode cX5_placesArgs 74 = .ok (.iload 4, 2) ∧ decode cX5_placesArgs 76 = .ok (.iaload, 1) ∧ decode cX5_placesArgs 77 = .ok (.iconst (-1), 1) ∧ decode cX5_placesArgs 78 = .ok (.if_icmp .eq 5, 3) ∧ decode cX5_placesArgs 81 = .ok (.iconst 0, 1) ∧ decode cX5_placesArgs 82 = .ok (.ireturn, 1) ∧ decode cX5_placesArgs 83 = .ok (.aload_n 0, 1) := by decide +kernel
theorem dX5_placesArgs_56 : decode cX5_placesArgs 56 = .ok (.istore 4, 2) := dX5_placesArgs_56g.1
theorem dX5_placesArgs_58 : decode cX5_placesArgs 58 = .ok (.iload 4, 2) := dX5_placesArgs_56g.2.1
theorem dX5_placesArgs_60 : decode cX5_placesArgs 60 = .ok (.iconst (-1), 1) := dX5_placesArgs_56g.2.2.1
theorem dX5_placesArgs_61 : decode cX5_placesArgs 61 = .ok (.if_icmp .eq 30, 3) := dX5_placesArgs_56g.2.2.2.1
theorem dX5_placesArgs_64 : decode cX5_placesArgs 64 = .ok (.iload 4, 2) := dX5_placesArgs_56g.2.2.2.2.1
theorem dX5_placesArgs_66 : decode cX5_placesArgs 66 = .ok (.iload_n 2, 1) := dX5_placesArgs_56g.2.2.2.2.2.1
theorem dX5_placesArgs_67 : decode cX5_placesArgs 67 = .ok (.if_icmp .ge 14, 3) := dX5_placesArgs_56g.2.2.2.2.2.2.1
theorem dX5_placesArgs_70 : decode cX5_placesArgs 70 = .ok (.aload_n 0, 1) := dX5_placesArgs_56g.2.2.2.2.2.2.2.1
theorem dX5_placesArgs_71 : decode cX5_placesArgs 71 = .ok (.getfield 43, 3) := dX5_placesArgs_56g.2.2.2.2.2.2.2.2.1
theorem dX5_placesArgs_74 : decode cX5_placesArgs 74 = .ok (.iload 4, 2) := dX5_placesArgs_56g.2.2.2.2.2.2.2.2.2.1
theorem dX5_placesArgs_76 : decode cX5_placesArgs 76 = .ok (.iaload, 1) := dX5_placesArgs_56g.2.2.2.2.2.2.2.2.2.2.1
theorem dX5_placesArgs_77 : decode cX5_placesArgs 77 = .ok (.iconst (-1), 1) := dX5_placesArgs_56g.2.2.2.2.2.2.2.2.2.2.2.1
theorem dX5_placesArgs_78 : decode cX5_placesArgs 78 = .ok (.if_icmp .eq 5, 3) := dX5_placesArgs_56g.2.2.2.2.2.2.2.2.2.2.2.2.1
theorem dX5_placesArgs_81 : decode cX5_placesArgs 81 = .ok (.iconst 0, 1) := dX5_placesArgs_56g.2.2.2.2.2.2.2.2.2.2.2.2.2.1
theorem dX5_placesArgs_82 : decode cX5_placesArgs 82 = .ok (.ireturn, 1) := dX5_placesArgs_56g.2.2.2.2.2.2.2.2.2.2.2.2.2.2.1
theorem dX5_placesArgs_83 : decode cX5_placesArgs 83 = .ok (.aload_n 0, 1) := dX5_placesArgs_56g.2.2.2.2.2.2.2.2.2.2.2.2.2.2.2
theorem dX5_placesArgs_84g : decode cX5_placesArgs 84 = .ok (.getfield 43, 3) ∧ decode cX5_placesArgs 87 = .ok (.iload 4, 2) ∧ decode cX5_placesArgs 89 = .ok (.iload_n 3, 1) ∧ decode cX5_placesArgs 90 = .ok (.iastore, 1) ∧ decode cX5_placesArgs 91 = .ok (.iinc 3 1, 3) ∧ decode cX5_placesArgs 94 = .ok (.goto (-57), 3) ∧ decode cX5_placesArgs 97 = .ok (.aload_n 0, 1) ∧ decode cX5_placesArgs 98 = .ok (.aload_n 1, 1) ∧ decode cX5_placesArgs 99 = .ok (.iload_n 2, 1) ∧ decode cX5_placesArgs 100 = .ok (.invokevirtual 287, 3) ∧ decode cX5_placesArgs 103 = .ok (.iconst 1, 1) ∧ decode cX5_placesArgs 104 = .ok (.ireturn, 1) := by decide +kernel
theorem dX5_placesArgs_84 : decode cX5_placesArgs 84 = .ok (.getfield 43, 3) := dX5_placesArgs_84g.1
theorem dX5_placesArgs_87 : decode cX5_placesArgs 87 = .ok (.iload 4, 2) := dX5_placesArgs_84g.2.1
theorem dX5_placesArgs_89 : decode cX5_placesArgs 89 = .ok (.iload_n 3, 1) := dX5_placesArgs_84g.2.2.1
theorem dX5_placesArgs_90 : decode cX5_placesArgs 90 = .ok (.iastore, 1) := dX5_placesArgs_84g.2.2.2.1
theorem dX5_placesArgs_91 : decode cX5_placesArgs 91 = .ok (.iinc 3 1, 3) := dX5_placesArgs_84g.2.2.2.2.1
theorem dX5_placesArgs_94 : decode cX5_placesArgs 94 = .ok (.goto (-57), 3) := dX5_placesArgs_84g.2.2.2.2.2.1
theorem dX5_placesArgs_97 : decode cX5_placesArgs 97 = .ok (.aload_n 0, 1) := dX5_placesArgs_84g.2.2.2.2.2.2.1
theorem dX5_placesArgs_98 : decode cX5_placesArgs 98 = .ok (.aload_n 1, 1) := dX5_placesArgs_84g.2.2.2.2.2.2.2.1
theorem dX5_placesArgs_99 : decode cX5_placesArgs 99 = .ok (.iload_n 2, 1) := dX5_placesArgs_84g.2.2.2.2.2.2.2.2.1
theorem dX5_placesArgs_100 : decode cX5_placesArgs 100 = .ok (.invokevirtual 287, 3) := dX5_placesArgs_84g.2.2.2.2.2.2.2.2.2.1
theorem dX5_placesArgs_103 : decode cX5_placesArgs 103 = .ok (.iconst 1, 1) := dX5_placesArgs_84g.2.2.2.2.2.2.2.2.2.2.1
theorem dX5_placesArgs_104 : decode cX5_placesArgs 104 = .ok (.ireturn, 1) := dX5_placesArgs_84g.2.2.2.2.2.2.2.2.2.2.2
theorem dX5_placeOthers_0g : decode cX5_placeOthers 0 = .ok (.iconst 0, 1) ∧ decode cX5_placeOthers 1 = .ok (.istore_n 3, 1) ∧ decode cX5_placeOthers 2 = .ok (.iconst 0, 1) ∧ decode cX5_placeOthers 3 = .ok (.istore 4, 2) ∧ decode cX5_placeOthers 5 = .ok (.iload 4, 2) ∧ decode cX5_placeOthers 7 = .ok (.iload_n 2, 1) ∧ decode cX5_placeOthers 8 = .ok (.if_icmp .ge 57, 3) ∧ decode cX5_placeOthers 11 = .ok (.aload_n 1, 1) ∧ decode cX5_placeOthers 12 = .ok (.getfield 178, 3) ∧ decode cX5_placeOthers 15 = .ok (.iload 4, 2) ∧ decode cX5_placeOthers 17 = .ok (.invokevirtual 187, 3) ∧ decode cX5_placeOthers 20 = .ok (.checkcast 191, 3) ∧ decode cX5_placeOthers 23 = .ok (.getfield 284, 3) ∧ decode cX5_placeOthers 26 = .ok (.iconst (-1), 1) ∧ decode cX5_placeOthers 27 = .ok (.if_icmp .ne 32, 3) ∧ decode cX5_placeOthers 30 = .ok (.iload_n 3, 1) := by decide +kernel
theorem dX5_placeOthers_0 : decode cX5_placeOthers 0 = .ok (.iconst 0, 1) := dX5_placeOthers_0g.1
theorem dX5_placeOthers_1 : decode cX5_placeOthers 1 = .ok (.istore_n 3, 1) := dX5_placeOthers_0g.2.1
theorem dX5_placeOthers_2 : decode cX5_placeOthers 2 = .ok (.iconst 0, 1) := dX5_placeOthers_0g.2.2.1
theorem dX5_placeOthers_3 : decode cX5_placeOthers 3 = .ok (.istore 4, 2) := dX5_placeOthers_0g.2.2.2.1
theorem dX5_placeOthers_5 : decode cX5_placeOthers 5 = .ok (.iload 4, 2) := dX5_placeOthers_0g.2.2.2.2.1
theorem dX5_placeOthers_7 : decode cX5_placeOthers 7 = .ok (.iload_n 2, 1) := dX5_placeOthers_0g.2.2.2.2.2.1
theorem dX5_placeOthers_8 : decode cX5_placeOthers 8 = .ok (.if_icmp .ge 57, 3) := dX5_placeOthers_0g.2.2.2.2.2.2.1
theorem dX5_placeOthers_11 : decode cX5_placeOthers 11 = .ok (.aload_n 1, 1) := dX5_placeOthers_0g.2.2.2.2.2.2.2.1
theorem dX5_placeOthers_12 : decode cX5_placeOthers 12 = .ok (.getfield 178, 3) := dX5_placeOthers_0g.2.2.2.2.2.2.2.2.1
theorem dX5_placeOthers_15 : decode cX5_placeOthers 15 = .ok (.iload 4, 2) := dX5_placeOthers_0g.2.2.2.2.2.2.2.2.2.1
theorem dX5_placeOthers_17 : decode cX5_placeOthers 17 = .ok (.invokevirtual 187, 3) := dX5_placeOthers_0g.2.2.2.2.2.2.2.2.2.2.1
theorem dX5_placeOthers_20 : decode cX5_placeOthers 20 = .ok (.checkcast 191, 3) := dX5_placeOthers_0g.2.2.2.2.2.2.2.2.2.2.2.1
theorem dX5_placeOthers_23 : decode cX5_placeOthers 23 = .ok (.getfield 284, 3) := dX5_placeOthers_0g.2.2.2.2.2.2.2.2.2.2.2.2.1
theorem dX5_placeOthers_26 : decode cX5_placeOthers 26 = .ok (.iconst (-1), 1) := dX5_placeOthers_0g.2.2.2.2.2.2.2.2.2.2.2.2.2.1
theorem dX5_placeOthers_27 : decode cX5_placeOthers 27 = .ok (.if_icmp .ne 32, 3) := dX5_placeOthers_0g.2.2.2.2.2.2.2.2.2.2.2.2.2.2.1
theorem dX5_placeOthers_30 : decode cX5_placeOthers 30 = .ok (.iload_n 3, 1) := dX5_placeOthers_0g.2.2.2.2.2.2.2.2.2.2.2.2.2.2.2
theorem dX5_placeOthers_31g : decode cX5_placeOthers 31 = .ok (.iconst 2, 1) ∧ decode cX5_placeOthers 32 = .ok (.if_icmp .ge 19, 3) ∧ decode cX5_placeOthers 35 = .ok (.aload_n 0, 1) ∧ decode cX5_placeOthers 36 = .ok (.getfield 43, 3) ∧ decode cX5_placeOthers 39 = .ok (.iload_n 3, 1) ∧ decode cX5_placeOthers 40 = .ok (.iaload, 1) ∧ decode cX5_placeOthers 41 = .ok (.iconst (-1), 1) ∧ decode cX5_placeOthers 42 = .ok (.if_icmp .eq 9, 3) ∧ decode cX5_placeOthers 45 = .ok (.iinc 3 1, 3) ∧ decode cX5_placeOthers 48 = .ok (.goto (-18), 3) ∧ decode cX5_placeOthers 51 = .ok (.aload_n 0, 1) ∧ decode cX5_placeOthers 52 = .ok (.getfield 43, 3) ∧ decode cX5_placeOthers 55 = .ok (.iload_n 3, 1) ∧ decode cX5_placeOthers 56 = .ok (.iload 4, 2) ∧ decode cX5_placeOthers 58 = .ok (.iastore, 1) ∧ decode cX5_placeOthers 59 = .ok (.iinc 4 1, 3) := by decide +kernel
theorem dX5_placeOthers_31 : decode cX5_placeOthers 31 = .ok (.iconst 2, 1) := dX5_placeOthers_31g.1
theorem dX5_placeOthers_32 : decode cX5_placeOthers 32 = .ok (.if_icmp .ge 19, 3) := dX5_placeOthers_31g.2.1
theorem dX5_placeOthers_35 : decode cX5_placeOthers 35 = .ok (.aload_n 0, 1) := dX5_placeOthers_31g.2.2.1
theorem dX5_placeOthers_36 : decode cX5_placeOthers 36 = .ok (.getfield 43, 3) := dX5_placeOthers_31g.2.2.2.1
theorem dX5_placeOthers_39 : decode cX5_placeOthers 39 = .ok (.iload_n 3, 1) := dX5_placeOthers_31g.2.2.2.2.1
theorem dX5_placeOthers_40 : decode cX5_placeOthers 40 = .ok (.iaload, 1) := dX5_placeOthers_31g.2.2.2.2.2.1
theorem dX5_placeOthers_41 : decode cX5_placeOthers 41 = .ok (.iconst (-1), 1) := dX5_placeOthers_31g.2.2.2.2.2.2.1
theorem dX5_placeOthers_42 : decode cX5_placeOthers 42 = .ok (.if_icmp .eq 9, 3) := dX5_placeOthers_31g.2.2.2.2.2.2.2.1
theorem dX5_placeOthers_45 : decode cX5_placeOthers 45 = .ok (.iinc 3 1, 3) := dX5_placeOthers_31g.2.2.2.2.2.2.2.2.1
theorem dX5_placeOthers_48 : decode cX5_placeOthers 48 = .ok (.goto (-18), 3) := dX5_placeOthers_31g.2.2.2.2.2.2.2.2.2.1
theorem dX5_placeOthers_51 : decode cX5_placeOthers 51 = .ok (.aload_n 0, 1) := dX5_placeOthers_31g.2.2.2.2.2.2.2.2.2.2.1
theorem dX5_placeOthers_52 : decode cX5_placeOthers 52 = .ok (.getfield 43, 3) := dX5_placeOthers_31g.2.2.2.2.2.2.2.2.2.2.2.1
theorem dX5_placeOthers_55 : decode cX5_placeOthers 55 = .ok (.iload_n 3, 1) := dX5_placeOthers_31g.2.2.2.2.2.2.2.2.2.2.2.2.1
theorem dX5_placeOthers_56 : decode cX5_placeOthers 56 = .ok (.iload 4, 2) := dX5_placeOthers_31g.2.2.2.2.2.2.2.2.2.2.2.2.2.1
theorem dX5_placeOthers_58 : decode cX5_placeOthers 58 = .ok (.iastore, 1) := dX5_placeOthers_31g.2.2.2.2.2.2.2.2.2.2.2.2.2.2.1
theorem dX5_placeOthers_59 : decode cX5_placeOthers 59 = .ok (.iinc 4 1, 3) := dX5_placeOthers_31g.2.2.2.2.2.2.2.2.2.2.2.2.2.2.2
theorem dX5_placeOthers_62 : decode cX5_placeOthers 62 = .ok (.goto (-57), 3) := by decide +kernel
theorem dX5_placeOthers_65 : decode cX5_placeOthers 65 = .ok (.return_, 1) := by decide +kernel
theorem dX5_sumFor_0g : decode cX5_sumFor 0 = .ok (.aload_n 2, 1) ∧ decode cX5_sumFor 1 = .ok (.getfield 290, 3) ∧ decode cX5_sumFor 4 = .ok (.aload_n 1, 1) ∧ decode cX5_sumFor 5 = .ok (.getfield 178, 3) ∧ decode cX5_sumFor 8 = .ok (.invokevirtual 182, 3) ∧ decode cX5_sumFor 11 = .ok (.if_icmp .eq 5, 3) ∧ decode cX5_sumFor 14 = .ok (.iconst (-1), 1) ∧ decode cX5_sumFor 15 = .ok (.ireturn, 1) ∧ decode cX5_sumFor 16 = .ok (.iconst 0, 1) ∧ decode cX5_sumFor 17 = .ok (.istore 4, 2) ∧ decode cX5_sumFor 19 = .ok (.iconst 0, 1) ∧ decode cX5_sumFor 20 = .ok (.istore 5, 2) ∧ decode cX5_sumFor 22 = .ok (.iload 5, 2) ∧ decode cX5_sumFor 24 = .ok (.aload_n 2, 1) ∧ decode cX5_sumFor 25 = .ok (.getfield 290, 3) ∧ decode cX5_sumFor 28 = .ok (.if_icmp .ge 97, 3) := by decide +kernel
theorem dX5_sumFor_0 : decode cX5_sumFor 0 = .ok (.aload_n 2, 1) := dX5_sumFor_0g.1
theorem dX5_sumFor_1 : decode cX5_sumFor 1 = .ok (.getfield 290, 3) := dX5_sumFor_0g.2.1
theorem dX5_sumFor_4 : decode cX5_sumFor 4 = .ok (.aload_n 1, 1) := dX5_sumFor_0g.2.2.1
theorem dX5_sumFor_5 : decode cX5_sumFor 5 = .ok (.getfield 178, 3) := dX5_sumFor_0g.2.2.2.1
theorem dX5_sumFor_8 : decode cX5_sumFor 8 = .ok (.invokevirtual 182, 3) := dX5_sumFor_0g.2.2.2.2.1
theorem dX5_sumFor_11 : decode cX5_sumFor 11 = .ok (.if_icmp .eq 5, 3) := dX5_sumFor_0g.2.2.2.2.2.1
theorem dX5_sumFor_14 : decode cX5_sumFor 14 = .ok (.iconst (-1), 1) := dX5_sumFor_0g.2.2.2.2.2.2.1
theorem dX5_sumFor_15 : decode cX5_sumFor 15 = .ok (.ireturn, 1) := dX5_sumFor_0g.2.2.2.2.2.2.2.1
theorem dX5_sumFor_16 : decode cX5_sumFor 16 = .ok (.iconst 0, 1) := dX5_sumFor_0g.2.2.2.2.2.2.2.2.1
theorem dX5_sumFor_17 : decode cX5_sumFor 17 = .ok (.istore 4, 2) := dX5_sumFor_0g.2.2.2.2.2.2.2.2.2.1
theorem dX5_sumFor_19 : decode cX5_sumFor 19 = .ok (.iconst 0, 1) := dX5_sumFor_0g.2.2.2.2.2.2.2.2.2.2.1
theorem dX5_sumFor_20 : decode cX5_sumFor 20 = .ok (.istore 5, 2) := dX5_sumFor_0g.2.2.2.2.2.2.2.2.2.2.2.1
theorem dX5_sumFor_22 : decode cX5_sumFor 22 = .ok (.iload 5, 2) := dX5_sumFor_0g.2.2.2.2.2.2.2.2.2.2.2.2.1
theorem dX5_sumFor_24 : decode cX5_sumFor 24 = .ok (.aload_n 2, 1) := dX5_sumFor_0g.2.2.2.2.2.2.2.2.2.2.2.2.2.1
theorem dX5_sumFor_25 : decode cX5_sumFor 25 = .ok (.getfield 290, 3) := dX5_sumFor_0g.2.2.2.2.2.2.2.2.2.2.2.2.2.2.1
theorem dX5_sumFor_28 : decode cX5_sumFor 28 = .ok (.if_icmp .ge 97, 3) := dX5_sumFor_0g.2.2.2.2.2.2.2.2.2.2.2.2.2.2.2
theorem dX5_sumFor_31g : decode cX5_sumFor 31 = .ok (.aload_n 1, 1) ∧ decode cX5_sumFor 32 = .ok (.getfield 178, 3) ∧ decode cX5_sumFor 35 = .ok (.aload_n 0, 1) ∧ decode cX5_sumFor 36 = .ok (.getfield 43, 3) ∧ decode cX5_sumFor 39 = .ok (.iload 5, 2) ∧ decode cX5_sumFor 41 = .ok (.iaload, 1) ∧ decode cX5_sumFor 42 = .ok (.invokevirtual 187, 3) ∧ decode cX5_sumFor 45 = .ok (.checkcast 191, 3) ∧ decode cX5_sumFor 48 = .ok (.astore 6, 2) ∧ decode cX5_sumFor 50 = .ok (.aload_n 2, 1) ∧ decode cX5_sumFor 51 = .ok (.getfield 292, 3) ∧ decode cX5_sumFor 54 = .ok (.iload 5, 2) ∧ decode cX5_sumFor 56 = .ok (.iaload, 1) ∧ decode cX5_sumFor 57 = .ok (.istore 7, 2) ∧ decode cX5_sumFor 59 = .ok (.aload 6, 2) ∧ decode cX5_sumFor 61 = .ok (.getfield 295, 3) := by decide +kernel
theorem dX5_sumFor_31 : decode cX5_sumFor 31 = .ok (.aload_n 1, 1) := dX5_sumFor_31g.1
theorem dX5_sumFor_32 : decode cX5_sumFor 32 = .ok (.getfield 178, 3) := dX5_sumFor_31g.2.1
theorem dX5_sumFor_35 : decode cX5_sumFor 35 = .ok (.aload_n 0, 1) := dX5_sumFor_31g.2.2.1
theorem dX5_sumFor_36 : decode cX5_sumFor 36 = .ok (.getfield 43, 3) := dX5_sumFor_31g.2.2.2.1
theorem dX5_sumFor_39 : decode cX5_sumFor 39 = .ok (.iload 5, 2) := dX5_sumFor_31g.2.2.2.2.1
theorem dX5_sumFor_41 : decode cX5_sumFor 41 = .ok (.iaload, 1) := dX5_sumFor_31g.2.2.2.2.2.1
theorem dX5_sumFor_42 : decode cX5_sumFor 42 = .ok (.invokevirtual 187, 3) := dX5_sumFor_31g.2.2.2.2.2.2.1
theorem dX5_sumFor_45 : decode cX5_sumFor 45 = .ok (.checkcast 191, 3) := dX5_sumFor_31g.2.2.2.2.2.2.2.1
theorem dX5_sumFor_48 : decode cX5_sumFor 48 = .ok (.astore 6, 2) := dX5_sumFor_31g.2.2.2.2.2.2.2.2.1
theorem dX5_sumFor_50 : decode cX5_sumFor 50 = .ok (.aload_n 2, 1) := dX5_sumFor_31g.2.2.2.2.2.2.2.2.2.1
theorem dX5_sumFor_51 : decode cX5_sumFor 51 = .ok (.getfield 292, 3) := dX5_sumFor_31g.2.2.2.2.2.2.2.2.2.2.1
theorem dX5_sumFor_54 : decode cX5_sumFor 54 = .ok (.iload 5, 2) := dX5_sumFor_31g.2.2.2.2.2.2.2.2.2.2.2.1
theorem dX5_sumFor_56 : decode cX5_sumFor 56 = .ok (.iaload, 1) := dX5_sumFor_31g.2.2.2.2.2.2.2.2.2.2.2.2.1
theorem dX5_sumFor_57 : decode cX5_sumFor 57 = .ok (.istore 7, 2) := dX5_sumFor_31g.2.2.2.2.2.2.2.2.2.2.2.2.2.1
theorem dX5_sumFor_59 : decode cX5_sumFor 59 = .ok (.aload 6, 2) := dX5_sumFor_31g.2.2.2.2.2.2.2.2.2.2.2.2.2.2.1
theorem dX5_sumFor_61 : decode cX5_sumFor 61 = .ok (.getfield 295, 3) := dX5_sumFor_31g.2.2.2.2.2.2.2.2.2.2.2.2.2.2.2
theorem dX5_sumFor_64g : decode cX5_sumFor 64 = .ok (.iconst (-1), 1) ∧ decode cX5_sumFor 65 = .ok (.if_icmp .eq 15, 3) ∧ decode cX5_sumFor 68 = .ok (.aload 6, 2) ∧ decode cX5_sumFor 70 = .ok (.getfield 295, 3) ∧ decode cX5_sumFor 73 = .ok (.iload 7, 2) ∧ decode cX5_sumFor 75 = .ok (.if_icmp .eq 5, 3) ∧ decode cX5_sumFor 78 = .ok (.iconst (-1), 1) ∧ decode cX5_sumFor 79 = .ok (.ireturn, 1) ∧ decode cX5_sumFor 80 = .ok (.aload_n 0, 1) ∧ decode cX5_sumFor 81 = .ok (.aload 6, 2) ∧ decode cX5_sumFor 83 = .ok (.getfield 193, 3) ∧ decode cX5_sumFor 86 = .ok (.iload_n 3, 1) ∧ decode cX5_sumFor 87 = .ok (.aload_n 0, 1) ∧ decode cX5_sumFor 88 = .ok (.getfield 43, 3) ∧ decode cX5_sumFor 91 = .ok (.iload 5, 2) ∧ decode cX5_sumFor 93 = .ok (.iaload, 1) := by decide +kernel
theorem dX5_sumFor_64 : decode cX5_sumFor 64 = .ok (.iconst (-1), 1) := dX5_sumFor_64g.1
theorem dX5_sumFor_65 : decode cX5_sumFor 65 = .ok (.if_icmp .eq 15, 3) := dX5_sumFor_64g.2.1
theorem dX5_sumFor_68 : decode cX5_sumFor 68 = .ok (.aload 6, 2) := dX5_sumFor_64g.2.2.1
theorem dX5_sumFor_70 : decode cX5_sumFor 70 = .ok (.getfield 295, 3) := dX5_sumFor_64g.2.2.2.1
theorem dX5_sumFor_73 : decode cX5_sumFor 73 = .ok (.iload 7, 2) := dX5_sumFor_64g.2.2.2.2.1
theorem dX5_sumFor_75 : decode cX5_sumFor 75 = .ok (.if_icmp .eq 5, 3) := dX5_sumFor_64g.2.2.2.2.2.1
theorem dX5_sumFor_78 : decode cX5_sumFor 78 = .ok (.iconst (-1), 1) := dX5_sumFor_64g.2.2.2.2.2.2.1
theorem dX5_sumFor_79 : decode cX5_sumFor 79 = .ok (.ireturn, 1) := dX5_sumFor_64g.2.2.2.2.2.2.2.1
theorem dX5_sumFor_80 : decode cX5_sumFor 80 = .ok (.aload_n 0, 1) := dX5_sumFor_64g.2.2.2.2.2.2.2.2.1
theorem dX5_sumFor_81 : decode cX5_sumFor 81 = .ok (.aload 6, 2) := dX5_sumFor_64g.2.2.2.2.2.2.2.2.2.1
theorem dX5_sumFor_83 : decode cX5_sumFor 83 = .ok (.getfield 193, 3) := dX5_sumFor_64g.2.2.2.2.2.2.2.2.2.2.1
theorem dX5_sumFor_86 : decode cX5_sumFor 86 = .ok (.iload_n 3, 1) := dX5_sumFor_64g.2.2.2.2.2.2.2.2.2.2.2.1
theorem dX5_sumFor_87 : decode cX5_sumFor 87 = .ok (.aload_n 0, 1) := dX5_sumFor_64g.2.2.2.2.2.2.2.2.2.2.2.2.1
theorem dX5_sumFor_88 : decode cX5_sumFor 88 = .ok (.getfield 43, 3) := dX5_sumFor_64g.2.2.2.2.2.2.2.2.2.2.2.2.2.1
theorem dX5_sumFor_91 : decode cX5_sumFor 91 = .ok (.iload 5, 2) := dX5_sumFor_64g.2.2.2.2.2.2.2.2.2.2.2.2.2.2.1
theorem dX5_sumFor_93 : decode cX5_sumFor 93 = .ok (.iaload, 1) := dX5_sumFor_64g.2.2.2.2.2.2.2.2.2.2.2.2.2.2.2
theorem dX5_sumFor_94g : decode cX5_sumFor 94 = .ok (.invokestatic 197, 3) ∧ decode cX5_sumFor 97 = .ok (.iload 7, 2) ∧ decode cX5_sumFor 99 = .ok (.invokevirtual 298, 3) ∧ decode cX5_sumFor 102 = .ok (.istore 8, 2) ∧ decode cX5_sumFor 104 = .ok (.iload 8, 2) ∧ decode cX5_sumFor 106 = .ok (.iconst (-1), 1) ∧ decode cX5_sumFor 107 = .ok (.if_icmp .ne 5, 3) ∧ decode cX5_sumFor 110 = .ok (.iconst (-1), 1) ∧ decode cX5_sumFor 111 = .ok (.ireturn, 1) ∧ decode cX5_sumFor 112 = .ok (.iload 4, 2) ∧ decode cX5_sumFor 114 = .ok (.iload 8, 2) ∧ decode cX5_sumFor 116 = .ok (.iadd, 1) ∧ decode cX5_sumFor 117 = .ok (.istore 4, 2) ∧ decode cX5_sumFor 119 = .ok (.iinc 5 1, 3) ∧ decode cX5_sumFor 122 = .ok (.goto (-100), 3) ∧ decode cX5_sumFor 125 = .ok (.iload 4, 2) := by decide +kernel
theorem dX5_sumFor_94 : decode cX5_sumFor 94 = .ok (.invokestatic 197, 3) := dX5_sumFor_94g.1
theorem dX5_sumFor_97 : decode cX5_sumFor 97 = .ok (.iload 7, 2) := dX5_sumFor_94g.2.1
theorem dX5_sumFor_99 : decode cX5_sumFor 99 = .ok (.invokevirtual 298, 3) := dX5_sumFor_94g.2.2.1
theorem dX5_sumFor_102 : decode cX5_sumFor 102 = .ok (.istore 8, 2) := dX5_sumFor_94g.2.2.2.1
theorem dX5_sumFor_104 : decode cX5_sumFor 104 = .ok (.iload 8, 2) := dX5_sumFor_94g.2.2.2.2.1
theorem dX5_sumFor_106 : decode cX5_sumFor 106 = .ok (.iconst (-1), 1) := dX5_sumFor_94g.2.2.2.2.2.1
theorem dX5_sumFor_107 : decode cX5_sumFor 107 = .ok (.if_icmp .ne 5, 3) := dX5_sumFor_94g.2.2.2.2.2.2.1
theorem dX5_sumFor_110 : decode cX5_sumFor 110 = .ok (.iconst (-1), 1) := dX5_sumFor_94g.2.2.2.2.2.2.2.1
theorem dX5_sumFor_111 : decode cX5_sumFor 111 = .ok (.ireturn, 1) := dX5_sumFor_94g.2.2.2.2.2.2.2.2.1
theorem dX5_sumFor_112 : decode cX5_sumFor 112 = .ok (.iload 4, 2) := dX5_sumFor_94g.2.2.2.2.2.2.2.2.2.1
theorem dX5_sumFor_114 : decode cX5_sumFor 114 = .ok (.iload 8, 2) := dX5_sumFor_94g.2.2.2.2.2.2.2.2.2.2.1
theorem dX5_sumFor_116 : decode cX5_sumFor 116 = .ok (.iadd, 1) := dX5_sumFor_94g.2.2.2.2.2.2.2.2.2.2.2.1
theorem dX5_sumFor_117 : decode cX5_sumFor 117 = .ok (.istore 4, 2) := dX5_sumFor_94g.2.2.2.2.2.2.2.2.2.2.2.2.1
theorem dX5_sumFor_119 : decode cX5_sumFor 119 = .ok (.iinc 5 1, 3) := dX5_sumFor_94g.2.2.2.2.2.2.2.2.2.2.2.2.2.1
theorem dX5_sumFor_122 : decode cX5_sumFor 122 = .ok (.goto (-100), 3) := dX5_sumFor_94g.2.2.2.2.2.2.2.2.2.2.2.2.2.2.1
theorem dX5_sumFor_125 : decode cX5_sumFor 125 = .ok (.iload 4, 2) := dX5_sumFor_94g.2.2.2.2.2.2.2.2.2.2.2.2.2.2.2
theorem dX5_sumFor_127 : decode cX5_sumFor 127 = .ok (.ireturn, 1) := by decide +kernel
theorem dX5_weightOf_0g : decode cX5_weightOf 0 = .ok (.getstatic 302, 3) ∧ decode cX5_weightOf 3 = .ok (.aload_n 1, 1) ∧ decode cX5_weightOf 4 = .ok (.getfield 205, 3) ∧ decode cX5_weightOf 7 = .ok (.invokevirtual 307, 3) ∧ decode cX5_weightOf 10 = .ok (.iaload, 1) ∧ decode cX5_weightOf 11 = .ok (.tableswitch 57 12 15 #[46, 29, 57, 35], 29) ∧ decode cX5_weightOf 40 = .ok (.aload_n 1, 1) ∧ decode cX5_weightOf 41 = .ok (.iload_n 3, 1) ∧ decode cX5_weightOf 42 = .ok (.invokestatic 310, 3) ∧ decode cX5_weightOf 45 = .ok (.ireturn, 1) ∧ decode cX5_weightOf 46 = .ok (.iload_n 3, 1) ∧ decode cX5_weightOf 47 = .ok (.iconst 3, 1) ∧ decode cX5_weightOf 48 = .ok (.if_icmp .lt 7, 3) ∧ decode cX5_weightOf 51 = .ok (.iconst 0, 1) ∧ decode cX5_weightOf 52 = .ok (.goto 4, 3) ∧ decode cX5_weightOf 55 = .ok (.iconst (-1), 1) := by decide +kernel
theorem dX5_weightOf_0 : decode cX5_weightOf 0 = .ok (.getstatic 302, 3) := dX5_weightOf_0g.1
theorem dX5_weightOf_3 : decode cX5_weightOf 3 = .ok (.aload_n 1, 1) := dX5_weightOf_0g.2.1
theorem dX5_weightOf_4 : decode cX5_weightOf 4 = .ok (.getfield 205, 3) := dX5_weightOf_0g.2.2.1
theorem dX5_weightOf_7 : decode cX5_weightOf 7 = .ok (.invokevirtual 307, 3) := dX5_weightOf_0g.2.2.2.1
theorem dX5_weightOf_10 : decode cX5_weightOf 10 = .ok (.iaload, 1) := dX5_weightOf_0g.2.2.2.2.1
theorem dX5_weightOf_11 : decode cX5_weightOf 11 = .ok (.tableswitch 57 12 15 #[46, 29, 57, 35], 29) := dX5_weightOf_0g.2.2.2.2.2.1
theorem dX5_weightOf_40 : decode cX5_weightOf 40 = .ok (.aload_n 1, 1) := dX5_weightOf_0g.2.2.2.2.2.2.1
theorem dX5_weightOf_41 : decode cX5_weightOf 41 = .ok (.iload_n 3, 1) := dX5_weightOf_0g.2.2.2.2.2.2.2.1
theorem dX5_weightOf_42 : decode cX5_weightOf 42 = .ok (.invokestatic 310, 3) := dX5_weightOf_0g.2.2.2.2.2.2.2.2.1
theorem dX5_weightOf_45 : decode cX5_weightOf 45 = .ok (.ireturn, 1) := dX5_weightOf_0g.2.2.2.2.2.2.2.2.2.1
theorem dX5_weightOf_46 : decode cX5_weightOf 46 = .ok (.iload_n 3, 1) := dX5_weightOf_0g.2.2.2.2.2.2.2.2.2.2.1
theorem dX5_weightOf_47 : decode cX5_weightOf 47 = .ok (.iconst 3, 1) := dX5_weightOf_0g.2.2.2.2.2.2.2.2.2.2.2.1
theorem dX5_weightOf_48 : decode cX5_weightOf 48 = .ok (.if_icmp .lt 7, 3) := dX5_weightOf_0g.2.2.2.2.2.2.2.2.2.2.2.2.1
theorem dX5_weightOf_51 : decode cX5_weightOf 51 = .ok (.iconst 0, 1) := dX5_weightOf_0g.2.2.2.2.2.2.2.2.2.2.2.2.2.1
theorem dX5_weightOf_52 : decode cX5_weightOf 52 = .ok (.goto 4, 3) := dX5_weightOf_0g.2.2.2.2.2.2.2.2.2.2.2.2.2.2.1
theorem dX5_weightOf_55 : decode cX5_weightOf 55 = .ok (.iconst (-1), 1) := dX5_weightOf_0g.2.2.2.2.2.2.2.2.2.2.2.2.2.2.2
theorem dX5_weightOf_56g : decode cX5_weightOf 56 = .ok (.ireturn, 1) ∧ decode cX5_weightOf 57 = .ok (.iload_n 3, 1) ∧ decode cX5_weightOf 58 = .ok (.iconst 4, 1) ∧ decode cX5_weightOf 59 = .ok (.if_icmp .ne 7, 3) ∧ decode cX5_weightOf 62 = .ok (.iconst 0, 1) ∧ decode cX5_weightOf 63 = .ok (.goto 4, 3) ∧ decode cX5_weightOf 66 = .ok (.iconst (-1), 1) ∧ decode cX5_weightOf 67 = .ok (.ireturn, 1) ∧ decode cX5_weightOf 68 = .ok (.aload_n 0, 1) ∧ decode cX5_weightOf 69 = .ok (.aload_n 0, 1) ∧ decode cX5_weightOf 70 = .ok (.getfield 40, 3) ∧ decode cX5_weightOf 73 = .ok (.iload_n 2, 1) ∧ decode cX5_weightOf 74 = .ok (.iaload, 1) ∧ decode cX5_weightOf 75 = .ok (.iload_n 3, 1) ∧ decode cX5_weightOf 76 = .ok (.invokevirtual 313, 3) ∧ decode cX5_weightOf 79 = .ok (.ireturn, 1) := by decide +kernel
theorem dX5_weightOf_56 : decode cX5_weightOf 56 = .ok (.ireturn, 1) := dX5_weightOf_56g.1
theorem dX5_weightOf_57 : decode cX5_weightOf 57 = .ok (.iload_n 3, 1) := dX5_weightOf_56g.2.1
theorem dX5_weightOf_58 : decode cX5_weightOf 58 = .ok (.iconst 4, 1) := dX5_weightOf_56g.2.2.1
theorem dX5_weightOf_59 : decode cX5_weightOf 59 = .ok (.if_icmp .ne 7, 3) := dX5_weightOf_56g.2.2.2.1
theorem dX5_weightOf_62 : decode cX5_weightOf 62 = .ok (.iconst 0, 1) := dX5_weightOf_56g.2.2.2.2.1
theorem dX5_weightOf_63 : decode cX5_weightOf 63 = .ok (.goto 4, 3) := dX5_weightOf_56g.2.2.2.2.2.1
theorem dX5_weightOf_66 : decode cX5_weightOf 66 = .ok (.iconst (-1), 1) := dX5_weightOf_56g.2.2.2.2.2.2.1
theorem dX5_weightOf_67 : decode cX5_weightOf 67 = .ok (.ireturn, 1) := dX5_weightOf_56g.2.2.2.2.2.2.2.1
theorem dX5_weightOf_68 : decode cX5_weightOf 68 = .ok (.aload_n 0, 1) := dX5_weightOf_56g.2.2.2.2.2.2.2.2.1
theorem dX5_weightOf_69 : decode cX5_weightOf 69 = .ok (.aload_n 0, 1) := dX5_weightOf_56g.2.2.2.2.2.2.2.2.2.1
theorem dX5_weightOf_70 : decode cX5_weightOf 70 = .ok (.getfield 40, 3) := dX5_weightOf_56g.2.2.2.2.2.2.2.2.2.2.1
theorem dX5_weightOf_73 : decode cX5_weightOf 73 = .ok (.iload_n 2, 1) := dX5_weightOf_56g.2.2.2.2.2.2.2.2.2.2.2.1
theorem dX5_weightOf_74 : decode cX5_weightOf 74 = .ok (.iaload, 1) := dX5_weightOf_56g.2.2.2.2.2.2.2.2.2.2.2.2.1
theorem dX5_weightOf_75 : decode cX5_weightOf 75 = .ok (.iload_n 3, 1) := dX5_weightOf_56g.2.2.2.2.2.2.2.2.2.2.2.2.2.1
theorem dX5_weightOf_76 : decode cX5_weightOf 76 = .ok (.invokevirtual 313, 3) := dX5_weightOf_56g.2.2.2.2.2.2.2.2.2.2.2.2.2.2.1
theorem dX5_weightOf_79 : decode cX5_weightOf 79 = .ok (.ireturn, 1) := dX5_weightOf_56g.2.2.2.2.2.2.2.2.2.2.2.2.2.2.2
theorem dX5_textWeight_0g : decode cX5_textWeight 0 = .ok (.iload_n 1, 1) ∧ decode cX5_textWeight 1 = .ok (.tableswitch 78 0 3 #[31, 48, 62, 76], 31) ∧ decode cX5_textWeight 32 = .ok (.aload_n 0, 1) ∧ decode cX5_textWeight 33 = .ok (.getfield 316, 3) ∧ decode cX5_textWeight 36 = .ok (.ldc2_w 318, 3) ∧ decode cX5_textWeight 39 = .ok (.lcmp, 1) ∧ decode cX5_textWeight 40 = .ok (.ifCond .ne 7, 3) ∧ decode cX5_textWeight 43 = .ok (.iconst (-1), 1) ∧ decode cX5_textWeight 44 = .ok (.goto 4, 3) ∧ decode cX5_textWeight 47 = .ok (.iconst 1, 1) ∧ decode cX5_textWeight 48 = .ok (.ireturn, 1) ∧ decode cX5_textWeight 49 = .ok (.aload_n 0, 1) ∧ decode cX5_textWeight 50 = .ok (.getfield 320, 3) ∧ decode cX5_textWeight 53 = .ok (.iconst (-1), 1) ∧ decode cX5_textWeight 54 = .ok (.if_icmp .ne 7, 3) ∧ decode cX5_textWeight 57 = .ok (.iconst (-1), 1) := by decide +kernel
theorem dX5_textWeight_0 : decode cX5_textWeight 0 = .ok (.iload_n 1, 1) := dX5_textWeight_0g.1
theorem dX5_textWeight_1 : decode cX5_textWeight 1 = .ok (.tableswitch 78 0 3 #[31, 48, 62, 76], 31) := dX5_textWeight_0g.2.1
theorem dX5_textWeight_32 : decode cX5_textWeight 32 = .ok (.aload_n 0, 1) := dX5_textWeight_0g.2.2.1
theorem dX5_textWeight_33 : decode cX5_textWeight 33 = .ok (.getfield 316, 3) := dX5_textWeight_0g.2.2.2.1
theorem dX5_textWeight_36 : decode cX5_textWeight 36 = .ok (.ldc2_w 318, 3) := dX5_textWeight_0g.2.2.2.2.1
theorem dX5_textWeight_39 : decode cX5_textWeight 39 = .ok (.lcmp, 1) := dX5_textWeight_0g.2.2.2.2.2.1
theorem dX5_textWeight_40 : decode cX5_textWeight 40 = .ok (.ifCond .ne 7, 3) := dX5_textWeight_0g.2.2.2.2.2.2.1
theorem dX5_textWeight_43 : decode cX5_textWeight 43 = .ok (.iconst (-1), 1) := dX5_textWeight_0g.2.2.2.2.2.2.2.1
theorem dX5_textWeight_44 : decode cX5_textWeight 44 = .ok (.goto 4, 3) := dX5_textWeight_0g.2.2.2.2.2.2.2.2.1
theorem dX5_textWeight_47 : decode cX5_textWeight 47 = .ok (.iconst 1, 1) := dX5_textWeight_0g.2.2.2.2.2.2.2.2.2.1
theorem dX5_textWeight_48 : decode cX5_textWeight 48 = .ok (.ireturn, 1) := dX5_textWeight_0g.2.2.2.2.2.2.2.2.2.2.1
theorem dX5_textWeight_49 : decode cX5_textWeight 49 = .ok (.aload_n 0, 1) := dX5_textWeight_0g.2.2.2.2.2.2.2.2.2.2.2.1
theorem dX5_textWeight_50 : decode cX5_textWeight 50 = .ok (.getfield 320, 3) := dX5_textWeight_0g.2.2.2.2.2.2.2.2.2.2.2.2.1
theorem dX5_textWeight_53 : decode cX5_textWeight 53 = .ok (.iconst (-1), 1) := dX5_textWeight_0g.2.2.2.2.2.2.2.2.2.2.2.2.2.1
theorem dX5_textWeight_54 : decode cX5_textWeight 54 = .ok (.if_icmp .ne 7, 3) := dX5_textWeight_0g.2.2.2.2.2.2.2.2.2.2.2.2.2.2.1
theorem dX5_textWeight_57 : decode cX5_textWeight 57 = .ok (.iconst (-1), 1) := dX5_textWeight_0g.2.2.2.2.2.2.2.2.2.2.2.2.2.2.2
theorem dX5_textWeight_58g : decode cX5_textWeight 58 = .ok (.goto 4, 3) ∧ decode cX5_textWeight 61 = .ok (.iconst 1, 1) ∧ decode cX5_textWeight 62 = .ok (.ireturn, 1) ∧ decode cX5_textWeight 63 = .ok (.aload_n 0, 1) ∧ decode cX5_textWeight 64 = .ok (.getfield 236, 3) ∧ decode cX5_textWeight 67 = .ok (.iconst 1, 1) ∧ decode cX5_textWeight 68 = .ok (.if_icmp .ne 7, 3) ∧ decode cX5_textWeight 71 = .ok (.iconst 2, 1) ∧ decode cX5_textWeight 72 = .ok (.goto 4, 3) ∧ decode cX5_textWeight 75 = .ok (.iconst (-1), 1) ∧ decode cX5_textWeight 76 = .ok (.ireturn, 1) ∧ decode cX5_textWeight 77 = .ok (.iconst 3, 1) ∧ decode cX5_textWeight 78 = .ok (.ireturn, 1) ∧ decode cX5_textWeight 79 = .ok (.iconst (-1), 1) ∧ decode cX5_textWeight 80 = .ok (.ireturn, 1) := by decide +kernel
theorem dX5_textWeight_58 : decode cX5_textWeight 58 = .ok (.goto 4, 3) := dX5_textWeight_58g.1
theorem dX5_textWeight_61 : decode cX5_textWeight 61 = .ok (.iconst 1, 1) := dX5_textWeight_58g.2.1
theorem dX5_textWeight_62 : decode cX5_textWeight 62 = .ok (.ireturn, 1) := dX5_textWeight_58g.2.2.1
theorem dX5_textWeight_63 : decode cX5_textWeight 63 = .ok (.aload_n 0, 1) := dX5_textWeight_58g.2.2.2.1
theorem dX5_textWeight_64 : decode cX5_textWeight 64 = .ok (.getfield 236, 3) := dX5_textWeight_58g.2.2.2.2.1
theorem dX5_textWeight_67 : decode cX5_textWeight 67 = .ok (.iconst 1, 1) := dX5_textWeight_58g.2.2.2.2.2.1
theorem dX5_textWeight_68 : decode cX5_textWeight 68 = .ok (.if_icmp .ne 7, 3) := dX5_textWeight_58g.2.2.2.2.2.2.1
theorem dX5_textWeight_71 : decode cX5_textWeight 71 = .ok (.iconst 2, 1) := dX5_textWeight_58g.2.2.2.2.2.2.2.1
theorem dX5_textWeight_72 : decode cX5_textWeight 72 = .ok (.goto 4, 3) := dX5_textWeight_58g.2.2.2.2.2.2.2.2.1
theorem dX5_textWeight_75 : decode cX5_textWeight 75 = .ok (.iconst (-1), 1) := dX5_textWeight_58g.2.2.2.2.2.2.2.2.2.1
theorem dX5_textWeight_76 : decode cX5_textWeight 76 = .ok (.ireturn, 1) := dX5_textWeight_58g.2.2.2.2.2.2.2.2.2.2.1
theorem dX5_textWeight_77 : decode cX5_textWeight 77 = .ok (.iconst 3, 1) := dX5_textWeight_58g.2.2.2.2.2.2.2.2.2.2.2.1
theorem dX5_textWeight_78 : decode cX5_textWeight 78 = .ok (.ireturn, 1) := dX5_textWeight_58g.2.2.2.2.2.2.2.2.2.2.2.2.1
theorem dX5_textWeight_79 : decode cX5_textWeight 79 = .ok (.iconst (-1), 1) := dX5_textWeight_58g.2.2.2.2.2.2.2.2.2.2.2.2.2.1
theorem dX5_textWeight_80 : decode cX5_textWeight 80 = .ok (.ireturn, 1) := dX5_textWeight_58g.2.2.2.2.2.2.2.2.2.2.2.2.2.2
theorem dX5_objectWeight_0g : decode cX5_objectWeight 0 = .ok (.iload_n 2, 1) ∧ decode cX5_objectWeight 1 = .ok (.bipush 8, 2) ∧ decode cX5_objectWeight 3 = .ok (.if_icmp .ge 5, 3) ∧ decode cX5_objectWeight 6 = .ok (.iconst (-1), 1) ∧ decode cX5_objectWeight 7 = .ok (.ireturn, 1) ∧ decode cX5_objectWeight 8 = .ok (.aload_n 0, 1) ∧ decode cX5_objectWeight 9 = .ok (.getfield 17, 3) ∧ decode cX5_objectWeight 12 = .ok (.aload_n 0, 1) ∧ decode cX5_objectWeight 13 = .ok (.getfield 25, 3) ∧ decode cX5_objectWeight 16 = .ok (.iload_n 1, 1) ∧ decode cX5_objectWeight 17 = .ok (.iaload, 1) ∧ decode cX5_objectWeight 18 = .ok (.aaload, 1) ∧ decode cX5_objectWeight 19 = .ok (.iload_n 2, 1) ∧ decode cX5_objectWeight 20 = .ok (.bipush 8, 2) ∧ decode cX5_objectWeight 22 = .ok (.isub, 1) ∧ decode cX5_objectWeight 23 = .ok (.invokevirtual 323, 3) := by decide +kernel
theorem dX5_objectWeight_0 : decode cX5_objectWeight 0 = .ok (.iload_n 2, 1) := dX5_objectWeight_0g.1
theorem dX5_objectWeight_1 : decode cX5_objectWeight 1 = .ok (.bipush 8, 2) := dX5_objectWeight_0g.2.1
theorem dX5_objectWeight_3 : decode cX5_objectWeight 3 = .ok (.if_icmp .ge 5, 3) := dX5_objectWeight_0g.2.2.1
theorem dX5_objectWeight_6 : decode cX5_objectWeight 6 = .ok (.iconst (-1), 1) := dX5_objectWeight_0g.2.2.2.1
theorem dX5_objectWeight_7 : decode cX5_objectWeight 7 = .ok (.ireturn, 1) := dX5_objectWeight_0g.2.2.2.2.1
theorem dX5_objectWeight_8 : decode cX5_objectWeight 8 = .ok (.aload_n 0, 1) := dX5_objectWeight_0g.2.2.2.2.2.1
theorem dX5_objectWeight_9 : decode cX5_objectWeight 9 = .ok (.getfield 17, 3) := dX5_objectWeight_0g.2.2.2.2.2.2.1
theorem dX5_objectWeight_12 : decode cX5_objectWeight 12 = .ok (.aload_n 0, 1) := dX5_objectWeight_0g.2.2.2.2.2.2.2.1
theorem dX5_objectWeight_13 : decode cX5_objectWeight 13 = .ok (.getfield 25, 3) := dX5_objectWeight_0g.2.2.2.2.2.2.2.2.1
theorem dX5_objectWeight_16 : decode cX5_objectWeight 16 = .ok (.iload_n 1, 1) := dX5_objectWeight_0g.2.2.2.2.2.2.2.2.2.1
theorem dX5_objectWeight_17 : decode cX5_objectWeight 17 = .ok (.iaload, 1) := dX5_objectWeight_0g.2.2.2.2.2.2.2.2.2.2.1
theorem dX5_objectWeight_18 : decode cX5_objectWeight 18 = .ok (.aaload, 1) := dX5_objectWeight_0g.2.2.2.2.2.2.2.2.2.2.2.1
theorem dX5_objectWeight_19 : decode cX5_objectWeight 19 = .ok (.iload_n 2, 1) := dX5_objectWeight_0g.2.2.2.2.2.2.2.2.2.2.2.2.1
theorem dX5_objectWeight_20 : decode cX5_objectWeight 20 = .ok (.bipush 8, 2) := dX5_objectWeight_0g.2.2.2.2.2.2.2.2.2.2.2.2.2.1
theorem dX5_objectWeight_22 : decode cX5_objectWeight 22 = .ok (.isub, 1) := dX5_objectWeight_0g.2.2.2.2.2.2.2.2.2.2.2.2.2.2.1
theorem dX5_objectWeight_23 : decode cX5_objectWeight 23 = .ok (.invokevirtual 323, 3) := dX5_objectWeight_0g.2.2.2.2.2.2.2.2.2.2.2.2.2.2.2
theorem dX5_objectWeight_26g : decode cX5_objectWeight 26 = .ok (.istore_n 3, 1) ∧ decode cX5_objectWeight 27 = .ok (.iload_n 3, 1) ∧ decode cX5_objectWeight 28 = .ok (.iconst (-1), 1) ∧ decode cX5_objectWeight 29 = .ok (.if_icmp .ne 7, 3) ∧ decode cX5_objectWeight 32 = .ok (.iconst (-1), 1) ∧ decode cX5_objectWeight 33 = .ok (.goto 6, 3) ∧ decode cX5_objectWeight 36 = .ok (.iconst 2, 1) ∧ decode cX5_objectWeight 37 = .ok (.iload_n 3, 1) ∧ decode cX5_objectWeight 38 = .ok (.imul, 1) ∧ decode cX5_objectWeight 39 = .ok (.ireturn, 1) := by decide +kernel
theorem dX5_objectWeight_26 : decode cX5_objectWeight 26 = .ok (.istore_n 3, 1) := dX5_objectWeight_26g.1
theorem dX5_objectWeight_27 : decode cX5_objectWeight 27 = .ok (.iload_n 3, 1) := dX5_objectWeight_26g.2.1
theorem dX5_objectWeight_28 : decode cX5_objectWeight 28 = .ok (.iconst (-1), 1) := dX5_objectWeight_26g.2.2.1
theorem dX5_objectWeight_29 : decode cX5_objectWeight 29 = .ok (.if_icmp .ne 7, 3) := dX5_objectWeight_26g.2.2.2.1
theorem dX5_objectWeight_32 : decode cX5_objectWeight 32 = .ok (.iconst (-1), 1) := dX5_objectWeight_26g.2.2.2.2.1
theorem dX5_objectWeight_33 : decode cX5_objectWeight 33 = .ok (.goto 6, 3) := dX5_objectWeight_26g.2.2.2.2.2.1
theorem dX5_objectWeight_36 : decode cX5_objectWeight 36 = .ok (.iconst 2, 1) := dX5_objectWeight_26g.2.2.2.2.2.2.1
theorem dX5_objectWeight_37 : decode cX5_objectWeight 37 = .ok (.iload_n 3, 1) := dX5_objectWeight_26g.2.2.2.2.2.2.2.1
theorem dX5_objectWeight_38 : decode cX5_objectWeight 38 = .ok (.imul, 1) := dX5_objectWeight_26g.2.2.2.2.2.2.2.2.1
theorem dX5_objectWeight_39 : decode cX5_objectWeight 39 = .ok (.ireturn, 1) := dX5_objectWeight_26g.2.2.2.2.2.2.2.2.2
theorem dX5_bringToBe_0g : decode cX5_bringToBe 0 = .ok (.aload_n 0, 1) ∧ decode cX5_bringToBe 1 = .ok (.getfield 50, 3) ∧ decode cX5_bringToBe 4 = .ok (.bipush 60, 2) ∧ decode cX5_bringToBe 6 = .ok (.if_icmp .lt 10, 3) ∧ decode cX5_bringToBe 9 = .ok (.aload_n 0, 1) ∧ decode cX5_bringToBe 10 = .ok (.bipush 6, 2) ∧ decode cX5_bringToBe 12 = .ok (.invokevirtual 139, 3) ∧ decode cX5_bringToBe 16 = .ok (.aload_n 0, 1) ∧ decode cX5_bringToBe 17 = .ok (.getfield 50, 3) ∧ decode cX5_bringToBe 20 = .ok (.istore 4, 2) ∧ decode cX5_bringToBe 22 = .ok (.aload_n 0, 1) ∧ decode cX5_bringToBe 23 = .ok (.dup, 1) ∧ decode cX5_bringToBe 24 = .ok (.getfield 50, 3) ∧ decode cX5_bringToBe 27 = .ok (.iconst 1, 1) ∧ decode cX5_bringToBe 28 = .ok (.iadd, 1) ∧ decode cX5_bringToBe 29 = .ok (.putfield 50, 3) := by decide +kernel
theorem dX5_bringToBe_0 : decode cX5_bringToBe 0 = .ok (.aload_n 0, 1) := dX5_bringToBe_0g.1
theorem dX5_bringToBe_1 : decode cX5_bringToBe 1 = .ok (.getfield 50, 3) := dX5_bringToBe_0g.2.1
theorem dX5_bringToBe_4 : decode cX5_bringToBe 4 = .ok (.bipush 60, 2) := dX5_bringToBe_0g.2.2.1
theorem dX5_bringToBe_6 : decode cX5_bringToBe 6 = .ok (.if_icmp .lt 10, 3) := dX5_bringToBe_0g.2.2.2.1
theorem dX5_bringToBe_9 : decode cX5_bringToBe 9 = .ok (.aload_n 0, 1) := dX5_bringToBe_0g.2.2.2.2.1
theorem dX5_bringToBe_10 : decode cX5_bringToBe 10 = .ok (.bipush 6, 2) := dX5_bringToBe_0g.2.2.2.2.2.1
theorem dX5_bringToBe_12 : decode cX5_bringToBe 12 = .ok (.invokevirtual 139, 3) := dX5_bringToBe_0g.2.2.2.2.2.2.1
theorem dX5_bringToBe_16 : decode cX5_bringToBe 16 = .ok (.aload_n 0, 1) := dX5_bringToBe_0g.2.2.2.2.2.2.2.1
theorem dX5_bringToBe_17 : decode cX5_bringToBe 17 = .ok (.getfield 50, 3) := dX5_bringToBe_0g.2.2.2.2.2.2.2.2.1
theorem dX5_bringToBe_20 : decode cX5_bringToBe 20 = .ok (.istore 4, 2) := dX5_bringToBe_0g.2.2.2.2.2.2.2.2.2.1
theorem dX5_bringToBe_22 : decode cX5_bringToBe 22 = .ok (.aload_n 0, 1) := dX5_bringToBe_0g.2.2.2.2.2.2.2.2.2.2.1
theorem dX5_bringToBe_23 : decode cX5_bringToBe 23 = .ok (.dup, 1) := dX5_bringToBe_0g.2.2.2.2.2.2.2.2.2.2.2.1
theorem dX5_bringToBe_24 : decode cX5_bringToBe 24 = .ok (.getfield 50, 3) := dX5_bringToBe_0g.2.2.2.2.2.2.2.2.2.2.2.2.1
theorem dX5_bringToBe_27 : decode cX5_bringToBe 27 = .ok (.iconst 1, 1) := dX5_bringToBe_0g.2.2.2.2.2.2.2.2.2.2.2.2.2.1
theorem dX5_bringToBe_28 : decode cX5_bringToBe 28 = .ok (.iadd, 1) := dX5_bringToBe_0g.2.2.2.2.2.2.2.2.2.2.2.2.2.2.1
theorem dX5_bringToBe_29 : decode cX5_bringToBe 29 = .ok (.putfield 50, 3) := dX5_bringToBe_0g.2.2.2.2.2.2.2.2.2.2.2.2.2.2.2
theorem dX5_bringToBe_32g : decode cX5_bringToBe 32 = .ok (.aload_n 0, 1) ∧ decode cX5_bringToBe 33 = .ok (.getfield 25, 3) ∧ decode cX5_bringToBe 36 = .ok (.iload 4, 2) ∧ decode cX5_bringToBe 38 = .ok (.aload_n 2, 1) ∧ decode cX5_bringToBe 39 = .ok (.getfield 326, 3) ∧ decode cX5_bringToBe 42 = .ok (.iastore, 1) ∧ decode cX5_bringToBe 43 = .ok (.aload_n 0, 1) ∧ decode cX5_bringToBe 44 = .ok (.getfield 29, 3) ∧ decode cX5_bringToBe 47 = .ok (.iload 4, 2) ∧ decode cX5_bringToBe 49 = .ok (.aload_n 1, 1) ∧ decode cX5_bringToBe 50 = .ok (.getfield 128, 3) ∧ decode cX5_bringToBe 53 = .ok (.iastore, 1) ∧ decode cX5_bringToBe 54 = .ok (.aload_n 1, 1) ∧ decode cX5_bringToBe 55 = .ok (.iload 4, 2) ∧ decode cX5_bringToBe 57 = .ok (.putfield 92, 3) ∧ decode cX5_bringToBe 60 = .ok (.aload_n 2, 1) := by decide +kernel
theorem dX5_bringToBe_32 : decode cX5_bringToBe 32 = .ok (.aload_n 0, 1) := dX5_bringToBe_32g.1
theorem dX5_bringToBe_33 : decode cX5_bringToBe 33 = .ok (.getfield 25, 3) := dX5_bringToBe_32g.2.1
theorem dX5_bringToBe_36 : decode cX5_bringToBe 36 = .ok (.iload 4, 2) := dX5_bringToBe_32g.2.2.1
theorem dX5_bringToBe_38 : decode cX5_bringToBe 38 = .ok (.aload_n 2, 1) := dX5_bringToBe_32g.2.2.2.1
theorem dX5_bringToBe_39 : decode cX5_bringToBe 39 = .ok (.getfield 326, 3) := dX5_bringToBe_32g.2.2.2.2.1
theorem dX5_bringToBe_42 : decode cX5_bringToBe 42 = .ok (.iastore, 1) := dX5_bringToBe_32g.2.2.2.2.2.1
theorem dX5_bringToBe_43 : decode cX5_bringToBe 43 = .ok (.aload_n 0, 1) := dX5_bringToBe_32g.2.2.2.2.2.2.1
theorem dX5_bringToBe_44 : decode cX5_bringToBe 44 = .ok (.getfield 29, 3) := dX5_bringToBe_32g.2.2.2.2.2.2.2.1
theorem dX5_bringToBe_47 : decode cX5_bringToBe 47 = .ok (.iload 4, 2) := dX5_bringToBe_32g.2.2.2.2.2.2.2.2.1
theorem dX5_bringToBe_49 : decode cX5_bringToBe 49 = .ok (.aload_n 1, 1) := dX5_bringToBe_32g.2.2.2.2.2.2.2.2.2.1
theorem dX5_bringToBe_50 : decode cX5_bringToBe 50 = .ok (.getfield 128, 3) := dX5_bringToBe_32g.2.2.2.2.2.2.2.2.2.2.1
theorem dX5_bringToBe_53 : decode cX5_bringToBe 53 = .ok (.iastore, 1) := dX5_bringToBe_32g.2.2.2.2.2.2.2.2.2.2.2.1
theorem dX5_bringToBe_54 : decode cX5_bringToBe 54 = .ok (.aload_n 1, 1) := dX5_bringToBe_32g.2.2.2.2.2.2.2.2.2.2.2.2.1
theorem dX5_bringToBe_55 : decode cX5_bringToBe 55 = .ok (.iload 4, 2) := dX5_bringToBe_32g.2.2.2.2.2.2.2.2.2.2.2.2.2.1
theorem dX5_bringToBe_57 : decode cX5_bringToBe 57 = .ok (.putfield 92, 3) := dX5_bringToBe_32g.2.2.2.2.2.2.2.2.2.2.2.2.2.2.1
theorem dX5_bringToBe_60 : decode cX5_bringToBe 60 = .ok (.aload_n 2, 1) := dX5_bringToBe_32g.2.2.2.2.2.2.2.2.2.2.2.2.2.2.2
theorem dX5_bringToBe_61g : decode cX5_bringToBe 61 = .ok (.getfield 329, 3) ∧ decode cX5_bringToBe 64 = .ok (.iconst (-1), 1) ∧ decode cX5_bringToBe 65 = .ok (.if_icmp .ne 24, 3) ∧ decode cX5_bringToBe 68 = .ok (.aload_n 0, 1) ∧ decode cX5_bringToBe 69 = .ok (.getfield 21, 3) ∧ decode cX5_bringToBe 72 = .ok (.iconst 1, 1) ∧ decode cX5_bringToBe 73 = .ok (.iload 4, 2) ∧ decode cX5_bringToBe 75 = .ok (.aload_n 2, 1) ∧ decode cX5_bringToBe 76 = .ok (.getfield 326, 3) ∧ decode cX5_bringToBe 79 = .ok (.aload_n 2, 1) ∧ decode cX5_bringToBe 80 = .ok (.getfield 332, 3) ∧ decode cX5_bringToBe 83 = .ok (.invokevirtual 95, 3) ∧ decode cX5_bringToBe 86 = .ok (.goto 29, 3) ∧ decode cX5_bringToBe 89 = .ok (.aload_n 0, 1) ∧ decode cX5_bringToBe 90 = .ok (.getfield 21, 3) ∧ decode cX5_bringToBe 93 = .ok (.iconst 2, 1) := by decide +kernel
theorem dX5_bringToBe_61 : decode cX5_bringToBe 61 = .ok (.getfield 329, 3) := dX5_bringToBe_61g.1
theorem dX5_bringToBe_64 : decode cX5_bringToBe 64 = .ok (.iconst (-1), 1) := dX5_bringToBe_61g.2.1
theorem dX5_bringToBe_65 : decode cX5_bringToBe 65 = .ok (.if_icmp .ne 24, 3) := dX5_bringToBe_61g.2.2.1
theorem dX5_bringToBe_68 : decode cX5_bringToBe 68 = .ok (.aload_n 0, 1) := dX5_bringToBe_61g.2.2.2.1
theorem dX5_bringToBe_69 : decode cX5_bringToBe 69 = .ok (.getfield 21, 3) := dX5_bringToBe_61g.2.2.2.2.1
theorem dX5_bringToBe_72 : decode cX5_bringToBe 72 = .ok (.iconst 1, 1) := dX5_bringToBe_61g.2.2.2.2.2.1
theorem dX5_bringToBe_73 : decode cX5_bringToBe 73 = .ok (.iload 4, 2) := dX5_bringToBe_61g.2.2.2.2.2.2.1
theorem dX5_bringToBe_75 : decode cX5_bringToBe 75 = .ok (.aload_n 2, 1) := dX5_bringToBe_61g.2.2.2.2.2.2.2.1
theorem dX5_bringToBe_76 : decode cX5_bringToBe 76 = .ok (.getfield 326, 3) := dX5_bringToBe_61g.2.2.2.2.2.2.2.2.1
theorem dX5_bringToBe_79 : decode cX5_bringToBe 79 = .ok (.aload_n 2, 1) := dX5_bringToBe_61g.2.2.2.2.2.2.2.2.2.1
theorem dX5_bringToBe_80 : decode cX5_bringToBe 80 = .ok (.getfield 332, 3) := dX5_bringToBe_61g.2.2.2.2.2.2.2.2.2.2.1
theorem dX5_bringToBe_83 : decode cX5_bringToBe 83 = .ok (.invokevirtual 95, 3) := dX5_bringToBe_61g.2.2.2.2.2.2.2.2.2.2.2.1
theorem dX5_bringToBe_86 : decode cX5_bringToBe 86 = .ok (.goto 29, 3) := dX5_bringToBe_61g.2.2.2.2.2.2.2.2.2.2.2.2.1
theorem dX5_bringToBe_89 : decode cX5_bringToBe 89 = .ok (.aload_n 0, 1) := dX5_bringToBe_61g.2.2.2.2.2.2.2.2.2.2.2.2.2.1
theorem dX5_bringToBe_90 : decode cX5_bringToBe 90 = .ok (.getfield 21, 3) := dX5_bringToBe_61g.2.2.2.2.2.2.2.2.2.2.2.2.2.2.1
theorem dX5_bringToBe_93 : decode cX5_bringToBe 93 = .ok (.iconst 2, 1) := dX5_bringToBe_61g.2.2.2.2.2.2.2.2.2.2.2.2.2.2.2
theorem dX5_bringToBe_94g : decode cX5_bringToBe 94 = .ok (.iload 4, 2) ∧ decode cX5_bringToBe 96 = .ok (.aload_n 2, 1) ∧ decode cX5_bringToBe 97 = .ok (.getfield 326, 3) ∧ decode cX5_bringToBe 100 = .ok (.bipush 8, 2) ∧ decode cX5_bringToBe 102 = .ok (.aload_n 2, 1) ∧ decode cX5_bringToBe 103 = .ok (.getfield 333, 3) ∧ decode cX5_bringToBe 106 = .ok (.imul, 1) ∧ decode cX5_bringToBe 107 = .ok (.aload_n 2, 1) ∧ decode cX5_bringToBe 108 = .ok (.getfield 332, 3) ∧ decode cX5_bringToBe 111 = .ok (.iadd, 1) ∧ decode cX5_bringToBe 112 = .ok (.invokevirtual 95, 3) ∧ decode cX5_bringToBe 115 = .ok (.iconst 0, 1) ∧ decode cX5_bringToBe 116 = .ok (.istore 5, 2) ∧ decode cX5_bringToBe 118 = .ok (.iload 5, 2) ∧ decode cX5_bringToBe 120 = .ok (.aload_n 2, 1) ∧ decode cX5_bringToBe 121 = .ok (.getfield 290, 3) := by decide +kernel
theorem dX5_bringToBe_94 : decode cX5_bringToBe 94 = .ok (.iload 4, 2) := dX5_bringToBe_94g.1
theorem dX5_bringToBe_96 : decode cX5_bringToBe 96 = .ok (.aload_n 2, 1) := dX5_bringToBe_94g.2.1
theorem dX5_bringToBe_97 : decode cX5_bringToBe 97 = .ok (.getfield 326, 3) := dX5_bringToBe_94g.2.2.1
theorem dX5_bringToBe_100 : decode cX5_bringToBe 100 = .ok (.bipush 8, 2) := dX5_bringToBe_94g.2.2.2.1
theorem dX5_bringToBe_102 : decode cX5_bringToBe 102 = .ok (.aload_n 2, 1) := dX5_bringToBe_94g.2.2.2.2.1
theorem dX5_bringToBe_103 : decode cX5_bringToBe 103 = .ok (.getfield 333, 3) := dX5_bringToBe_94g.2.2.2.2.2.1
theorem dX5_bringToBe_106 : decode cX5_bringToBe 106 = .ok (.imul, 1) := dX5_bringToBe_94g.2.2.2.2.2.2.1
theorem dX5_bringToBe_107 : decode cX5_bringToBe 107 = .ok (.aload_n 2, 1) := dX5_bringToBe_94g.2.2.2.2.2.2.2.1
theorem dX5_bringToBe_108 : decode cX5_bringToBe 108 = .ok (.getfield 332, 3) := dX5_bringToBe_94g.2.2.2.2.2.2.2.2.1
theorem dX5_bringToBe_111 : decode cX5_bringToBe 111 = .ok (.iadd, 1) := dX5_bringToBe_94g.2.2.2.2.2.2.2.2.2.1
theorem dX5_bringToBe_112 : decode cX5_bringToBe 112 = .ok (.invokevirtual 95, 3) := dX5_bringToBe_94g.2.2.2.2.2.2.2.2.2.2.1
theorem dX5_bringToBe_115 : decode cX5_bringToBe 115 = .ok (.iconst 0, 1) := dX5_bringToBe_94g.2.2.2.2.2.2.2.2.2.2.2.1
theorem dX5_bringToBe_116 : decode cX5_bringToBe 116 = .ok (.istore 5, 2) := dX5_bringToBe_94g.2.2.2.2.2.2.2.2.2.2.2.2.1
theorem dX5_bringToBe_118 : decode cX5_bringToBe 118 = .ok (.iload 5, 2) := dX5_bringToBe_94g.2.2.2.2.2.2.2.2.2.2.2.2.2.1
theorem dX5_bringToBe_120 : decode cX5_bringToBe 120 = .ok (.aload_n 2, 1) := dX5_bringToBe_94g.2.2.2.2.2.2.2.2.2.2.2.2.2.2.1
theorem dX5_bringToBe_121 : decode cX5_bringToBe 121 = .ok (.getfield 290, 3) := dX5_bringToBe_94g.2.2.2.2.2.2.2.2.2.2.2.2.2.2.2
theorem dX5_bringToBe_124g : decode cX5_bringToBe 124 = .ok (.if_icmp .ge 55, 3) ∧ decode cX5_bringToBe 127 = .ok (.aload_n 0, 1) ∧ decode cX5_bringToBe 128 = .ok (.getfield 43, 3) ∧ decode cX5_bringToBe 131 = .ok (.iload 5, 2) ∧ decode cX5_bringToBe 133 = .ok (.iaload, 1) ∧ decode cX5_bringToBe 134 = .ok (.istore 6, 2) ∧ decode cX5_bringToBe 136 = .ok (.aload_n 0, 1) ∧ decode cX5_bringToBe 137 = .ok (.iconst 3, 1) ∧ decode cX5_bringToBe 138 = .ok (.iload 4, 2) ∧ decode cX5_bringToBe 140 = .ok (.iload 5, 2) ∧ decode cX5_bringToBe 142 = .ok (.aload_n 1, 1) ∧ decode cX5_bringToBe 143 = .ok (.getfield 178, 3) ∧ decode cX5_bringToBe 146 = .ok (.iload 6, 2) ∧ decode cX5_bringToBe 148 = .ok (.invokevirtual 187, 3) ∧ decode cX5_bringToBe 151 = .ok (.checkcast 191, 3) ∧ decode cX5_bringToBe 154 = .ok (.getfield 193, 3) := by decide +kernel
theorem dX5_bringToBe_124 : decode cX5_bringToBe 124 = .ok (.if_icmp .ge 55, 3) := dX5_bringToBe_124g.1
theorem dX5_bringToBe_127 : decode cX5_bringToBe 127 = .ok (.aload_n 0, 1) := dX5_bringToBe_124g.2.1
theorem dX5_bringToBe_128 : decode cX5_bringToBe 128 = .ok (.getfield 43, 3) := dX5_bringToBe_124g.2.2.1
theorem dX5_bringToBe_131 : decode cX5_bringToBe 131 = .ok (.iload 5, 2) := dX5_bringToBe_124g.2.2.2.1
theorem dX5_bringToBe_133 : decode cX5_bringToBe 133 = .ok (.iaload, 1) := dX5_bringToBe_124g.2.2.2.2.1
theorem dX5_bringToBe_134 : decode cX5_bringToBe 134 = .ok (.istore 6, 2) := dX5_bringToBe_124g.2.2.2.2.2.1
theorem dX5_bringToBe_136 : decode cX5_bringToBe 136 = .ok (.aload_n 0, 1) := dX5_bringToBe_124g.2.2.2.2.2.2.1
theorem dX5_bringToBe_137 : decode cX5_bringToBe 137 = .ok (.iconst 3, 1) := dX5_bringToBe_124g.2.2.2.2.2.2.2.1
theorem dX5_bringToBe_138 : decode cX5_bringToBe 138 = .ok (.iload 4, 2) := dX5_bringToBe_124g.2.2.2.2.2.2.2.2.1
theorem dX5_bringToBe_140 : decode cX5_bringToBe 140 = .ok (.iload 5, 2) := dX5_bringToBe_124g.2.2.2.2.2.2.2.2.2.1
theorem dX5_bringToBe_142 : decode cX5_bringToBe 142 = .ok (.aload_n 1, 1) := dX5_bringToBe_124g.2.2.2.2.2.2.2.2.2.2.1
theorem dX5_bringToBe_143 : decode cX5_bringToBe 143 = .ok (.getfield 178, 3) := dX5_bringToBe_124g.2.2.2.2.2.2.2.2.2.2.2.1
theorem dX5_bringToBe_146 : decode cX5_bringToBe 146 = .ok (.iload 6, 2) := dX5_bringToBe_124g.2.2.2.2.2.2.2.2.2.2.2.2.1
theorem dX5_bringToBe_148 : decode cX5_bringToBe 148 = .ok (.invokevirtual 187, 3) := dX5_bringToBe_124g.2.2.2.2.2.2.2.2.2.2.2.2.2.1
theorem dX5_bringToBe_151 : decode cX5_bringToBe 151 = .ok (.checkcast 191, 3) := dX5_bringToBe_124g.2.2.2.2.2.2.2.2.2.2.2.2.2.2.1
theorem dX5_bringToBe_154 : decode cX5_bringToBe 154 = .ok (.getfield 193, 3) := dX5_bringToBe_124g.2.2.2.2.2.2.2.2.2.2.2.2.2.2.2
theorem dX5_bringToBe_157g : decode cX5_bringToBe 157 = .ok (.iload_n 3, 1) ∧ decode cX5_bringToBe 158 = .ok (.iload 6, 2) ∧ decode cX5_bringToBe 160 = .ok (.invokestatic 197, 3) ∧ decode cX5_bringToBe 163 = .ok (.aload_n 2, 1) ∧ decode cX5_bringToBe 164 = .ok (.getfield 292, 3) ∧ decode cX5_bringToBe 167 = .ok (.iload 5, 2) ∧ decode cX5_bringToBe 169 = .ok (.iaload, 1) ∧ decode cX5_bringToBe 170 = .ok (.invokevirtual 336, 3) ∧ decode cX5_bringToBe 173 = .ok (.iinc 5 1, 3) ∧ decode cX5_bringToBe 176 = .ok (.goto (-58), 3) ∧ decode cX5_bringToBe 179 = .ok (.return_, 1) := by decide +kernel
theorem dX5_bringToBe_157 : decode cX5_bringToBe 157 = .ok (.iload_n 3, 1) := dX5_bringToBe_157g.1
theorem dX5_bringToBe_158 : decode cX5_bringToBe 158 = .ok (.iload 6, 2) := dX5_bringToBe_157g.2.1
theorem dX5_bringToBe_160 : decode cX5_bringToBe 160 = .ok (.invokestatic 197, 3) := dX5_bringToBe_157g.2.2.1
theorem dX5_bringToBe_163 : decode cX5_bringToBe 163 = .ok (.aload_n 2, 1) := dX5_bringToBe_157g.2.2.2.1
theorem dX5_bringToBe_164 : decode cX5_bringToBe 164 = .ok (.getfield 292, 3) := dX5_bringToBe_157g.2.2.2.2.1
theorem dX5_bringToBe_167 : decode cX5_bringToBe 167 = .ok (.iload 5, 2) := dX5_bringToBe_157g.2.2.2.2.2.1
theorem dX5_bringToBe_169 : decode cX5_bringToBe 169 = .ok (.iaload, 1) := dX5_bringToBe_157g.2.2.2.2.2.2.1
theorem dX5_bringToBe_170 : decode cX5_bringToBe 170 = .ok (.invokevirtual 336, 3) := dX5_bringToBe_157g.2.2.2.2.2.2.2.1
theorem dX5_bringToBe_173 : decode cX5_bringToBe 173 = .ok (.iinc 5 1, 3) := dX5_bringToBe_157g.2.2.2.2.2.2.2.2.1
theorem dX5_bringToBe_176 : decode cX5_bringToBe 176 = .ok (.goto (-58), 3) := dX5_bringToBe_157g.2.2.2.2.2.2.2.2.2.1
theorem dX5_bringToBe_179 : decode cX5_bringToBe 179 = .ok (.return_, 1) := dX5_bringToBe_157g.2.2.2.2.2.2.2.2.2.2
theorem dX5_applySets_0g : decode cX5_applySets 0 = .ok (.aload_n 1, 1) ∧ decode cX5_applySets 1 = .ok (.getfield 92, 3) ∧ decode cX5_applySets 4 = .ok (.istore_n 3, 1) ∧ decode cX5_applySets 5 = .ok (.iload_n 2, 1) ∧ decode cX5_applySets 6 = .ok (.iconst 0, 1) ∧ decode cX5_applySets 7 = .ok (.invokestatic 197, 3) ∧ decode cX5_applySets 10 = .ok (.istore 4, 2) ∧ decode cX5_applySets 12 = .ok (.iconst 0, 1) ∧ decode cX5_applySets 13 = .ok (.istore 5, 2) ∧ decode cX5_applySets 15 = .ok (.iload 5, 2) ∧ decode cX5_applySets 17 = .ok (.aload_n 1, 1) ∧ decode cX5_applySets 18 = .ok (.getfield 340, 3) ∧ decode cX5_applySets 21 = .ok (.invokevirtual 182, 3) ∧ decode cX5_applySets 24 = .ok (.if_icmp .ge 113, 3) ∧ decode cX5_applySets 27 = .ok (.aload_n 1, 1) ∧ decode cX5_applySets 28 = .ok (.getfield 340, 3) := by decide +kernel
theorem dX5_applySets_0 : decode cX5_applySets 0 = .ok (.aload_n 1, 1) := dX5_applySets_0g.1
theorem dX5_applySets_1 : decode cX5_applySets 1 = .ok (.getfield 92, 3) := dX5_applySets_0g.2.1
theorem dX5_applySets_4 : decode cX5_applySets 4 = .ok (.istore_n 3, 1) := dX5_applySets_0g.2.2.1
theorem dX5_applySets_5 : decode cX5_applySets 5 = .ok (.iload_n 2, 1) := dX5_applySets_0g.2.2.2.1
theorem dX5_applySets_6 : decode cX5_applySets 6 = .ok (.iconst 0, 1) := dX5_applySets_0g.2.2.2.2.1
theorem dX5_applySets_7 : decode cX5_applySets 7 = .ok (.invokestatic 197, 3) := dX5_applySets_0g.2.2.2.2.2.1
theorem dX5_applySets_10 : decode cX5_applySets 10 = .ok (.istore 4, 2) := dX5_applySets_0g.2.2.2.2.2.2.1
theorem dX5_applySets_12 : decode cX5_applySets 12 = .ok (.iconst 0, 1) := dX5_applySets_0g.2.2.2.2.2.2.2.1
theorem dX5_applySets_13 : decode cX5_applySets 13 = .ok (.istore 5, 2) := dX5_applySets_0g.2.2.2.2.2.2.2.2.1
theorem dX5_applySets_15 : decode cX5_applySets 15 = .ok (.iload 5, 2) := dX5_applySets_0g.2.2.2.2.2.2.2.2.2.1
theorem dX5_applySets_17 : decode cX5_applySets 17 = .ok (.aload_n 1, 1) := dX5_applySets_0g.2.2.2.2.2.2.2.2.2.2.1
theorem dX5_applySets_18 : decode cX5_applySets 18 = .ok (.getfield 340, 3) := dX5_applySets_0g.2.2.2.2.2.2.2.2.2.2.2.1
theorem dX5_applySets_21 : decode cX5_applySets 21 = .ok (.invokevirtual 182, 3) := dX5_applySets_0g.2.2.2.2.2.2.2.2.2.2.2.2.1
theorem dX5_applySets_24 : decode cX5_applySets 24 = .ok (.if_icmp .ge 113, 3) := dX5_applySets_0g.2.2.2.2.2.2.2.2.2.2.2.2.2.1
theorem dX5_applySets_27 : decode cX5_applySets 27 = .ok (.aload_n 1, 1) := dX5_applySets_0g.2.2.2.2.2.2.2.2.2.2.2.2.2.2.1
theorem dX5_applySets_28 : decode cX5_applySets 28 = .ok (.getfield 340, 3) := dX5_applySets_0g.2.2.2.2.2.2.2.2.2.2.2.2.2.2.2
theorem dX5_applySets_31g : decode cX5_applySets 31 = .ok (.iload 5, 2) ∧ decode cX5_applySets 33 = .ok (.invokevirtual 187, 3) ∧ decode cX5_applySets 36 = .ok (.checkcast 191, 3) ∧ decode cX5_applySets 39 = .ok (.astore 6, 2) ∧ decode cX5_applySets 41 = .ok (.aload_n 0, 1) ∧ decode cX5_applySets 42 = .ok (.aload 6, 2) ∧ decode cX5_applySets 44 = .ok (.getfield 193, 3) ∧ decode cX5_applySets 47 = .ok (.iload 4, 2) ∧ decode cX5_applySets 49 = .ok (.iload_n 2, 1) ∧ decode cX5_applySets 50 = .ok (.invokevirtual 201, 3) ∧ decode cX5_applySets 53 = .ok (.aload_n 0, 1) ∧ decode cX5_applySets 54 = .ok (.getfield 17, 3) ∧ decode cX5_applySets 57 = .ok (.aload_n 0, 1) ∧ decode cX5_applySets 58 = .ok (.getfield 25, 3) ∧ decode cX5_applySets 61 = .ok (.iload_n 3, 1) ∧ decode cX5_applySets 62 = .ok (.iaload, 1) := by decide +kernel
theorem dX5_applySets_31 : decode cX5_applySets 31 = .ok (.iload 5, 2) := dX5_applySets_31g.1
theorem dX5_applySets_33 : decode cX5_applySets 33 = .ok (.invokevirtual 187, 3) := dX5_applySets_31g.2.1
theorem dX5_applySets_36 : decode cX5_applySets 36 = .ok (.checkcast 191, 3) := dX5_applySets_31g.2.2.1
theorem dX5_applySets_39 : decode cX5_applySets 39 = .ok (.astore 6, 2) := dX5_applySets_31g.2.2.2.1
theorem dX5_applySets_41 : decode cX5_applySets 41 = .ok (.aload_n 0, 1) := dX5_applySets_31g.2.2.2.2.1
theorem dX5_applySets_42 : decode cX5_applySets 42 = .ok (.aload 6, 2) := dX5_applySets_31g.2.2.2.2.2.1
theorem dX5_applySets_44 : decode cX5_applySets 44 = .ok (.getfield 193, 3) := dX5_applySets_31g.2.2.2.2.2.2.1
theorem dX5_applySets_47 : decode cX5_applySets 47 = .ok (.iload 4, 2) := dX5_applySets_31g.2.2.2.2.2.2.2.1
theorem dX5_applySets_49 : decode cX5_applySets 49 = .ok (.iload_n 2, 1) := dX5_applySets_31g.2.2.2.2.2.2.2.2.1
theorem dX5_applySets_50 : decode cX5_applySets 50 = .ok (.invokevirtual 201, 3) := dX5_applySets_31g.2.2.2.2.2.2.2.2.2.1
theorem dX5_applySets_53 : decode cX5_applySets 53 = .ok (.aload_n 0, 1) := dX5_applySets_31g.2.2.2.2.2.2.2.2.2.2.1
theorem dX5_applySets_54 : decode cX5_applySets 54 = .ok (.getfield 17, 3) := dX5_applySets_31g.2.2.2.2.2.2.2.2.2.2.2.1
theorem dX5_applySets_57 : decode cX5_applySets 57 = .ok (.aload_n 0, 1) := dX5_applySets_31g.2.2.2.2.2.2.2.2.2.2.2.2.1
theorem dX5_applySets_58 : decode cX5_applySets 58 = .ok (.getfield 25, 3) := dX5_applySets_31g.2.2.2.2.2.2.2.2.2.2.2.2.2.1
theorem dX5_applySets_61 : decode cX5_applySets 61 = .ok (.iload_n 3, 1) := dX5_applySets_31g.2.2.2.2.2.2.2.2.2.2.2.2.2.2.1
theorem dX5_applySets_62 : decode cX5_applySets 62 = .ok (.iaload, 1) := dX5_applySets_31g.2.2.2.2.2.2.2.2.2.2.2.2.2.2.2
theorem dX5_applySets_63g : decode cX5_applySets 63 = .ok (.aaload, 1) ∧ decode cX5_applySets 64 = .ok (.aload 6, 2) ∧ decode cX5_applySets 66 = .ok (.getfield 343, 3) ∧ decode cX5_applySets 69 = .ok (.invokevirtual 346, 3) ∧ decode cX5_applySets 72 = .ok (.istore 7, 2) ∧ decode cX5_applySets 74 = .ok (.iload 7, 2) ∧ decode cX5_applySets 76 = .ok (.iconst (-1), 1) ∧ decode cX5_applySets 77 = .ok (.if_icmp .ne 10, 3) ∧ decode cX5_applySets 80 = .ok (.aload_n 0, 1) ∧ decode cX5_applySets 81 = .ok (.bipush 7, 2) ∧ decode cX5_applySets 83 = .ok (.invokevirtual 139, 3) ∧ decode cX5_applySets 87 = .ok (.aload_n 0, 1) ∧ decode cX5_applySets 88 = .ok (.aload 6, 2) ∧ decode cX5_applySets 90 = .ok (.getfield 193, 3) ∧ decode cX5_applySets 93 = .ok (.iload 4, 2) ∧ decode cX5_applySets 95 = .ok (.iload 7, 2) := by decide +kernel
theorem dX5_applySets_63 : decode cX5_applySets 63 = .ok (.aaload, 1) := dX5_applySets_63g.1
theorem dX5_applySets_64 : decode cX5_applySets 64 = .ok (.aload 6, 2) := dX5_applySets_63g.2.1
theorem dX5_applySets_66 : decode cX5_applySets 66 = .ok (.getfield 343, 3) := dX5_applySets_63g.2.2.1
theorem dX5_applySets_69 : decode cX5_applySets 69 = .ok (.invokevirtual 346, 3) := dX5_applySets_63g.2.2.2.1
theorem dX5_applySets_72 : decode cX5_applySets 72 = .ok (.istore 7, 2) := dX5_applySets_63g.2.2.2.2.1
theorem dX5_applySets_74 : decode cX5_applySets 74 = .ok (.iload 7, 2) := dX5_applySets_63g.2.2.2.2.2.1
theorem dX5_applySets_76 : decode cX5_applySets 76 = .ok (.iconst (-1), 1) := dX5_applySets_63g.2.2.2.2.2.2.1
theorem dX5_applySets_77 : decode cX5_applySets 77 = .ok (.if_icmp .ne 10, 3) := dX5_applySets_63g.2.2.2.2.2.2.2.1
theorem dX5_applySets_80 : decode cX5_applySets 80 = .ok (.aload_n 0, 1) := dX5_applySets_63g.2.2.2.2.2.2.2.2.1
theorem dX5_applySets_81 : decode cX5_applySets 81 = .ok (.bipush 7, 2) := dX5_applySets_63g.2.2.2.2.2.2.2.2.2.1
theorem dX5_applySets_83 : decode cX5_applySets 83 = .ok (.invokevirtual 139, 3) := dX5_applySets_63g.2.2.2.2.2.2.2.2.2.2.1
theorem dX5_applySets_87 : decode cX5_applySets 87 = .ok (.aload_n 0, 1) := dX5_applySets_63g.2.2.2.2.2.2.2.2.2.2.2.1
theorem dX5_applySets_88 : decode cX5_applySets 88 = .ok (.aload 6, 2) := dX5_applySets_63g.2.2.2.2.2.2.2.2.2.2.2.2.1
theorem dX5_applySets_90 : decode cX5_applySets 90 = .ok (.getfield 193, 3) := dX5_applySets_63g.2.2.2.2.2.2.2.2.2.2.2.2.2.1
theorem dX5_applySets_93 : decode cX5_applySets 93 = .ok (.iload 4, 2) := dX5_applySets_63g.2.2.2.2.2.2.2.2.2.2.2.2.2.2.1
theorem dX5_applySets_95 : decode cX5_applySets 95 = .ok (.iload 7, 2) := dX5_applySets_63g.2.2.2.2.2.2.2.2.2.2.2.2.2.2.2
theorem dX5_applySets_97g : decode cX5_applySets 97 = .ok (.invokevirtual 298, 3) ∧ decode cX5_applySets 100 = .ok (.iconst (-1), 1) ∧ decode cX5_applySets 101 = .ok (.if_icmp .ne 10, 3) ∧ decode cX5_applySets 104 = .ok (.aload_n 0, 1) ∧ decode cX5_applySets 105 = .ok (.bipush 8, 2) ∧ decode cX5_applySets 107 = .ok (.invokevirtual 139, 3) ∧ decode cX5_applySets 111 = .ok (.aload_n 0, 1) ∧ decode cX5_applySets 112 = .ok (.iconst 4, 1) ∧ decode cX5_applySets 113 = .ok (.iload_n 3, 1) ∧ decode cX5_applySets 114 = .ok (.aload 6, 2) ∧ decode cX5_applySets 116 = .ok (.getfield 343, 3) ∧ decode cX5_applySets 119 = .ok (.aload 6, 2) ∧ decode cX5_applySets 121 = .ok (.getfield 193, 3) ∧ decode cX5_applySets 124 = .ok (.iload 4, 2) ∧ decode cX5_applySets 126 = .ok (.iload 7, 2) ∧ decode cX5_applySets 128 = .ok (.invokevirtual 336, 3) := by decide +kernel
theorem dX5_applySets_97 : decode cX5_applySets 97 = .ok (.invokevirtual 298, 3) := dX5_applySets_97g.1
theorem dX5_applySets_100 : decode cX5_applySets 100 = .ok (.iconst (-1), 1) := dX5_applySets_97g.2.1
theorem dX5_applySets_101 : decode cX5_applySets 101 = .ok (.if_icmp .ne 10, 3) := dX5_applySets_97g.2.2.1
theorem dX5_applySets_104 : decode cX5_applySets 104 = .ok (.aload_n 0, 1) := dX5_applySets_97g.2.2.2.1
theorem dX5_applySets_105 : decode cX5_applySets 105 = .ok (.bipush 8, 2) := dX5_applySets_97g.2.2.2.2.1
theorem dX5_applySets_107 : decode cX5_applySets 107 = .ok (.invokevirtual 139, 3) := dX5_applySets_97g.2.2.2.2.2.1
theorem dX5_applySets_111 : decode cX5_applySets 111 = .ok (.aload_n 0, 1) := dX5_applySets_97g.2.2.2.2.2.2.1
theorem dX5_applySets_112 : decode cX5_applySets 112 = .ok (.iconst 4, 1) := dX5_applySets_97g.2.2.2.2.2.2.2.1
theorem dX5_applySets_113 : decode cX5_applySets 113 = .ok (.iload_n 3, 1) := dX5_applySets_97g.2.2.2.2.2.2.2.2.1
theorem dX5_applySets_114 : decode cX5_applySets 114 = .ok (.aload 6, 2) := dX5_applySets_97g.2.2.2.2.2.2.2.2.2.1
theorem dX5_applySets_116 : decode cX5_applySets 116 = .ok (.getfield 343, 3) := dX5_applySets_97g.2.2.2.2.2.2.2.2.2.2.1
theorem dX5_applySets_119 : decode cX5_applySets 119 = .ok (.aload 6, 2) := dX5_applySets_97g.2.2.2.2.2.2.2.2.2.2.2.1
theorem dX5_applySets_121 : decode cX5_applySets 121 = .ok (.getfield 193, 3) := dX5_applySets_97g.2.2.2.2.2.2.2.2.2.2.2.2.1
theorem dX5_applySets_124 : decode cX5_applySets 124 = .ok (.iload 4, 2) := dX5_applySets_97g.2.2.2.2.2.2.2.2.2.2.2.2.2.1
theorem dX5_applySets_126 : decode cX5_applySets 126 = .ok (.iload 7, 2) := dX5_applySets_97g.2.2.2.2.2.2.2.2.2.2.2.2.2.2.1
theorem dX5_applySets_128 : decode cX5_applySets 128 = .ok (.invokevirtual 336, 3) := dX5_applySets_97g.2.2.2.2.2.2.2.2.2.2.2.2.2.2.2
theorem dX5_applySets_131g : decode cX5_applySets 131 = .ok (.iinc 5 1, 3) ∧ decode cX5_applySets 134 = .ok (.goto (-119), 3) ∧ decode cX5_applySets 137 = .ok (.return_, 1) := by decide +kernel
theorem dX5_applySets_131 : decode cX5_applySets 131 = .ok (.iinc 5 1, 3) := dX5_applySets_131g.1
theorem dX5_applySets_134 : decode cX5_applySets 134 = .ok (.goto (-119), 3) := dX5_applySets_131g.2.1
theorem dX5_applySets_137 : decode cX5_applySets 137 = .ok (.return_, 1) := dX5_applySets_131g.2.2
theorem dX5_tellValue_0g : decode cX5_tellValue 0 = .ok (.aload_n 0, 1) ∧ decode cX5_tellValue 1 = .ok (.getfield 21, 3) ∧ decode cX5_tellValue 4 = .ok (.iload_n 1, 1) ∧ decode cX5_tellValue 5 = .ok (.iload_n 2, 1) ∧ decode cX5_tellValue 6 = .ok (.iload_n 3, 1) ∧ decode cX5_tellValue 7 = .ok (.aload_n 0, 1) ∧ decode cX5_tellValue 8 = .ok (.aload 4, 2) ∧ decode cX5_tellValue 10 = .ok (.iload 5, 2) ∧ decode cX5_tellValue 12 = .ok (.iload 6, 2) ∧ decode cX5_tellValue 14 = .ok (.invokevirtual 349, 3) ∧ decode cX5_tellValue 17 = .ok (.invokevirtual 95, 3) ∧ decode cX5_tellValue 20 = .ok (.aload 4, 2) ∧ decode cX5_tellValue 22 = .ok (.getfield 205, 3) ∧ decode cX5_tellValue 25 = .ok (.getstatic 209, 3) ∧ decode cX5_tellValue 28 = .ok (.if_acmp .ne 51, 3) ∧ decode cX5_tellValue 31 = .ok (.iconst 0, 1) := by decide +kernel
theorem dX5_tellValue_0 : decode cX5_tellValue 0 = .ok (.aload_n 0, 1) := dX5_tellValue_0g.1
theorem dX5_tellValue_1 : decode cX5_tellValue 1 = .ok (.getfield 21, 3) := dX5_tellValue_0g.2.1
theorem dX5_tellValue_4 : decode cX5_tellValue 4 = .ok (.iload_n 1, 1) := dX5_tellValue_0g.2.2.1
theorem dX5_tellValue_5 : decode cX5_tellValue 5 = .ok (.iload_n 2, 1) := dX5_tellValue_0g.2.2.2.1
theorem dX5_tellValue_6 : decode cX5_tellValue 6 = .ok (.iload_n 3, 1) := dX5_tellValue_0g.2.2.2.2.1
theorem dX5_tellValue_7 : decode cX5_tellValue 7 = .ok (.aload_n 0, 1) := dX5_tellValue_0g.2.2.2.2.2.1
theorem dX5_tellValue_8 : decode cX5_tellValue 8 = .ok (.aload 4, 2) := dX5_tellValue_0g.2.2.2.2.2.2.1
theorem dX5_tellValue_10 : decode cX5_tellValue 10 = .ok (.iload 5, 2) := dX5_tellValue_0g.2.2.2.2.2.2.2.1
theorem dX5_tellValue_12 : decode cX5_tellValue 12 = .ok (.iload 6, 2) := dX5_tellValue_0g.2.2.2.2.2.2.2.2.1
theorem dX5_tellValue_14 : decode cX5_tellValue 14 = .ok (.invokevirtual 349, 3) := dX5_tellValue_0g.2.2.2.2.2.2.2.2.2.1
theorem dX5_tellValue_17 : decode cX5_tellValue 17 = .ok (.invokevirtual 95, 3) := dX5_tellValue_0g.2.2.2.2.2.2.2.2.2.2.1
theorem dX5_tellValue_20 : decode cX5_tellValue 20 = .ok (.aload 4, 2) := dX5_tellValue_0g.2.2.2.2.2.2.2.2.2.2.2.1
theorem dX5_tellValue_22 : decode cX5_tellValue 22 = .ok (.getfield 205, 3) := dX5_tellValue_0g.2.2.2.2.2.2.2.2.2.2.2.2.1
theorem dX5_tellValue_25 : decode cX5_tellValue 25 = .ok (.getstatic 209, 3) := dX5_tellValue_0g.2.2.2.2.2.2.2.2.2.2.2.2.2.1
theorem dX5_tellValue_28 : decode cX5_tellValue 28 = .ok (.if_acmp .ne 51, 3) := dX5_tellValue_0g.2.2.2.2.2.2.2.2.2.2.2.2.2.2.1
theorem dX5_tellValue_31 : decode cX5_tellValue 31 = .ok (.iconst 0, 1) := dX5_tellValue_0g.2.2.2.2.2.2.2.2.2.2.2.2.2.2.2
theorem dX5_tellValue_32g : decode cX5_tellValue 32 = .ok (.istore 7, 2) ∧ decode cX5_tellValue 34 = .ok (.iload 7, 2) ∧ decode cX5_tellValue 36 = .ok (.aload 4, 2) ∧ decode cX5_tellValue 38 = .ok (.getfield 352, 3) ∧ decode cX5_tellValue 41 = .ok (.if_icmp .ge 38, 3) ∧ decode cX5_tellValue 44 = .ok (.iload 7, 2) ∧ decode cX5_tellValue 46 = .ok (.bipush 6, 2) ∧ decode cX5_tellValue 48 = .ok (.if_icmp .ge 31, 3) ∧ decode cX5_tellValue 51 = .ok (.aload_n 0, 1) ∧ decode cX5_tellValue 52 = .ok (.getfield 21, 3) ∧ decode cX5_tellValue 55 = .ok (.bipush 6, 2) ∧ decode cX5_tellValue 57 = .ok (.iconst (-1), 1) ∧ decode cX5_tellValue 58 = .ok (.iload 7, 2) ∧ decode cX5_tellValue 60 = .ok (.aload_n 0, 1) ∧ decode cX5_tellValue 61 = .ok (.getfield 40, 3) ∧ decode cX5_tellValue 64 = .ok (.iload 5, 2) := by decide +kernel
theorem dX5_tellValue_32 : decode cX5_tellValue 32 = .ok (.istore 7, 2) := dX5_tellValue_32g.1
theorem dX5_tellValue_34 : decode cX5_tellValue 34 = .ok (.iload 7, 2) := dX5_tellValue_32g.2.1
theorem dX5_tellValue_36 : decode cX5_tellValue 36 = .ok (.aload 4, 2) := dX5_tellValue_32g.2.2.1
theorem dX5_tellValue_38 : decode cX5_tellValue 38 = .ok (.getfield 352, 3) := dX5_tellValue_32g.2.2.2.1
theorem dX5_tellValue_41 : decode cX5_tellValue 41 = .ok (.if_icmp .ge 38, 3) := dX5_tellValue_32g.2.2.2.2.1
theorem dX5_tellValue_44 : decode cX5_tellValue 44 = .ok (.iload 7, 2) := dX5_tellValue_32g.2.2.2.2.2.1
theorem dX5_tellValue_46 : decode cX5_tellValue 46 = .ok (.bipush 6, 2) := dX5_tellValue_32g.2.2.2.2.2.2.1
theorem dX5_tellValue_48 : decode cX5_tellValue 48 = .ok (.if_icmp .ge 31, 3) := dX5_tellValue_32g.2.2.2.2.2.2.2.1
theorem dX5_tellValue_51 : decode cX5_tellValue 51 = .ok (.aload_n 0, 1) := dX5_tellValue_32g.2.2.2.2.2.2.2.2.1
theorem dX5_tellValue_52 : decode cX5_tellValue 52 = .ok (.getfield 21, 3) := dX5_tellValue_32g.2.2.2.2.2.2.2.2.2.1
theorem dX5_tellValue_55 : decode cX5_tellValue 55 = .ok (.bipush 6, 2) := dX5_tellValue_32g.2.2.2.2.2.2.2.2.2.2.1
theorem dX5_tellValue_57 : decode cX5_tellValue 57 = .ok (.iconst (-1), 1) := dX5_tellValue_32g.2.2.2.2.2.2.2.2.2.2.2.1
theorem dX5_tellValue_58 : decode cX5_tellValue 58 = .ok (.iload 7, 2) := dX5_tellValue_32g.2.2.2.2.2.2.2.2.2.2.2.2.1
theorem dX5_tellValue_60 : decode cX5_tellValue 60 = .ok (.aload_n 0, 1) := dX5_tellValue_32g.2.2.2.2.2.2.2.2.2.2.2.2.2.1
theorem dX5_tellValue_61 : decode cX5_tellValue 61 = .ok (.getfield 40, 3) := dX5_tellValue_32g.2.2.2.2.2.2.2.2.2.2.2.2.2.2.1
theorem dX5_tellValue_64 : decode cX5_tellValue 64 = .ok (.iload 5, 2) := dX5_tellValue_32g.2.2.2.2.2.2.2.2.2.2.2.2.2.2.2
theorem dX5_tellValue_66g : decode cX5_tellValue 66 = .ok (.iload 7, 2) ∧ decode cX5_tellValue 68 = .ok (.iadd, 1) ∧ decode cX5_tellValue 69 = .ok (.iaload, 1) ∧ decode cX5_tellValue 70 = .ok (.invokevirtual 95, 3) ∧ decode cX5_tellValue 73 = .ok (.iinc 7 1, 3) ∧ decode cX5_tellValue 76 = .ok (.goto (-42), 3) ∧ decode cX5_tellValue 79 = .ok (.return_, 1) := by decide +kernel
theorem dX5_tellValue_66 : decode cX5_tellValue 66 = .ok (.iload 7, 2) := dX5_tellValue_66g.1
theorem dX5_tellValue_68 : decode cX5_tellValue 68 = .ok (.iadd, 1) := dX5_tellValue_66g.2.1
theorem dX5_tellValue_69 : decode cX5_tellValue 69 = .ok (.iaload, 1) := dX5_tellValue_66g.2.2.1
theorem dX5_tellValue_70 : decode cX5_tellValue 70 = .ok (.invokevirtual 95, 3) := dX5_tellValue_66g.2.2.2.1
theorem dX5_tellValue_73 : decode cX5_tellValue 73 = .ok (.iinc 7 1, 3) := dX5_tellValue_66g.2.2.2.2.1
theorem dX5_tellValue_76 : decode cX5_tellValue 76 = .ok (.goto (-42), 3) := dX5_tellValue_66g.2.2.2.2.2.1
theorem dX5_tellValue_79 : decode cX5_tellValue 79 = .ok (.return_, 1) := dX5_tellValue_66g.2.2.2.2.2.2
theorem dX5_valueOf_0g : decode cX5_valueOf 0 = .ok (.getstatic 302, 3) ∧ decode cX5_valueOf 3 = .ok (.aload_n 1, 1) ∧ decode cX5_valueOf 4 = .ok (.getfield 205, 3) ∧ decode cX5_valueOf 7 = .ok (.invokevirtual 307, 3) ∧ decode cX5_valueOf 10 = .ok (.iaload, 1) ∧ decode cX5_valueOf 11 = .ok (.tableswitch 46 12 15 #[37, 29, 46, 35], 29) ∧ decode cX5_valueOf 40 = .ok (.aload_n 1, 1) ∧ decode cX5_valueOf 41 = .ok (.iload_n 3, 1) ∧ decode cX5_valueOf 42 = .ok (.invokestatic 355, 3) ∧ decode cX5_valueOf 45 = .ok (.ireturn, 1) ∧ decode cX5_valueOf 46 = .ok (.iconst (-1), 1) ∧ decode cX5_valueOf 47 = .ok (.ireturn, 1) ∧ decode cX5_valueOf 48 = .ok (.sipush 2000, 3) ∧ decode cX5_valueOf 51 = .ok (.aload_n 1, 1) ∧ decode cX5_valueOf 52 = .ok (.getfield 352, 3) ∧ decode cX5_valueOf 55 = .ok (.iadd, 1) := by decide +kernel
theorem dX5_valueOf_0 : decode cX5_valueOf 0 = .ok (.getstatic 302, 3) := dX5_valueOf_0g.1
theorem dX5_valueOf_3 : decode cX5_valueOf 3 = .ok (.aload_n 1, 1) := dX5_valueOf_0g.2.1
theorem dX5_valueOf_4 : decode cX5_valueOf 4 = .ok (.getfield 205, 3) := dX5_valueOf_0g.2.2.1
theorem dX5_valueOf_7 : decode cX5_valueOf 7 = .ok (.invokevirtual 307, 3) := dX5_valueOf_0g.2.2.2.1
theorem dX5_valueOf_10 : decode cX5_valueOf 10 = .ok (.iaload, 1) := dX5_valueOf_0g.2.2.2.2.1
theorem dX5_valueOf_11 : decode cX5_valueOf 11 = .ok (.tableswitch 46 12 15 #[37, 29, 46, 35], 29) := dX5_valueOf_0g.2.2.2.2.2.1
theorem dX5_valueOf_40 : decode cX5_valueOf 40 = .ok (.aload_n 1, 1) := dX5_valueOf_0g.2.2.2.2.2.2.1
theorem dX5_valueOf_41 : decode cX5_valueOf 41 = .ok (.iload_n 3, 1) := dX5_valueOf_0g.2.2.2.2.2.2.2.1
theorem dX5_valueOf_42 : decode cX5_valueOf 42 = .ok (.invokestatic 355, 3) := dX5_valueOf_0g.2.2.2.2.2.2.2.2.1
theorem dX5_valueOf_45 : decode cX5_valueOf 45 = .ok (.ireturn, 1) := dX5_valueOf_0g.2.2.2.2.2.2.2.2.2.1
theorem dX5_valueOf_46 : decode cX5_valueOf 46 = .ok (.iconst (-1), 1) := dX5_valueOf_0g.2.2.2.2.2.2.2.2.2.2.1
theorem dX5_valueOf_47 : decode cX5_valueOf 47 = .ok (.ireturn, 1) := dX5_valueOf_0g.2.2.2.2.2.2.2.2.2.2.2.1
theorem dX5_valueOf_48 : decode cX5_valueOf 48 = .ok (.sipush 2000, 3) := dX5_valueOf_0g.2.2.2.2.2.2.2.2.2.2.2.2.1
theorem dX5_valueOf_51 : decode cX5_valueOf 51 = .ok (.aload_n 1, 1) := dX5_valueOf_0g.2.2.2.2.2.2.2.2.2.2.2.2.2.1
theorem dX5_valueOf_52 : decode cX5_valueOf 52 = .ok (.getfield 352, 3) := dX5_valueOf_0g.2.2.2.2.2.2.2.2.2.2.2.2.2.2.1
theorem dX5_valueOf_55 : decode cX5_valueOf 55 = .ok (.iadd, 1) := dX5_valueOf_0g.2.2.2.2.2.2.2.2.2.2.2.2.2.2.2
theorem dX5_valueOf_56g : decode cX5_valueOf 56 = .ok (.ireturn, 1) ∧ decode cX5_valueOf 57 = .ok (.sipush 3000, 3) ∧ decode cX5_valueOf 60 = .ok (.aload_n 0, 1) ∧ decode cX5_valueOf 61 = .ok (.getfield 40, 3) ∧ decode cX5_valueOf 64 = .ok (.iload_n 2, 1) ∧ decode cX5_valueOf 65 = .ok (.iaload, 1) ∧ decode cX5_valueOf 66 = .ok (.iadd, 1) ∧ decode cX5_valueOf 67 = .ok (.ireturn, 1) := by decide +kernel
theorem dX5_valueOf_56 : decode cX5_valueOf 56 = .ok (.ireturn, 1) := dX5_valueOf_56g.1
theorem dX5_valueOf_57 : decode cX5_valueOf 57 = .ok (.sipush 3000, 3) := dX5_valueOf_56g.2.1
theorem dX5_valueOf_60 : decode cX5_valueOf 60 = .ok (.aload_n 0, 1) := dX5_valueOf_56g.2.2.1
theorem dX5_valueOf_61 : decode cX5_valueOf 61 = .ok (.getfield 40, 3) := dX5_valueOf_56g.2.2.2.1
theorem dX5_valueOf_64 : decode cX5_valueOf 64 = .ok (.iload_n 2, 1) := dX5_valueOf_56g.2.2.2.2.1
theorem dX5_valueOf_65 : decode cX5_valueOf 65 = .ok (.iaload, 1) := dX5_valueOf_56g.2.2.2.2.2.1
theorem dX5_valueOf_66 : decode cX5_valueOf 66 = .ok (.iadd, 1) := dX5_valueOf_56g.2.2.2.2.2.2.1
theorem dX5_valueOf_67 : decode cX5_valueOf 67 = .ok (.ireturn, 1) := dX5_valueOf_56g.2.2.2.2.2.2.2
theorem dX5_textValue_0g : decode cX5_textValue 0 = .ok (.iload_n 1, 1) ∧ decode cX5_textValue 1 = .ok (.tableswitch 45 0 2 #[27, 33, 38], 27) ∧ decode cX5_textValue 28 = .ok (.aload_n 0, 1) ∧ decode cX5_textValue 29 = .ok (.getfield 316, 3) ∧ decode cX5_textValue 32 = .ok (.l2i, 1) ∧ decode cX5_textValue 33 = .ok (.ireturn, 1) ∧ decode cX5_textValue 34 = .ok (.aload_n 0, 1) ∧ decode cX5_textValue 35 = .ok (.getfield 320, 3) ∧ decode cX5_textValue 38 = .ok (.ireturn, 1) ∧ decode cX5_textValue 39 = .ok (.aload_n 0, 1) ∧ decode cX5_textValue 40 = .ok (.getfield 358, 3) ∧ decode cX5_textValue 43 = .ok (.iconst 0, 1) ∧ decode cX5_textValue 44 = .ok (.caload, 1) ∧ decode cX5_textValue 45 = .ok (.ireturn, 1) ∧ decode cX5_textValue 46 = .ok (.sipush 1000, 3) ∧ decode cX5_textValue 49 = .ok (.aload_n 0, 1) := by decide +kernel
theorem dX5_textValue_0 : decode cX5_textValue 0 = .ok (.iload_n 1, 1) := dX5_textValue_0g.1
theorem dX5_textValue_1 : decode cX5_textValue 1 = .ok (.tableswitch 45 0 2 #[27, 33, 38], 27) := dX5_textValue_0g.2.1
theorem dX5_textValue_28 : decode cX5_textValue 28 = .ok (.aload_n 0, 1) := dX5_textValue_0g.2.2.1
theorem dX5_textValue_29 : decode cX5_textValue 29 = .ok (.getfield 316, 3) := dX5_textValue_0g.2.2.2.1
theorem dX5_textValue_32 : decode cX5_textValue 32 = .ok (.l2i, 1) := dX5_textValue_0g.2.2.2.2.1
theorem dX5_textValue_33 : decode cX5_textValue 33 = .ok (.ireturn, 1) := dX5_textValue_0g.2.2.2.2.2.1
theorem dX5_textValue_34 : decode cX5_textValue 34 = .ok (.aload_n 0, 1) := dX5_textValue_0g.2.2.2.2.2.2.1
theorem dX5_textValue_35 : decode cX5_textValue 35 = .ok (.getfield 320, 3) := dX5_textValue_0g.2.2.2.2.2.2.2.1
theorem dX5_textValue_38 : decode cX5_textValue 38 = .ok (.ireturn, 1) := dX5_textValue_0g.2.2.2.2.2.2.2.2.1
theorem dX5_textValue_39 : decode cX5_textValue 39 = .ok (.aload_n 0, 1) := dX5_textValue_0g.2.2.2.2.2.2.2.2.2.1
theorem dX5_textValue_40 : decode cX5_textValue 40 = .ok (.getfield 358, 3) := dX5_textValue_0g.2.2.2.2.2.2.2.2.2.2.1
theorem dX5_textValue_43 : decode cX5_textValue 43 = .ok (.iconst 0, 1) := dX5_textValue_0g.2.2.2.2.2.2.2.2.2.2.2.1
theorem dX5_textValue_44 : decode cX5_textValue 44 = .ok (.caload, 1) := dX5_textValue_0g.2.2.2.2.2.2.2.2.2.2.2.2.1
theorem dX5_textValue_45 : decode cX5_textValue 45 = .ok (.ireturn, 1) := dX5_textValue_0g.2.2.2.2.2.2.2.2.2.2.2.2.2.1
theorem dX5_textValue_46 : decode cX5_textValue 46 = .ok (.sipush 1000, 3) := dX5_textValue_0g.2.2.2.2.2.2.2.2.2.2.2.2.2.2.1
theorem dX5_textValue_49 : decode cX5_textValue 49 = .ok (.aload_n 0, 1) := dX5_textValue_0g.2.2.2.2.2.2.2.2.2.2.2.2.2.2.2
theorem dX5_textValue_50g : decode cX5_textValue 50 = .ok (.getfield 236, 3) ∧ decode cX5_textValue 53 = .ok (.iadd, 1) ∧ decode cX5_textValue 54 = .ok (.ireturn, 1) := by decide +kernel
theorem dX5_textValue_50 : decode cX5_textValue 50 = .ok (.getfield 236, 3) := dX5_textValue_50g.1
theorem dX5_textValue_53 : decode cX5_textValue 53 = .ok (.iadd, 1) := dX5_textValue_50g.2.1
theorem dX5_textValue_54 : decode cX5_textValue 54 = .ok (.ireturn, 1) := dX5_textValue_50g.2.2
theorem dX6_clear_0g : decode cX6_clear 0 = .ok (.aload_n 0, 1) ∧ decode cX6_clear 1 = .ok (.iconst 0, 1) ∧ decode cX6_clear 2 = .ok (.putfield 33, 3) ∧ decode cX6_clear 5 = .ok (.aload_n 0, 1) ∧ decode cX6_clear 6 = .ok (.iconst 0, 1) ∧ decode cX6_clear 7 = .ok (.putfield 37, 3) ∧ decode cX6_clear 10 = .ok (.aload_n 0, 1) ∧ decode cX6_clear 11 = .ok (.iconst 0, 1) ∧ decode cX6_clear 12 = .ok (.putfield 40, 3) ∧ decode cX6_clear 15 = .ok (.return_, 1) := by decide +kernel
theorem dX6_clear_0 : decode cX6_clear 0 = .ok (.aload_n 0, 1) := dX6_clear_0g.1
theorem dX6_clear_1 : decode cX6_clear 1 = .ok (.iconst 0, 1) := dX6_clear_0g.2.1
theorem dX6_clear_2 : decode cX6_clear 2 = .ok (.putfield 33, 3) := dX6_clear_0g.2.2.1
theorem dX6_clear_5 : decode cX6_clear 5 = .ok (.aload_n 0, 1) := dX6_clear_0g.2.2.2.1
theorem dX6_clear_6 : decode cX6_clear 6 = .ok (.iconst 0, 1) := dX6_clear_0g.2.2.2.2.1
theorem dX6_clear_7 : decode cX6_clear 7 = .ok (.putfield 37, 3) := dX6_clear_0g.2.2.2.2.2.1
theorem dX6_clear_10 : decode cX6_clear 10 = .ok (.aload_n 0, 1) := dX6_clear_0g.2.2.2.2.2.2.1
theorem dX6_clear_11 : decode cX6_clear 11 = .ok (.iconst 0, 1) := dX6_clear_0g.2.2.2.2.2.2.2.1
theorem dX6_clear_12 : decode cX6_clear 12 = .ok (.putfield 40, 3) := dX6_clear_0g.2.2.2.2.2.2.2.2.1
theorem dX6_clear_15 : decode cX6_clear 15 = .ok (.return_, 1) := dX6_clear_0g.2.2.2.2.2.2.2.2.2
theorem dX6_count_0g : decode cX6_count 0 = .ok (.aload_n 0, 1) ∧ decode cX6_count 1 = .ok (.getfield 33, 3) ∧ decode cX6_count 4 = .ok (.ireturn, 1) := by decide +kernel
theorem dX6_count_0 : decode cX6_count 0 = .ok (.aload_n 0, 1) := dX6_count_0g.1
theorem dX6_count_1 : decode cX6_count 1 = .ok (.getfield 33, 3) := dX6_count_0g.2.1
theorem dX6_count_4 : decode cX6_count 4 = .ok (.ireturn, 1) := dX6_count_0g.2.2
theorem dX6_element_0g : decode cX6_element 0 = .ok (.aload_n 0, 1) ∧ decode cX6_element 1 = .ok (.getfield 13, 3) ∧ decode cX6_element 4 = .ok (.iload_n 1, 1) ∧ decode cX6_element 5 = .ok (.aaload, 1) ∧ decode cX6_element 6 = .ok (.areturn, 1) := by decide +kernel
theorem dX6_element_0 : decode cX6_element 0 = .ok (.aload_n 0, 1) := dX6_element_0g.1
theorem dX6_element_1 : decode cX6_element 1 = .ok (.getfield 13, 3) := dX6_element_0g.2.1
theorem dX6_element_4 : decode cX6_element 4 = .ok (.iload_n 1, 1) := dX6_element_0g.2.2.1
theorem dX6_element_5 : decode cX6_element 5 = .ok (.aaload, 1) := dX6_element_0g.2.2.2.1
theorem dX6_element_6 : decode cX6_element 6 = .ok (.areturn, 1) := dX6_element_0g.2.2.2.2
theorem dX6_isFull_0g : decode cX6_isFull 0 = .ok (.aload_n 0, 1) ∧ decode cX6_isFull 1 = .ok (.getfield 33, 3) ∧ decode cX6_isFull 4 = .ok (.bipush 80, 2) ∧ decode cX6_isFull 6 = .ok (.if_icmp .lt 7, 3) ∧ decode cX6_isFull 9 = .ok (.iconst 1, 1) ∧ decode cX6_isFull 10 = .ok (.goto 4, 3) ∧ decode cX6_isFull 13 = .ok (.iconst 0, 1) ∧ decode cX6_isFull 14 = .ok (.ireturn, 1) := by decide +kernel
theorem dX6_isFull_0 : decode cX6_isFull 0 = .ok (.aload_n 0, 1) := dX6_isFull_0g.1
theorem dX6_isFull_1 : decode cX6_isFull 1 = .ok (.getfield 33, 3) := dX6_isFull_0g.2.1
theorem dX6_isFull_4 : decode cX6_isFull 4 = .ok (.bipush 80, 2) := dX6_isFull_0g.2.2.1
theorem dX6_isFull_6 : decode cX6_isFull 6 = .ok (.if_icmp .lt 7, 3) := dX6_isFull_0g.2.2.2.1
theorem dX6_isFull_9 : decode cX6_isFull 9 = .ok (.iconst 1, 1) := dX6_isFull_0g.2.2.2.2.1
theorem dX6_isFull_10 : decode cX6_isFull 10 = .ok (.goto 4, 3) := dX6_isFull_0g.2.2.2.2.2.1
theorem dX6_isFull_13 : decode cX6_isFull 13 = .ok (.iconst 0, 1) := dX6_isFull_0g.2.2.2.2.2.2.1
theorem dX6_isFull_14 : decode cX6_isFull 14 = .ok (.ireturn, 1) := dX6_isFull_0g.2.2.2.2.2.2.2
theorem dX6_addElement_0g : decode cX6_addElement 0 = .ok (.aload_n 0, 1) ∧ decode cX6_addElement 1 = .ok (.getfield 13, 3) ∧ decode cX6_addElement 4 = .ok (.aload_n 0, 1) ∧ decode cX6_addElement 5 = .ok (.getfield 33, 3) ∧ decode cX6_addElement 8 = .ok (.aaload, 1) ∧ decode cX6_addElement 9 = .ok (.astore_n 3, 1) ∧ decode cX6_addElement 10 = .ok (.aload_n 0, 1) ∧ decode cX6_addElement 11 = .ok (.dup, 1) ∧ decode cX6_addElement 12 = .ok (.getfield 33, 3) ∧ decode cX6_addElement 15 = .ok (.iconst 1, 1) ∧ decode cX6_addElement 16 = .ok (.iadd, 1) ∧ decode cX6_addElement 17 = .ok (.putfield 33, 3) ∧ decode cX6_addElement 20 = .ok (.aload_n 3, 1) ∧ decode cX6_addElement 21 = .ok (.iload_n 1, 1) ∧ decode cX6_addElement 22 = .ok (.aload_n 2, 1) ∧ decode cX6_addElement 23 = .ok (.aload_n 0, 1) := by decide +kernel
theorem dX6_addElement_0 : decode cX6_addElement 0 = .ok (.aload_n 0, 1) := dX6_addElement_0g.1
theorem dX6_addElement_1 : decode cX6_addElement 1 = .ok (.getfield 13, 3) := dX6_addElement_0g.2.1
theorem dX6_addElement_4 : decode cX6_addElement 4 = .ok (.aload_n 0, 1) := dX6_addElement_0g.2.2.1
theorem dX6_addElement_5 : decode cX6_addElement 5 = .ok (.getfield 33, 3) := dX6_addElement_0g.2.2.2.1
theorem dX6_addElement_8 : decode cX6_addElement 8 = .ok (.aaload, 1) := dX6_addElement_0g.2.2.2.2.1
theorem dX6_addElement_9 : decode cX6_addElement 9 = .ok (.astore_n 3, 1) := dX6_addElement_0g.2.2.2.2.2.1
theorem dX6_addElement_10 : decode cX6_addElement 10 = .ok (.aload_n 0, 1) := dX6_addElement_0g.2.2.2.2.2.2.1
theorem dX6_addElement_11 : decode cX6_addElement 11 = .ok (.dup, 1) := dX6_addElement_0g.2.2.2.2.2.2.2.1
theorem dX6_addElement_12 : decode cX6_addElement 12 = .ok (.getfield 33, 3) := dX6_addElement_0g.2.2.2.2.2.2.2.2.1
theorem dX6_addElement_15 : decode cX6_addElement 15 = .ok (.iconst 1, 1) := dX6_addElement_0g.2.2.2.2.2.2.2.2.2.1
theorem dX6_addElement_16 : decode cX6_addElement 16 = .ok (.iadd, 1) := dX6_addElement_0g.2.2.2.2.2.2.2.2.2.2.1
theorem dX6_addElement_17 : decode cX6_addElement 17 = .ok (.putfield 33, 3) := dX6_addElement_0g.2.2.2.2.2.2.2.2.2.2.2.1
theorem dX6_addElement_20 : decode cX6_addElement 20 = .ok (.aload_n 3, 1) := dX6_addElement_0g.2.2.2.2.2.2.2.2.2.2.2.2.1
theorem dX6_addElement_21 : decode cX6_addElement 21 = .ok (.iload_n 1, 1) := dX6_addElement_0g.2.2.2.2.2.2.2.2.2.2.2.2.2.1
theorem dX6_addElement_22 : decode cX6_addElement 22 = .ok (.aload_n 2, 1) := dX6_addElement_0g.2.2.2.2.2.2.2.2.2.2.2.2.2.2.1
theorem dX6_addElement_23 : decode cX6_addElement 23 = .ok (.aload_n 0, 1) := dX6_addElement_0g.2.2.2.2.2.2.2.2.2.2.2.2.2.2.2
theorem dX6_addElement_24g : decode cX6_addElement 24 = .ok (.getfield 37, 3) ∧ decode cX6_addElement 27 = .ok (.invokevirtual 43, 3) ∧ decode cX6_addElement 30 = .ok (.aload_n 2, 1) ∧ decode cX6_addElement 31 = .ok (.ifnull 8, 3) ∧ decode cX6_addElement 34 = .ok (.aload_n 2, 1) ∧ decode cX6_addElement 35 = .ok (.aload_n 3, 1) ∧ decode cX6_addElement 36 = .ok (.invokevirtual 47, 3) ∧ decode cX6_addElement 39 = .ok (.aload_n 3, 1) ∧ decode cX6_addElement 40 = .ok (.areturn, 1) := by decide +kernel
theorem dX6_addElement_24 : decode cX6_addElement 24 = .ok (.getfield 37, 3) := dX6_addElement_24g.1
theorem dX6_addElement_27 : decode cX6_addElement 27 = .ok (.invokevirtual 43, 3) := dX6_addElement_24g.2.1
theorem dX6_addElement_30 : decode cX6_addElement 30 = .ok (.aload_n 2, 1) := dX6_addElement_24g.2.2.1
theorem dX6_addElement_31 : decode cX6_addElement 31 = .ok (.ifnull 8, 3) := dX6_addElement_24g.2.2.2.1
theorem dX6_addElement_34 : decode cX6_addElement 34 = .ok (.aload_n 2, 1) := dX6_addElement_24g.2.2.2.2.1
theorem dX6_addElement_35 : decode cX6_addElement 35 = .ok (.aload_n 3, 1) := dX6_addElement_24g.2.2.2.2.2.1
theorem dX6_addElement_36 : decode cX6_addElement 36 = .ok (.invokevirtual 47, 3) := dX6_addElement_24g.2.2.2.2.2.2.1
theorem dX6_addElement_39 : decode cX6_addElement 39 = .ok (.aload_n 3, 1) := dX6_addElement_24g.2.2.2.2.2.2.2.1
theorem dX6_addElement_40 : decode cX6_addElement 40 = .ok (.areturn, 1) := dX6_addElement_24g.2.2.2.2.2.2.2.2
theorem dX6_addAttribute_0g : decode cX6_addAttribute 0 = .ok (.aload_n 0, 1) ∧ decode cX6_addAttribute 1 = .ok (.getfield 18, 3) ∧ decode cX6_addAttribute 4 = .ok (.aload_n 0, 1) ∧ decode cX6_addAttribute 5 = .ok (.getfield 37, 3) ∧ decode cX6_addAttribute 8 = .ok (.lload_n 2, 1) ∧ decode cX6_addAttribute 9 = .ok (.lastore, 1) ∧ decode cX6_addAttribute 10 = .ok (.aload_n 0, 1) ∧ decode cX6_addAttribute 11 = .ok (.getfield 22, 3) ∧ decode cX6_addAttribute 14 = .ok (.aload_n 0, 1) ∧ decode cX6_addAttribute 15 = .ok (.getfield 37, 3) ∧ decode cX6_addAttribute 18 = .ok (.aload_n 0, 1) ∧ decode cX6_addAttribute 19 = .ok (.getfield 40, 3) ∧ decode cX6_addAttribute 22 = .ok (.iastore, 1) ∧ decode cX6_addAttribute 23 = .ok (.aload_n 0, 1) ∧ decode cX6_addAttribute 24 = .ok (.getfield 26, 3) ∧ decode cX6_addAttribute 27 = .ok (.aload_n 0, 1) := by decide +kernel
theorem dX6_addAttribute_0 : decode cX6_addAttribute 0 = .ok (.aload_n 0, 1) := dX6_addAttribute_0g.1
theorem dX6_addAttribute_1 : decode cX6_addAttribute 1 = .ok (.getfield 18, 3) := dX6_addAttribute_0g.2.1
theorem dX6_addAttribute_4 : decode cX6_addAttribute 4 = .ok (.aload_n 0, 1) := dX6_addAttribute_0g.2.2.1
theorem dX6_addAttribute_5 : decode cX6_addAttribute 5 = .ok (.getfield 37, 3) := dX6_addAttribute_0g.2.2.2.1
theorem dX6_addAttribute_8 : decode cX6_addAttribute 8 = .ok (.lload_n 2, 1) := dX6_addAttribute_0g.2.2.2.2.1
theorem dX6_addAttribute_9 : decode cX6_addAttribute 9 = .ok (.lastore, 1) := dX6_addAttribute_0g.2.2.2.2.2.1
theorem dX6_addAttribute_10 : decode cX6_addAttribute 10 = .ok (.aload_n 0, 1) := dX6_addAttribute_0g.2.2.2.2.2.2.1
theorem dX6_addAttribute_11 : decode cX6_addAttribute 11 = .ok (.getfield 22, 3) := dX6_addAttribute_0g.2.2.2.2.2.2.2.1
theorem dX6_addAttribute_14 : decode cX6_addAttribute 14 = .ok (.aload_n 0, 1) := dX6_addAttribute_0g.2.2.2.2.2.2.2.2.1
theorem dX6_addAttribute_15 : decode cX6_addAttribute 15 = .ok (.getfield 37, 3) := dX6_addAttribute_0g.2.2.2.2.2.2.2.2.2.1
theorem dX6_addAttribute_18 : decode cX6_addAttribute 18 = .ok (.aload_n 0, 1) := dX6_addAttribute_0g.2.2.2.2.2.2.2.2.2.2.1
theorem dX6_addAttribute_19 : decode cX6_addAttribute 19 = .ok (.getfield 40, 3) := dX6_addAttribute_0g.2.2.2.2.2.2.2.2.2.2.2.1
theorem dX6_addAttribute_22 : decode cX6_addAttribute 22 = .ok (.iastore, 1) := dX6_addAttribute_0g.2.2.2.2.2.2.2.2.2.2.2.2.1
theorem dX6_addAttribute_23 : decode cX6_addAttribute 23 = .ok (.aload_n 0, 1) := dX6_addAttribute_0g.2.2.2.2.2.2.2.2.2.2.2.2.2.1
theorem dX6_addAttribute_24 : decode cX6_addAttribute 24 = .ok (.getfield 26, 3) := dX6_addAttribute_0g.2.2.2.2.2.2.2.2.2.2.2.2.2.2.1
theorem dX6_addAttribute_27 : decode cX6_addAttribute 27 = .ok (.aload_n 0, 1) := dX6_addAttribute_0g.2.2.2.2.2.2.2.2.2.2.2.2.2.2.2
theorem dX6_addAttribute_28g : decode cX6_addAttribute 28 = .ok (.getfield 37, 3) ∧ decode cX6_addAttribute 31 = .ok (.iconst 0, 1) ∧ decode cX6_addAttribute 32 = .ok (.iastore, 1) ∧ decode cX6_addAttribute 33 = .ok (.aload_n 0, 1) ∧ decode cX6_addAttribute 34 = .ok (.dup, 1) ∧ decode cX6_addAttribute 35 = .ok (.getfield 37, 3) ∧ decode cX6_addAttribute 38 = .ok (.iconst 1, 1) ∧ decode cX6_addAttribute 39 = .ok (.iadd, 1) ∧ decode cX6_addAttribute 40 = .ok (.putfield 37, 3) ∧ decode cX6_addAttribute 43 = .ok (.aload_n 1, 1) ∧ decode cX6_addAttribute 44 = .ok (.dup, 1) ∧ decode cX6_addAttribute 45 = .ok (.getfield 51, 3) ∧ decode cX6_addAttribute 48 = .ok (.iconst 1, 1) ∧ decode cX6_addAttribute 49 = .ok (.iadd, 1) ∧ decode cX6_addAttribute 50 = .ok (.putfield 51, 3) ∧ decode cX6_addAttribute 53 = .ok (.return_, 1) := by decide +kernel
theorem dX6_addAttribute_28 : decode cX6_addAttribute 28 = .ok (.getfield 37, 3) := dX6_addAttribute_28g.1
theorem dX6_addAttribute_31 : decode cX6_addAttribute 31 = .ok (.iconst 0, 1) := dX6_addAttribute_28g.2.1
theorem dX6_addAttribute_32 : decode cX6_addAttribute 32 = .ok (.iastore, 1) := dX6_addAttribute_28g.2.2.1
theorem dX6_addAttribute_33 : decode cX6_addAttribute 33 = .ok (.aload_n 0, 1) := dX6_addAttribute_28g.2.2.2.1
theorem dX6_addAttribute_34 : decode cX6_addAttribute 34 = .ok (.dup, 1) := dX6_addAttribute_28g.2.2.2.2.1
theorem dX6_addAttribute_35 : decode cX6_addAttribute 35 = .ok (.getfield 37, 3) := dX6_addAttribute_28g.2.2.2.2.2.1
theorem dX6_addAttribute_38 : decode cX6_addAttribute 38 = .ok (.iconst 1, 1) := dX6_addAttribute_28g.2.2.2.2.2.2.1
theorem dX6_addAttribute_39 : decode cX6_addAttribute 39 = .ok (.iadd, 1) := dX6_addAttribute_28g.2.2.2.2.2.2.2.1
theorem dX6_addAttribute_40 : decode cX6_addAttribute 40 = .ok (.putfield 37, 3) := dX6_addAttribute_28g.2.2.2.2.2.2.2.2.1
theorem dX6_addAttribute_43 : decode cX6_addAttribute 43 = .ok (.aload_n 1, 1) := dX6_addAttribute_28g.2.2.2.2.2.2.2.2.2.1
theorem dX6_addAttribute_44 : decode cX6_addAttribute 44 = .ok (.dup, 1) := dX6_addAttribute_28g.2.2.2.2.2.2.2.2.2.2.1
theorem dX6_addAttribute_45 : decode cX6_addAttribute 45 = .ok (.getfield 51, 3) := dX6_addAttribute_28g.2.2.2.2.2.2.2.2.2.2.2.1
theorem dX6_addAttribute_48 : decode cX6_addAttribute 48 = .ok (.iconst 1, 1) := dX6_addAttribute_28g.2.2.2.2.2.2.2.2.2.2.2.2.1
theorem dX6_addAttribute_49 : decode cX6_addAttribute 49 = .ok (.iadd, 1) := dX6_addAttribute_28g.2.2.2.2.2.2.2.2.2.2.2.2.2.1
theorem dX6_addAttribute_50 : decode cX6_addAttribute 50 = .ok (.putfield 51, 3) := dX6_addAttribute_28g.2.2.2.2.2.2.2.2.2.2.2.2.2.2.1
theorem dX6_addAttribute_53 : decode cX6_addAttribute 53 = .ok (.return_, 1) := dX6_addAttribute_28g.2.2.2.2.2.2.2.2.2.2.2.2.2.2.2
theorem dX6_takesValue_0g : decode cX6_takesValue 0 = .ok (.aload_n 0, 1) ∧ decode cX6_takesValue 1 = .ok (.getfield 37, 3) ∧ decode cX6_takesValue 4 = .ok (.iconst 1, 1) ∧ decode cX6_takesValue 5 = .ok (.isub, 1) ∧ decode cX6_takesValue 6 = .ok (.istore_n 2, 1) ∧ decode cX6_takesValue 7 = .ok (.iload_n 2, 1) ∧ decode cX6_takesValue 8 = .ok (.ifCond .lt 26, 3) ∧ decode cX6_takesValue 11 = .ok (.aload_n 0, 1) ∧ decode cX6_takesValue 12 = .ok (.getfield 26, 3) ∧ decode cX6_takesValue 15 = .ok (.iload_n 2, 1) ∧ decode cX6_takesValue 16 = .ok (.iaload, 1) ∧ decode cX6_takesValue 17 = .ok (.bipush 24, 2) ∧ decode cX6_takesValue 19 = .ok (.if_icmp .ge 15, 3) ∧ decode cX6_takesValue 22 = .ok (.aload_n 0, 1) ∧ decode cX6_takesValue 23 = .ok (.getfield 40, 3) ∧ decode cX6_takesValue 26 = .ok (.aload_n 0, 1) := by decide +kernel
theorem dX6_takesValue_0 : decode cX6_takesValue 0 = .ok (.aload_n 0, 1) := dX6_takesValue_0g.1
theorem dX6_takesValue_1 : decode cX6_takesValue 1 = .ok (.getfield 37, 3) := dX6_takesValue_0g.2.1
theorem dX6_takesValue_4 : decode cX6_takesValue 4 = .ok (.iconst 1, 1) := dX6_takesValue_0g.2.2.1
theorem dX6_takesValue_5 : decode cX6_takesValue 5 = .ok (.isub, 1) := dX6_takesValue_0g.2.2.2.1
theorem dX6_takesValue_6 : decode cX6_takesValue 6 = .ok (.istore_n 2, 1) := dX6_takesValue_0g.2.2.2.2.1
theorem dX6_takesValue_7 : decode cX6_takesValue 7 = .ok (.iload_n 2, 1) := dX6_takesValue_0g.2.2.2.2.2.1
theorem dX6_takesValue_8 : decode cX6_takesValue 8 = .ok (.ifCond .lt 26, 3) := dX6_takesValue_0g.2.2.2.2.2.2.1
theorem dX6_takesValue_11 : decode cX6_takesValue 11 = .ok (.aload_n 0, 1) := dX6_takesValue_0g.2.2.2.2.2.2.2.1
theorem dX6_takesValue_12 : decode cX6_takesValue 12 = .ok (.getfield 26, 3) := dX6_takesValue_0g.2.2.2.2.2.2.2.2.1
theorem dX6_takesValue_15 : decode cX6_takesValue 15 = .ok (.iload_n 2, 1) := dX6_takesValue_0g.2.2.2.2.2.2.2.2.2.1
theorem dX6_takesValue_16 : decode cX6_takesValue 16 = .ok (.iaload, 1) := dX6_takesValue_0g.2.2.2.2.2.2.2.2.2.2.1
theorem dX6_takesValue_17 : decode cX6_takesValue 17 = .ok (.bipush 24, 2) := dX6_takesValue_0g.2.2.2.2.2.2.2.2.2.2.2.1
theorem dX6_takesValue_19 : decode cX6_takesValue 19 = .ok (.if_icmp .ge 15, 3) := dX6_takesValue_0g.2.2.2.2.2.2.2.2.2.2.2.2.1
theorem dX6_takesValue_22 : decode cX6_takesValue 22 = .ok (.aload_n 0, 1) := dX6_takesValue_0g.2.2.2.2.2.2.2.2.2.2.2.2.2.1
theorem dX6_takesValue_23 : decode cX6_takesValue 23 = .ok (.getfield 40, 3) := dX6_takesValue_0g.2.2.2.2.2.2.2.2.2.2.2.2.2.2.1
theorem dX6_takesValue_26 : decode cX6_takesValue 26 = .ok (.aload_n 0, 1) := dX6_takesValue_0g.2.2.2.2.2.2.2.2.2.2.2.2.2.2.2
theorem dX6_takesValue_27g : decode cX6_takesValue 27 = .ok (.getfield 29, 3) ∧ decode cX6_takesValue 30 = .ok (.arraylength, 1) ∧ decode cX6_takesValue 31 = .ok (.if_icmp .lt 5, 3) ∧ decode cX6_takesValue 34 = .ok (.iconst 0, 1) ∧ decode cX6_takesValue 35 = .ok (.ireturn, 1) ∧ decode cX6_takesValue 36 = .ok (.aload_n 0, 1) ∧ decode cX6_takesValue 37 = .ok (.getfield 29, 3) ∧ decode cX6_takesValue 40 = .ok (.aload_n 0, 1) ∧ decode cX6_takesValue 41 = .ok (.getfield 40, 3) ∧ decode cX6_takesValue 44 = .ok (.iload_n 1, 1) ∧ decode cX6_takesValue 45 = .ok (.castore, 1) ∧ decode cX6_takesValue 46 = .ok (.aload_n 0, 1) ∧ decode cX6_takesValue 47 = .ok (.dup, 1) ∧ decode cX6_takesValue 48 = .ok (.getfield 40, 3) ∧ decode cX6_takesValue 51 = .ok (.iconst 1, 1) ∧ decode cX6_takesValue 52 = .ok (.iadd, 1) := by decide +kernel
theorem dX6_takesValue_27 : decode cX6_takesValue 27 = .ok (.getfield 29, 3) := dX6_takesValue_27g.1
theorem dX6_takesValue_30 : decode cX6_takesValue 30 = .ok (.arraylength, 1) := dX6_takesValue_27g.2.1
theorem dX6_takesValue_31 : decode cX6_takesValue 31 = .ok (.if_icmp .lt 5, 3) := dX6_takesValue_27g.2.2.1
theorem dX6_takesValue_34 : decode cX6_takesValue 34 = .ok (.iconst 0, 1) := dX6_takesValue_27g.2.2.2.1
theorem dX6_takesValue_35 : decode cX6_takesValue 35 = .ok (.ireturn, 1) := dX6_takesValue_27g.2.2.2.2.1
theorem dX6_takesValue_36 : decode cX6_takesValue 36 = .ok (.aload_n 0, 1) := dX6_takesValue_27g.2.2.2.2.2.1
theorem dX6_takesValue_37 : decode cX6_takesValue 37 = .ok (.getfield 29, 3) := dX6_takesValue_27g.2.2.2.2.2.2.1
theorem dX6_takesValue_40 : decode cX6_takesValue 40 = .ok (.aload_n 0, 1) := dX6_takesValue_27g.2.2.2.2.2.2.2.1
theorem dX6_takesValue_41 : decode cX6_takesValue 41 = .ok (.getfield 40, 3) := dX6_takesValue_27g.2.2.2.2.2.2.2.2.1
theorem dX6_takesValue_44 : decode cX6_takesValue 44 = .ok (.iload_n 1, 1) := dX6_takesValue_27g.2.2.2.2.2.2.2.2.2.1
theorem dX6_takesValue_45 : decode cX6_takesValue 45 = .ok (.castore, 1) := dX6_takesValue_27g.2.2.2.2.2.2.2.2.2.2.1
theorem dX6_takesValue_46 : decode cX6_takesValue 46 = .ok (.aload_n 0, 1) := dX6_takesValue_27g.2.2.2.2.2.2.2.2.2.2.2.1
theorem dX6_takesValue_47 : decode cX6_takesValue 47 = .ok (.dup, 1) := dX6_takesValue_27g.2.2.2.2.2.2.2.2.2.2.2.2.1
theorem dX6_takesValue_48 : decode cX6_takesValue 48 = .ok (.getfield 40, 3) := dX6_takesValue_27g.2.2.2.2.2.2.2.2.2.2.2.2.2.1
theorem dX6_takesValue_51 : decode cX6_takesValue 51 = .ok (.iconst 1, 1) := dX6_takesValue_27g.2.2.2.2.2.2.2.2.2.2.2.2.2.2.1
theorem dX6_takesValue_52 : decode cX6_takesValue 52 = .ok (.iadd, 1) := dX6_takesValue_27g.2.2.2.2.2.2.2.2.2.2.2.2.2.2.2
theorem dX6_takesValue_53g : decode cX6_takesValue 53 = .ok (.putfield 40, 3) ∧ decode cX6_takesValue 56 = .ok (.aload_n 0, 1) ∧ decode cX6_takesValue 57 = .ok (.getfield 26, 3) ∧ decode cX6_takesValue 60 = .ok (.iload_n 2, 1) ∧ decode cX6_takesValue 61 = .ok (.dup2, 1) ∧ decode cX6_takesValue 62 = .ok (.iaload, 1) ∧ decode cX6_takesValue 63 = .ok (.iconst 1, 1) ∧ decode cX6_takesValue 64 = .ok (.iadd, 1) ∧ decode cX6_takesValue 65 = .ok (.iastore, 1) ∧ decode cX6_takesValue 66 = .ok (.iconst 1, 1) ∧ decode cX6_takesValue 67 = .ok (.ireturn, 1) := by decide +kernel
theorem dX6_takesValue_53 : decode cX6_takesValue 53 = .ok (.putfield 40, 3) := dX6_takesValue_53g.1
theorem dX6_takesValue_56 : decode cX6_takesValue 56 = .ok (.aload_n 0, 1) := dX6_takesValue_53g.2.1
theorem dX6_takesValue_57 : decode cX6_takesValue 57 = .ok (.getfield 26, 3) := dX6_takesValue_53g.2.2.1
theorem dX6_takesValue_60 : decode cX6_takesValue 60 = .ok (.iload_n 2, 1) := dX6_takesValue_53g.2.2.2.1
theorem dX6_takesValue_61 : decode cX6_takesValue 61 = .ok (.dup2, 1) := dX6_takesValue_53g.2.2.2.2.1
theorem dX6_takesValue_62 : decode cX6_takesValue 62 = .ok (.iaload, 1) := dX6_takesValue_53g.2.2.2.2.2.1
theorem dX6_takesValue_63 : decode cX6_takesValue 63 = .ok (.iconst 1, 1) := dX6_takesValue_53g.2.2.2.2.2.2.1
theorem dX6_takesValue_64 : decode cX6_takesValue 64 = .ok (.iadd, 1) := dX6_takesValue_53g.2.2.2.2.2.2.2.1
theorem dX6_takesValue_65 : decode cX6_takesValue 65 = .ok (.iastore, 1) := dX6_takesValue_53g.2.2.2.2.2.2.2.2.1
theorem dX6_takesValue_66 : decode cX6_takesValue 66 = .ok (.iconst 1, 1) := dX6_takesValue_53g.2.2.2.2.2.2.2.2.2.1
theorem dX6_takesValue_67 : decode cX6_takesValue 67 = .ok (.ireturn, 1) := dX6_takesValue_53g.2.2.2.2.2.2.2.2.2.2
theorem dX6_hasKey_0g : decode cX6_hasKey 0 = .ok (.iconst 0, 1) ∧ decode cX6_hasKey 1 = .ok (.istore 4, 2) ∧ decode cX6_hasKey 3 = .ok (.iload 4, 2) ∧ decode cX6_hasKey 5 = .ok (.aload_n 1, 1) ∧ decode cX6_hasKey 6 = .ok (.getfield 51, 3) ∧ decode cX6_hasKey 9 = .ok (.if_icmp .ge 28, 3) ∧ decode cX6_hasKey 12 = .ok (.aload_n 0, 1) ∧ decode cX6_hasKey 13 = .ok (.getfield 18, 3) ∧ decode cX6_hasKey 16 = .ok (.aload_n 1, 1) ∧ decode cX6_hasKey 17 = .ok (.getfield 54, 3) ∧ decode cX6_hasKey 20 = .ok (.iload 4, 2) ∧ decode cX6_hasKey 22 = .ok (.iadd, 1) ∧ decode cX6_hasKey 23 = .ok (.laload, 1) ∧ decode cX6_hasKey 24 = .ok (.lload_n 2, 1) ∧ decode cX6_hasKey 25 = .ok (.lcmp, 1) ∧ decode cX6_hasKey 26 = .ok (.ifCond .ne 5, 3) := by decide +kernel
theorem dX6_hasKey_0 : decode cX6_hasKey 0 = .ok (.iconst 0, 1) := dX6_hasKey_0g.1
theorem dX6_hasKey_1 : decode cX6_hasKey 1 = .ok (.istore 4, 2) := dX6_hasKey_0g.2.1
theorem dX6_hasKey_3 : decode cX6_hasKey 3 = .ok (.iload 4, 2) := dX6_hasKey_0g.2.2.1
theorem dX6_hasKey_5 : decode cX6_hasKey 5 = .ok (.aload_n 1, 1) := dX6_hasKey_0g.2.2.2.1
theorem dX6_hasKey_6 : decode cX6_hasKey 6 = .ok (.getfield 51, 3) := dX6_hasKey_0g.2.2.2.2.1
theorem dX6_hasKey_9 : decode cX6_hasKey 9 = .ok (.if_icmp .ge 28, 3) := dX6_hasKey_0g.2.2.2.2.2.1
theorem dX6_hasKey_12 : decode cX6_hasKey 12 = .ok (.aload_n 0, 1) := dX6_hasKey_0g.2.2.2.2.2.2.1
theorem dX6_hasKey_13 : decode cX6_hasKey 13 = .ok (.getfield 18, 3) := dX6_hasKey_0g.2.2.2.2.2.2.2.1
theorem dX6_hasKey_16 : decode cX6_hasKey 16 = .ok (.aload_n 1, 1) := dX6_hasKey_0g.2.2.2.2.2.2.2.2.1
theorem dX6_hasKey_17 : decode cX6_hasKey 17 = .ok (.getfield 54, 3) := dX6_hasKey_0g.2.2.2.2.2.2.2.2.2.1
theorem dX6_hasKey_20 : decode cX6_hasKey 20 = .ok (.iload 4, 2) := dX6_hasKey_0g.2.2.2.2.2.2.2.2.2.2.1
theorem dX6_hasKey_22 : decode cX6_hasKey 22 = .ok (.iadd, 1) := dX6_hasKey_0g.2.2.2.2.2.2.2.2.2.2.2.1
theorem dX6_hasKey_23 : decode cX6_hasKey 23 = .ok (.laload, 1) := dX6_hasKey_0g.2.2.2.2.2.2.2.2.2.2.2.2.1
theorem dX6_hasKey_24 : decode cX6_hasKey 24 = .ok (.lload_n 2, 1) := dX6_hasKey_0g.2.2.2.2.2.2.2.2.2.2.2.2.2.1
theorem dX6_hasKey_25 : decode cX6_hasKey 25 = .ok (.lcmp, 1) := dX6_hasKey_0g.2.2.2.2.2.2.2.2.2.2.2.2.2.2.1
theorem dX6_hasKey_26 : decode cX6_hasKey 26 = .ok (.ifCond .ne 5, 3) := dX6_hasKey_0g.2.2.2.2.2.2.2.2.2.2.2.2.2.2.2
theorem dX6_hasKey_29g : decode cX6_hasKey 29 = .ok (.iconst 1, 1) ∧ decode cX6_hasKey 30 = .ok (.ireturn, 1) ∧ decode cX6_hasKey 31 = .ok (.iinc 4 1, 3) ∧ decode cX6_hasKey 34 = .ok (.goto (-31), 3) ∧ decode cX6_hasKey 37 = .ok (.iconst 0, 1) ∧ decode cX6_hasKey 38 = .ok (.ireturn, 1) := by decide +kernel
theorem dX6_hasKey_29 : decode cX6_hasKey 29 = .ok (.iconst 1, 1) := dX6_hasKey_29g.1
theorem dX6_hasKey_30 : decode cX6_hasKey 30 = .ok (.ireturn, 1) := dX6_hasKey_29g.2.1
theorem dX6_hasKey_31 : decode cX6_hasKey 31 = .ok (.iinc 4 1, 3) := dX6_hasKey_29g.2.2.1
theorem dX6_hasKey_34 : decode cX6_hasKey 34 = .ok (.goto (-31), 3) := dX6_hasKey_29g.2.2.2.1
theorem dX6_hasKey_37 : decode cX6_hasKey 37 = .ok (.iconst 0, 1) := dX6_hasKey_29g.2.2.2.2.1
theorem dX6_hasKey_38 : decode cX6_hasKey 38 = .ok (.ireturn, 1) := dX6_hasKey_29g.2.2.2.2.2
theorem dX6_has_0g : decode cX6_has 0 = .ok (.aload_n 0, 1) ∧ decode cX6_has 1 = .ok (.aload_n 1, 1) ∧ decode cX6_has 2 = .ok (.aload_n 2, 1) ∧ decode cX6_has 3 = .ok (.getfield 57, 3) ∧ decode cX6_has 6 = .ok (.invokevirtual 63, 3) ∧ decode cX6_has 9 = .ok (.ireturn, 1) := by decide +kernel
theorem dX6_has_0 : decode cX6_has 0 = .ok (.aload_n 0, 1) := dX6_has_0g.1
theorem dX6_has_1 : decode cX6_has 1 = .ok (.aload_n 1, 1) := dX6_has_0g.2.1
theorem dX6_has_2 : decode cX6_has 2 = .ok (.aload_n 2, 1) := dX6_has_0g.2.2.1
theorem dX6_has_3 : decode cX6_has 3 = .ok (.getfield 57, 3) := dX6_has_0g.2.2.2.1
theorem dX6_has_6 : decode cX6_has 6 = .ok (.invokevirtual 63, 3) := dX6_has_0g.2.2.2.2.1
theorem dX6_has_9 : decode cX6_has 9 = .ok (.ireturn, 1) := dX6_has_0g.2.2.2.2.2
theorem dX6_attributeWord_0g : decode cX6_attributeWord 0 = .ok (.aload_n 0, 1) ∧ decode cX6_attributeWord 1 = .ok (.getfield 18, 3) ∧ decode cX6_attributeWord 4 = .ok (.iload_n 1, 1) ∧ decode cX6_attributeWord 5 = .ok (.laload, 1) ∧ decode cX6_attributeWord 6 = .ok (.invokestatic 67, 3) ∧ decode cX6_attributeWord 9 = .ok (.areturn, 1) := by decide +kernel
theorem dX6_attributeWord_0 : decode cX6_attributeWord 0 = .ok (.aload_n 0, 1) := dX6_attributeWord_0g.1
theorem dX6_attributeWord_1 : decode cX6_attributeWord 1 = .ok (.getfield 18, 3) := dX6_attributeWord_0g.2.1
theorem dX6_attributeWord_4 : decode cX6_attributeWord 4 = .ok (.iload_n 1, 1) := dX6_attributeWord_0g.2.2.1
theorem dX6_attributeWord_5 : decode cX6_attributeWord 5 = .ok (.laload, 1) := dX6_attributeWord_0g.2.2.2.1
theorem dX6_attributeWord_6 : decode cX6_attributeWord 6 = .ok (.invokestatic 67, 3) := dX6_attributeWord_0g.2.2.2.2.1
theorem dX6_attributeWord_9 : decode cX6_attributeWord 9 = .ok (.areturn, 1) := dX6_attributeWord_0g.2.2.2.2.2
theorem dX6_find_0g : decode cX6_find 0 = .ok (.iconst 0, 1) ∧ decode cX6_find 1 = .ok (.istore_n 3, 1) ∧ decode cX6_find 2 = .ok (.iload_n 3, 1) ∧ decode cX6_find 3 = .ok (.aload_n 1, 1) ∧ decode cX6_find 4 = .ok (.getfield 51, 3) ∧ decode cX6_find 7 = .ok (.if_icmp .ge 35, 3) ∧ decode cX6_find 10 = .ok (.aload_n 0, 1) ∧ decode cX6_find 11 = .ok (.getfield 18, 3) ∧ decode cX6_find 14 = .ok (.aload_n 1, 1) ∧ decode cX6_find 15 = .ok (.getfield 54, 3) ∧ decode cX6_find 18 = .ok (.iload_n 3, 1) ∧ decode cX6_find 19 = .ok (.iadd, 1) ∧ decode cX6_find 20 = .ok (.laload, 1) ∧ decode cX6_find 21 = .ok (.aload_n 2, 1) ∧ decode cX6_find 22 = .ok (.getfield 57, 3) ∧ decode cX6_find 25 = .ok (.lcmp, 1) := by decide +kernel
theorem dX6_find_0 : decode cX6_find 0 = .ok (.iconst 0, 1) := dX6_find_0g.1
theorem dX6_find_1 : decode cX6_find 1 = .ok (.istore_n 3, 1) := dX6_find_0g.2.1
theorem dX6_find_2 : decode cX6_find 2 = .ok (.iload_n 3, 1) := dX6_find_0g.2.2.1
theorem dX6_find_3 : decode cX6_find 3 = .ok (.aload_n 1, 1) := dX6_find_0g.2.2.2.1
theorem dX6_find_4 : decode cX6_find 4 = .ok (.getfield 51, 3) := dX6_find_0g.2.2.2.2.1
theorem dX6_find_7 : decode cX6_find 7 = .ok (.if_icmp .ge 35, 3) := dX6_find_0g.2.2.2.2.2.1
theorem dX6_find_10 : decode cX6_find 10 = .ok (.aload_n 0, 1) := dX6_find_0g.2.2.2.2.2.2.1
theorem dX6_find_11 : decode cX6_find 11 = .ok (.getfield 18, 3) := dX6_find_0g.2.2.2.2.2.2.2.1
theorem dX6_find_14 : decode cX6_find 14 = .ok (.aload_n 1, 1) := dX6_find_0g.2.2.2.2.2.2.2.2.1
theorem dX6_find_15 : decode cX6_find 15 = .ok (.getfield 54, 3) := dX6_find_0g.2.2.2.2.2.2.2.2.2.1
theorem dX6_find_18 : decode cX6_find 18 = .ok (.iload_n 3, 1) := dX6_find_0g.2.2.2.2.2.2.2.2.2.2.1
theorem dX6_find_19 : decode cX6_find 19 = .ok (.iadd, 1) := dX6_find_0g.2.2.2.2.2.2.2.2.2.2.2.1
theorem dX6_find_20 : decode cX6_find 20 = .ok (.laload, 1) := dX6_find_0g.2.2.2.2.2.2.2.2.2.2.2.2.1
theorem dX6_find_21 : decode cX6_find 21 = .ok (.aload_n 2, 1) := dX6_find_0g.2.2.2.2.2.2.2.2.2.2.2.2.2.1
theorem dX6_find_22 : decode cX6_find 22 = .ok (.getfield 57, 3) := dX6_find_0g.2.2.2.2.2.2.2.2.2.2.2.2.2.2.1
theorem dX6_find_25 : decode cX6_find 25 = .ok (.lcmp, 1) := dX6_find_0g.2.2.2.2.2.2.2.2.2.2.2.2.2.2.2
theorem dX6_find_26g : decode cX6_find 26 = .ok (.ifCond .ne 10, 3) ∧ decode cX6_find 29 = .ok (.aload_n 1, 1) ∧ decode cX6_find 30 = .ok (.getfield 54, 3) ∧ decode cX6_find 33 = .ok (.iload_n 3, 1) ∧ decode cX6_find 34 = .ok (.iadd, 1) ∧ decode cX6_find 35 = .ok (.ireturn, 1) ∧ decode cX6_find 36 = .ok (.iinc 3 1, 3) ∧ decode cX6_find 39 = .ok (.goto (-37), 3) ∧ decode cX6_find 42 = .ok (.iconst (-1), 1) ∧ decode cX6_find 43 = .ok (.ireturn, 1) := by decide +kernel
theorem dX6_find_26 : decode cX6_find 26 = .ok (.ifCond .ne 10, 3) := dX6_find_26g.1
theorem dX6_find_29 : decode cX6_find 29 = .ok (.aload_n 1, 1) := dX6_find_26g.2.1
theorem dX6_find_30 : decode cX6_find 30 = .ok (.getfield 54, 3) := dX6_find_26g.2.2.1
theorem dX6_find_33 : decode cX6_find 33 = .ok (.iload_n 3, 1) := dX6_find_26g.2.2.2.1
theorem dX6_find_34 : decode cX6_find 34 = .ok (.iadd, 1) := dX6_find_26g.2.2.2.2.1
theorem dX6_find_35 : decode cX6_find 35 = .ok (.ireturn, 1) := dX6_find_26g.2.2.2.2.2.1
theorem dX6_find_36 : decode cX6_find 36 = .ok (.iinc 3 1, 3) := dX6_find_26g.2.2.2.2.2.2.1
theorem dX6_find_39 : decode cX6_find 39 = .ok (.goto (-37), 3) := dX6_find_26g.2.2.2.2.2.2.2.1
theorem dX6_find_42 : decode cX6_find 42 = .ok (.iconst (-1), 1) := dX6_find_26g.2.2.2.2.2.2.2.2.1
theorem dX6_find_43 : decode cX6_find 43 = .ok (.ireturn, 1) := dX6_find_26g.2.2.2.2.2.2.2.2.2
theorem dX6_valueLength_0g : decode cX6_valueLength 0 = .ok (.iload_n 1, 1) ∧ decode cX6_valueLength 1 = .ok (.iconst (-1), 1) ∧ decode cX6_valueLength 2 = .ok (.if_icmp .ne 7, 3) ∧ decode cX6_valueLength 5 = .ok (.iconst 0, 1) ∧ decode cX6_valueLength 6 = .ok (.goto 9, 3) ∧ decode cX6_valueLength 9 = .ok (.aload_n 0, 1) ∧ decode cX6_valueLength 10 = .ok (.getfield 26, 3) ∧ decode cX6_valueLength 13 = .ok (.iload_n 1, 1) ∧ decode cX6_valueLength 14 = .ok (.iaload, 1) ∧ decode cX6_valueLength 15 = .ok (.ireturn, 1) := by decide +kernel
theorem dX6_valueLength_0 : decode cX6_valueLength 0 = .ok (.iload_n 1, 1) := dX6_valueLength_0g.1
theorem dX6_valueLength_1 : decode cX6_valueLength 1 = .ok (.iconst (-1), 1) := dX6_valueLength_0g.2.1
theorem dX6_valueLength_2 : decode cX6_valueLength 2 = .ok (.if_icmp .ne 7, 3) := dX6_valueLength_0g.2.2.1
theorem dX6_valueLength_5 : decode cX6_valueLength 5 = .ok (.iconst 0, 1) := dX6_valueLength_0g.2.2.2.1
theorem dX6_valueLength_6 : decode cX6_valueLength 6 = .ok (.goto 9, 3) := dX6_valueLength_0g.2.2.2.2.1
theorem dX6_valueLength_9 : decode cX6_valueLength 9 = .ok (.aload_n 0, 1) := dX6_valueLength_0g.2.2.2.2.2.1
theorem dX6_valueLength_10 : decode cX6_valueLength 10 = .ok (.getfield 26, 3) := dX6_valueLength_0g.2.2.2.2.2.2.1
theorem dX6_valueLength_13 : decode cX6_valueLength 13 = .ok (.iload_n 1, 1) := dX6_valueLength_0g.2.2.2.2.2.2.2.1
theorem dX6_valueLength_14 : decode cX6_valueLength 14 = .ok (.iaload, 1) := dX6_valueLength_0g.2.2.2.2.2.2.2.2.1
theorem dX6_valueLength_15 : decode cX6_valueLength 15 = .ok (.ireturn, 1) := dX6_valueLength_0g.2.2.2.2.2.2.2.2.2
theorem dX6_valueChar_0g : decode cX6_valueChar 0 = .ok (.aload_n 0, 1) ∧ decode cX6_valueChar 1 = .ok (.getfield 29, 3) ∧ decode cX6_valueChar 4 = .ok (.aload_n 0, 1) ∧ decode cX6_valueChar 5 = .ok (.getfield 22, 3) ∧ decode cX6_valueChar 8 = .ok (.iload_n 1, 1) ∧ decode cX6_valueChar 9 = .ok (.iaload, 1) ∧ decode cX6_valueChar 10 = .ok (.iload_n 2, 1) ∧ decode cX6_valueChar 11 = .ok (.iadd, 1) ∧ decode cX6_valueChar 12 = .ok (.caload, 1) ∧ decode cX6_valueChar 13 = .ok (.ireturn, 1) := by decide +kernel
theorem dX6_valueChar_0 : decode cX6_valueChar 0 = .ok (.aload_n 0, 1) := dX6_valueChar_0g.1
theorem dX6_valueChar_1 : decode cX6_valueChar 1 = .ok (.getfield 29, 3) := dX6_valueChar_0g.2.1
theorem dX6_valueChar_4 : decode cX6_valueChar 4 = .ok (.aload_n 0, 1) := dX6_valueChar_0g.2.2.1
theorem dX6_valueChar_5 : decode cX6_valueChar 5 = .ok (.getfield 22, 3) := dX6_valueChar_0g.2.2.2.1
theorem dX6_valueChar_8 : decode cX6_valueChar 8 = .ok (.iload_n 1, 1) := dX6_valueChar_0g.2.2.2.2.1
theorem dX6_valueChar_9 : decode cX6_valueChar 9 = .ok (.iaload, 1) := dX6_valueChar_0g.2.2.2.2.2.1
theorem dX6_valueChar_10 : decode cX6_valueChar 10 = .ok (.iload_n 2, 1) := dX6_valueChar_0g.2.2.2.2.2.2.1
theorem dX6_valueChar_11 : decode cX6_valueChar 11 = .ok (.iadd, 1) := dX6_valueChar_0g.2.2.2.2.2.2.2.1
theorem dX6_valueChar_12 : decode cX6_valueChar 12 = .ok (.caload, 1) := dX6_valueChar_0g.2.2.2.2.2.2.2.2.1
theorem dX6_valueChar_13 : decode cX6_valueChar 13 = .ok (.ireturn, 1) := dX6_valueChar_0g.2.2.2.2.2.2.2.2.2
theorem dX6_nameValue_0g : decode cX6_nameValue 0 = .ok (.aload_n 0, 1) ∧ decode cX6_nameValue 1 = .ok (.aload_n 1, 1) ∧ decode cX6_nameValue 2 = .ok (.aload_n 2, 1) ∧ decode cX6_nameValue 3 = .ok (.invokevirtual 71, 3) ∧ decode cX6_nameValue 6 = .ok (.istore_n 3, 1) ∧ decode cX6_nameValue 7 = .ok (.aload_n 0, 1) ∧ decode cX6_nameValue 8 = .ok (.iload_n 3, 1) ∧ decode cX6_nameValue 9 = .ok (.invokevirtual 75, 3) ∧ decode cX6_nameValue 12 = .ok (.istore 4, 2) ∧ decode cX6_nameValue 14 = .ok (.iload 4, 2) ∧ decode cX6_nameValue 16 = .ok (.iconst 1, 1) ∧ decode cX6_nameValue 17 = .ok (.if_icmp .lt 10, 3) ∧ decode cX6_nameValue 20 = .ok (.iload 4, 2) ∧ decode cX6_nameValue 22 = .ok (.bipush 8, 2) ∧ decode cX6_nameValue 24 = .ok (.if_icmp .le 5, 3) ∧ decode cX6_nameValue 27 = .ok (.lconst 0, 1) := by decide +kernel
theorem dX6_nameValue_0 : decode cX6_nameValue 0 = .ok (.aload_n 0, 1) := dX6_nameValue_0g.1
theorem dX6_nameValue_1 : decode cX6_nameValue 1 = .ok (.aload_n 1, 1) := dX6_nameValue_0g.2.1
theorem dX6_nameValue_2 : decode cX6_nameValue 2 = .ok (.aload_n 2, 1) := dX6_nameValue_0g.2.2.1
theorem dX6_nameValue_3 : decode cX6_nameValue 3 = .ok (.invokevirtual 71, 3) := dX6_nameValue_0g.2.2.2.1
theorem dX6_nameValue_6 : decode cX6_nameValue 6 = .ok (.istore_n 3, 1) := dX6_nameValue_0g.2.2.2.2.1
theorem dX6_nameValue_7 : decode cX6_nameValue 7 = .ok (.aload_n 0, 1) := dX6_nameValue_0g.2.2.2.2.2.1
theorem dX6_nameValue_8 : decode cX6_nameValue 8 = .ok (.iload_n 3, 1) := dX6_nameValue_0g.2.2.2.2.2.2.1
theorem dX6_nameValue_9 : decode cX6_nameValue 9 = .ok (.invokevirtual 75, 3) := dX6_nameValue_0g.2.2.2.2.2.2.2.1
theorem dX6_nameValue_12 : decode cX6_nameValue 12 = .ok (.istore 4, 2) := dX6_nameValue_0g.2.2.2.2.2.2.2.2.1
theorem dX6_nameValue_14 : decode cX6_nameValue 14 = .ok (.iload 4, 2) := dX6_nameValue_0g.2.2.2.2.2.2.2.2.2.1
theorem dX6_nameValue_16 : decode cX6_nameValue 16 = .ok (.iconst 1, 1) := dX6_nameValue_0g.2.2.2.2.2.2.2.2.2.2.1
theorem dX6_nameValue_17 : decode cX6_nameValue 17 = .ok (.if_icmp .lt 10, 3) := dX6_nameValue_0g.2.2.2.2.2.2.2.2.2.2.2.1
theorem dX6_nameValue_20 : decode cX6_nameValue 20 = .ok (.iload 4, 2) := dX6_nameValue_0g.2.2.2.2.2.2.2.2.2.2.2.2.1
theorem dX6_nameValue_22 : decode cX6_nameValue 22 = .ok (.bipush 8, 2) := dX6_nameValue_0g.2.2.2.2.2.2.2.2.2.2.2.2.2.1
theorem dX6_nameValue_24 : decode cX6_nameValue 24 = .ok (.if_icmp .le 5, 3) := dX6_nameValue_0g.2.2.2.2.2.2.2.2.2.2.2.2.2.2.1
theorem dX6_nameValue_27 : decode cX6_nameValue 27 = .ok (.lconst 0, 1) := dX6_nameValue_0g.2.2.2.2.2.2.2.2.2.2.2.2.2.2.2
theorem dX6_nameValue_28g : decode cX6_nameValue 28 = .ok (.lreturn, 1) ∧ decode cX6_nameValue 29 = .ok (.lconst 0, 1) ∧ decode cX6_nameValue 30 = .ok (.lstore 5, 2) ∧ decode cX6_nameValue 32 = .ok (.iconst 0, 1) ∧ decode cX6_nameValue 33 = .ok (.istore 7, 2) ∧ decode cX6_nameValue 35 = .ok (.iload 7, 2) ∧ decode cX6_nameValue 37 = .ok (.iload 4, 2) ∧ decode cX6_nameValue 39 = .ok (.if_icmp .ge 45, 3) ∧ decode cX6_nameValue 42 = .ok (.aload_n 0, 1) ∧ decode cX6_nameValue 43 = .ok (.iload_n 3, 1) ∧ decode cX6_nameValue 44 = .ok (.iload 7, 2) ∧ decode cX6_nameValue 46 = .ok (.invokevirtual 79, 3) ∧ decode cX6_nameValue 49 = .ok (.istore 8, 2) ∧ decode cX6_nameValue 51 = .ok (.iload 8, 2) ∧ decode cX6_nameValue 53 = .ok (.bipush 97, 2) ∧ decode cX6_nameValue 55 = .ok (.if_icmp .lt 10, 3) := by decide +kernel
theorem dX6_nameValue_28 : decode cX6_nameValue 28 = .ok (.lreturn, 1) := dX6_nameValue_28g.1
theorem dX6_nameValue_29 : decode cX6_nameValue 29 = .ok (.lconst 0, 1) := dX6_nameValue_28g.2.1
theorem dX6_nameValue_30 : decode cX6_nameValue 30 = .ok (.lstore 5, 2) := dX6_nameValue_28g.2.2.1
theorem dX6_nameValue_32 : decode cX6_nameValue 32 = .ok (.iconst 0, 1) := dX6_nameValue_28g.2.2.2.1
theorem dX6_nameValue_33 : decode cX6_nameValue 33 = .ok (.istore 7, 2) := dX6_nameValue_28g.2.2.2.2.1
theorem dX6_nameValue_35 : decode cX6_nameValue 35 = .ok (.iload 7, 2) := dX6_nameValue_28g.2.2.2.2.2.1
theorem dX6_nameValue_37 : decode cX6_nameValue 37 = .ok (.iload 4, 2) := dX6_nameValue_28g.2.2.2.2.2.2.1
theorem dX6_nameValue_39 : decode cX6_nameValue 39 = .ok (.if_icmp .ge 45, 3) := dX6_nameValue_28g.2.2.2.2.2.2.2.1
theorem dX6_nameValue_42 : decode cX6_nameValue 42 = .ok (.aload_n 0, 1) := dX6_nameValue_28g.2.2.2.2.2.2.2.2.1
theorem dX6_nameValue_43 : decode cX6_nameValue 43 = .ok (.iload_n 3, 1) := dX6_nameValue_28g.2.2.2.2.2.2.2.2.2.1
theorem dX6_nameValue_44 : decode cX6_nameValue 44 = .ok (.iload 7, 2) := dX6_nameValue_28g.2.2.2.2.2.2.2.2.2.2.1
theorem dX6_nameValue_46 : decode cX6_nameValue 46 = .ok (.invokevirtual 79, 3) := dX6_nameValue_28g.2.2.2.2.2.2.2.2.2.2.2.1
theorem dX6_nameValue_49 : decode cX6_nameValue 49 = .ok (.istore 8, 2) := dX6_nameValue_28g.2.2.2.2.2.2.2.2.2.2.2.2.1
theorem dX6_nameValue_51 : decode cX6_nameValue 51 = .ok (.iload 8, 2) := dX6_nameValue_28g.2.2.2.2.2.2.2.2.2.2.2.2.2.1
theorem dX6_nameValue_53 : decode cX6_nameValue 53 = .ok (.bipush 97, 2) := dX6_nameValue_28g.2.2.2.2.2.2.2.2.2.2.2.2.2.2.1
theorem dX6_nameValue_55 : decode cX6_nameValue 55 = .ok (.if_icmp .lt 10, 3) := dX6_nameValue_28g.2.2.2.2.2.2.2.2.2.2.2.2.2.2.2
theorem dX6_nameValue_58g : decode cX6_nameValue 58 = .ok (.iload 8, 2) ∧ decode cX6_nameValue 60 = .ok (.bipush 122, 2) ∧ decode cX6_nameValue 62 = .ok (.if_icmp .le 5, 3) ∧ decode cX6_nameValue 65 = .ok (.lconst 0, 1) ∧ decode cX6_nameValue 66 = .ok (.lreturn, 1) ∧ decode cX6_nameValue 67 = .ok (.lload 5, 2) ∧ decode cX6_nameValue 69 = .ok (.bipush 8, 2) ∧ decode cX6_nameValue 71 = .ok (.lshl, 1) ∧ decode cX6_nameValue 72 = .ok (.iload 8, 2) ∧ decode cX6_nameValue 74 = .ok (.i2l, 1) ∧ decode cX6_nameValue 75 = .ok (.lor, 1) ∧ decode cX6_nameValue 76 = .ok (.lstore 5, 2) ∧ decode cX6_nameValue 78 = .ok (.iinc 7 1, 3) ∧ decode cX6_nameValue 81 = .ok (.goto (-46), 3) ∧ decode cX6_nameValue 84 = .ok (.lload 5, 2) ∧ decode cX6_nameValue 86 = .ok (.lreturn, 1) := by decide +kernel
theorem dX6_nameValue_58 : decode cX6_nameValue 58 = .ok (.iload 8, 2) := dX6_nameValue_58g.1
theorem dX6_nameValue_60 : decode cX6_nameValue 60 = .ok (.bipush 122, 2) := dX6_nameValue_58g.2.1
theorem dX6_nameValue_62 : decode cX6_nameValue 62 = .ok (.if_icmp .le 5, 3) := dX6_nameValue_58g.2.2.1
theorem dX6_nameValue_65 : decode cX6_nameValue 65 = .ok (.lconst 0, 1) := dX6_nameValue_58g.2.2.2.1
theorem dX6_nameValue_66 : decode cX6_nameValue 66 = .ok (.lreturn, 1) := dX6_nameValue_58g.2.2.2.2.1
theorem dX6_nameValue_67 : decode cX6_nameValue 67 = .ok (.lload 5, 2) := dX6_nameValue_58g.2.2.2.2.2.1
theorem dX6_nameValue_69 : decode cX6_nameValue 69 = .ok (.bipush 8, 2) := dX6_nameValue_58g.2.2.2.2.2.2.1
theorem dX6_nameValue_71 : decode cX6_nameValue 71 = .ok (.lshl, 1) := dX6_nameValue_58g.2.2.2.2.2.2.2.1
theorem dX6_nameValue_72 : decode cX6_nameValue 72 = .ok (.iload 8, 2) := dX6_nameValue_58g.2.2.2.2.2.2.2.2.1
theorem dX6_nameValue_74 : decode cX6_nameValue 74 = .ok (.i2l, 1) := dX6_nameValue_58g.2.2.2.2.2.2.2.2.2.1
theorem dX6_nameValue_75 : decode cX6_nameValue 75 = .ok (.lor, 1) := dX6_nameValue_58g.2.2.2.2.2.2.2.2.2.2.1
theorem dX6_nameValue_76 : decode cX6_nameValue 76 = .ok (.lstore 5, 2) := dX6_nameValue_58g.2.2.2.2.2.2.2.2.2.2.2.1
theorem dX6_nameValue_78 : decode cX6_nameValue 78 = .ok (.iinc 7 1, 3) := dX6_nameValue_58g.2.2.2.2.2.2.2.2.2.2.2.2.1
theorem dX6_nameValue_81 : decode cX6_nameValue 81 = .ok (.goto (-46), 3) := dX6_nameValue_58g.2.2.2.2.2.2.2.2.2.2.2.2.2.1
theorem dX6_nameValue_84 : decode cX6_nameValue 84 = .ok (.lload 5, 2) := dX6_nameValue_58g.2.2.2.2.2.2.2.2.2.2.2.2.2.2.1
theorem dX6_nameValue_86 : decode cX6_nameValue 86 = .ok (.lreturn, 1) := dX6_nameValue_58g.2.2.2.2.2.2.2.2.2.2.2.2.2.2.2
theorem dX6_valueIs_0g : decode cX6_valueIs 0 = .ok (.aload_n 0, 1) ∧ decode cX6_valueIs 1 = .ok (.aload_n 1, 1) ∧ decode cX6_valueIs 2 = .ok (.aload_n 2, 1) ∧ decode cX6_valueIs 3 = .ok (.invokevirtual 83, 3) ∧ decode cX6_valueIs 6 = .ok (.aload_n 3, 1) ∧ decode cX6_valueIs 7 = .ok (.getfield 57, 3) ∧ decode cX6_valueIs 10 = .ok (.lcmp, 1) ∧ decode cX6_valueIs 11 = .ok (.ifCond .ne 7, 3) ∧ decode cX6_valueIs 14 = .ok (.iconst 1, 1) ∧ decode cX6_valueIs 15 = .ok (.goto 4, 3) ∧ decode cX6_valueIs 18 = .ok (.iconst 0, 1) ∧ decode cX6_valueIs 19 = .ok (.ireturn, 1) := by decide +kernel
theorem dX6_valueIs_0 : decode cX6_valueIs 0 = .ok (.aload_n 0, 1) := dX6_valueIs_0g.1
theorem dX6_valueIs_1 : decode cX6_valueIs 1 = .ok (.aload_n 1, 1) := dX6_valueIs_0g.2.1
theorem dX6_valueIs_2 : decode cX6_valueIs 2 = .ok (.aload_n 2, 1) := dX6_valueIs_0g.2.2.1
theorem dX6_valueIs_3 : decode cX6_valueIs 3 = .ok (.invokevirtual 83, 3) := dX6_valueIs_0g.2.2.2.1
theorem dX6_valueIs_6 : decode cX6_valueIs 6 = .ok (.aload_n 3, 1) := dX6_valueIs_0g.2.2.2.2.1
theorem dX6_valueIs_7 : decode cX6_valueIs 7 = .ok (.getfield 57, 3) := dX6_valueIs_0g.2.2.2.2.2.1
theorem dX6_valueIs_10 : decode cX6_valueIs 10 = .ok (.lcmp, 1) := dX6_valueIs_0g.2.2.2.2.2.2.1
theorem dX6_valueIs_11 : decode cX6_valueIs 11 = .ok (.ifCond .ne 7, 3) := dX6_valueIs_0g.2.2.2.2.2.2.2.1
theorem dX6_valueIs_14 : decode cX6_valueIs 14 = .ok (.iconst 1, 1) := dX6_valueIs_0g.2.2.2.2.2.2.2.2.1
theorem dX6_valueIs_15 : decode cX6_valueIs 15 = .ok (.goto 4, 3) := dX6_valueIs_0g.2.2.2.2.2.2.2.2.2.1
theorem dX6_valueIs_18 : decode cX6_valueIs 18 = .ok (.iconst 0, 1) := dX6_valueIs_0g.2.2.2.2.2.2.2.2.2.2.1
theorem dX6_valueIs_19 : decode cX6_valueIs 19 = .ok (.ireturn, 1) := dX6_valueIs_0g.2.2.2.2.2.2.2.2.2.2.2
theorem dX6_letterValue_0g : decode cX6_letterValue 0 = .ok (.aload_n 0, 1) ∧ decode cX6_letterValue 1 = .ok (.aload_n 1, 1) ∧ decode cX6_letterValue 2 = .ok (.aload_n 2, 1) ∧ decode cX6_letterValue 3 = .ok (.invokevirtual 71, 3) ∧ decode cX6_letterValue 6 = .ok (.istore_n 3, 1) ∧ decode cX6_letterValue 7 = .ok (.aload_n 0, 1) ∧ decode cX6_letterValue 8 = .ok (.iload_n 3, 1) ∧ decode cX6_letterValue 9 = .ok (.invokevirtual 75, 3) ∧ decode cX6_letterValue 12 = .ok (.iconst 1, 1) ∧ decode cX6_letterValue 13 = .ok (.if_icmp .eq 5, 3) ∧ decode cX6_letterValue 16 = .ok (.iconst (-1), 1) ∧ decode cX6_letterValue 17 = .ok (.ireturn, 1) ∧ decode cX6_letterValue 18 = .ok (.aload_n 0, 1) ∧ decode cX6_letterValue 19 = .ok (.iload_n 3, 1) ∧ decode cX6_letterValue 20 = .ok (.iconst 0, 1) ∧ decode cX6_letterValue 21 = .ok (.invokevirtual 79, 3) := by decide +kernel
theorem dX6_letterValue_0 : decode cX6_letterValue 0 = .ok (.aload_n 0, 1) := dX6_letterValue_0g.1
theorem dX6_letterValue_1 : decode cX6_letterValue 1 = .ok (.aload_n 1, 1) := dX6_letterValue_0g.2.1
theorem dX6_letterValue_2 : decode cX6_letterValue 2 = .ok (.aload_n 2, 1) := dX6_letterValue_0g.2.2.1
theorem dX6_letterValue_3 : decode cX6_letterValue 3 = .ok (.invokevirtual 71, 3) := dX6_letterValue_0g.2.2.2.1
theorem dX6_letterValue_6 : decode cX6_letterValue 6 = .ok (.istore_n 3, 1) := dX6_letterValue_0g.2.2.2.2.1
theorem dX6_letterValue_7 : decode cX6_letterValue 7 = .ok (.aload_n 0, 1) := dX6_letterValue_0g.2.2.2.2.2.1
theorem dX6_letterValue_8 : decode cX6_letterValue 8 = .ok (.iload_n 3, 1) := dX6_letterValue_0g.2.2.2.2.2.2.1
theorem dX6_letterValue_9 : decode cX6_letterValue 9 = .ok (.invokevirtual 75, 3) := dX6_letterValue_0g.2.2.2.2.2.2.2.1
theorem dX6_letterValue_12 : decode cX6_letterValue 12 = .ok (.iconst 1, 1) := dX6_letterValue_0g.2.2.2.2.2.2.2.2.1
theorem dX6_letterValue_13 : decode cX6_letterValue 13 = .ok (.if_icmp .eq 5, 3) := dX6_letterValue_0g.2.2.2.2.2.2.2.2.2.1
theorem dX6_letterValue_16 : decode cX6_letterValue 16 = .ok (.iconst (-1), 1) := dX6_letterValue_0g.2.2.2.2.2.2.2.2.2.2.1
theorem dX6_letterValue_17 : decode cX6_letterValue 17 = .ok (.ireturn, 1) := dX6_letterValue_0g.2.2.2.2.2.2.2.2.2.2.2.1
theorem dX6_letterValue_18 : decode cX6_letterValue 18 = .ok (.aload_n 0, 1) := dX6_letterValue_0g.2.2.2.2.2.2.2.2.2.2.2.2.1
theorem dX6_letterValue_19 : decode cX6_letterValue 19 = .ok (.iload_n 3, 1) := dX6_letterValue_0g.2.2.2.2.2.2.2.2.2.2.2.2.2.1
theorem dX6_letterValue_20 : decode cX6_letterValue 20 = .ok (.iconst 0, 1) := dX6_letterValue_0g.2.2.2.2.2.2.2.2.2.2.2.2.2.2.1
theorem dX6_letterValue_21 : decode cX6_letterValue 21 = .ok (.invokevirtual 79, 3) := dX6_letterValue_0g.2.2.2.2.2.2.2.2.2.2.2.2.2.2.2
theorem dX6_letterValue_24g : decode cX6_letterValue 24 = .ok (.istore 4, 2) ∧ decode cX6_letterValue 26 = .ok (.iload 4, 2) ∧ decode cX6_letterValue 28 = .ok (.bipush 97, 2) ∧ decode cX6_letterValue 30 = .ok (.if_icmp .lt 18, 3) ∧ decode cX6_letterValue 33 = .ok (.iload 4, 2) ∧ decode cX6_letterValue 35 = .ok (.bipush 122, 2) ∧ decode cX6_letterValue 37 = .ok (.if_icmp .gt 11, 3) ∧ decode cX6_letterValue 40 = .ok (.iload 4, 2) ∧ decode cX6_letterValue 42 = .ok (.bipush 97, 2) ∧ decode cX6_letterValue 44 = .ok (.isub, 1) ∧ decode cX6_letterValue 45 = .ok (.goto 4, 3) ∧ decode cX6_letterValue 48 = .ok (.iconst (-1), 1) ∧ decode cX6_letterValue 49 = .ok (.ireturn, 1) := by decide +kernel
theorem dX6_letterValue_24 : decode cX6_letterValue 24 = .ok (.istore 4, 2) := dX6_letterValue_24g.1
theorem dX6_letterValue_26 : decode cX6_letterValue 26 = .ok (.iload 4, 2) := dX6_letterValue_24g.2.1
theorem dX6_letterValue_28 : decode cX6_letterValue 28 = .ok (.bipush 97, 2) := dX6_letterValue_24g.2.2.1
theorem dX6_letterValue_30 : decode cX6_letterValue 30 = .ok (.if_icmp .lt 18, 3) := dX6_letterValue_24g.2.2.2.1
theorem dX6_letterValue_33 : decode cX6_letterValue 33 = .ok (.iload 4, 2) := dX6_letterValue_24g.2.2.2.2.1
theorem dX6_letterValue_35 : decode cX6_letterValue 35 = .ok (.bipush 122, 2) := dX6_letterValue_24g.2.2.2.2.2.1
theorem dX6_letterValue_37 : decode cX6_letterValue 37 = .ok (.if_icmp .gt 11, 3) := dX6_letterValue_24g.2.2.2.2.2.2.1
theorem dX6_letterValue_40 : decode cX6_letterValue 40 = .ok (.iload 4, 2) := dX6_letterValue_24g.2.2.2.2.2.2.2.1
theorem dX6_letterValue_42 : decode cX6_letterValue 42 = .ok (.bipush 97, 2) := dX6_letterValue_24g.2.2.2.2.2.2.2.2.1
theorem dX6_letterValue_44 : decode cX6_letterValue 44 = .ok (.isub, 1) := dX6_letterValue_24g.2.2.2.2.2.2.2.2.2.1
theorem dX6_letterValue_45 : decode cX6_letterValue 45 = .ok (.goto 4, 3) := dX6_letterValue_24g.2.2.2.2.2.2.2.2.2.2.1
theorem dX6_letterValue_48 : decode cX6_letterValue 48 = .ok (.iconst (-1), 1) := dX6_letterValue_24g.2.2.2.2.2.2.2.2.2.2.2.1
theorem dX6_letterValue_49 : decode cX6_letterValue 49 = .ok (.ireturn, 1) := dX6_letterValue_24g.2.2.2.2.2.2.2.2.2.2.2.2
theorem dX6_placeValue_0g : decode cX6_placeValue 0 = .ok (.aload_n 0, 1) ∧ decode cX6_placeValue 1 = .ok (.aload_n 1, 1) ∧ decode cX6_placeValue 2 = .ok (.aload_n 2, 1) ∧ decode cX6_placeValue 3 = .ok (.invokevirtual 71, 3) ∧ decode cX6_placeValue 6 = .ok (.istore_n 3, 1) ∧ decode cX6_placeValue 7 = .ok (.aload_n 0, 1) ∧ decode cX6_placeValue 8 = .ok (.iload_n 3, 1) ∧ decode cX6_placeValue 9 = .ok (.invokevirtual 75, 3) ∧ decode cX6_placeValue 12 = .ok (.iconst 1, 1) ∧ decode cX6_placeValue 13 = .ok (.if_icmp .eq 5, 3) ∧ decode cX6_placeValue 16 = .ok (.iconst (-1), 1) ∧ decode cX6_placeValue 17 = .ok (.ireturn, 1) ∧ decode cX6_placeValue 18 = .ok (.aload_n 0, 1) ∧ decode cX6_placeValue 19 = .ok (.iload_n 3, 1) ∧ decode cX6_placeValue 20 = .ok (.iconst 0, 1) ∧ decode cX6_placeValue 21 = .ok (.invokevirtual 79, 3) := by decide +kernel
theorem dX6_placeValue_0 : decode cX6_placeValue 0 = .ok (.aload_n 0, 1) := dX6_placeValue_0g.1
theorem dX6_placeValue_1 : decode cX6_placeValue 1 = .ok (.aload_n 1, 1) := dX6_placeValue_0g.2.1
theorem dX6_placeValue_2 : decode cX6_placeValue 2 = .ok (.aload_n 2, 1) := dX6_placeValue_0g.2.2.1
theorem dX6_placeValue_3 : decode cX6_placeValue 3 = .ok (.invokevirtual 71, 3) := dX6_placeValue_0g.2.2.2.1
theorem dX6_placeValue_6 : decode cX6_placeValue 6 = .ok (.istore_n 3, 1) := dX6_placeValue_0g.2.2.2.2.1
theorem dX6_placeValue_7 : decode cX6_placeValue 7 = .ok (.aload_n 0, 1) := dX6_placeValue_0g.2.2.2.2.2.1
theorem dX6_placeValue_8 : decode cX6_placeValue 8 = .ok (.iload_n 3, 1) := dX6_placeValue_0g.2.2.2.2.2.2.1
theorem dX6_placeValue_9 : decode cX6_placeValue 9 = .ok (.invokevirtual 75, 3) := dX6_placeValue_0g.2.2.2.2.2.2.2.1
theorem dX6_placeValue_12 : decode cX6_placeValue 12 = .ok (.iconst 1, 1) := dX6_placeValue_0g.2.2.2.2.2.2.2.2.1
theorem dX6_placeValue_13 : decode cX6_placeValue 13 = .ok (.if_icmp .eq 5, 3) := dX6_placeValue_0g.2.2.2.2.2.2.2.2.2.1
theorem dX6_placeValue_16 : decode cX6_placeValue 16 = .ok (.iconst (-1), 1) := dX6_placeValue_0g.2.2.2.2.2.2.2.2.2.2.1
theorem dX6_placeValue_17 : decode cX6_placeValue 17 = .ok (.ireturn, 1) := dX6_placeValue_0g.2.2.2.2.2.2.2.2.2.2.2.1
theorem dX6_placeValue_18 : decode cX6_placeValue 18 = .ok (.aload_n 0, 1) := dX6_placeValue_0g.2.2.2.2.2.2.2.2.2.2.2.2.1
theorem dX6_placeValue_19 : decode cX6_placeValue 19 = .ok (.iload_n 3, 1) := dX6_placeValue_0g.2.2.2.2.2.2.2.2.2.2.2.2.2.1
theorem dX6_placeValue_20 : decode cX6_placeValue 20 = .ok (.iconst 0, 1) := dX6_placeValue_0g.2.2.2.2.2.2.2.2.2.2.2.2.2.2.1
theorem dX6_placeValue_21 : decode cX6_placeValue 21 = .ok (.invokevirtual 79, 3) := dX6_placeValue_0g.2.2.2.2.2.2.2.2.2.2.2.2.2.2.2
theorem dX6_placeValue_24g : decode cX6_placeValue 24 = .ok (.istore 4, 2) ∧ decode cX6_placeValue 26 = .ok (.iload 4, 2) ∧ decode cX6_placeValue 28 = .ok (.bipush 48, 2) ∧ decode cX6_placeValue 30 = .ok (.if_icmp .lt 18, 3) ∧ decode cX6_placeValue 33 = .ok (.iload 4, 2) ∧ decode cX6_placeValue 35 = .ok (.bipush 51, 2) ∧ decode cX6_placeValue 37 = .ok (.if_icmp .ge 11, 3) ∧ decode cX6_placeValue 40 = .ok (.iload 4, 2) ∧ decode cX6_placeValue 42 = .ok (.bipush 48, 2) ∧ decode cX6_placeValue 44 = .ok (.isub, 1) ∧ decode cX6_placeValue 45 = .ok (.goto 4, 3) ∧ decode cX6_placeValue 48 = .ok (.iconst (-1), 1) ∧ decode cX6_placeValue 49 = .ok (.ireturn, 1) := by decide +kernel
theorem dX6_placeValue_24 : decode cX6_placeValue 24 = .ok (.istore 4, 2) := dX6_placeValue_24g.1
theorem dX6_placeValue_26 : decode cX6_placeValue 26 = .ok (.iload 4, 2) := dX6_placeValue_24g.2.1
theorem dX6_placeValue_28 : decode cX6_placeValue 28 = .ok (.bipush 48, 2) := dX6_placeValue_24g.2.2.1
theorem dX6_placeValue_30 : decode cX6_placeValue 30 = .ok (.if_icmp .lt 18, 3) := dX6_placeValue_24g.2.2.2.1
theorem dX6_placeValue_33 : decode cX6_placeValue 33 = .ok (.iload 4, 2) := dX6_placeValue_24g.2.2.2.2.1
theorem dX6_placeValue_35 : decode cX6_placeValue 35 = .ok (.bipush 51, 2) := dX6_placeValue_24g.2.2.2.2.2.1
theorem dX6_placeValue_37 : decode cX6_placeValue 37 = .ok (.if_icmp .ge 11, 3) := dX6_placeValue_24g.2.2.2.2.2.2.1
theorem dX6_placeValue_40 : decode cX6_placeValue 40 = .ok (.iload 4, 2) := dX6_placeValue_24g.2.2.2.2.2.2.2.1
theorem dX6_placeValue_42 : decode cX6_placeValue 42 = .ok (.bipush 48, 2) := dX6_placeValue_24g.2.2.2.2.2.2.2.2.1
theorem dX6_placeValue_44 : decode cX6_placeValue 44 = .ok (.isub, 1) := dX6_placeValue_24g.2.2.2.2.2.2.2.2.2.1
theorem dX6_placeValue_45 : decode cX6_placeValue 45 = .ok (.goto 4, 3) := dX6_placeValue_24g.2.2.2.2.2.2.2.2.2.2.1
theorem dX6_placeValue_48 : decode cX6_placeValue 48 = .ok (.iconst (-1), 1) := dX6_placeValue_24g.2.2.2.2.2.2.2.2.2.2.2.1
theorem dX6_placeValue_49 : decode cX6_placeValue 49 = .ok (.ireturn, 1) := dX6_placeValue_24g.2.2.2.2.2.2.2.2.2.2.2.2
theorem dX6_classValue_0g : decode cX6_classValue 0 = .ok (.aload_n 0, 1) ∧ decode cX6_classValue 1 = .ok (.aload_n 1, 1) ∧ decode cX6_classValue 2 = .ok (.aload_n 2, 1) ∧ decode cX6_classValue 3 = .ok (.invokevirtual 71, 3) ∧ decode cX6_classValue 6 = .ok (.istore_n 3, 1) ∧ decode cX6_classValue 7 = .ok (.aload_n 0, 1) ∧ decode cX6_classValue 8 = .ok (.iload_n 3, 1) ∧ decode cX6_classValue 9 = .ok (.invokevirtual 75, 3) ∧ decode cX6_classValue 12 = .ok (.iconst 2, 1) ∧ decode cX6_classValue 13 = .ok (.if_icmp .ne 14, 3) ∧ decode cX6_classValue 16 = .ok (.aload_n 0, 1) ∧ decode cX6_classValue 17 = .ok (.iload_n 3, 1) ∧ decode cX6_classValue 18 = .ok (.iconst 0, 1) ∧ decode cX6_classValue 19 = .ok (.invokevirtual 79, 3) ∧ decode cX6_classValue 22 = .ok (.bipush 75, 2) ∧ decode cX6_classValue 24 = .ok (.if_icmp .eq 5, 3) := by decide +kernel
theorem dX6_classValue_0 : decode cX6_classValue 0 = .ok (.aload_n 0, 1) := dX6_classValue_0g.1
theorem dX6_classValue_1 : decode cX6_classValue 1 = .ok (.aload_n 1, 1) := dX6_classValue_0g.2.1
theorem dX6_classValue_2 : decode cX6_classValue 2 = .ok (.aload_n 2, 1) := dX6_classValue_0g.2.2.1
theorem dX6_classValue_3 : decode cX6_classValue 3 = .ok (.invokevirtual 71, 3) := dX6_classValue_0g.2.2.2.1
theorem dX6_classValue_6 : decode cX6_classValue 6 = .ok (.istore_n 3, 1) := dX6_classValue_0g.2.2.2.2.1
theorem dX6_classValue_7 : decode cX6_classValue 7 = .ok (.aload_n 0, 1) := dX6_classValue_0g.2.2.2.2.2.1
theorem dX6_classValue_8 : decode cX6_classValue 8 = .ok (.iload_n 3, 1) := dX6_classValue_0g.2.2.2.2.2.2.1
theorem dX6_classValue_9 : decode cX6_classValue 9 = .ok (.invokevirtual 75, 3) := dX6_classValue_0g.2.2.2.2.2.2.2.1
theorem dX6_classValue_12 : decode cX6_classValue 12 = .ok (.iconst 2, 1) := dX6_classValue_0g.2.2.2.2.2.2.2.2.1
theorem dX6_classValue_13 : decode cX6_classValue 13 = .ok (.if_icmp .ne 14, 3) := dX6_classValue_0g.2.2.2.2.2.2.2.2.2.1
theorem dX6_classValue_16 : decode cX6_classValue 16 = .ok (.aload_n 0, 1) := dX6_classValue_0g.2.2.2.2.2.2.2.2.2.2.1
theorem dX6_classValue_17 : decode cX6_classValue 17 = .ok (.iload_n 3, 1) := dX6_classValue_0g.2.2.2.2.2.2.2.2.2.2.2.1
theorem dX6_classValue_18 : decode cX6_classValue 18 = .ok (.iconst 0, 1) := dX6_classValue_0g.2.2.2.2.2.2.2.2.2.2.2.2.1
theorem dX6_classValue_19 : decode cX6_classValue 19 = .ok (.invokevirtual 79, 3) := dX6_classValue_0g.2.2.2.2.2.2.2.2.2.2.2.2.2.1
theorem dX6_classValue_22 : decode cX6_classValue 22 = .ok (.bipush 75, 2) := dX6_classValue_0g.2.2.2.2.2.2.2.2.2.2.2.2.2.2.1
theorem dX6_classValue_24 : decode cX6_classValue 24 = .ok (.if_icmp .eq 5, 3) := dX6_classValue_0g.2.2.2.2.2.2.2.2.2.2.2.2.2.2.2
theorem dX6_classValue_27g : decode cX6_classValue 27 = .ok (.iconst (-1), 1) ∧ decode cX6_classValue 28 = .ok (.ireturn, 1) ∧ decode cX6_classValue 29 = .ok (.aload_n 0, 1) ∧ decode cX6_classValue 30 = .ok (.iload_n 3, 1) ∧ decode cX6_classValue 31 = .ok (.iconst 1, 1) ∧ decode cX6_classValue 32 = .ok (.invokevirtual 79, 3) ∧ decode cX6_classValue 35 = .ok (.istore 4, 2) ∧ decode cX6_classValue 37 = .ok (.iload 4, 2) ∧ decode cX6_classValue 39 = .ok (.bipush 48, 2) ∧ decode cX6_classValue 41 = .ok (.if_icmp .lt 18, 3) ∧ decode cX6_classValue 44 = .ok (.iload 4, 2) ∧ decode cX6_classValue 46 = .ok (.bipush 56, 2) ∧ decode cX6_classValue 48 = .ok (.if_icmp .ge 11, 3) ∧ decode cX6_classValue 51 = .ok (.iload 4, 2) ∧ decode cX6_classValue 53 = .ok (.bipush 48, 2) ∧ decode cX6_classValue 55 = .ok (.isub, 1) := by decide +kernel
theorem dX6_classValue_27 : decode cX6_classValue 27 = .ok (.iconst (-1), 1) := dX6_classValue_27g.1
theorem dX6_classValue_28 : decode cX6_classValue 28 = .ok (.ireturn, 1) := dX6_classValue_27g.2.1
theorem dX6_classValue_29 : decode cX6_classValue 29 = .ok (.aload_n 0, 1) := dX6_classValue_27g.2.2.1
theorem dX6_classValue_30 : decode cX6_classValue 30 = .ok (.iload_n 3, 1) := dX6_classValue_27g.2.2.2.1
theorem dX6_classValue_31 : decode cX6_classValue 31 = .ok (.iconst 1, 1) := dX6_classValue_27g.2.2.2.2.1
theorem dX6_classValue_32 : decode cX6_classValue 32 = .ok (.invokevirtual 79, 3) := dX6_classValue_27g.2.2.2.2.2.1
theorem dX6_classValue_35 : decode cX6_classValue 35 = .ok (.istore 4, 2) := dX6_classValue_27g.2.2.2.2.2.2.1
theorem dX6_classValue_37 : decode cX6_classValue 37 = .ok (.iload 4, 2) := dX6_classValue_27g.2.2.2.2.2.2.2.1
theorem dX6_classValue_39 : decode cX6_classValue 39 = .ok (.bipush 48, 2) := dX6_classValue_27g.2.2.2.2.2.2.2.2.1
theorem dX6_classValue_41 : decode cX6_classValue 41 = .ok (.if_icmp .lt 18, 3) := dX6_classValue_27g.2.2.2.2.2.2.2.2.2.1
theorem dX6_classValue_44 : decode cX6_classValue 44 = .ok (.iload 4, 2) := dX6_classValue_27g.2.2.2.2.2.2.2.2.2.2.1
theorem dX6_classValue_46 : decode cX6_classValue 46 = .ok (.bipush 56, 2) := dX6_classValue_27g.2.2.2.2.2.2.2.2.2.2.2.1
theorem dX6_classValue_48 : decode cX6_classValue 48 = .ok (.if_icmp .ge 11, 3) := dX6_classValue_27g.2.2.2.2.2.2.2.2.2.2.2.2.1
theorem dX6_classValue_51 : decode cX6_classValue 51 = .ok (.iload 4, 2) := dX6_classValue_27g.2.2.2.2.2.2.2.2.2.2.2.2.2.1
theorem dX6_classValue_53 : decode cX6_classValue 53 = .ok (.bipush 48, 2) := dX6_classValue_27g.2.2.2.2.2.2.2.2.2.2.2.2.2.2.1
theorem dX6_classValue_55 : decode cX6_classValue 55 = .ok (.isub, 1) := dX6_classValue_27g.2.2.2.2.2.2.2.2.2.2.2.2.2.2.2
theorem dX6_classValue_56g : decode cX6_classValue 56 = .ok (.goto 4, 3) ∧ decode cX6_classValue 59 = .ok (.iconst (-1), 1) ∧ decode cX6_classValue 60 = .ok (.ireturn, 1) := by decide +kernel
theorem dX6_classValue_56 : decode cX6_classValue 56 = .ok (.goto 4, 3) := dX6_classValue_56g.1
theorem dX6_classValue_59 : decode cX6_classValue 59 = .ok (.iconst (-1), 1) := dX6_classValue_56g.2.1
theorem dX6_classValue_60 : decode cX6_classValue 60 = .ok (.ireturn, 1) := dX6_classValue_56g.2.2
theorem dX6_typeValue_0g : decode cX6_typeValue 0 = .ok (.aload_n 0, 1) ∧ decode cX6_typeValue 1 = .ok (.aload_n 1, 1) ∧ decode cX6_typeValue 2 = .ok (.aload_n 2, 1) ∧ decode cX6_typeValue 3 = .ok (.invokevirtual 87, 3) ∧ decode cX6_typeValue 6 = .ok (.istore_n 3, 1) ∧ decode cX6_typeValue 7 = .ok (.iload_n 3, 1) ∧ decode cX6_typeValue 8 = .ok (.iconst (-1), 1) ∧ decode cX6_typeValue 9 = .ok (.if_icmp .eq 8, 3) ∧ decode cX6_typeValue 12 = .ok (.bipush 8, 2) ∧ decode cX6_typeValue 14 = .ok (.iload_n 3, 1) ∧ decode cX6_typeValue 15 = .ok (.iadd, 1) ∧ decode cX6_typeValue 16 = .ok (.ireturn, 1) ∧ decode cX6_typeValue 17 = .ok (.aload_n 0, 1) ∧ decode cX6_typeValue 18 = .ok (.aload_n 1, 1) ∧ decode cX6_typeValue 19 = .ok (.aload_n 2, 1) ∧ decode cX6_typeValue 20 = .ok (.invokevirtual 83, 3) := by decide +kernel
theorem dX6_typeValue_0 : decode cX6_typeValue 0 = .ok (.aload_n 0, 1) := dX6_typeValue_0g.1
theorem dX6_typeValue_1 : decode cX6_typeValue 1 = .ok (.aload_n 1, 1) := dX6_typeValue_0g.2.1
theorem dX6_typeValue_2 : decode cX6_typeValue 2 = .ok (.aload_n 2, 1) := dX6_typeValue_0g.2.2.1
theorem dX6_typeValue_3 : decode cX6_typeValue 3 = .ok (.invokevirtual 87, 3) := dX6_typeValue_0g.2.2.2.1
theorem dX6_typeValue_6 : decode cX6_typeValue 6 = .ok (.istore_n 3, 1) := dX6_typeValue_0g.2.2.2.2.1
theorem dX6_typeValue_7 : decode cX6_typeValue 7 = .ok (.iload_n 3, 1) := dX6_typeValue_0g.2.2.2.2.2.1
theorem dX6_typeValue_8 : decode cX6_typeValue 8 = .ok (.iconst (-1), 1) := dX6_typeValue_0g.2.2.2.2.2.2.1
theorem dX6_typeValue_9 : decode cX6_typeValue 9 = .ok (.if_icmp .eq 8, 3) := dX6_typeValue_0g.2.2.2.2.2.2.2.1
theorem dX6_typeValue_12 : decode cX6_typeValue 12 = .ok (.bipush 8, 2) := dX6_typeValue_0g.2.2.2.2.2.2.2.2.1
theorem dX6_typeValue_14 : decode cX6_typeValue 14 = .ok (.iload_n 3, 1) := dX6_typeValue_0g.2.2.2.2.2.2.2.2.2.1
theorem dX6_typeValue_15 : decode cX6_typeValue 15 = .ok (.iadd, 1) := dX6_typeValue_0g.2.2.2.2.2.2.2.2.2.2.1
theorem dX6_typeValue_16 : decode cX6_typeValue 16 = .ok (.ireturn, 1) := dX6_typeValue_0g.2.2.2.2.2.2.2.2.2.2.2.1
theorem dX6_typeValue_17 : decode cX6_typeValue 17 = .ok (.aload_n 0, 1) := dX6_typeValue_0g.2.2.2.2.2.2.2.2.2.2.2.2.1
theorem dX6_typeValue_18 : decode cX6_typeValue 18 = .ok (.aload_n 1, 1) := dX6_typeValue_0g.2.2.2.2.2.2.2.2.2.2.2.2.2.1
theorem dX6_typeValue_19 : decode cX6_typeValue 19 = .ok (.aload_n 2, 1) := dX6_typeValue_0g.2.2.2.2.2.2.2.2.2.2.2.2.2.2.1
theorem dX6_typeValue_20 : decode cX6_typeValue 20 = .ok (.invokevirtual 83, 3) := dX6_typeValue_0g.2.2.2.2.2.2.2.2.2.2.2.2.2.2.2
theorem dX6_typeValue_23g : decode cX6_typeValue 23 = .ok (.invokestatic 67, 3) ∧ decode cX6_typeValue 26 = .ok (.astore 4, 2) ∧ decode cX6_typeValue 28 = .ok (.aload 4, 2) ∧ decode cX6_typeValue 30 = .ok (.ifnonnull 5, 3) ∧ decode cX6_typeValue 33 = .ok (.iconst (-1), 1) ∧ decode cX6_typeValue 34 = .ok (.ireturn, 1) ∧ decode cX6_typeValue 35 = .ok (.getstatic 90, 3) ∧ decode cX6_typeValue 38 = .ok (.aload 4, 2) ∧ decode cX6_typeValue 40 = .ok (.invokevirtual 95, 3) ∧ decode cX6_typeValue 43 = .ok (.iaload, 1) ∧ decode cX6_typeValue 44 = .ok (.tableswitch 46 1 5 #[36, 38, 40, 42, 44], 36) ∧ decode cX6_typeValue 80 = .ok (.iconst 0, 1) ∧ decode cX6_typeValue 81 = .ok (.ireturn, 1) ∧ decode cX6_typeValue 82 = .ok (.iconst 1, 1) ∧ decode cX6_typeValue 83 = .ok (.ireturn, 1) ∧ decode cX6_typeValue 84 = .ok (.iconst 2, 1) := by decide +kernel
theorem dX6_typeValue_23 : decode cX6_typeValue 23 = .ok (.invokestatic 67, 3) := dX6_typeValue_23g.1
theorem dX6_typeValue_26 : decode cX6_typeValue 26 = .ok (.astore 4, 2) := dX6_typeValue_23g.2.1
theorem dX6_typeValue_28 : decode cX6_typeValue 28 = .ok (.aload 4, 2) := dX6_typeValue_23g.2.2.1
theorem dX6_typeValue_30 : decode cX6_typeValue 30 = .ok (.ifnonnull 5, 3) := dX6_typeValue_23g.2.2.2.1
theorem dX6_typeValue_33 : decode cX6_typeValue 33 = .ok (.iconst (-1), 1) := dX6_typeValue_23g.2.2.2.2.1
theorem dX6_typeValue_34 : decode cX6_typeValue 34 = .ok (.ireturn, 1) := dX6_typeValue_23g.2.2.2.2.2.1
theorem dX6_typeValue_35 : decode cX6_typeValue 35 = .ok (.getstatic 90, 3) := dX6_typeValue_23g.2.2.2.2.2.2.1
theorem dX6_typeValue_38 : decode cX6_typeValue 38 = .ok (.aload 4, 2) := dX6_typeValue_23g.2.2.2.2.2.2.2.1
theorem dX6_typeValue_40 : decode cX6_typeValue 40 = .ok (.invokevirtual 95, 3) := dX6_typeValue_23g.2.2.2.2.2.2.2.2.1
theorem dX6_typeValue_43 : decode cX6_typeValue 43 = .ok (.iaload, 1) := dX6_typeValue_23g.2.2.2.2.2.2.2.2.2.1
theorem dX6_typeValue_44 : decode cX6_typeValue 44 = .ok (.tableswitch 46 1 5 #[36, 38, 40, 42, 44], 36) := dX6_typeValue_23g.2.2.2.2.2.2.2.2.2.2.1
theorem dX6_typeValue_80 : decode cX6_typeValue 80 = .ok (.iconst 0, 1) := dX6_typeValue_23g.2.2.2.2.2.2.2.2.2.2.2.1
theorem dX6_typeValue_81 : decode cX6_typeValue 81 = .ok (.ireturn, 1) := dX6_typeValue_23g.2.2.2.2.2.2.2.2.2.2.2.2.1
theorem dX6_typeValue_82 : decode cX6_typeValue 82 = .ok (.iconst 1, 1) := dX6_typeValue_23g.2.2.2.2.2.2.2.2.2.2.2.2.2.1
theorem dX6_typeValue_83 : decode cX6_typeValue 83 = .ok (.ireturn, 1) := dX6_typeValue_23g.2.2.2.2.2.2.2.2.2.2.2.2.2.2.1
theorem dX6_typeValue_84 : decode cX6_typeValue 84 = .ok (.iconst 2, 1) := dX6_typeValue_23g.2.2.2.2.2.2.2.2.2.2.2.2.2.2.2
theorem dX6_typeValue_85g : decode cX6_typeValue 85 = .ok (.ireturn, 1) ∧ decode cX6_typeValue 86 = .ok (.iconst 3, 1) ∧ decode cX6_typeValue 87 = .ok (.ireturn, 1) ∧ decode cX6_typeValue 88 = .ok (.iconst 4, 1) ∧ decode cX6_typeValue 89 = .ok (.ireturn, 1) ∧ decode cX6_typeValue 90 = .ok (.iconst (-1), 1) ∧ decode cX6_typeValue 91 = .ok (.ireturn, 1) := by decide +kernel
theorem dX6_typeValue_85 : decode cX6_typeValue 85 = .ok (.ireturn, 1) := dX6_typeValue_85g.1
theorem dX6_typeValue_86 : decode cX6_typeValue 86 = .ok (.iconst 3, 1) := dX6_typeValue_85g.2.1
theorem dX6_typeValue_87 : decode cX6_typeValue 87 = .ok (.ireturn, 1) := dX6_typeValue_85g.2.2.1
theorem dX6_typeValue_88 : decode cX6_typeValue 88 = .ok (.iconst 4, 1) := dX6_typeValue_85g.2.2.2.1
theorem dX6_typeValue_89 : decode cX6_typeValue 89 = .ok (.ireturn, 1) := dX6_typeValue_85g.2.2.2.2.1
theorem dX6_typeValue_90 : decode cX6_typeValue 90 = .ok (.iconst (-1), 1) := dX6_typeValue_85g.2.2.2.2.2.1
theorem dX6_typeValue_91 : decode cX6_typeValue 91 = .ok (.ireturn, 1) := dX6_typeValue_85g.2.2.2.2.2.2
theorem dX6_valueToText_0g : decode cX6_valueToText 0 = .ok (.aload_n 0, 1) ∧ decode cX6_valueToText 1 = .ok (.aload_n 1, 1) ∧ decode cX6_valueToText 2 = .ok (.aload_n 2, 1) ∧ decode cX6_valueToText 3 = .ok (.invokevirtual 71, 3) ∧ decode cX6_valueToText 6 = .ok (.istore_n 3, 1) ∧ decode cX6_valueToText 7 = .ok (.aload_n 0, 1) ∧ decode cX6_valueToText 8 = .ok (.iload_n 3, 1) ∧ decode cX6_valueToText 9 = .ok (.invokevirtual 75, 3) ∧ decode cX6_valueToText 12 = .ok (.istore 4, 2) ∧ decode cX6_valueToText 14 = .ok (.iconst 0, 1) ∧ decode cX6_valueToText 15 = .ok (.istore 5, 2) ∧ decode cX6_valueToText 17 = .ok (.iload 5, 2) ∧ decode cX6_valueToText 19 = .ok (.iload 4, 2) ∧ decode cX6_valueToText 21 = .ok (.if_icmp .ge 23, 3) ∧ decode cX6_valueToText 24 = .ok (.aload_n 1, 1) ∧ decode cX6_valueToText 25 = .ok (.getfield 99, 3) := by decide +kernel
theorem dX6_valueToText_0 : decode cX6_valueToText 0 = .ok (.aload_n 0, 1) := dX6_valueToText_0g.1
theorem dX6_valueToText_1 : decode cX6_valueToText 1 = .ok (.aload_n 1, 1) := dX6_valueToText_0g.2.1
theorem dX6_valueToText_2 : decode cX6_valueToText 2 = .ok (.aload_n 2, 1) := dX6_valueToText_0g.2.2.1
theorem dX6_valueToText_3 : decode cX6_valueToText 3 = .ok (.invokevirtual 71, 3) := dX6_valueToText_0g.2.2.2.1
theorem dX6_valueToText_6 : decode cX6_valueToText 6 = .ok (.istore_n 3, 1) := dX6_valueToText_0g.2.2.2.2.1
theorem dX6_valueToText_7 : decode cX6_valueToText 7 = .ok (.aload_n 0, 1) := dX6_valueToText_0g.2.2.2.2.2.1
theorem dX6_valueToText_8 : decode cX6_valueToText 8 = .ok (.iload_n 3, 1) := dX6_valueToText_0g.2.2.2.2.2.2.1
theorem dX6_valueToText_9 : decode cX6_valueToText 9 = .ok (.invokevirtual 75, 3) := dX6_valueToText_0g.2.2.2.2.2.2.2.1
theorem dX6_valueToText_12 : decode cX6_valueToText 12 = .ok (.istore 4, 2) := dX6_valueToText_0g.2.2.2.2.2.2.2.2.1
theorem dX6_valueToText_14 : decode cX6_valueToText 14 = .ok (.iconst 0, 1) := dX6_valueToText_0g.2.2.2.2.2.2.2.2.2.1
theorem dX6_valueToText_15 : decode cX6_valueToText 15 = .ok (.istore 5, 2) := dX6_valueToText_0g.2.2.2.2.2.2.2.2.2.2.1
theorem dX6_valueToText_17 : decode cX6_valueToText 17 = .ok (.iload 5, 2) := dX6_valueToText_0g.2.2.2.2.2.2.2.2.2.2.2.1
theorem dX6_valueToText_19 : decode cX6_valueToText 19 = .ok (.iload 4, 2) := dX6_valueToText_0g.2.2.2.2.2.2.2.2.2.2.2.2.1
theorem dX6_valueToText_21 : decode cX6_valueToText 21 = .ok (.if_icmp .ge 23, 3) := dX6_valueToText_0g.2.2.2.2.2.2.2.2.2.2.2.2.2.1
theorem dX6_valueToText_24 : decode cX6_valueToText 24 = .ok (.aload_n 1, 1) := dX6_valueToText_0g.2.2.2.2.2.2.2.2.2.2.2.2.2.2.1
theorem dX6_valueToText_25 : decode cX6_valueToText 25 = .ok (.getfield 99, 3) := dX6_valueToText_0g.2.2.2.2.2.2.2.2.2.2.2.2.2.2.2
theorem dX6_valueToText_28g : decode cX6_valueToText 28 = .ok (.iload 5, 2) ∧ decode cX6_valueToText 30 = .ok (.aload_n 0, 1) ∧ decode cX6_valueToText 31 = .ok (.iload_n 3, 1) ∧ decode cX6_valueToText 32 = .ok (.iload 5, 2) ∧ decode cX6_valueToText 34 = .ok (.invokevirtual 79, 3) ∧ decode cX6_valueToText 37 = .ok (.castore, 1) ∧ decode cX6_valueToText 38 = .ok (.iinc 5 1, 3) ∧ decode cX6_valueToText 41 = .ok (.goto (-24), 3) ∧ decode cX6_valueToText 44 = .ok (.aload_n 1, 1) ∧ decode cX6_valueToText 45 = .ok (.iload 4, 2) ∧ decode cX6_valueToText 47 = .ok (.putfield 102, 3) ∧ decode cX6_valueToText 50 = .ok (.return_, 1) := by decide +kernel
theorem dX6_valueToText_28 : decode cX6_valueToText 28 = .ok (.iload 5, 2) := dX6_valueToText_28g.1
theorem dX6_valueToText_30 : decode cX6_valueToText 30 = .ok (.aload_n 0, 1) := dX6_valueToText_28g.2.1
theorem dX6_valueToText_31 : decode cX6_valueToText 31 = .ok (.iload_n 3, 1) := dX6_valueToText_28g.2.2.1
theorem dX6_valueToText_32 : decode cX6_valueToText 32 = .ok (.iload 5, 2) := dX6_valueToText_28g.2.2.2.1
theorem dX6_valueToText_34 : decode cX6_valueToText 34 = .ok (.invokevirtual 79, 3) := dX6_valueToText_28g.2.2.2.2.1
theorem dX6_valueToText_37 : decode cX6_valueToText 37 = .ok (.castore, 1) := dX6_valueToText_28g.2.2.2.2.2.1
theorem dX6_valueToText_38 : decode cX6_valueToText 38 = .ok (.iinc 5 1, 3) := dX6_valueToText_28g.2.2.2.2.2.2.1
theorem dX6_valueToText_41 : decode cX6_valueToText 41 = .ok (.goto (-24), 3) := dX6_valueToText_28g.2.2.2.2.2.2.2.1
theorem dX6_valueToText_44 : decode cX6_valueToText 44 = .ok (.aload_n 1, 1) := dX6_valueToText_28g.2.2.2.2.2.2.2.2.1
theorem dX6_valueToText_45 : decode cX6_valueToText 45 = .ok (.iload 4, 2) := dX6_valueToText_28g.2.2.2.2.2.2.2.2.2.1
theorem dX6_valueToText_47 : decode cX6_valueToText 47 = .ok (.putfield 102, 3) := dX6_valueToText_28g.2.2.2.2.2.2.2.2.2.2.1
theorem dX6_valueToText_50 : decode cX6_valueToText 50 = .ok (.return_, 1) := dX6_valueToText_28g.2.2.2.2.2.2.2.2.2.2.2
theorem dX7_firstWrongPlace_0g : decode cX7_firstWrongPlace 0 = .ok (.aload_n 0, 1) ∧ decode cX7_firstWrongPlace 1 = .ok (.aload_n 1, 1) ∧ decode cX7_firstWrongPlace 2 = .ok (.putfield 15, 3) ∧ decode cX7_firstWrongPlace 5 = .ok (.aload_n 0, 1) ∧ decode cX7_firstWrongPlace 6 = .ok (.iload_n 2, 1) ∧ decode cX7_firstWrongPlace 7 = .ok (.putfield 19, 3) ∧ decode cX7_firstWrongPlace 10 = .ok (.aload_n 0, 1) ∧ decode cX7_firstWrongPlace 11 = .ok (.iconst 0, 1) ∧ decode cX7_firstWrongPlace 12 = .ok (.putfield 23, 3) ∧ decode cX7_firstWrongPlace 15 = .ok (.aload_n 0, 1) ∧ decode cX7_firstWrongPlace 16 = .ok (.iconst 0, 1) ∧ decode cX7_firstWrongPlace 17 = .ok (.putfield 26, 3) ∧ decode cX7_firstWrongPlace 20 = .ok (.aload_n 0, 1) ∧ decode cX7_firstWrongPlace 21 = .ok (.aconst_null, 1) ∧ decode cX7_firstWrongPlace 22 = .ok (.putfield 29, 3) ∧ decode cX7_firstWrongPlace 25 = .ok (.aload_n 0, 1) := by decide +kernel
theorem dX7_firstWrongPlace_0 : decode cX7_firstWrongPlace 0 = .ok (.aload_n 0, 1) := dX7_firstWrongPlace_0g.1
theorem dX7_firstWrongPlace_1 : decode cX7_firstWrongPlace 1 = .ok (.aload_n 1, 1) := dX7_firstWrongPlace_0g.2.1
theorem dX7_firstWrongPlace_2 : decode cX7_firstWrongPlace 2 = .ok (.putfield 15, 3) := dX7_firstWrongPlace_0g.2.2.1
theorem dX7_firstWrongPlace_5 : decode cX7_firstWrongPlace 5 = .ok (.aload_n 0, 1) := dX7_firstWrongPlace_0g.2.2.2.1
theorem dX7_firstWrongPlace_6 : decode cX7_firstWrongPlace 6 = .ok (.iload_n 2, 1) := dX7_firstWrongPlace_0g.2.2.2.2.1
theorem dX7_firstWrongPlace_7 : decode cX7_firstWrongPlace 7 = .ok (.putfield 19, 3) := dX7_firstWrongPlace_0g.2.2.2.2.2.1
theorem dX7_firstWrongPlace_10 : decode cX7_firstWrongPlace 10 = .ok (.aload_n 0, 1) := dX7_firstWrongPlace_0g.2.2.2.2.2.2.1
theorem dX7_firstWrongPlace_11 : decode cX7_firstWrongPlace 11 = .ok (.iconst 0, 1) := dX7_firstWrongPlace_0g.2.2.2.2.2.2.2.1
theorem dX7_firstWrongPlace_12 : decode cX7_firstWrongPlace 12 = .ok (.putfield 23, 3) := dX7_firstWrongPlace_0g.2.2.2.2.2.2.2.2.1
theorem dX7_firstWrongPlace_15 : decode cX7_firstWrongPlace 15 = .ok (.aload_n 0, 1) := dX7_firstWrongPlace_0g.2.2.2.2.2.2.2.2.2.1
theorem dX7_firstWrongPlace_16 : decode cX7_firstWrongPlace 16 = .ok (.iconst 0, 1) := dX7_firstWrongPlace_0g.2.2.2.2.2.2.2.2.2.2.1
theorem dX7_firstWrongPlace_17 : decode cX7_firstWrongPlace 17 = .ok (.putfield 26, 3) := dX7_firstWrongPlace_0g.2.2.2.2.2.2.2.2.2.2.2.1
theorem dX7_firstWrongPlace_20 : decode cX7_firstWrongPlace 20 = .ok (.aload_n 0, 1) := dX7_firstWrongPlace_0g.2.2.2.2.2.2.2.2.2.2.2.2.1
theorem dX7_firstWrongPlace_21 : decode cX7_firstWrongPlace 21 = .ok (.aconst_null, 1) := dX7_firstWrongPlace_0g.2.2.2.2.2.2.2.2.2.2.2.2.2.1
theorem dX7_firstWrongPlace_22 : decode cX7_firstWrongPlace 22 = .ok (.putfield 29, 3) := dX7_firstWrongPlace_0g.2.2.2.2.2.2.2.2.2.2.2.2.2.2.1
theorem dX7_firstWrongPlace_25 : decode cX7_firstWrongPlace 25 = .ok (.aload_n 0, 1) := dX7_firstWrongPlace_0g.2.2.2.2.2.2.2.2.2.2.2.2.2.2.2
theorem dX7_firstWrongPlace_26g : decode cX7_firstWrongPlace 26 = .ok (.getfield 9, 3) ∧ decode cX7_firstWrongPlace 29 = .ok (.invokevirtual 33, 3) ∧ decode cX7_firstWrongPlace 32 = .ok (.aload_n 0, 1) ∧ decode cX7_firstWrongPlace 33 = .ok (.invokevirtual 38, 3) ∧ decode cX7_firstWrongPlace 36 = .ok (.aload_n 0, 1) ∧ decode cX7_firstWrongPlace 37 = .ok (.invokevirtual 41, 3) ∧ decode cX7_firstWrongPlace 40 = .ok (.iconst 0, 1) ∧ decode cX7_firstWrongPlace 41 = .ok (.istore_n 3, 1) ∧ decode cX7_firstWrongPlace 42 = .ok (.iload_n 3, 1) ∧ decode cX7_firstWrongPlace 43 = .ok (.aload_n 0, 1) ∧ decode cX7_firstWrongPlace 44 = .ok (.getfield 19, 3) ∧ decode cX7_firstWrongPlace 47 = .ok (.if_icmp .gt 20, 3) ∧ decode cX7_firstWrongPlace 50 = .ok (.aload_n 0, 1) ∧ decode cX7_firstWrongPlace 51 = .ok (.getfield 29, 3) ∧ decode cX7_firstWrongPlace 54 = .ok (.ifnull 13, 3) ∧ decode cX7_firstWrongPlace 57 = .ok (.aload_n 0, 1) := by decide +kernel
theorem dX7_firstWrongPlace_26 : decode cX7_firstWrongPlace 26 = .ok (.getfield 9, 3) := dX7_firstWrongPlace_26g.1
theorem dX7_firstWrongPlace_29 : decode cX7_firstWrongPlace 29 = .ok (.invokevirtual 33, 3) := dX7_firstWrongPlace_26g.2.1
theorem dX7_firstWrongPlace_32 : decode cX7_firstWrongPlace 32 = .ok (.aload_n 0, 1) := dX7_firstWrongPlace_26g.2.2.1
theorem dX7_firstWrongPlace_33 : decode cX7_firstWrongPlace 33 = .ok (.invokevirtual 38, 3) := dX7_firstWrongPlace_26g.2.2.2.1
theorem dX7_firstWrongPlace_36 : decode cX7_firstWrongPlace 36 = .ok (.aload_n 0, 1) := dX7_firstWrongPlace_26g.2.2.2.2.1
theorem dX7_firstWrongPlace_37 : decode cX7_firstWrongPlace 37 = .ok (.invokevirtual 41, 3) := dX7_firstWrongPlace_26g.2.2.2.2.2.1
theorem dX7_firstWrongPlace_40 : decode cX7_firstWrongPlace 40 = .ok (.iconst 0, 1) := dX7_firstWrongPlace_26g.2.2.2.2.2.2.1
theorem dX7_firstWrongPlace_41 : decode cX7_firstWrongPlace 41 = .ok (.istore_n 3, 1) := dX7_firstWrongPlace_26g.2.2.2.2.2.2.2.1
theorem dX7_firstWrongPlace_42 : decode cX7_firstWrongPlace 42 = .ok (.iload_n 3, 1) := dX7_firstWrongPlace_26g.2.2.2.2.2.2.2.2.1
theorem dX7_firstWrongPlace_43 : decode cX7_firstWrongPlace 43 = .ok (.aload_n 0, 1) := dX7_firstWrongPlace_26g.2.2.2.2.2.2.2.2.2.1
theorem dX7_firstWrongPlace_44 : decode cX7_firstWrongPlace 44 = .ok (.getfield 19, 3) := dX7_firstWrongPlace_26g.2.2.2.2.2.2.2.2.2.2.1
theorem dX7_firstWrongPlace_47 : decode cX7_firstWrongPlace 47 = .ok (.if_icmp .gt 20, 3) := dX7_firstWrongPlace_26g.2.2.2.2.2.2.2.2.2.2.2.1
theorem dX7_firstWrongPlace_50 : decode cX7_firstWrongPlace 50 = .ok (.aload_n 0, 1) := dX7_firstWrongPlace_26g.2.2.2.2.2.2.2.2.2.2.2.2.1
theorem dX7_firstWrongPlace_51 : decode cX7_firstWrongPlace 51 = .ok (.getfield 29, 3) := dX7_firstWrongPlace_26g.2.2.2.2.2.2.2.2.2.2.2.2.2.1
theorem dX7_firstWrongPlace_54 : decode cX7_firstWrongPlace 54 = .ok (.ifnull 13, 3) := dX7_firstWrongPlace_26g.2.2.2.2.2.2.2.2.2.2.2.2.2.2.1
theorem dX7_firstWrongPlace_57 : decode cX7_firstWrongPlace 57 = .ok (.aload_n 0, 1) := dX7_firstWrongPlace_26g.2.2.2.2.2.2.2.2.2.2.2.2.2.2.2
theorem dX7_firstWrongPlace_58g : decode cX7_firstWrongPlace 58 = .ok (.invokevirtual 44, 3) ∧ decode cX7_firstWrongPlace 61 = .ok (.iinc 3 1, 3) ∧ decode cX7_firstWrongPlace 64 = .ok (.goto (-22), 3) ∧ decode cX7_firstWrongPlace 67 = .ok (.aload_n 0, 1) ∧ decode cX7_firstWrongPlace 68 = .ok (.invokevirtual 38, 3) ∧ decode cX7_firstWrongPlace 71 = .ok (.aload_n 0, 1) ∧ decode cX7_firstWrongPlace 72 = .ok (.invokevirtual 47, 3) ∧ decode cX7_firstWrongPlace 75 = .ok (.goto 9, 3) ∧ decode cX7_firstWrongPlace 78 = .ok (.astore_n 3, 1) ∧ decode cX7_firstWrongPlace 79 = .ok (.aload_n 0, 1) ∧ decode cX7_firstWrongPlace 80 = .ok (.getfield 23, 3) ∧ decode cX7_firstWrongPlace 83 = .ok (.ireturn, 1) ∧ decode cX7_firstWrongPlace 84 = .ok (.iconst (-1), 1) ∧ decode cX7_firstWrongPlace 85 = .ok (.ireturn, 1) := by decide +kernel
theorem dX7_firstWrongPlace_58 : decode cX7_firstWrongPlace 58 = .ok (.invokevirtual 44, 3) := dX7_firstWrongPlace_58g.1
theorem dX7_firstWrongPlace_61 : decode cX7_firstWrongPlace 61 = .ok (.iinc 3 1, 3) := dX7_firstWrongPlace_58g.2.1
theorem dX7_firstWrongPlace_64 : decode cX7_firstWrongPlace 64 = .ok (.goto (-22), 3) := dX7_firstWrongPlace_58g.2.2.1
theorem dX7_firstWrongPlace_67 : decode cX7_firstWrongPlace 67 = .ok (.aload_n 0, 1) := dX7_firstWrongPlace_58g.2.2.2.1
theorem dX7_firstWrongPlace_68 : decode cX7_firstWrongPlace 68 = .ok (.invokevirtual 38, 3) := dX7_firstWrongPlace_58g.2.2.2.2.1
theorem dX7_firstWrongPlace_71 : decode cX7_firstWrongPlace 71 = .ok (.aload_n 0, 1) := dX7_firstWrongPlace_58g.2.2.2.2.2.1
theorem dX7_firstWrongPlace_72 : decode cX7_firstWrongPlace 72 = .ok (.invokevirtual 47, 3) := dX7_firstWrongPlace_58g.2.2.2.2.2.2.1
theorem dX7_firstWrongPlace_75 : decode cX7_firstWrongPlace 75 = .ok (.goto 9, 3) := dX7_firstWrongPlace_58g.2.2.2.2.2.2.2.1
theorem dX7_firstWrongPlace_78 : decode cX7_firstWrongPlace 78 = .ok (.astore_n 3, 1) := dX7_firstWrongPlace_58g.2.2.2.2.2.2.2.2.1
theorem dX7_firstWrongPlace_79 : decode cX7_firstWrongPlace 79 = .ok (.aload_n 0, 1) := dX7_firstWrongPlace_58g.2.2.2.2.2.2.2.2.2.1
theorem dX7_firstWrongPlace_80 : decode cX7_firstWrongPlace 80 = .ok (.getfield 23, 3) := dX7_firstWrongPlace_58g.2.2.2.2.2.2.2.2.2.2.1
theorem dX7_firstWrongPlace_83 : decode cX7_firstWrongPlace 83 = .ok (.ireturn, 1) := dX7_firstWrongPlace_58g.2.2.2.2.2.2.2.2.2.2.2.1
theorem dX7_firstWrongPlace_84 : decode cX7_firstWrongPlace 84 = .ok (.iconst (-1), 1) := dX7_firstWrongPlace_58g.2.2.2.2.2.2.2.2.2.2.2.2.1
theorem dX7_firstWrongPlace_85 : decode cX7_firstWrongPlace 85 = .ok (.ireturn, 1) := dX7_firstWrongPlace_58g.2.2.2.2.2.2.2.2.2.2.2.2.2
theorem dX7_refuseMore_0g : decode cX7_refuseMore 0 = .ok (.aload_n 0, 1) ∧ decode cX7_refuseMore 1 = .ok (.getfield 23, 3) ∧ decode cX7_refuseMore 4 = .ok (.aload_n 0, 1) ∧ decode cX7_refuseMore 5 = .ok (.getfield 19, 3) ∧ decode cX7_refuseMore 8 = .ok (.if_icmp .lt 4, 3) ∧ decode cX7_refuseMore 11 = .ok (.return_, 1) ∧ decode cX7_refuseMore 12 = .ok (.aload_n 0, 1) ∧ decode cX7_refuseMore 13 = .ok (.getfield 15, 3) ∧ decode cX7_refuseMore 16 = .ok (.aload_n 0, 1) ∧ decode cX7_refuseMore 17 = .ok (.getfield 23, 3) ∧ decode cX7_refuseMore 20 = .ok (.caload, 1) ∧ decode cX7_refuseMore 21 = .ok (.bipush 60, 2) ∧ decode cX7_refuseMore 23 = .ok (.if_icmp .ne 13, 3) ∧ decode cX7_refuseMore 26 = .ok (.aload_n 0, 1) ∧ decode cX7_refuseMore 27 = .ok (.dup, 1) ∧ decode cX7_refuseMore 28 = .ok (.getfield 23, 3) := by decide +kernel
theorem dX7_refuseMore_0 : decode cX7_refuseMore 0 = .ok (.aload_n 0, 1) := dX7_refuseMore_0g.1
theorem dX7_refuseMore_1 : decode cX7_refuseMore 1 = .ok (.getfield 23, 3) := dX7_refuseMore_0g.2.1
theorem dX7_refuseMore_4 : decode cX7_refuseMore 4 = .ok (.aload_n 0, 1) := dX7_refuseMore_0g.2.2.1
theorem dX7_refuseMore_5 : decode cX7_refuseMore 5 = .ok (.getfield 19, 3) := dX7_refuseMore_0g.2.2.2.1
theorem dX7_refuseMore_8 : decode cX7_refuseMore 8 = .ok (.if_icmp .lt 4, 3) := dX7_refuseMore_0g.2.2.2.2.1
theorem dX7_refuseMore_11 : decode cX7_refuseMore 11 = .ok (.return_, 1) := dX7_refuseMore_0g.2.2.2.2.2.1
theorem dX7_refuseMore_12 : decode cX7_refuseMore 12 = .ok (.aload_n 0, 1) := dX7_refuseMore_0g.2.2.2.2.2.2.1
theorem dX7_refuseMore_13 : decode cX7_refuseMore 13 = .ok (.getfield 15, 3) := dX7_refuseMore_0g.2.2.2.2.2.2.2.1
theorem dX7_refuseMore_16 : decode cX7_refuseMore 16 = .ok (.aload_n 0, 1) := dX7_refuseMore_0g.2.2.2.2.2.2.2.2.1
theorem dX7_refuseMore_17 : decode cX7_refuseMore 17 = .ok (.getfield 23, 3) := dX7_refuseMore_0g.2.2.2.2.2.2.2.2.2.1
theorem dX7_refuseMore_20 : decode cX7_refuseMore 20 = .ok (.caload, 1) := dX7_refuseMore_0g.2.2.2.2.2.2.2.2.2.2.1
theorem dX7_refuseMore_21 : decode cX7_refuseMore 21 = .ok (.bipush 60, 2) := dX7_refuseMore_0g.2.2.2.2.2.2.2.2.2.2.2.1
theorem dX7_refuseMore_23 : decode cX7_refuseMore 23 = .ok (.if_icmp .ne 13, 3) := dX7_refuseMore_0g.2.2.2.2.2.2.2.2.2.2.2.2.1
theorem dX7_refuseMore_26 : decode cX7_refuseMore 26 = .ok (.aload_n 0, 1) := dX7_refuseMore_0g.2.2.2.2.2.2.2.2.2.2.2.2.2.1
theorem dX7_refuseMore_27 : decode cX7_refuseMore 27 = .ok (.dup, 1) := dX7_refuseMore_0g.2.2.2.2.2.2.2.2.2.2.2.2.2.2.1
theorem dX7_refuseMore_28 : decode cX7_refuseMore 28 = .ok (.getfield 23, 3) := dX7_refuseMore_0g.2.2.2.2.2.2.2.2.2.2.2.2.2.2.2
theorem dX7_refuseMore_31g : decode cX7_refuseMore 31 = .ok (.iconst 1, 1) ∧ decode cX7_refuseMore 32 = .ok (.iadd, 1) ∧ decode cX7_refuseMore 33 = .ok (.putfield 23, 3) ∧ decode cX7_refuseMore 36 = .ok (.new 50, 3) ∧ decode cX7_refuseMore 39 = .ok (.dup, 1) ∧ decode cX7_refuseMore 40 = .ok (.invokespecial 52, 3) ∧ decode cX7_refuseMore 43 = .ok (.athrow, 1) := by decide +kernel
theorem dX7_refuseMore_31 : decode cX7_refuseMore 31 = .ok (.iconst 1, 1) := dX7_refuseMore_31g.1
theorem dX7_refuseMore_32 : decode cX7_refuseMore 32 = .ok (.iadd, 1) := dX7_refuseMore_31g.2.1
theorem dX7_refuseMore_33 : decode cX7_refuseMore 33 = .ok (.putfield 23, 3) := dX7_refuseMore_31g.2.2.1
theorem dX7_refuseMore_36 : decode cX7_refuseMore 36 = .ok (.new 50, 3) := dX7_refuseMore_31g.2.2.2.1
theorem dX7_refuseMore_39 : decode cX7_refuseMore 39 = .ok (.dup, 1) := dX7_refuseMore_31g.2.2.2.2.1
theorem dX7_refuseMore_40 : decode cX7_refuseMore 40 = .ok (.invokespecial 52, 3) := dX7_refuseMore_31g.2.2.2.2.2.1
theorem dX7_refuseMore_43 : decode cX7_refuseMore 43 = .ok (.athrow, 1) := dX7_refuseMore_31g.2.2.2.2.2.2
theorem dX7_charAt_0g : decode cX7_charAt 0 = .ok (.iload_n 1, 1) ∧ decode cX7_charAt 1 = .ok (.ifCond .lt 20, 3) ∧ decode cX7_charAt 4 = .ok (.iload_n 1, 1) ∧ decode cX7_charAt 5 = .ok (.aload_n 0, 1) ∧ decode cX7_charAt 6 = .ok (.getfield 19, 3) ∧ decode cX7_charAt 9 = .ok (.if_icmp .ge 12, 3) ∧ decode cX7_charAt 12 = .ok (.aload_n 0, 1) ∧ decode cX7_charAt 13 = .ok (.getfield 15, 3) ∧ decode cX7_charAt 16 = .ok (.iload_n 1, 1) ∧ decode cX7_charAt 17 = .ok (.caload, 1) ∧ decode cX7_charAt 18 = .ok (.goto 4, 3) ∧ decode cX7_charAt 21 = .ok (.iconst 0, 1) ∧ decode cX7_charAt 22 = .ok (.ireturn, 1) := by decide +kernel
theorem dX7_charAt_0 : decode cX7_charAt 0 = .ok (.iload_n 1, 1) := dX7_charAt_0g.1
theorem dX7_charAt_1 : decode cX7_charAt 1 = .ok (.ifCond .lt 20, 3) := dX7_charAt_0g.2.1
theorem dX7_charAt_4 : decode cX7_charAt 4 = .ok (.iload_n 1, 1) := dX7_charAt_0g.2.2.1
theorem dX7_charAt_5 : decode cX7_charAt 5 = .ok (.aload_n 0, 1) := dX7_charAt_0g.2.2.2.1
theorem dX7_charAt_6 : decode cX7_charAt 6 = .ok (.getfield 19, 3) := dX7_charAt_0g.2.2.2.2.1
theorem dX7_charAt_9 : decode cX7_charAt 9 = .ok (.if_icmp .ge 12, 3) := dX7_charAt_0g.2.2.2.2.2.1
theorem dX7_charAt_12 : decode cX7_charAt 12 = .ok (.aload_n 0, 1) := dX7_charAt_0g.2.2.2.2.2.2.1
theorem dX7_charAt_13 : decode cX7_charAt 13 = .ok (.getfield 15, 3) := dX7_charAt_0g.2.2.2.2.2.2.2.1
theorem dX7_charAt_16 : decode cX7_charAt 16 = .ok (.iload_n 1, 1) := dX7_charAt_0g.2.2.2.2.2.2.2.2.1
theorem dX7_charAt_17 : decode cX7_charAt 17 = .ok (.caload, 1) := dX7_charAt_0g.2.2.2.2.2.2.2.2.2.1
theorem dX7_charAt_18 : decode cX7_charAt 18 = .ok (.goto 4, 3) := dX7_charAt_0g.2.2.2.2.2.2.2.2.2.2.1
theorem dX7_charAt_21 : decode cX7_charAt 21 = .ok (.iconst 0, 1) := dX7_charAt_0g.2.2.2.2.2.2.2.2.2.2.2.1
theorem dX7_charAt_22 : decode cX7_charAt 22 = .ok (.ireturn, 1) := dX7_charAt_0g.2.2.2.2.2.2.2.2.2.2.2.2
theorem dX7_expect_0g : decode cX7_expect 0 = .ok (.aload_n 0, 1) ∧ decode cX7_expect 1 = .ok (.getfield 23, 3) ∧ decode cX7_expect 4 = .ok (.aload_n 0, 1) ∧ decode cX7_expect 5 = .ok (.getfield 19, 3) ∧ decode cX7_expect 8 = .ok (.if_icmp .ge 16, 3) ∧ decode cX7_expect 11 = .ok (.aload_n 0, 1) ∧ decode cX7_expect 12 = .ok (.getfield 15, 3) ∧ decode cX7_expect 15 = .ok (.aload_n 0, 1) ∧ decode cX7_expect 16 = .ok (.getfield 23, 3) ∧ decode cX7_expect 19 = .ok (.caload, 1) ∧ decode cX7_expect 20 = .ok (.iload_n 1, 1) ∧ decode cX7_expect 21 = .ok (.if_icmp .eq 11, 3) ∧ decode cX7_expect 24 = .ok (.new 50, 3) ∧ decode cX7_expect 27 = .ok (.dup, 1) ∧ decode cX7_expect 28 = .ok (.invokespecial 52, 3) ∧ decode cX7_expect 31 = .ok (.athrow, 1) := by decide +kernel
theorem dX7_expect_0 : decode cX7_expect 0 = .ok (.aload_n 0, 1) := dX7_expect_0g.1
theorem dX7_expect_1 : decode cX7_expect 1 = .ok (.getfield 23, 3) := dX7_expect_0g.2.1
theorem dX7_expect_4 : decode cX7_expect 4 = .ok (.aload_n 0, 1) := dX7_expect_0g.2.2.1
theorem dX7_expect_5 : decode cX7_expect 5 = .ok (.getfield 19, 3) := dX7_expect_0g.2.2.2.1
theorem dX7_expect_8 : decode cX7_expect 8 = .ok (.if_icmp .ge 16, 3) := dX7_expect_0g.2.2.2.2.1
theorem dX7_expect_11 : decode cX7_expect 11 = .ok (.aload_n 0, 1) := dX7_expect_0g.2.2.2.2.2.1
theorem dX7_expect_12 : decode cX7_expect 12 = .ok (.getfield 15, 3) := dX7_expect_0g.2.2.2.2.2.2.1
theorem dX7_expect_15 : decode cX7_expect 15 = .ok (.aload_n 0, 1) := dX7_expect_0g.2.2.2.2.2.2.2.1
theorem dX7_expect_16 : decode cX7_expect 16 = .ok (.getfield 23, 3) := dX7_expect_0g.2.2.2.2.2.2.2.2.1
theorem dX7_expect_19 : decode cX7_expect 19 = .ok (.caload, 1) := dX7_expect_0g.2.2.2.2.2.2.2.2.2.1
theorem dX7_expect_20 : decode cX7_expect 20 = .ok (.iload_n 1, 1) := dX7_expect_0g.2.2.2.2.2.2.2.2.2.2.1
theorem dX7_expect_21 : decode cX7_expect 21 = .ok (.if_icmp .eq 11, 3) := dX7_expect_0g.2.2.2.2.2.2.2.2.2.2.2.1
theorem dX7_expect_24 : decode cX7_expect 24 = .ok (.new 50, 3) := dX7_expect_0g.2.2.2.2.2.2.2.2.2.2.2.2.1
theorem dX7_expect_27 : decode cX7_expect 27 = .ok (.dup, 1) := dX7_expect_0g.2.2.2.2.2.2.2.2.2.2.2.2.2.1
theorem dX7_expect_28 : decode cX7_expect 28 = .ok (.invokespecial 52, 3) := dX7_expect_0g.2.2.2.2.2.2.2.2.2.2.2.2.2.2.1
theorem dX7_expect_31 : decode cX7_expect 31 = .ok (.athrow, 1) := dX7_expect_0g.2.2.2.2.2.2.2.2.2.2.2.2.2.2.2
theorem dX7_expect_32g : decode cX7_expect 32 = .ok (.aload_n 0, 1) ∧ decode cX7_expect 33 = .ok (.dup, 1) ∧ decode cX7_expect 34 = .ok (.getfield 23, 3) ∧ decode cX7_expect 37 = .ok (.iconst 1, 1) ∧ decode cX7_expect 38 = .ok (.iadd, 1) ∧ decode cX7_expect 39 = .ok (.putfield 23, 3) ∧ decode cX7_expect 42 = .ok (.return_, 1) := by decide +kernel
theorem dX7_expect_32 : decode cX7_expect 32 = .ok (.aload_n 0, 1) := dX7_expect_32g.1
theorem dX7_expect_33 : decode cX7_expect 33 = .ok (.dup, 1) := dX7_expect_32g.2.1
theorem dX7_expect_34 : decode cX7_expect 34 = .ok (.getfield 23, 3) := dX7_expect_32g.2.2.1
theorem dX7_expect_37 : decode cX7_expect 37 = .ok (.iconst 1, 1) := dX7_expect_32g.2.2.2.1
theorem dX7_expect_38 : decode cX7_expect 38 = .ok (.iadd, 1) := dX7_expect_32g.2.2.2.2.1
theorem dX7_expect_39 : decode cX7_expect 39 = .ok (.putfield 23, 3) := dX7_expect_32g.2.2.2.2.2.1
theorem dX7_expect_42 : decode cX7_expect 42 = .ok (.return_, 1) := dX7_expect_32g.2.2.2.2.2.2
theorem dX7_isNameLetter_0g : decode cX7_isNameLetter 0 = .ok (.iload_n 0, 1) ∧ decode cX7_isNameLetter 1 = .ok (.bipush 97, 2) ∧ decode cX7_isNameLetter 3 = .ok (.if_icmp .lt 13, 3) ∧ decode cX7_isNameLetter 6 = .ok (.iload_n 0, 1) ∧ decode cX7_isNameLetter 7 = .ok (.bipush 122, 2) ∧ decode cX7_isNameLetter 9 = .ok (.if_icmp .gt 7, 3) ∧ decode cX7_isNameLetter 12 = .ok (.iconst 1, 1) ∧ decode cX7_isNameLetter 13 = .ok (.goto 4, 3) ∧ decode cX7_isNameLetter 16 = .ok (.iconst 0, 1) ∧ decode cX7_isNameLetter 17 = .ok (.ireturn, 1) := by decide +kernel
theorem dX7_isNameLetter_0 : decode cX7_isNameLetter 0 = .ok (.iload_n 0, 1) := dX7_isNameLetter_0g.1
theorem dX7_isNameLetter_1 : decode cX7_isNameLetter 1 = .ok (.bipush 97, 2) := dX7_isNameLetter_0g.2.1
theorem dX7_isNameLetter_3 : decode cX7_isNameLetter 3 = .ok (.if_icmp .lt 13, 3) := dX7_isNameLetter_0g.2.2.1
theorem dX7_isNameLetter_6 : decode cX7_isNameLetter 6 = .ok (.iload_n 0, 1) := dX7_isNameLetter_0g.2.2.2.1
theorem dX7_isNameLetter_7 : decode cX7_isNameLetter 7 = .ok (.bipush 122, 2) := dX7_isNameLetter_0g.2.2.2.2.1
theorem dX7_isNameLetter_9 : decode cX7_isNameLetter 9 = .ok (.if_icmp .gt 7, 3) := dX7_isNameLetter_0g.2.2.2.2.2.1
theorem dX7_isNameLetter_12 : decode cX7_isNameLetter 12 = .ok (.iconst 1, 1) := dX7_isNameLetter_0g.2.2.2.2.2.2.1
theorem dX7_isNameLetter_13 : decode cX7_isNameLetter 13 = .ok (.goto 4, 3) := dX7_isNameLetter_0g.2.2.2.2.2.2.2.1
theorem dX7_isNameLetter_16 : decode cX7_isNameLetter 16 = .ok (.iconst 0, 1) := dX7_isNameLetter_0g.2.2.2.2.2.2.2.2.1
theorem dX7_isNameLetter_17 : decode cX7_isNameLetter 17 = .ok (.ireturn, 1) := dX7_isNameLetter_0g.2.2.2.2.2.2.2.2.2
theorem dX7_skipsWhite_0g : decode cX7_skipsWhite 0 = .ok (.aload_n 0, 1) ∧ decode cX7_skipsWhite 1 = .ok (.getfield 23, 3) ∧ decode cX7_skipsWhite 4 = .ok (.istore_n 1, 1) ∧ decode cX7_skipsWhite 5 = .ok (.aload_n 0, 1) ∧ decode cX7_skipsWhite 6 = .ok (.getfield 23, 3) ∧ decode cX7_skipsWhite 9 = .ok (.aload_n 0, 1) ∧ decode cX7_skipsWhite 10 = .ok (.getfield 19, 3) ∧ decode cX7_skipsWhite 13 = .ok (.if_icmp .ge 44, 3) ∧ decode cX7_skipsWhite 16 = .ok (.aload_n 0, 1) ∧ decode cX7_skipsWhite 17 = .ok (.getfield 15, 3) ∧ decode cX7_skipsWhite 20 = .ok (.aload_n 0, 1) ∧ decode cX7_skipsWhite 21 = .ok (.getfield 23, 3) ∧ decode cX7_skipsWhite 24 = .ok (.caload, 1) ∧ decode cX7_skipsWhite 25 = .ok (.bipush 10, 2) ∧ decode cX7_skipsWhite 27 = .ok (.if_icmp .eq 17, 3) ∧ decode cX7_skipsWhite 30 = .ok (.aload_n 0, 1) := by decide +kernel
theorem dX7_skipsWhite_0 : decode cX7_skipsWhite 0 = .ok (.aload_n 0, 1) := dX7_skipsWhite_0g.1
theorem dX7_skipsWhite_1 : decode cX7_skipsWhite 1 = .ok (.getfield 23, 3) := dX7_skipsWhite_0g.2.1
theorem dX7_skipsWhite_4 : decode cX7_skipsWhite 4 = .ok (.istore_n 1, 1) := dX7_skipsWhite_0g.2.2.1
theorem dX7_skipsWhite_5 : decode cX7_skipsWhite 5 = .ok (.aload_n 0, 1) := dX7_skipsWhite_0g.2.2.2.1
theorem dX7_skipsWhite_6 : decode cX7_skipsWhite 6 = .ok (.getfield 23, 3) := dX7_skipsWhite_0g.2.2.2.2.1
theorem dX7_skipsWhite_9 : decode cX7_skipsWhite 9 = .ok (.aload_n 0, 1) := dX7_skipsWhite_0g.2.2.2.2.2.1
theorem dX7_skipsWhite_10 : decode cX7_skipsWhite 10 = .ok (.getfield 19, 3) := dX7_skipsWhite_0g.2.2.2.2.2.2.1
theorem dX7_skipsWhite_13 : decode cX7_skipsWhite 13 = .ok (.if_icmp .ge 44, 3) := dX7_skipsWhite_0g.2.2.2.2.2.2.2.1
theorem dX7_skipsWhite_16 : decode cX7_skipsWhite 16 = .ok (.aload_n 0, 1) := dX7_skipsWhite_0g.2.2.2.2.2.2.2.2.1
theorem dX7_skipsWhite_17 : decode cX7_skipsWhite 17 = .ok (.getfield 15, 3) := dX7_skipsWhite_0g.2.2.2.2.2.2.2.2.2.1
theorem dX7_skipsWhite_20 : decode cX7_skipsWhite 20 = .ok (.aload_n 0, 1) := dX7_skipsWhite_0g.2.2.2.2.2.2.2.2.2.2.1
theorem dX7_skipsWhite_21 : decode cX7_skipsWhite 21 = .ok (.getfield 23, 3) := dX7_skipsWhite_0g.2.2.2.2.2.2.2.2.2.2.2.1
theorem dX7_skipsWhite_24 : decode cX7_skipsWhite 24 = .ok (.caload, 1) := dX7_skipsWhite_0g.2.2.2.2.2.2.2.2.2.2.2.2.1
theorem dX7_skipsWhite_25 : decode cX7_skipsWhite 25 = .ok (.bipush 10, 2) := dX7_skipsWhite_0g.2.2.2.2.2.2.2.2.2.2.2.2.2.1
theorem dX7_skipsWhite_27 : decode cX7_skipsWhite 27 = .ok (.if_icmp .eq 17, 3) := dX7_skipsWhite_0g.2.2.2.2.2.2.2.2.2.2.2.2.2.2.1
theorem dX7_skipsWhite_30 : decode cX7_skipsWhite 30 = .ok (.aload_n 0, 1) := dX7_skipsWhite_0g.2.2.2.2.2.2.2.2.2.2.2.2.2.2.2
theorem dX7_skipsWhite_31g : decode cX7_skipsWhite 31 = .ok (.getfield 15, 3) ∧ decode cX7_skipsWhite 34 = .ok (.aload_n 0, 1) ∧ decode cX7_skipsWhite 35 = .ok (.getfield 23, 3) ∧ decode cX7_skipsWhite 38 = .ok (.caload, 1) ∧ decode cX7_skipsWhite 39 = .ok (.bipush 32, 2) ∧ decode cX7_skipsWhite 41 = .ok (.if_icmp .ne 16, 3) ∧ decode cX7_skipsWhite 44 = .ok (.aload_n 0, 1) ∧ decode cX7_skipsWhite 45 = .ok (.dup, 1) ∧ decode cX7_skipsWhite 46 = .ok (.getfield 23, 3) ∧ decode cX7_skipsWhite 49 = .ok (.iconst 1, 1) ∧ decode cX7_skipsWhite 50 = .ok (.iadd, 1) ∧ decode cX7_skipsWhite 51 = .ok (.putfield 23, 3) ∧ decode cX7_skipsWhite 54 = .ok (.goto (-49), 3) ∧ decode cX7_skipsWhite 57 = .ok (.aload_n 0, 1) ∧ decode cX7_skipsWhite 58 = .ok (.getfield 23, 3) ∧ decode cX7_skipsWhite 61 = .ok (.iload_n 1, 1) := by decide +kernel
theorem dX7_skipsWhite_31 : decode cX7_skipsWhite 31 = .ok (.getfield 15, 3) := dX7_skipsWhite_31g.1
theorem dX7_skipsWhite_34 : decode cX7_skipsWhite 34 = .ok (.aload_n 0, 1) := dX7_skipsWhite_31g.2.1
theorem dX7_skipsWhite_35 : decode cX7_skipsWhite 35 = .ok (.getfield 23, 3) := dX7_skipsWhite_31g.2.2.1
theorem dX7_skipsWhite_38 : decode cX7_skipsWhite 38 = .ok (.caload, 1) := dX7_skipsWhite_31g.2.2.2.1
theorem dX7_skipsWhite_39 : decode cX7_skipsWhite 39 = .ok (.bipush 32, 2) := dX7_skipsWhite_31g.2.2.2.2.1
theorem dX7_skipsWhite_41 : decode cX7_skipsWhite 41 = .ok (.if_icmp .ne 16, 3) := dX7_skipsWhite_31g.2.2.2.2.2.1
theorem dX7_skipsWhite_44 : decode cX7_skipsWhite 44 = .ok (.aload_n 0, 1) := dX7_skipsWhite_31g.2.2.2.2.2.2.1
theorem dX7_skipsWhite_45 : decode cX7_skipsWhite 45 = .ok (.dup, 1) := dX7_skipsWhite_31g.2.2.2.2.2.2.2.1
theorem dX7_skipsWhite_46 : decode cX7_skipsWhite 46 = .ok (.getfield 23, 3) := dX7_skipsWhite_31g.2.2.2.2.2.2.2.2.1
theorem dX7_skipsWhite_49 : decode cX7_skipsWhite 49 = .ok (.iconst 1, 1) := dX7_skipsWhite_31g.2.2.2.2.2.2.2.2.2.1
theorem dX7_skipsWhite_50 : decode cX7_skipsWhite 50 = .ok (.iadd, 1) := dX7_skipsWhite_31g.2.2.2.2.2.2.2.2.2.2.1
theorem dX7_skipsWhite_51 : decode cX7_skipsWhite 51 = .ok (.putfield 23, 3) := dX7_skipsWhite_31g.2.2.2.2.2.2.2.2.2.2.2.1
theorem dX7_skipsWhite_54 : decode cX7_skipsWhite 54 = .ok (.goto (-49), 3) := dX7_skipsWhite_31g.2.2.2.2.2.2.2.2.2.2.2.2.1
theorem dX7_skipsWhite_57 : decode cX7_skipsWhite 57 = .ok (.aload_n 0, 1) := dX7_skipsWhite_31g.2.2.2.2.2.2.2.2.2.2.2.2.2.1
theorem dX7_skipsWhite_58 : decode cX7_skipsWhite 58 = .ok (.getfield 23, 3) := dX7_skipsWhite_31g.2.2.2.2.2.2.2.2.2.2.2.2.2.2.1
theorem dX7_skipsWhite_61 : decode cX7_skipsWhite 61 = .ok (.iload_n 1, 1) := dX7_skipsWhite_31g.2.2.2.2.2.2.2.2.2.2.2.2.2.2.2
theorem dX7_skipsWhite_62g : decode cX7_skipsWhite 62 = .ok (.if_icmp .le 7, 3) ∧ decode cX7_skipsWhite 65 = .ok (.iconst 1, 1) ∧ decode cX7_skipsWhite 66 = .ok (.goto 4, 3) ∧ decode cX7_skipsWhite 69 = .ok (.iconst 0, 1) ∧ decode cX7_skipsWhite 70 = .ok (.ireturn, 1) := by decide +kernel
theorem dX7_skipsWhite_62 : decode cX7_skipsWhite 62 = .ok (.if_icmp .le 7, 3) := dX7_skipsWhite_62g.1
theorem dX7_skipsWhite_65 : decode cX7_skipsWhite 65 = .ok (.iconst 1, 1) := dX7_skipsWhite_62g.2.1
theorem dX7_skipsWhite_66 : decode cX7_skipsWhite 66 = .ok (.goto 4, 3) := dX7_skipsWhite_62g.2.2.1
theorem dX7_skipsWhite_69 : decode cX7_skipsWhite 69 = .ok (.iconst 0, 1) := dX7_skipsWhite_62g.2.2.2.1
theorem dX7_skipsWhite_70 : decode cX7_skipsWhite 70 = .ok (.ireturn, 1) := dX7_skipsWhite_62g.2.2.2.2
theorem dX7_skipAround_0g : decode cX7_skipAround 0 = .ok (.aload_n 0, 1) ∧ decode cX7_skipAround 1 = .ok (.invokevirtual 53, 3) ∧ decode cX7_skipAround 4 = .ok (.pop, 1) ∧ decode cX7_skipAround 5 = .ok (.iconst 0, 1) ∧ decode cX7_skipAround 6 = .ok (.istore_n 1, 1) ∧ decode cX7_skipAround 7 = .ok (.iload_n 1, 1) ∧ decode cX7_skipAround 8 = .ok (.aload_n 0, 1) ∧ decode cX7_skipAround 9 = .ok (.getfield 19, 3) ∧ decode cX7_skipAround 12 = .ok (.if_icmp .ge 46, 3) ∧ decode cX7_skipAround 15 = .ok (.aload_n 0, 1) ∧ decode cX7_skipAround 16 = .ok (.aload_n 0, 1) ∧ decode cX7_skipAround 17 = .ok (.getfield 23, 3) ∧ decode cX7_skipAround 20 = .ok (.invokevirtual 57, 3) ∧ decode cX7_skipAround 23 = .ok (.bipush 60, 2) ∧ decode cX7_skipAround 25 = .ok (.if_icmp .ne 33, 3) ∧ decode cX7_skipAround 28 = .ok (.aload_n 0, 1) := by decide +kernel
theorem dX7_skipAround_0 : decode cX7_skipAround 0 = .ok (.aload_n 0, 1) := dX7_skipAround_0g.1
theorem dX7_skipAround_1 : decode cX7_skipAround 1 = .ok (.invokevirtual 53, 3) := dX7_skipAround_0g.2.1
theorem dX7_skipAround_4 : decode cX7_skipAround 4 = .ok (.pop, 1) := dX7_skipAround_0g.2.2.1
theorem dX7_skipAround_5 : decode cX7_skipAround 5 = .ok (.iconst 0, 1) := dX7_skipAround_0g.2.2.2.1
theorem dX7_skipAround_6 : decode cX7_skipAround 6 = .ok (.istore_n 1, 1) := dX7_skipAround_0g.2.2.2.2.1
theorem dX7_skipAround_7 : decode cX7_skipAround 7 = .ok (.iload_n 1, 1) := dX7_skipAround_0g.2.2.2.2.2.1
theorem dX7_skipAround_8 : decode cX7_skipAround 8 = .ok (.aload_n 0, 1) := dX7_skipAround_0g.2.2.2.2.2.2.1
theorem dX7_skipAround_9 : decode cX7_skipAround 9 = .ok (.getfield 19, 3) := dX7_skipAround_0g.2.2.2.2.2.2.2.1
theorem dX7_skipAround_12 : decode cX7_skipAround 12 = .ok (.if_icmp .ge 46, 3) := dX7_skipAround_0g.2.2.2.2.2.2.2.2.1
theorem dX7_skipAround_15 : decode cX7_skipAround 15 = .ok (.aload_n 0, 1) := dX7_skipAround_0g.2.2.2.2.2.2.2.2.2.1
theorem dX7_skipAround_16 : decode cX7_skipAround 16 = .ok (.aload_n 0, 1) := dX7_skipAround_0g.2.2.2.2.2.2.2.2.2.2.1
theorem dX7_skipAround_17 : decode cX7_skipAround 17 = .ok (.getfield 23, 3) := dX7_skipAround_0g.2.2.2.2.2.2.2.2.2.2.2.1
theorem dX7_skipAround_20 : decode cX7_skipAround 20 = .ok (.invokevirtual 57, 3) := dX7_skipAround_0g.2.2.2.2.2.2.2.2.2.2.2.2.1
theorem dX7_skipAround_23 : decode cX7_skipAround 23 = .ok (.bipush 60, 2) := dX7_skipAround_0g.2.2.2.2.2.2.2.2.2.2.2.2.2.1
theorem dX7_skipAround_25 : decode cX7_skipAround 25 = .ok (.if_icmp .ne 33, 3) := dX7_skipAround_0g.2.2.2.2.2.2.2.2.2.2.2.2.2.2.1
theorem dX7_skipAround_28 : decode cX7_skipAround 28 = .ok (.aload_n 0, 1) := dX7_skipAround_0g.2.2.2.2.2.2.2.2.2.2.2.2.2.2.2
theorem dX7_skipAround_29g : decode cX7_skipAround 29 = .ok (.aload_n 0, 1) ∧ decode cX7_skipAround 30 = .ok (.getfield 23, 3) ∧ decode cX7_skipAround 33 = .ok (.iconst 1, 1) ∧ decode cX7_skipAround 34 = .ok (.iadd, 1) ∧ decode cX7_skipAround 35 = .ok (.invokevirtual 57, 3) ∧ decode cX7_skipAround 38 = .ok (.bipush 33, 2) ∧ decode cX7_skipAround 40 = .ok (.if_icmp .ne 18, 3) ∧ decode cX7_skipAround 43 = .ok (.aload_n 0, 1) ∧ decode cX7_skipAround 44 = .ok (.invokevirtual 61, 3) ∧ decode cX7_skipAround 47 = .ok (.aload_n 0, 1) ∧ decode cX7_skipAround 48 = .ok (.invokevirtual 53, 3) ∧ decode cX7_skipAround 51 = .ok (.pop, 1) ∧ decode cX7_skipAround 52 = .ok (.iinc 1 1, 3) ∧ decode cX7_skipAround 55 = .ok (.goto (-48), 3) ∧ decode cX7_skipAround 58 = .ok (.return_, 1) := by decide +kernel
theorem dX7_skipAround_29 : decode cX7_skipAround 29 = .ok (.aload_n 0, 1) := dX7_skipAround_29g.1
theorem dX7_skipAround_30 : decode cX7_skipAround 30 = .ok (.getfield 23, 3) := dX7_skipAround_29g.2.1
theorem dX7_skipAround_33 : decode cX7_skipAround 33 = .ok (.iconst 1, 1) := dX7_skipAround_29g.2.2.1
theorem dX7_skipAround_34 : decode cX7_skipAround 34 = .ok (.iadd, 1) := dX7_skipAround_29g.2.2.2.1
theorem dX7_skipAround_35 : decode cX7_skipAround 35 = .ok (.invokevirtual 57, 3) := dX7_skipAround_29g.2.2.2.2.1
theorem dX7_skipAround_38 : decode cX7_skipAround 38 = .ok (.bipush 33, 2) := dX7_skipAround_29g.2.2.2.2.2.1
theorem dX7_skipAround_40 : decode cX7_skipAround 40 = .ok (.if_icmp .ne 18, 3) := dX7_skipAround_29g.2.2.2.2.2.2.1
theorem dX7_skipAround_43 : decode cX7_skipAround 43 = .ok (.aload_n 0, 1) := dX7_skipAround_29g.2.2.2.2.2.2.2.1
theorem dX7_skipAround_44 : decode cX7_skipAround 44 = .ok (.invokevirtual 61, 3) := dX7_skipAround_29g.2.2.2.2.2.2.2.2.1
theorem dX7_skipAround_47 : decode cX7_skipAround 47 = .ok (.aload_n 0, 1) := dX7_skipAround_29g.2.2.2.2.2.2.2.2.2.1
theorem dX7_skipAround_48 : decode cX7_skipAround 48 = .ok (.invokevirtual 53, 3) := dX7_skipAround_29g.2.2.2.2.2.2.2.2.2.2.1
theorem dX7_skipAround_51 : decode cX7_skipAround 51 = .ok (.pop, 1) := dX7_skipAround_29g.2.2.2.2.2.2.2.2.2.2.2.1
theorem dX7_skipAround_52 : decode cX7_skipAround 52 = .ok (.iinc 1 1, 3) := dX7_skipAround_29g.2.2.2.2.2.2.2.2.2.2.2.2.1
theorem dX7_skipAround_55 : decode cX7_skipAround 55 = .ok (.goto (-48), 3) := dX7_skipAround_29g.2.2.2.2.2.2.2.2.2.2.2.2.2.1
theorem dX7_skipAround_58 : decode cX7_skipAround 58 = .ok (.return_, 1) := dX7_skipAround_29g.2.2.2.2.2.2.2.2.2.2.2.2.2.2
