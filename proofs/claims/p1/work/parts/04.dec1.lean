theorem dX12_init_0 : decode cX12_init 0 = .ok (.aload_n 0, 1) := by decide +kernel
theorem dX12_init_1 : decode cX12_init 1 = .ok (.invokespecial 1, 3) := by decide +kernel
theorem dX12_init_4 : decode cX12_init 4 = .ok (.aload_n 0, 1) := by decide +kernel
theorem dX12_init_5 : decode cX12_init 5 = .ok (.bipush 8, 2) := by decide +kernel
theorem dX12_init_7 : decode cX12_init 7 = .ok (.anewarray 9, 3) := by decide +kernel
theorem dX12_init_10 : decode cX12_init 10 = .ok (.putfield 11, 3) := by decide +kernel
theorem dX12_init_13 : decode cX12_init 13 = .ok (.iconst 0, 1) := by decide +kernel
theorem dX12_init_14 : decode cX12_init 14 = .ok (.istore_n 1, 1) := by decide +kernel
theorem dX12_init_15 : decode cX12_init 15 = .ok (.iload_n 1, 1) := by decide +kernel
theorem dX12_init_16 : decode cX12_init 16 = .ok (.bipush 8, 2) := by decide +kernel
theorem dX12_init_18 : decode cX12_init 18 = .ok (.if_icmp .ge 23, 3) := by decide +kernel
theorem dX12_init_21 : decode cX12_init 21 = .ok (.aload_n 0, 1) := by decide +kernel
theorem dX12_init_22 : decode cX12_init 22 = .ok (.getfield 11, 3) := by decide +kernel
theorem dX12_init_25 : decode cX12_init 25 = .ok (.iload_n 1, 1) := by decide +kernel
theorem dX12_init_26 : decode cX12_init 26 = .ok (.new 9, 3) := by decide +kernel
theorem dX12_init_29 : decode cX12_init 29 = .ok (.dup, 1) := by decide +kernel
theorem dX12_init_30 : decode cX12_init 30 = .ok (.iload_n 1, 1) := by decide +kernel
theorem dX12_init_31 : decode cX12_init 31 = .ok (.invokespecial 15, 3) := by decide +kernel
theorem dX12_init_34 : decode cX12_init 34 = .ok (.aastore, 1) := by decide +kernel
theorem dX12_init_35 : decode cX12_init 35 = .ok (.iinc 1 1, 3) := by decide +kernel
theorem dX12_init_38 : decode cX12_init 38 = .ok (.goto (-23), 3) := by decide +kernel
theorem dX12_init_41 : decode cX12_init 41 = .ok (.aload_n 0, 1) := by decide +kernel
theorem dX12_init_42 : decode cX12_init 42 = .ok (.sipush 1200, 3) := by decide +kernel
theorem dX12_init_45 : decode cX12_init 45 = .ok (.newarray .char, 2) := by decide +kernel
theorem dX12_init_47 : decode cX12_init 47 = .ok (.putfield 18, 3) := by decide +kernel
theorem dX12_init_50 : decode cX12_init 50 = .ok (.aload_n 0, 1) := by decide +kernel
theorem dX12_init_51 : decode cX12_init 51 = .ok (.new 22, 3) := by decide +kernel
theorem dX12_init_54 : decode cX12_init 54 = .ok (.dup, 1) := by decide +kernel
theorem dX12_init_55 : decode cX12_init 55 = .ok (.sipush 1200, 3) := by decide +kernel
theorem dX12_init_58 : decode cX12_init 58 = .ok (.invokespecial 24, 3) := by decide +kernel
theorem dX12_init_61 : decode cX12_init 61 = .ok (.putfield 25, 3) := by decide +kernel
theorem dX12_init_64 : decode cX12_init 64 = .ok (.aload_n 0, 1) := by decide +kernel
theorem dX12_init_65 : decode cX12_init 65 = .ok (.new 29, 3) := by decide +kernel
theorem dX12_init_68 : decode cX12_init 68 = .ok (.dup, 1) := by decide +kernel
theorem dX12_init_69 : decode cX12_init 69 = .ok (.aload_n 0, 1) := by decide +kernel
theorem dX12_init_70 : decode cX12_init 70 = .ok (.getfield 25, 3) := by decide +kernel
theorem dX12_init_73 : decode cX12_init 73 = .ok (.invokespecial 31, 3) := by decide +kernel
theorem dX12_init_76 : decode cX12_init 76 = .ok (.putfield 34, 3) := by decide +kernel
theorem dX12_init_79 : decode cX12_init 79 = .ok (.aload_n 0, 1) := by decide +kernel
theorem dX12_init_80 : decode cX12_init 80 = .ok (.new 38, 3) := by decide +kernel
theorem dX12_init_83 : decode cX12_init 83 = .ok (.dup, 1) := by decide +kernel
theorem dX12_init_84 : decode cX12_init 84 = .ok (.aload_n 0, 1) := by decide +kernel
theorem dX12_init_85 : decode cX12_init 85 = .ok (.getfield 25, 3) := by decide +kernel
theorem dX12_init_88 : decode cX12_init 88 = .ok (.invokespecial 40, 3) := by decide +kernel
theorem dX12_init_91 : decode cX12_init 91 = .ok (.putfield 41, 3) := by decide +kernel
theorem dX12_init_94 : decode cX12_init 94 = .ok (.aload_n 0, 1) := by decide +kernel
theorem dX12_init_95 : decode cX12_init 95 = .ok (.new 45, 3) := by decide +kernel
theorem dX12_init_98 : decode cX12_init 98 = .ok (.dup, 1) := by decide +kernel
theorem dX12_init_99 : decode cX12_init 99 = .ok (.aload_n 0, 1) := by decide +kernel
theorem dX12_init_100 : decode cX12_init 100 = .ok (.getfield 25, 3) := by decide +kernel
theorem dX12_init_103 : decode cX12_init 103 = .ok (.invokespecial 47, 3) := by decide +kernel
theorem dX12_init_106 : decode cX12_init 106 = .ok (.putfield 48, 3) := by decide +kernel
theorem dX12_init_109 : decode cX12_init 109 = .ok (.aload_n 0, 1) := by decide +kernel
theorem dX12_init_110 : decode cX12_init 110 = .ok (.new 52, 3) := by decide +kernel
theorem dX12_init_113 : decode cX12_init 113 = .ok (.dup, 1) := by decide +kernel
theorem dX12_init_114 : decode cX12_init 114 = .ok (.invokespecial 54, 3) := by decide +kernel
theorem dX12_init_117 : decode cX12_init 117 = .ok (.putfield 55, 3) := by decide +kernel
theorem dX12_init_120 : decode cX12_init 120 = .ok (.aload_n 0, 1) := by decide +kernel
theorem dX12_init_121 : decode cX12_init 121 = .ok (.new 59, 3) := by decide +kernel
theorem dX12_init_124 : decode cX12_init 124 = .ok (.dup, 1) := by decide +kernel
theorem dX12_init_125 : decode cX12_init 125 = .ok (.aload_n 0, 1) := by decide +kernel
theorem dX12_init_126 : decode cX12_init 126 = .ok (.getfield 48, 3) := by decide +kernel
theorem dX12_init_129 : decode cX12_init 129 = .ok (.aload_n 0, 1) := by decide +kernel
theorem dX12_init_130 : decode cX12_init 130 = .ok (.getfield 11, 3) := by decide +kernel
theorem dX12_init_133 : decode cX12_init 133 = .ok (.aload_n 0, 1) := by decide +kernel
theorem dX12_init_134 : decode cX12_init 134 = .ok (.getfield 55, 3) := by decide +kernel
theorem dX12_init_137 : decode cX12_init 137 = .ok (.invokespecial 61, 3) := by decide +kernel
theorem dX12_init_140 : decode cX12_init 140 = .ok (.putfield 64, 3) := by decide +kernel
theorem dX12_init_143 : decode cX12_init 143 = .ok (.aload_n 0, 1) := by decide +kernel
theorem dX12_init_144 : decode cX12_init 144 = .ok (.iconst (-1), 1) := by decide +kernel
theorem dX12_init_145 : decode cX12_init 145 = .ok (.putfield 68, 3) := by decide +kernel
theorem dX12_init_148 : decode cX12_init 148 = .ok (.return_, 1) := by decide +kernel
theorem dX12_declare_0 : decode cX12_declare 0 = .ok (.iload_n 1, 1) := by decide +kernel
theorem dX12_declare_1 : decode cX12_declare 1 = .ok (.invokestatic 72, 3) := by decide +kernel
theorem dX12_declare_4 : decode cX12_declare 4 = .ok (.ifCond .eq 13, 3) := by decide +kernel
theorem dX12_declare_7 : decode cX12_declare 7 = .ok (.iload_n 2, 1) := by decide +kernel
theorem dX12_declare_8 : decode cX12_declare 8 = .ok (.iconst (-1), 1) := by decide +kernel
theorem dX12_declare_9 : decode cX12_declare 9 = .ok (.if_icmp .lt 8, 3) := by decide +kernel
theorem dX12_declare_12 : decode cX12_declare 12 = .ok (.iload_n 2, 1) := by decide +kernel
theorem dX12_declare_13 : decode cX12_declare 13 = .ok (.iload_n 1, 1) := by decide +kernel
theorem dX12_declare_14 : decode cX12_declare 14 = .ok (.if_icmp .lt 5, 3) := by decide +kernel
theorem dX12_declare_17 : decode cX12_declare 17 = .ok (.iconst 0, 1) := by decide +kernel
theorem dX12_declare_18 : decode cX12_declare 18 = .ok (.ireturn, 1) := by decide +kernel
theorem dX12_declare_19 : decode cX12_declare 19 = .ok (.aload_n 0, 1) := by decide +kernel
theorem dX12_declare_20 : decode cX12_declare 20 = .ok (.getfield 11, 3) := by decide +kernel
theorem dX12_declare_23 : decode cX12_declare 23 = .ok (.iload_n 1, 1) := by decide +kernel
theorem dX12_declare_24 : decode cX12_declare 24 = .ok (.aaload, 1) := by decide +kernel
theorem dX12_declare_25 : decode cX12_declare 25 = .ok (.iload_n 2, 1) := by decide +kernel
theorem dX12_declare_26 : decode cX12_declare 26 = .ok (.iconst (-1), 1) := by decide +kernel
theorem dX12_declare_27 : decode cX12_declare 27 = .ok (.if_icmp .ne 7, 3) := by decide +kernel
theorem dX12_declare_30 : decode cX12_declare 30 = .ok (.aconst_null, 1) := by decide +kernel
theorem dX12_declare_31 : decode cX12_declare 31 = .ok (.goto 9, 3) := by decide +kernel
theorem dX12_declare_34 : decode cX12_declare 34 = .ok (.aload_n 0, 1) := by decide +kernel
theorem dX12_declare_35 : decode cX12_declare 35 = .ok (.getfield 11, 3) := by decide +kernel
theorem dX12_declare_38 : decode cX12_declare 38 = .ok (.iload_n 2, 1) := by decide +kernel
theorem dX12_declare_39 : decode cX12_declare 39 = .ok (.aaload, 1) := by decide +kernel
theorem dX12_declare_40 : decode cX12_declare 40 = .ok (.invokevirtual 76, 3) := by decide +kernel
theorem dX12_declare_43 : decode cX12_declare 43 = .ok (.iconst 1, 1) := by decide +kernel
theorem dX12_declare_44 : decode cX12_declare 44 = .ok (.ireturn, 1) := by decide +kernel
theorem dX12_constructor_0 : decode cX12_constructor 0 = .ok (.iload_n 1, 1) := by decide +kernel
theorem dX12_constructor_1 : decode cX12_constructor 1 = .ok (.invokestatic 72, 3) := by decide +kernel
theorem dX12_constructor_4 : decode cX12_constructor 4 = .ok (.ifCond .eq 37, 3) := by decide +kernel
theorem dX12_constructor_7 : decode cX12_constructor 7 = .ok (.iload_n 2, 1) := by decide +kernel
theorem dX12_constructor_8 : decode cX12_constructor 8 = .ok (.iload_n 3, 1) := by decide +kernel
theorem dX12_constructor_9 : decode cX12_constructor 9 = .ok (.iload 4, 2) := by decide +kernel
theorem dX12_constructor_11 : decode cX12_constructor 11 = .ok (.iload 5, 2) := by decide +kernel
theorem dX12_constructor_13 : decode cX12_constructor 13 = .ok (.invokestatic 80, 3) := by decide +kernel
theorem dX12_constructor_16 : decode cX12_constructor 16 = .ok (.ifCond .eq 25, 3) := by decide +kernel
theorem dX12_constructor_19 : decode cX12_constructor 19 = .ok (.aload_n 0, 1) := by decide +kernel
theorem dX12_constructor_20 : decode cX12_constructor 20 = .ok (.getfield 11, 3) := by decide +kernel
theorem dX12_constructor_23 : decode cX12_constructor 23 = .ok (.iload_n 1, 1) := by decide +kernel
theorem dX12_constructor_24 : decode cX12_constructor 24 = .ok (.aaload, 1) := by decide +kernel
theorem dX12_constructor_25 : decode cX12_constructor 25 = .ok (.iload_n 2, 1) := by decide +kernel
theorem dX12_constructor_26 : decode cX12_constructor 26 = .ok (.iload_n 3, 1) := by decide +kernel
theorem dX12_constructor_27 : decode cX12_constructor 27 = .ok (.iload 4, 2) := by decide +kernel
theorem dX12_constructor_29 : decode cX12_constructor 29 = .ok (.iload 5, 2) := by decide +kernel
theorem dX12_constructor_31 : decode cX12_constructor 31 = .ok (.invokevirtual 84, 3) := by decide +kernel
theorem dX12_constructor_34 : decode cX12_constructor 34 = .ok (.ifCond .eq 7, 3) := by decide +kernel
theorem dX12_constructor_37 : decode cX12_constructor 37 = .ok (.iconst 1, 1) := by decide +kernel
theorem dX12_constructor_38 : decode cX12_constructor 38 = .ok (.goto 4, 3) := by decide +kernel
theorem dX12_constructor_41 : decode cX12_constructor 41 = .ok (.iconst 0, 1) := by decide +kernel
theorem dX12_constructor_42 : decode cX12_constructor 42 = .ok (.ireturn, 1) := by decide +kernel
theorem dX12_setter_0 : decode cX12_setter 0 = .ok (.iload_n 1, 1) := by decide +kernel
theorem dX12_setter_1 : decode cX12_setter 1 = .ok (.invokestatic 72, 3) := by decide +kernel
theorem dX12_setter_4 : decode cX12_setter 4 = .ok (.ifCond .eq 35, 3) := by decide +kernel
theorem dX12_setter_7 : decode cX12_setter 7 = .ok (.iload_n 2, 1) := by decide +kernel
theorem dX12_setter_8 : decode cX12_setter 8 = .ok (.invokestatic 87, 3) := by decide +kernel
theorem dX12_setter_11 : decode cX12_setter 11 = .ok (.ifCond .eq 28, 3) := by decide +kernel
theorem dX12_setter_14 : decode cX12_setter 14 = .ok (.iload_n 3, 1) := by decide +kernel
theorem dX12_setter_15 : decode cX12_setter 15 = .ok (.invokestatic 90, 3) := by decide +kernel
theorem dX12_setter_18 : decode cX12_setter 18 = .ok (.ifCond .eq 21, 3) := by decide +kernel
theorem dX12_setter_21 : decode cX12_setter 21 = .ok (.aload_n 0, 1) := by decide +kernel
theorem dX12_setter_22 : decode cX12_setter 22 = .ok (.getfield 11, 3) := by decide +kernel
theorem dX12_setter_25 : decode cX12_setter 25 = .ok (.iload_n 1, 1) := by decide +kernel
theorem dX12_setter_26 : decode cX12_setter 26 = .ok (.aaload, 1) := by decide +kernel
theorem dX12_setter_27 : decode cX12_setter 27 = .ok (.iload_n 2, 1) := by decide +kernel
theorem dX12_setter_28 : decode cX12_setter 28 = .ok (.iload_n 3, 1) := by decide +kernel
theorem dX12_setter_29 : decode cX12_setter 29 = .ok (.invokevirtual 93, 3) := by decide +kernel
theorem dX12_setter_32 : decode cX12_setter 32 = .ok (.ifCond .eq 7, 3) := by decide +kernel
theorem dX12_setter_35 : decode cX12_setter 35 = .ok (.iconst 1, 1) := by decide +kernel
theorem dX12_setter_36 : decode cX12_setter 36 = .ok (.goto 4, 3) := by decide +kernel
theorem dX12_setter_39 : decode cX12_setter 39 = .ok (.iconst 0, 1) := by decide +kernel
theorem dX12_setter_40 : decode cX12_setter 40 = .ok (.ireturn, 1) := by decide +kernel
theorem dX12_factory_0 : decode cX12_factory 0 = .ok (.iload_n 1, 1) := by decide +kernel
theorem dX12_factory_1 : decode cX12_factory 1 = .ok (.invokestatic 72, 3) := by decide +kernel
theorem dX12_factory_4 : decode cX12_factory 4 = .ok (.ifCond .eq 60, 3) := by decide +kernel
theorem dX12_factory_7 : decode cX12_factory 7 = .ok (.iload_n 2, 1) := by decide +kernel
theorem dX12_factory_8 : decode cX12_factory 8 = .ok (.invokestatic 87, 3) := by decide +kernel
theorem dX12_factory_11 : decode cX12_factory 11 = .ok (.ifCond .eq 53, 3) := by decide +kernel
theorem dX12_factory_14 : decode cX12_factory 14 = .ok (.iload 4, 2) := by decide +kernel
theorem dX12_factory_16 : decode cX12_factory 16 = .ok (.invokestatic 72, 3) := by decide +kernel
theorem dX12_factory_19 : decode cX12_factory 19 = .ok (.ifCond .eq 45, 3) := by decide +kernel
theorem dX12_factory_22 : decode cX12_factory 22 = .ok (.iload 5, 2) := by decide +kernel
theorem dX12_factory_24 : decode cX12_factory 24 = .ok (.iload 6, 2) := by decide +kernel
theorem dX12_factory_26 : decode cX12_factory 26 = .ok (.iload 7, 2) := by decide +kernel
theorem dX12_factory_28 : decode cX12_factory 28 = .ok (.iload 8, 2) := by decide +kernel
theorem dX12_factory_30 : decode cX12_factory 30 = .ok (.invokestatic 80, 3) := by decide +kernel
theorem dX12_factory_33 : decode cX12_factory 33 = .ok (.ifCond .eq 31, 3) := by decide +kernel
theorem dX12_factory_36 : decode cX12_factory 36 = .ok (.aload_n 0, 1) := by decide +kernel
theorem dX12_factory_37 : decode cX12_factory 37 = .ok (.getfield 11, 3) := by decide +kernel
theorem dX12_factory_40 : decode cX12_factory 40 = .ok (.iload_n 1, 1) := by decide +kernel
theorem dX12_factory_41 : decode cX12_factory 41 = .ok (.aaload, 1) := by decide +kernel
theorem dX12_factory_42 : decode cX12_factory 42 = .ok (.iload_n 2, 1) := by decide +kernel
theorem dX12_factory_43 : decode cX12_factory 43 = .ok (.iload_n 3, 1) := by decide +kernel
theorem dX12_factory_44 : decode cX12_factory 44 = .ok (.iload 4, 2) := by decide +kernel
theorem dX12_factory_46 : decode cX12_factory 46 = .ok (.iload 5, 2) := by decide +kernel
theorem dX12_factory_48 : decode cX12_factory 48 = .ok (.iload 6, 2) := by decide +kernel
theorem dX12_factory_50 : decode cX12_factory 50 = .ok (.iload 7, 2) := by decide +kernel
theorem dX12_factory_52 : decode cX12_factory 52 = .ok (.iload 8, 2) := by decide +kernel
theorem dX12_factory_54 : decode cX12_factory 54 = .ok (.invokevirtual 97, 3) := by decide +kernel
theorem dX12_factory_57 : decode cX12_factory 57 = .ok (.ifCond .eq 7, 3) := by decide +kernel
theorem dX12_factory_60 : decode cX12_factory 60 = .ok (.iconst 1, 1) := by decide +kernel
theorem dX12_factory_61 : decode cX12_factory 61 = .ok (.goto 4, 3) := by decide +kernel
theorem dX12_factory_64 : decode cX12_factory 64 = .ok (.iconst 0, 1) := by decide +kernel
theorem dX12_factory_65 : decode cX12_factory 65 = .ok (.ireturn, 1) := by decide +kernel
theorem dX12_type_0 : decode cX12_type 0 = .ok (.aload_n 0, 1) := by decide +kernel
theorem dX12_type_1 : decode cX12_type 1 = .ok (.aload_n 0, 1) := by decide +kernel
theorem dX12_type_2 : decode cX12_type 2 = .ok (.getfield 101, 3) := by decide +kernel
theorem dX12_type_5 : decode cX12_type 5 = .ok (.iload_n 1, 1) := by decide +kernel
theorem dX12_type_6 : decode cX12_type 6 = .ok (.invokevirtual 104, 3) := by decide +kernel
theorem dX12_type_9 : decode cX12_type 9 = .ok (.istore 6, 2) := by decide +kernel
theorem dX12_type_11 : decode cX12_type 11 = .ok (.aload_n 0, 1) := by decide +kernel
theorem dX12_type_12 : decode cX12_type 12 = .ok (.iload 6, 2) := by decide +kernel
theorem dX12_type_14 : decode cX12_type 14 = .ok (.iload_n 2, 1) := by decide +kernel
theorem dX12_type_15 : decode cX12_type 15 = .ok (.invokevirtual 104, 3) := by decide +kernel
theorem dX12_type_18 : decode cX12_type 18 = .ok (.istore 6, 2) := by decide +kernel
theorem dX12_type_20 : decode cX12_type 20 = .ok (.aload_n 0, 1) := by decide +kernel
theorem dX12_type_21 : decode cX12_type 21 = .ok (.iload 6, 2) := by decide +kernel
theorem dX12_type_23 : decode cX12_type 23 = .ok (.iload_n 3, 1) := by decide +kernel
theorem dX12_type_24 : decode cX12_type 24 = .ok (.invokevirtual 104, 3) := by decide +kernel
theorem dX12_type_27 : decode cX12_type 27 = .ok (.istore 6, 2) := by decide +kernel
theorem dX12_type_29 : decode cX12_type 29 = .ok (.aload_n 0, 1) := by decide +kernel
theorem dX12_type_30 : decode cX12_type 30 = .ok (.iload 6, 2) := by decide +kernel
theorem dX12_type_32 : decode cX12_type 32 = .ok (.iload 4, 2) := by decide +kernel
theorem dX12_type_34 : decode cX12_type 34 = .ok (.invokevirtual 104, 3) := by decide +kernel
theorem dX12_type_37 : decode cX12_type 37 = .ok (.istore 6, 2) := by decide +kernel
theorem dX12_type_39 : decode cX12_type 39 = .ok (.aload_n 0, 1) := by decide +kernel
theorem dX12_type_40 : decode cX12_type 40 = .ok (.iload 6, 2) := by decide +kernel
theorem dX12_type_42 : decode cX12_type 42 = .ok (.iload 5, 2) := by decide +kernel
theorem dX12_type_44 : decode cX12_type 44 = .ok (.invokevirtual 104, 3) := by decide +kernel
theorem dX12_type_47 : decode cX12_type 47 = .ok (.istore 6, 2) := by decide +kernel
theorem dX12_type_49 : decode cX12_type 49 = .ok (.iload 6, 2) := by decide +kernel
theorem dX12_type_51 : decode cX12_type 51 = .ok (.iconst (-1), 1) := by decide +kernel
theorem dX12_type_52 : decode cX12_type 52 = .ok (.if_icmp .eq 9, 3) := by decide +kernel
theorem dX12_type_55 : decode cX12_type 55 = .ok (.aload_n 0, 1) := by decide +kernel
theorem dX12_type_56 : decode cX12_type 56 = .ok (.iload 6, 2) := by decide +kernel
theorem dX12_type_58 : decode cX12_type 58 = .ok (.putfield 101, 3) := by decide +kernel
theorem dX12_type_61 : decode cX12_type 61 = .ok (.iload 6, 2) := by decide +kernel
theorem dX12_type_63 : decode cX12_type 63 = .ok (.ireturn, 1) := by decide +kernel
theorem dX12_read_0 : decode cX12_read 0 = .ok (.aload_n 0, 1) := by decide +kernel
theorem dX12_read_1 : decode cX12_read 1 = .ok (.getfield 64, 3) := by decide +kernel
theorem dX12_read_4 : decode cX12_read 4 = .ok (.invokevirtual 108, 3) := by decide +kernel
theorem dX12_read_7 : decode cX12_read 7 = .ok (.aload_n 0, 1) := by decide +kernel
theorem dX12_read_8 : decode cX12_read 8 = .ok (.iconst 1, 1) := by decide +kernel
theorem dX12_read_9 : decode cX12_read 9 = .ok (.putfield 111, 3) := by decide +kernel
theorem dX12_read_12 : decode cX12_read 12 = .ok (.aload_n 0, 1) := by decide +kernel
theorem dX12_read_13 : decode cX12_read 13 = .ok (.aload_n 0, 1) := by decide +kernel
theorem dX12_read_14 : decode cX12_read 14 = .ok (.getfield 34, 3) := by decide +kernel
theorem dX12_read_17 : decode cX12_read 17 = .ok (.aload_n 0, 1) := by decide +kernel
theorem dX12_read_18 : decode cX12_read 18 = .ok (.getfield 18, 3) := by decide +kernel
theorem dX12_read_21 : decode cX12_read 21 = .ok (.aload_n 0, 1) := by decide +kernel
theorem dX12_read_22 : decode cX12_read 22 = .ok (.getfield 101, 3) := by decide +kernel
theorem dX12_read_25 : decode cX12_read 25 = .ok (.invokevirtual 114, 3) := by decide +kernel
theorem dX12_read_28 : decode cX12_read 28 = .ok (.putfield 68, 3) := by decide +kernel
theorem dX12_read_31 : decode cX12_read 31 = .ok (.aload_n 0, 1) := by decide +kernel
theorem dX12_read_32 : decode cX12_read 32 = .ok (.iconst 0, 1) := by decide +kernel
theorem dX12_read_33 : decode cX12_read 33 = .ok (.putfield 101, 3) := by decide +kernel
theorem dX12_read_36 : decode cX12_read 36 = .ok (.aload_n 0, 1) := by decide +kernel
theorem dX12_read_37 : decode cX12_read 37 = .ok (.getfield 68, 3) := by decide +kernel
theorem dX12_read_40 : decode cX12_read 40 = .ok (.iconst (-1), 1) := by decide +kernel
theorem dX12_read_41 : decode cX12_read 41 = .ok (.if_icmp .ne 19, 3) := by decide +kernel
theorem dX12_read_44 : decode cX12_read 44 = .ok (.aload_n 0, 1) := by decide +kernel
theorem dX12_read_45 : decode cX12_read 45 = .ok (.iconst 2, 1) := by decide +kernel
theorem dX12_read_46 : decode cX12_read 46 = .ok (.putfield 111, 3) := by decide +kernel
theorem dX12_read_49 : decode cX12_read 49 = .ok (.aload_n 0, 1) := by decide +kernel
theorem dX12_read_50 : decode cX12_read 50 = .ok (.aload_n 0, 1) := by decide +kernel
theorem dX12_read_51 : decode cX12_read 51 = .ok (.getfield 41, 3) := by decide +kernel
theorem dX12_read_54 : decode cX12_read 54 = .ok (.invokevirtual 118, 3) := by decide +kernel
theorem dX12_read_57 : decode cX12_read 57 = .ok (.putfield 68, 3) := by decide +kernel
theorem dX12_read_60 : decode cX12_read 60 = .ok (.aload_n 0, 1) := by decide +kernel
theorem dX12_read_61 : decode cX12_read 61 = .ok (.getfield 68, 3) := by decide +kernel
theorem dX12_read_64 : decode cX12_read 64 = .ok (.iconst (-1), 1) := by decide +kernel
theorem dX12_read_65 : decode cX12_read 65 = .ok (.if_icmp .ne 19, 3) := by decide +kernel
theorem dX12_read_68 : decode cX12_read 68 = .ok (.aload_n 0, 1) := by decide +kernel
theorem dX12_read_69 : decode cX12_read 69 = .ok (.iconst 3, 1) := by decide +kernel
theorem dX12_read_70 : decode cX12_read 70 = .ok (.putfield 111, 3) := by decide +kernel
theorem dX12_read_73 : decode cX12_read 73 = .ok (.aload_n 0, 1) := by decide +kernel
theorem dX12_read_74 : decode cX12_read 74 = .ok (.aload_n 0, 1) := by decide +kernel
theorem dX12_read_75 : decode cX12_read 75 = .ok (.getfield 48, 3) := by decide +kernel
theorem dX12_read_78 : decode cX12_read 78 = .ok (.invokevirtual 121, 3) := by decide +kernel
theorem dX12_read_81 : decode cX12_read 81 = .ok (.putfield 68, 3) := by decide +kernel
theorem dX12_read_84 : decode cX12_read 84 = .ok (.aload_n 0, 1) := by decide +kernel
theorem dX12_read_85 : decode cX12_read 85 = .ok (.aload_n 0, 1) := by decide +kernel
theorem dX12_read_86 : decode cX12_read 86 = .ok (.getfield 68, 3) := by decide +kernel
theorem dX12_read_89 : decode cX12_read 89 = .ok (.iconst (-1), 1) := by decide +kernel
theorem dX12_read_90 : decode cX12_read 90 = .ok (.if_icmp .ne 7, 3) := by decide +kernel
theorem dX12_read_93 : decode cX12_read 93 = .ok (.iconst 1, 1) := by decide +kernel
theorem dX12_read_94 : decode cX12_read 94 = .ok (.goto 4, 3) := by decide +kernel
theorem dX12_read_97 : decode cX12_read 97 = .ok (.iconst 0, 1) := by decide +kernel
theorem dX12_read_98 : decode cX12_read 98 = .ok (.putfield 122, 3) := by decide +kernel
theorem dX12_read_101 : decode cX12_read 101 = .ok (.aload_n 0, 1) := by decide +kernel
theorem dX12_read_102 : decode cX12_read 102 = .ok (.getfield 122, 3) := by decide +kernel
theorem dX12_read_105 : decode cX12_read 105 = .ok (.ifCond .ne 18, 3) := by decide +kernel
theorem dX12_read_108 : decode cX12_read 108 = .ok (.aload_n 0, 1) := by decide +kernel
theorem dX12_read_109 : decode cX12_read 109 = .ok (.getfield 48, 3) := by decide +kernel
theorem dX12_read_112 : decode cX12_read 112 = .ok (.invokevirtual 126, 3) := by decide +kernel
theorem dX12_read_115 : decode cX12_read 115 = .ok (.new 129, 3) := by decide +kernel
theorem dX12_read_118 : decode cX12_read 118 = .ok (.dup, 1) := by decide +kernel
theorem dX12_read_119 : decode cX12_read 119 = .ok (.invokespecial 131, 3) := by decide +kernel
theorem dX12_read_122 : decode cX12_read 122 = .ok (.athrow, 1) := by decide +kernel
theorem dX12_read_123 : decode cX12_read 123 = .ok (.aload_n 0, 1) := by decide +kernel
theorem dX12_read_124 : decode cX12_read 124 = .ok (.iconst 0, 1) := by decide +kernel
theorem dX12_read_125 : decode cX12_read 125 = .ok (.putfield 111, 3) := by decide +kernel
theorem dX12_read_128 : decode cX12_read 128 = .ok (.aload_n 0, 1) := by decide +kernel
theorem dX12_read_129 : decode cX12_read 129 = .ok (.getfield 48, 3) := by decide +kernel
theorem dX12_read_132 : decode cX12_read 132 = .ok (.invokevirtual 132, 3) := by decide +kernel
theorem dX12_read_135 : decode cX12_read 135 = .ok (.ireturn, 1) := by decide +kernel
theorem dX12_fault_0 : decode cX12_fault 0 = .ok (.iload_n 1, 1) := by decide +kernel
theorem dX12_fault_1 : decode cX12_fault 1 = .ok (.tableswitch 57 0 3 #[31, 36, 41, 49], 31) := by decide +kernel
theorem dX12_fault_32 : decode cX12_fault 32 = .ok (.aload_n 0, 1) := by decide +kernel
theorem dX12_fault_33 : decode cX12_fault 33 = .ok (.getfield 111, 3) := by decide +kernel
theorem dX12_fault_36 : decode cX12_fault 36 = .ok (.ireturn, 1) := by decide +kernel
theorem dX12_fault_37 : decode cX12_fault 37 = .ok (.aload_n 0, 1) := by decide +kernel
theorem dX12_fault_38 : decode cX12_fault 38 = .ok (.getfield 68, 3) := by decide +kernel
theorem dX12_fault_41 : decode cX12_fault 41 = .ok (.ireturn, 1) := by decide +kernel
theorem dX12_fault_42 : decode cX12_fault 42 = .ok (.aload_n 0, 1) := by decide +kernel
theorem dX12_fault_43 : decode cX12_fault 43 = .ok (.getfield 64, 3) := by decide +kernel
theorem dX12_fault_46 : decode cX12_fault 46 = .ok (.invokevirtual 135, 3) := by decide +kernel
theorem dX12_fault_49 : decode cX12_fault 49 = .ok (.ireturn, 1) := by decide +kernel
theorem dX12_fault_50 : decode cX12_fault 50 = .ok (.aload_n 0, 1) := by decide +kernel
theorem dX12_fault_51 : decode cX12_fault 51 = .ok (.getfield 64, 3) := by decide +kernel
theorem dX12_fault_54 : decode cX12_fault 54 = .ok (.invokevirtual 138, 3) := by decide +kernel
theorem dX12_fault_57 : decode cX12_fault 57 = .ok (.ireturn, 1) := by decide +kernel
theorem dX12_fault_58 : decode cX12_fault 58 = .ok (.iconst (-1), 1) := by decide +kernel
theorem dX12_fault_59 : decode cX12_fault 59 = .ok (.ireturn, 1) := by decide +kernel
theorem dX12_refresh_0 : decode cX12_refresh 0 = .ok (.aload_n 0, 1) := by decide +kernel
theorem dX12_refresh_1 : decode cX12_refresh 1 = .ok (.getfield 64, 3) := by decide +kernel
theorem dX12_refresh_4 : decode cX12_refresh 4 = .ok (.invokevirtual 141, 3) := by decide +kernel
theorem dX12_refresh_7 : decode cX12_refresh 7 = .ok (.aload_n 0, 1) := by decide +kernel
theorem dX12_refresh_8 : decode cX12_refresh 8 = .ok (.getfield 122, 3) := by decide +kernel
theorem dX12_refresh_11 : decode cX12_refresh 11 = .ok (.ifCond .ne 11, 3) := by decide +kernel
theorem dX12_refresh_14 : decode cX12_refresh 14 = .ok (.new 144, 3) := by decide +kernel
theorem dX12_refresh_17 : decode cX12_refresh 17 = .ok (.dup, 1) := by decide +kernel
theorem dX12_refresh_18 : decode cX12_refresh 18 = .ok (.invokespecial 146, 3) := by decide +kernel
theorem dX12_refresh_21 : decode cX12_refresh 21 = .ok (.athrow, 1) := by decide +kernel
theorem dX12_refresh_22 : decode cX12_refresh 22 = .ok (.aload_n 0, 1) := by decide +kernel
theorem dX12_refresh_23 : decode cX12_refresh 23 = .ok (.getfield 64, 3) := by decide +kernel
theorem dX12_refresh_26 : decode cX12_refresh 26 = .ok (.invokevirtual 147, 3) := by decide +kernel
theorem dX12_refresh_29 : decode cX12_refresh 29 = .ok (.ifCond .ne 11, 3) := by decide +kernel
theorem dX12_refresh_32 : decode cX12_refresh 32 = .ok (.new 151, 3) := by decide +kernel
theorem dX12_refresh_35 : decode cX12_refresh 35 = .ok (.dup, 1) := by decide +kernel
theorem dX12_refresh_36 : decode cX12_refresh 36 = .ok (.invokespecial 153, 3) := by decide +kernel
theorem dX12_refresh_39 : decode cX12_refresh 39 = .ok (.athrow, 1) := by decide +kernel
theorem dX12_refresh_40 : decode cX12_refresh 40 = .ok (.aload_n 0, 1) := by decide +kernel
theorem dX12_refresh_41 : decode cX12_refresh 41 = .ok (.getfield 64, 3) := by decide +kernel
theorem dX12_refresh_44 : decode cX12_refresh 44 = .ok (.invokevirtual 154, 3) := by decide +kernel
theorem dX12_refresh_47 : decode cX12_refresh 47 = .ok (.ireturn, 1) := by decide +kernel
theorem dX12_get_0 : decode cX12_get 0 = .ok (.aload_n 0, 1) := by decide +kernel
theorem dX12_get_1 : decode cX12_get 1 = .ok (.getfield 64, 3) := by decide +kernel
theorem dX12_get_4 : decode cX12_get 4 = .ok (.invokevirtual 141, 3) := by decide +kernel
theorem dX12_get_7 : decode cX12_get 7 = .ok (.aload_n 0, 1) := by decide +kernel
theorem dX12_get_8 : decode cX12_get 8 = .ok (.getfield 122, 3) := by decide +kernel
theorem dX12_get_11 : decode cX12_get 11 = .ok (.ifCond .ne 11, 3) := by decide +kernel
theorem dX12_get_14 : decode cX12_get 14 = .ok (.new 144, 3) := by decide +kernel
theorem dX12_get_17 : decode cX12_get 17 = .ok (.dup, 1) := by decide +kernel
theorem dX12_get_18 : decode cX12_get 18 = .ok (.invokespecial 146, 3) := by decide +kernel
theorem dX12_get_21 : decode cX12_get 21 = .ok (.athrow, 1) := by decide +kernel
theorem dX12_get_22 : decode cX12_get 22 = .ok (.aload_n 0, 1) := by decide +kernel
theorem dX12_get_23 : decode cX12_get 23 = .ok (.getfield 64, 3) := by decide +kernel
theorem dX12_get_26 : decode cX12_get 26 = .ok (.lload_n 1, 1) := by decide +kernel
theorem dX12_get_27 : decode cX12_get 27 = .ok (.invokestatic 157, 3) := by decide +kernel
theorem dX12_get_30 : decode cX12_get 30 = .ok (.invokevirtual 161, 3) := by decide +kernel
theorem dX12_get_33 : decode cX12_get 33 = .ok (.istore_n 3, 1) := by decide +kernel
theorem dX12_get_34 : decode cX12_get 34 = .ok (.iload_n 3, 1) := by decide +kernel
theorem dX12_get_35 : decode cX12_get 35 = .ok (.iconst (-1), 1) := by decide +kernel
theorem dX12_get_36 : decode cX12_get 36 = .ok (.if_icmp .ne 11, 3) := by decide +kernel
theorem dX12_get_39 : decode cX12_get 39 = .ok (.new 151, 3) := by decide +kernel
theorem dX12_get_42 : decode cX12_get 42 = .ok (.dup, 1) := by decide +kernel
theorem dX12_get_43 : decode cX12_get 43 = .ok (.invokespecial 153, 3) := by decide +kernel
theorem dX12_get_46 : decode cX12_get 46 = .ok (.athrow, 1) := by decide +kernel
theorem dX12_get_47 : decode cX12_get 47 = .ok (.iload_n 3, 1) := by decide +kernel
theorem dX12_get_48 : decode cX12_get 48 = .ok (.ireturn, 1) := by decide +kernel
theorem dX12_call_0 : decode cX12_call 0 = .ok (.aload_n 0, 1) := by decide +kernel
theorem dX12_call_1 : decode cX12_call 1 = .ok (.getfield 64, 3) := by decide +kernel
theorem dX12_call_4 : decode cX12_call 4 = .ok (.invokevirtual 141, 3) := by decide +kernel
theorem dX12_call_7 : decode cX12_call 7 = .ok (.aload_n 0, 1) := by decide +kernel
theorem dX12_call_8 : decode cX12_call 8 = .ok (.getfield 122, 3) := by decide +kernel
theorem dX12_call_11 : decode cX12_call 11 = .ok (.ifCond .ne 11, 3) := by decide +kernel
theorem dX12_call_14 : decode cX12_call 14 = .ok (.new 144, 3) := by decide +kernel
theorem dX12_call_17 : decode cX12_call 17 = .ok (.dup, 1) := by decide +kernel
theorem dX12_call_18 : decode cX12_call 18 = .ok (.invokespecial 146, 3) := by decide +kernel
theorem dX12_call_21 : decode cX12_call 21 = .ok (.athrow, 1) := by decide +kernel
theorem dX12_call_22 : decode cX12_call 22 = .ok (.aload_n 0, 1) := by decide +kernel
theorem dX12_call_23 : decode cX12_call 23 = .ok (.getfield 64, 3) := by decide +kernel
theorem dX12_call_26 : decode cX12_call 26 = .ok (.iload_n 1, 1) := by decide +kernel
theorem dX12_call_27 : decode cX12_call 27 = .ok (.iload_n 2, 1) := by decide +kernel
theorem dX12_call_28 : decode cX12_call 28 = .ok (.invokevirtual 165, 3) := by decide +kernel
theorem dX12_call_31 : decode cX12_call 31 = .ok (.astore_n 3, 1) := by decide +kernel
theorem dX12_call_32 : decode cX12_call 32 = .ok (.aload_n 3, 1) := by decide +kernel
theorem dX12_call_33 : decode cX12_call 33 = .ok (.ifnonnull 11, 3) := by decide +kernel
theorem dX12_call_36 : decode cX12_call 36 = .ok (.new 169, 3) := by decide +kernel
theorem dX12_call_39 : decode cX12_call 39 = .ok (.dup, 1) := by decide +kernel
theorem dX12_call_40 : decode cX12_call 40 = .ok (.invokespecial 171, 3) := by decide +kernel
theorem dX12_call_43 : decode cX12_call 43 = .ok (.athrow, 1) := by decide +kernel
theorem dX12_call_44 : decode cX12_call 44 = .ok (.aload_n 0, 1) := by decide +kernel
theorem dX12_call_45 : decode cX12_call 45 = .ok (.getfield 64, 3) := by decide +kernel
theorem dX12_call_48 : decode cX12_call 48 = .ok (.aload_n 3, 1) := by decide +kernel
theorem dX12_call_49 : decode cX12_call 49 = .ok (.getfield 172, 3) := by decide +kernel
theorem dX12_call_52 : decode cX12_call 52 = .ok (.invokevirtual 161, 3) := by decide +kernel
theorem dX12_call_55 : decode cX12_call 55 = .ok (.istore 4, 2) := by decide +kernel
theorem dX12_call_57 : decode cX12_call 57 = .ok (.iload 4, 2) := by decide +kernel
theorem dX12_call_59 : decode cX12_call 59 = .ok (.iconst (-1), 1) := by decide +kernel
theorem dX12_call_60 : decode cX12_call 60 = .ok (.if_icmp .ne 11, 3) := by decide +kernel
theorem dX12_call_63 : decode cX12_call 63 = .ok (.new 151, 3) := by decide +kernel
theorem dX12_call_66 : decode cX12_call 66 = .ok (.dup, 1) := by decide +kernel
theorem dX12_call_67 : decode cX12_call 67 = .ok (.invokespecial 153, 3) := by decide +kernel
theorem dX12_call_70 : decode cX12_call 70 = .ok (.athrow, 1) := by decide +kernel
theorem dX12_call_71 : decode cX12_call 71 = .ok (.iload 4, 2) := by decide +kernel
theorem dX12_call_73 : decode cX12_call 73 = .ok (.ireturn, 1) := by decide +kernel
theorem dX12_close_0 : decode cX12_close 0 = .ok (.aload_n 0, 1) := by decide +kernel
theorem dX12_close_1 : decode cX12_close 1 = .ok (.getfield 64, 3) := by decide +kernel
theorem dX12_close_4 : decode cX12_close 4 = .ok (.invokevirtual 178, 3) := by decide +kernel
theorem dX12_close_7 : decode cX12_close 7 = .ok (.aload_n 0, 1) := by decide +kernel
theorem dX12_close_8 : decode cX12_close 8 = .ok (.getfield 55, 3) := by decide +kernel
theorem dX12_close_11 : decode cX12_close 11 = .ok (.invokevirtual 181, 3) := by decide +kernel
theorem dX12_close_14 : decode cX12_close 14 = .ok (.ireturn, 1) := by decide +kernel
theorem dX12_events_0 : decode cX12_events 0 = .ok (.aload_n 0, 1) := by decide +kernel
theorem dX12_events_1 : decode cX12_events 1 = .ok (.getfield 55, 3) := by decide +kernel
theorem dX12_events_4 : decode cX12_events 4 = .ok (.invokevirtual 181, 3) := by decide +kernel
theorem dX12_events_7 : decode cX12_events 7 = .ok (.ireturn, 1) := by decide +kernel
theorem dX12_event_0 : decode cX12_event 0 = .ok (.aload_n 0, 1) := by decide +kernel
theorem dX12_event_1 : decode cX12_event 1 = .ok (.getfield 55, 3) := by decide +kernel
theorem dX12_event_4 : decode cX12_event 4 = .ok (.iload_n 1, 1) := by decide +kernel
theorem dX12_event_5 : decode cX12_event 5 = .ok (.iload_n 2, 1) := by decide +kernel
theorem dX12_event_6 : decode cX12_event 6 = .ok (.invokevirtual 182, 3) := by decide +kernel
theorem dX12_event_9 : decode cX12_event 9 = .ok (.ireturn, 1) := by decide +kernel
theorem dX12_object_0 : decode cX12_object 0 = .ok (.iload_n 2, 1) := by decide +kernel
theorem dX12_object_1 : decode cX12_object 1 = .ok (.ifCond .ne 12, 3) := by decide +kernel
theorem dX12_object_4 : decode cX12_object 4 = .ok (.aload_n 0, 1) := by decide +kernel
theorem dX12_object_5 : decode cX12_object 5 = .ok (.getfield 64, 3) := by decide +kernel
theorem dX12_object_8 : decode cX12_object 8 = .ok (.iload_n 1, 1) := by decide +kernel
theorem dX12_object_9 : decode cX12_object 9 = .ok (.invokevirtual 185, 3) := by decide +kernel
theorem dX12_object_12 : decode cX12_object 12 = .ok (.ireturn, 1) := by decide +kernel
theorem dX12_object_13 : decode cX12_object 13 = .ok (.iload_n 2, 1) := by decide +kernel
theorem dX12_object_14 : decode cX12_object 14 = .ok (.iconst 1, 1) := by decide +kernel
theorem dX12_object_15 : decode cX12_object 15 = .ok (.if_icmp .ne 14, 3) := by decide +kernel
theorem dX12_object_18 : decode cX12_object 18 = .ok (.aload_n 0, 1) := by decide +kernel
theorem dX12_object_19 : decode cX12_object 19 = .ok (.getfield 64, 3) := by decide +kernel
theorem dX12_object_22 : decode cX12_object 22 = .ok (.iload_n 1, 1) := by decide +kernel
theorem dX12_object_23 : decode cX12_object 23 = .ok (.invokevirtual 189, 3) := by decide +kernel
theorem dX12_object_26 : decode cX12_object 26 = .ok (.goto 4, 3) := by decide +kernel
theorem dX12_object_29 : decode cX12_object 29 = .ok (.iconst (-1), 1) := by decide +kernel
theorem dX12_object_30 : decode cX12_object 30 = .ok (.ireturn, 1) := by decide +kernel
theorem dX12_bean_0 : decode cX12_bean 0 = .ok (.iload_n 1, 1) := by decide +kernel
theorem dX12_bean_1 : decode cX12_bean 1 = .ok (.ifCond .lt 29, 3) := by decide +kernel
theorem dX12_bean_4 : decode cX12_bean 4 = .ok (.iload_n 1, 1) := by decide +kernel
theorem dX12_bean_5 : decode cX12_bean 5 = .ok (.aload_n 0, 1) := by decide +kernel
theorem dX12_bean_6 : decode cX12_bean 6 = .ok (.getfield 48, 3) := by decide +kernel
theorem dX12_bean_9 : decode cX12_bean 9 = .ok (.invokevirtual 132, 3) := by decide +kernel
theorem dX12_bean_12 : decode cX12_bean 12 = .ok (.if_icmp .ge 18, 3) := by decide +kernel
theorem dX12_bean_15 : decode cX12_bean 15 = .ok (.aload_n 0, 1) := by decide +kernel
theorem dX12_bean_16 : decode cX12_bean 16 = .ok (.getfield 48, 3) := by decide +kernel
theorem dX12_bean_19 : decode cX12_bean 19 = .ok (.iload_n 1, 1) := by decide +kernel
theorem dX12_bean_20 : decode cX12_bean 20 = .ok (.invokevirtual 192, 3) := by decide +kernel
theorem dX12_bean_23 : decode cX12_bean 23 = .ok (.iload_n 2, 1) := by decide +kernel
theorem dX12_bean_24 : decode cX12_bean 24 = .ok (.invokevirtual 196, 3) := by decide +kernel
theorem dX12_bean_27 : decode cX12_bean 27 = .ok (.goto 4, 3) := by decide +kernel
theorem dX12_bean_30 : decode cX12_bean 30 = .ok (.iconst (-1), 1) := by decide +kernel
theorem dX12_bean_31 : decode cX12_bean 31 = .ok (.ireturn, 1) := by decide +kernel
theorem dX12_isClass_0 : decode cX12_isClass 0 = .ok (.iload_n 0, 1) := by decide +kernel
theorem dX12_isClass_1 : decode cX12_isClass 1 = .ok (.ifCond .lt 13, 3) := by decide +kernel
theorem dX12_isClass_4 : decode cX12_isClass 4 = .ok (.iload_n 0, 1) := by decide +kernel
theorem dX12_isClass_5 : decode cX12_isClass 5 = .ok (.bipush 8, 2) := by decide +kernel
theorem dX12_isClass_7 : decode cX12_isClass 7 = .ok (.if_icmp .ge 7, 3) := by decide +kernel
theorem dX12_isClass_10 : decode cX12_isClass 10 = .ok (.iconst 1, 1) := by decide +kernel
theorem dX12_isClass_11 : decode cX12_isClass 11 = .ok (.goto 4, 3) := by decide +kernel
theorem dX12_isClass_14 : decode cX12_isClass 14 = .ok (.iconst 0, 1) := by decide +kernel
theorem dX12_isClass_15 : decode cX12_isClass 15 = .ok (.ireturn, 1) := by decide +kernel
theorem dX12_isLetter_0 : decode cX12_isLetter 0 = .ok (.iload_n 0, 1) := by decide +kernel
theorem dX12_isLetter_1 : decode cX12_isLetter 1 = .ok (.ifCond .lt 13, 3) := by decide +kernel
theorem dX12_isLetter_4 : decode cX12_isLetter 4 = .ok (.iload_n 0, 1) := by decide +kernel
theorem dX12_isLetter_5 : decode cX12_isLetter 5 = .ok (.bipush 26, 2) := by decide +kernel
theorem dX12_isLetter_7 : decode cX12_isLetter 7 = .ok (.if_icmp .ge 7, 3) := by decide +kernel
theorem dX12_isLetter_10 : decode cX12_isLetter 10 = .ok (.iconst 1, 1) := by decide +kernel
theorem dX12_isLetter_11 : decode cX12_isLetter 11 = .ok (.goto 4, 3) := by decide +kernel
theorem dX12_isLetter_14 : decode cX12_isLetter 14 = .ok (.iconst 0, 1) := by decide +kernel
theorem dX12_isLetter_15 : decode cX12_isLetter 15 = .ok (.ireturn, 1) := by decide +kernel
theorem dX12_isType_0 : decode cX12_isType 0 = .ok (.iload_n 0, 1) := by decide +kernel
theorem dX12_isType_1 : decode cX12_isType 1 = .ok (.ifCond .lt 8, 3) := by decide +kernel
theorem dX12_isType_4 : decode cX12_isType 4 = .ok (.iload_n 0, 1) := by decide +kernel
theorem dX12_isType_5 : decode cX12_isType 5 = .ok (.iconst 4, 1) := by decide +kernel
theorem dX12_isType_6 : decode cX12_isType 6 = .ok (.if_icmp .le 15, 3) := by decide +kernel
theorem dX12_isType_9 : decode cX12_isType 9 = .ok (.iload_n 0, 1) := by decide +kernel
theorem dX12_isType_10 : decode cX12_isType 10 = .ok (.bipush 8, 2) := by decide +kernel
theorem dX12_isType_12 : decode cX12_isType 12 = .ok (.if_icmp .lt 13, 3) := by decide +kernel
theorem dX12_isType_15 : decode cX12_isType 15 = .ok (.iload_n 0, 1) := by decide +kernel
theorem dX12_isType_16 : decode cX12_isType 16 = .ok (.bipush 16, 2) := by decide +kernel
theorem dX12_isType_18 : decode cX12_isType 18 = .ok (.if_icmp .ge 7, 3) := by decide +kernel
theorem dX12_isType_21 : decode cX12_isType 21 = .ok (.iconst 1, 1) := by decide +kernel
theorem dX12_isType_22 : decode cX12_isType 22 = .ok (.goto 4, 3) := by decide +kernel
theorem dX12_isType_25 : decode cX12_isType 25 = .ok (.iconst 0, 1) := by decide +kernel
theorem dX12_isType_26 : decode cX12_isType 26 = .ok (.ireturn, 1) := by decide +kernel
theorem dX12_areTypes_0 : decode cX12_areTypes 0 = .ok (.iload_n 0, 1) := by decide +kernel
theorem dX12_areTypes_1 : decode cX12_areTypes 1 = .ok (.ifCond .lt 48, 3) := by decide +kernel
theorem dX12_areTypes_4 : decode cX12_areTypes 4 = .ok (.iload_n 0, 1) := by decide +kernel
theorem dX12_areTypes_5 : decode cX12_areTypes 5 = .ok (.iconst 3, 1) := by decide +kernel
theorem dX12_areTypes_6 : decode cX12_areTypes 6 = .ok (.if_icmp .gt 43, 3) := by decide +kernel
theorem dX12_areTypes_9 : decode cX12_areTypes 9 = .ok (.iload_n 0, 1) := by decide +kernel
theorem dX12_areTypes_10 : decode cX12_areTypes 10 = .ok (.iconst 1, 1) := by decide +kernel
theorem dX12_areTypes_11 : decode cX12_areTypes 11 = .ok (.if_icmp .lt 10, 3) := by decide +kernel
theorem dX12_areTypes_14 : decode cX12_areTypes 14 = .ok (.iload_n 1, 1) := by decide +kernel
theorem dX12_areTypes_15 : decode cX12_areTypes 15 = .ok (.invokestatic 90, 3) := by decide +kernel
theorem dX12_areTypes_18 : decode cX12_areTypes 18 = .ok (.ifCond .eq 31, 3) := by decide +kernel
theorem dX12_areTypes_21 : decode cX12_areTypes 21 = .ok (.iload_n 0, 1) := by decide +kernel
theorem dX12_areTypes_22 : decode cX12_areTypes 22 = .ok (.iconst 2, 1) := by decide +kernel
theorem dX12_areTypes_23 : decode cX12_areTypes 23 = .ok (.if_icmp .lt 10, 3) := by decide +kernel
theorem dX12_areTypes_26 : decode cX12_areTypes 26 = .ok (.iload_n 2, 1) := by decide +kernel
theorem dX12_areTypes_27 : decode cX12_areTypes 27 = .ok (.invokestatic 90, 3) := by decide +kernel
theorem dX12_areTypes_30 : decode cX12_areTypes 30 = .ok (.ifCond .eq 19, 3) := by decide +kernel
theorem dX12_areTypes_33 : decode cX12_areTypes 33 = .ok (.iload_n 0, 1) := by decide +kernel
theorem dX12_areTypes_34 : decode cX12_areTypes 34 = .ok (.iconst 3, 1) := by decide +kernel
theorem dX12_areTypes_35 : decode cX12_areTypes 35 = .ok (.if_icmp .lt 10, 3) := by decide +kernel
theorem dX12_areTypes_38 : decode cX12_areTypes 38 = .ok (.iload_n 3, 1) := by decide +kernel
theorem dX12_areTypes_39 : decode cX12_areTypes 39 = .ok (.invokestatic 90, 3) := by decide +kernel
theorem dX12_areTypes_42 : decode cX12_areTypes 42 = .ok (.ifCond .eq 7, 3) := by decide +kernel
theorem dX12_areTypes_45 : decode cX12_areTypes 45 = .ok (.iconst 1, 1) := by decide +kernel
theorem dX12_areTypes_46 : decode cX12_areTypes 46 = .ok (.goto 4, 3) := by decide +kernel
theorem dX12_areTypes_49 : decode cX12_areTypes 49 = .ok (.iconst 0, 1) := by decide +kernel
theorem dX12_areTypes_50 : decode cX12_areTypes 50 = .ok (.ireturn, 1) := by decide +kernel
theorem dX12_typedBehind_0 : decode cX12_typedBehind 0 = .ok (.iload_n 1, 1) := by decide +kernel
theorem dX12_typedBehind_1 : decode cX12_typedBehind 1 = .ok (.iconst (-1), 1) := by decide +kernel
theorem dX12_typedBehind_2 : decode cX12_typedBehind 2 = .ok (.if_icmp .ne 5, 3) := by decide +kernel
theorem dX12_typedBehind_5 : decode cX12_typedBehind 5 = .ok (.iconst (-1), 1) := by decide +kernel
theorem dX12_typedBehind_6 : decode cX12_typedBehind 6 = .ok (.ireturn, 1) := by decide +kernel
theorem dX12_typedBehind_7 : decode cX12_typedBehind 7 = .ok (.iload_n 1, 1) := by decide +kernel
theorem dX12_typedBehind_8 : decode cX12_typedBehind 8 = .ok (.istore_n 3, 1) := by decide +kernel
theorem dX12_typedBehind_9 : decode cX12_typedBehind 9 = .ok (.bipush 24, 2) := by decide +kernel
theorem dX12_typedBehind_11 : decode cX12_typedBehind 11 = .ok (.istore 4, 2) := by decide +kernel
theorem dX12_typedBehind_13 : decode cX12_typedBehind 13 = .ok (.iload 4, 2) := by decide +kernel
theorem dX12_typedBehind_15 : decode cX12_typedBehind 15 = .ok (.ifCond .lt 71, 3) := by decide +kernel
theorem dX12_typedBehind_18 : decode cX12_typedBehind 18 = .ok (.iload_n 2, 1) := by decide +kernel
theorem dX12_typedBehind_19 : decode cX12_typedBehind 19 = .ok (.iload 4, 2) := by decide +kernel
theorem dX12_typedBehind_21 : decode cX12_typedBehind 21 = .ok (.iushr, 1) := by decide +kernel
theorem dX12_typedBehind_22 : decode cX12_typedBehind 22 = .ok (.sipush 255, 3) := by decide +kernel
theorem dX12_typedBehind_25 : decode cX12_typedBehind 25 = .ok (.iand, 1) := by decide +kernel
theorem dX12_typedBehind_26 : decode cX12_typedBehind 26 = .ok (.istore 5, 2) := by decide +kernel
theorem dX12_typedBehind_28 : decode cX12_typedBehind 28 = .ok (.iload 5, 2) := by decide +kernel
theorem dX12_typedBehind_30 : decode cX12_typedBehind 30 = .ok (.ifCond .ne 6, 3) := by decide +kernel
theorem dX12_typedBehind_33 : decode cX12_typedBehind 33 = .ok (.goto 47, 3) := by decide +kernel
theorem dX12_typedBehind_36 : decode cX12_typedBehind 36 = .ok (.iload 5, 2) := by decide +kernel
theorem dX12_typedBehind_38 : decode cX12_typedBehind 38 = .ok (.bipush 10, 2) := by decide +kernel
theorem dX12_typedBehind_40 : decode cX12_typedBehind 40 = .ok (.if_icmp .eq 17, 3) := by decide +kernel
theorem dX12_typedBehind_43 : decode cX12_typedBehind 43 = .ok (.iload 5, 2) := by decide +kernel
theorem dX12_typedBehind_45 : decode cX12_typedBehind 45 = .ok (.bipush 32, 2) := by decide +kernel
theorem dX12_typedBehind_47 : decode cX12_typedBehind 47 = .ok (.if_icmp .lt 19, 3) := by decide +kernel
theorem dX12_typedBehind_50 : decode cX12_typedBehind 50 = .ok (.iload 5, 2) := by decide +kernel
theorem dX12_typedBehind_52 : decode cX12_typedBehind 52 = .ok (.bipush 126, 2) := by decide +kernel
theorem dX12_typedBehind_54 : decode cX12_typedBehind 54 = .ok (.if_icmp .gt 12, 3) := by decide +kernel
theorem dX12_typedBehind_57 : decode cX12_typedBehind 57 = .ok (.iload_n 3, 1) := by decide +kernel
theorem dX12_typedBehind_58 : decode cX12_typedBehind 58 = .ok (.aload_n 0, 1) := by decide +kernel
theorem dX12_typedBehind_59 : decode cX12_typedBehind 59 = .ok (.getfield 18, 3) := by decide +kernel
theorem dX12_typedBehind_62 : decode cX12_typedBehind 62 = .ok (.arraylength, 1) := by decide +kernel
theorem dX12_typedBehind_63 : decode cX12_typedBehind 63 = .ok (.if_icmp .lt 5, 3) := by decide +kernel
theorem dX12_typedBehind_66 : decode cX12_typedBehind 66 = .ok (.iconst (-1), 1) := by decide +kernel
theorem dX12_typedBehind_67 : decode cX12_typedBehind 67 = .ok (.ireturn, 1) := by decide +kernel
theorem dX12_typedBehind_68 : decode cX12_typedBehind 68 = .ok (.aload_n 0, 1) := by decide +kernel
theorem dX12_typedBehind_69 : decode cX12_typedBehind 69 = .ok (.getfield 18, 3) := by decide +kernel
theorem dX12_typedBehind_72 : decode cX12_typedBehind 72 = .ok (.iload_n 3, 1) := by decide +kernel
theorem dX12_typedBehind_73 : decode cX12_typedBehind 73 = .ok (.iload 5, 2) := by decide +kernel
theorem dX12_typedBehind_75 : decode cX12_typedBehind 75 = .ok (.i2c, 1) := by decide +kernel
theorem dX12_typedBehind_76 : decode cX12_typedBehind 76 = .ok (.castore, 1) := by decide +kernel
theorem dX12_typedBehind_77 : decode cX12_typedBehind 77 = .ok (.iinc 3 1, 3) := by decide +kernel
theorem dX12_typedBehind_80 : decode cX12_typedBehind 80 = .ok (.iinc 4 (-8), 3) := by decide +kernel
theorem dX12_typedBehind_83 : decode cX12_typedBehind 83 = .ok (.goto (-70), 3) := by decide +kernel
theorem dX12_typedBehind_86 : decode cX12_typedBehind 86 = .ok (.iload_n 3, 1) := by decide +kernel
theorem dX12_typedBehind_87 : decode cX12_typedBehind 87 = .ok (.ireturn, 1) := by decide +kernel
theorem dX8_init_0 : decode cX8_init 0 = .ok (.aload_n 0, 1) := by decide +kernel
theorem dX8_init_1 : decode cX8_init 1 = .ok (.invokespecial 3, 3) := by decide +kernel
theorem dX8_init_4 : decode cX8_init 4 = .ok (.aload_n 0, 1) := by decide +kernel
theorem dX8_init_5 : decode cX8_init 5 = .ok (.iload_n 1, 1) := by decide +kernel
theorem dX8_init_6 : decode cX8_init 6 = .ok (.putfield 9, 3) := by decide +kernel
theorem dX8_init_9 : decode cX8_init 9 = .ok (.aload_n 0, 1) := by decide +kernel
theorem dX8_init_10 : decode cX8_init 10 = .ok (.iload_n 2, 1) := by decide +kernel
theorem dX8_init_11 : decode cX8_init 11 = .ok (.putfield 15, 3) := by decide +kernel
theorem dX8_init_14 : decode cX8_init 14 = .ok (.aload_n 0, 1) := by decide +kernel
theorem dX8_init_15 : decode cX8_init 15 = .ok (.iconst 3, 1) := by decide +kernel
theorem dX8_init_16 : decode cX8_init 16 = .ok (.newarray .int, 2) := by decide +kernel
theorem dX8_init_18 : decode cX8_init 18 = .ok (.putfield 18, 3) := by decide +kernel
theorem dX8_init_21 : decode cX8_init 21 = .ok (.return_, 1) := by decide +kernel
theorem dX8_describe_0 : decode cX8_describe 0 = .ok (.aload_n 0, 1) := by decide +kernel
theorem dX8_describe_1 : decode cX8_describe 1 = .ok (.iload_n 1, 1) := by decide +kernel
theorem dX8_describe_2 : decode cX8_describe 2 = .ok (.putfield 22, 3) := by decide +kernel
theorem dX8_describe_5 : decode cX8_describe 5 = .ok (.aload_n 0, 1) := by decide +kernel
theorem dX8_describe_6 : decode cX8_describe 6 = .ok (.iload_n 2, 1) := by decide +kernel
theorem dX8_describe_7 : decode cX8_describe 7 = .ok (.putfield 25, 3) := by decide +kernel
theorem dX8_describe_10 : decode cX8_describe 10 = .ok (.aload_n 0, 1) := by decide +kernel
theorem dX8_describe_11 : decode cX8_describe 11 = .ok (.iload_n 3, 1) := by decide +kernel
theorem dX8_describe_12 : decode cX8_describe 12 = .ok (.putfield 29, 3) := by decide +kernel
theorem dX8_describe_15 : decode cX8_describe 15 = .ok (.return_, 1) := by decide +kernel
theorem dX8_setTypes_0 : decode cX8_setTypes 0 = .ok (.aload_n 0, 1) := by decide +kernel
theorem dX8_setTypes_1 : decode cX8_setTypes 1 = .ok (.iload_n 1, 1) := by decide +kernel
theorem dX8_setTypes_2 : decode cX8_setTypes 2 = .ok (.putfield 32, 3) := by decide +kernel
theorem dX8_setTypes_5 : decode cX8_setTypes 5 = .ok (.aload_n 0, 1) := by decide +kernel
theorem dX8_setTypes_6 : decode cX8_setTypes 6 = .ok (.getfield 18, 3) := by decide +kernel
theorem dX8_setTypes_9 : decode cX8_setTypes 9 = .ok (.iconst 0, 1) := by decide +kernel
theorem dX8_setTypes_10 : decode cX8_setTypes 10 = .ok (.iload_n 2, 1) := by decide +kernel
theorem dX8_setTypes_11 : decode cX8_setTypes 11 = .ok (.iastore, 1) := by decide +kernel
theorem dX8_setTypes_12 : decode cX8_setTypes 12 = .ok (.aload_n 0, 1) := by decide +kernel
theorem dX8_setTypes_13 : decode cX8_setTypes 13 = .ok (.getfield 18, 3) := by decide +kernel
theorem dX8_setTypes_16 : decode cX8_setTypes 16 = .ok (.iconst 1, 1) := by decide +kernel
theorem dX8_setTypes_17 : decode cX8_setTypes 17 = .ok (.iload_n 3, 1) := by decide +kernel
theorem dX8_setTypes_18 : decode cX8_setTypes 18 = .ok (.iastore, 1) := by decide +kernel
theorem dX8_setTypes_19 : decode cX8_setTypes 19 = .ok (.aload_n 0, 1) := by decide +kernel
theorem dX8_setTypes_20 : decode cX8_setTypes 20 = .ok (.getfield 18, 3) := by decide +kernel
theorem dX8_setTypes_23 : decode cX8_setTypes 23 = .ok (.iconst 2, 1) := by decide +kernel
theorem dX8_setTypes_24 : decode cX8_setTypes 24 = .ok (.iload 4, 2) := by decide +kernel
theorem dX8_setTypes_26 : decode cX8_setTypes 26 = .ok (.iastore, 1) := by decide +kernel
theorem dX8_setTypes_27 : decode cX8_setTypes 27 = .ok (.return_, 1) := by decide +kernel
theorem dX2_init_0 : decode cX2_init 0 = .ok (.aload_n 0, 1) := by decide +kernel
theorem dX2_init_1 : decode cX2_init 1 = .ok (.invokespecial 3, 3) := by decide +kernel
theorem dX2_init_4 : decode cX2_init 4 = .ok (.aload_n 0, 1) := by decide +kernel
theorem dX2_init_5 : decode cX2_init 5 = .ok (.iload_n 1, 1) := by decide +kernel
theorem dX2_init_6 : decode cX2_init 6 = .ok (.putfield 9, 3) := by decide +kernel
theorem dX2_init_9 : decode cX2_init 9 = .ok (.aload_n 0, 1) := by decide +kernel
theorem dX2_init_10 : decode cX2_init 10 = .ok (.iconst 4, 1) := by decide +kernel
theorem dX2_init_11 : decode cX2_init 11 = .ok (.anewarray 15, 3) := by decide +kernel
theorem dX2_init_14 : decode cX2_init 14 = .ok (.putfield 17, 3) := by decide +kernel
theorem dX2_init_17 : decode cX2_init 17 = .ok (.aload_n 0, 1) := by decide +kernel
theorem dX2_init_18 : decode cX2_init 18 = .ok (.iconst 4, 1) := by decide +kernel
theorem dX2_init_19 : decode cX2_init 19 = .ok (.anewarray 15, 3) := by decide +kernel
theorem dX2_init_22 : decode cX2_init 22 = .ok (.putfield 21, 3) := by decide +kernel
theorem dX2_init_25 : decode cX2_init 25 = .ok (.iconst 0, 1) := by decide +kernel
theorem dX2_init_26 : decode cX2_init 26 = .ok (.istore_n 2, 1) := by decide +kernel
theorem dX2_init_27 : decode cX2_init 27 = .ok (.iload_n 2, 1) := by decide +kernel
theorem dX2_init_28 : decode cX2_init 28 = .ok (.iconst 4, 1) := by decide +kernel
theorem dX2_init_29 : decode cX2_init 29 = .ok (.if_icmp .ge 39, 3) := by decide +kernel
theorem dX2_init_32 : decode cX2_init 32 = .ok (.aload_n 0, 1) := by decide +kernel
theorem dX2_init_33 : decode cX2_init 33 = .ok (.getfield 17, 3) := by decide +kernel
theorem dX2_init_36 : decode cX2_init 36 = .ok (.iload_n 2, 1) := by decide +kernel
theorem dX2_init_37 : decode cX2_init 37 = .ok (.new 15, 3) := by decide +kernel
theorem dX2_init_40 : decode cX2_init 40 = .ok (.dup, 1) := by decide +kernel
theorem dX2_init_41 : decode cX2_init 41 = .ok (.iload_n 1, 1) := by decide +kernel
theorem dX2_init_42 : decode cX2_init 42 = .ok (.iload_n 2, 1) := by decide +kernel
theorem dX2_init_43 : decode cX2_init 43 = .ok (.invokespecial 24, 3) := by decide +kernel
theorem dX2_init_46 : decode cX2_init 46 = .ok (.aastore, 1) := by decide +kernel
theorem dX2_init_47 : decode cX2_init 47 = .ok (.aload_n 0, 1) := by decide +kernel
theorem dX2_init_48 : decode cX2_init 48 = .ok (.getfield 21, 3) := by decide +kernel
theorem dX2_init_51 : decode cX2_init 51 = .ok (.iload_n 2, 1) := by decide +kernel
theorem dX2_init_52 : decode cX2_init 52 = .ok (.new 15, 3) := by decide +kernel
theorem dX2_init_55 : decode cX2_init 55 = .ok (.dup, 1) := by decide +kernel
theorem dX2_init_56 : decode cX2_init 56 = .ok (.iload_n 1, 1) := by decide +kernel
theorem dX2_init_57 : decode cX2_init 57 = .ok (.iload_n 2, 1) := by decide +kernel
theorem dX2_init_58 : decode cX2_init 58 = .ok (.invokespecial 24, 3) := by decide +kernel
theorem dX2_init_61 : decode cX2_init 61 = .ok (.aastore, 1) := by decide +kernel
theorem dX2_init_62 : decode cX2_init 62 = .ok (.iinc 2 1, 3) := by decide +kernel
theorem dX2_init_65 : decode cX2_init 65 = .ok (.goto (-38), 3) := by decide +kernel
theorem dX2_init_68 : decode cX2_init 68 = .ok (.aload_n 0, 1) := by decide +kernel
theorem dX2_init_69 : decode cX2_init 69 = .ok (.bipush 26, 2) := by decide +kernel
theorem dX2_init_71 : decode cX2_init 71 = .ok (.newarray .int, 2) := by decide +kernel
theorem dX2_init_73 : decode cX2_init 73 = .ok (.putfield 27, 3) := by decide +kernel
theorem dX2_init_76 : decode cX2_init 76 = .ok (.iconst 0, 1) := by decide +kernel
theorem dX2_init_77 : decode cX2_init 77 = .ok (.istore_n 2, 1) := by decide +kernel
theorem dX2_init_78 : decode cX2_init 78 = .ok (.iload_n 2, 1) := by decide +kernel
theorem dX2_init_79 : decode cX2_init 79 = .ok (.bipush 26, 2) := by decide +kernel
theorem dX2_init_81 : decode cX2_init 81 = .ok (.if_icmp .ge 16, 3) := by decide +kernel
theorem dX2_init_84 : decode cX2_init 84 = .ok (.aload_n 0, 1) := by decide +kernel
theorem dX2_init_85 : decode cX2_init 85 = .ok (.getfield 27, 3) := by decide +kernel
theorem dX2_init_88 : decode cX2_init 88 = .ok (.iload_n 2, 1) := by decide +kernel
theorem dX2_init_89 : decode cX2_init 89 = .ok (.iconst (-1), 1) := by decide +kernel
theorem dX2_init_90 : decode cX2_init 90 = .ok (.iastore, 1) := by decide +kernel
theorem dX2_init_91 : decode cX2_init 91 = .ok (.iinc 2 1, 3) := by decide +kernel
theorem dX2_init_94 : decode cX2_init 94 = .ok (.goto (-16), 3) := by decide +kernel
theorem dX2_init_97 : decode cX2_init 97 = .ok (.return_, 1) := by decide +kernel
theorem dX2_begin_0 : decode cX2_begin 0 = .ok (.aload_n 0, 1) := by decide +kernel
theorem dX2_begin_1 : decode cX2_begin 1 = .ok (.aload_n 1, 1) := by decide +kernel
theorem dX2_begin_2 : decode cX2_begin 2 = .ok (.putfield 31, 3) := by decide +kernel
theorem dX2_begin_5 : decode cX2_begin 5 = .ok (.aload_n 0, 1) := by decide +kernel
theorem dX2_begin_6 : decode cX2_begin 6 = .ok (.iconst 0, 1) := by decide +kernel
theorem dX2_begin_7 : decode cX2_begin 7 = .ok (.putfield 35, 3) := by decide +kernel
theorem dX2_begin_10 : decode cX2_begin 10 = .ok (.aload_n 0, 1) := by decide +kernel
theorem dX2_begin_11 : decode cX2_begin 11 = .ok (.iconst 0, 1) := by decide +kernel
theorem dX2_begin_12 : decode cX2_begin 12 = .ok (.putfield 38, 3) := by decide +kernel
theorem dX2_begin_15 : decode cX2_begin 15 = .ok (.aload_n 0, 1) := by decide +kernel
theorem dX2_begin_16 : decode cX2_begin 16 = .ok (.iconst 0, 1) := by decide +kernel
theorem dX2_begin_17 : decode cX2_begin 17 = .ok (.putfield 41, 3) := by decide +kernel
theorem dX2_begin_20 : decode cX2_begin 20 = .ok (.iconst 0, 1) := by decide +kernel
theorem dX2_begin_21 : decode cX2_begin 21 = .ok (.istore_n 2, 1) := by decide +kernel
theorem dX2_begin_22 : decode cX2_begin 22 = .ok (.iload_n 2, 1) := by decide +kernel
theorem dX2_begin_23 : decode cX2_begin 23 = .ok (.bipush 26, 2) := by decide +kernel
theorem dX2_begin_25 : decode cX2_begin 25 = .ok (.if_icmp .ge 16, 3) := by decide +kernel
theorem dX2_begin_28 : decode cX2_begin 28 = .ok (.aload_n 0, 1) := by decide +kernel
theorem dX2_begin_29 : decode cX2_begin 29 = .ok (.getfield 27, 3) := by decide +kernel
theorem dX2_begin_32 : decode cX2_begin 32 = .ok (.iload_n 2, 1) := by decide +kernel
theorem dX2_begin_33 : decode cX2_begin 33 = .ok (.iconst (-1), 1) := by decide +kernel
theorem dX2_begin_34 : decode cX2_begin 34 = .ok (.iastore, 1) := by decide +kernel
theorem dX2_begin_35 : decode cX2_begin 35 = .ok (.iinc 2 1, 3) := by decide +kernel
theorem dX2_begin_38 : decode cX2_begin 38 = .ok (.goto (-16), 3) := by decide +kernel
theorem dX2_begin_41 : decode cX2_begin 41 = .ok (.return_, 1) := by decide +kernel
theorem dX2_addConstructor_0 : decode cX2_addConstructor 0 = .ok (.aload_n 0, 1) := by decide +kernel
theorem dX2_addConstructor_1 : decode cX2_addConstructor 1 = .ok (.getfield 35, 3) := by decide +kernel
theorem dX2_addConstructor_4 : decode cX2_addConstructor 4 = .ok (.iconst 4, 1) := by decide +kernel
theorem dX2_addConstructor_5 : decode cX2_addConstructor 5 = .ok (.if_icmp .lt 5, 3) := by decide +kernel
theorem dX2_addConstructor_8 : decode cX2_addConstructor 8 = .ok (.iconst 0, 1) := by decide +kernel
theorem dX2_addConstructor_9 : decode cX2_addConstructor 9 = .ok (.ireturn, 1) := by decide +kernel
theorem dX2_addConstructor_10 : decode cX2_addConstructor 10 = .ok (.aload_n 0, 1) := by decide +kernel
theorem dX2_addConstructor_11 : decode cX2_addConstructor 11 = .ok (.getfield 17, 3) := by decide +kernel
theorem dX2_addConstructor_14 : decode cX2_addConstructor 14 = .ok (.aload_n 0, 1) := by decide +kernel
theorem dX2_addConstructor_15 : decode cX2_addConstructor 15 = .ok (.getfield 35, 3) := by decide +kernel
theorem dX2_addConstructor_18 : decode cX2_addConstructor 18 = .ok (.aaload, 1) := by decide +kernel
theorem dX2_addConstructor_19 : decode cX2_addConstructor 19 = .ok (.iconst (-1), 1) := by decide +kernel
theorem dX2_addConstructor_20 : decode cX2_addConstructor 20 = .ok (.iconst 0, 1) := by decide +kernel
theorem dX2_addConstructor_21 : decode cX2_addConstructor 21 = .ok (.aload_n 0, 1) := by decide +kernel
theorem dX2_addConstructor_22 : decode cX2_addConstructor 22 = .ok (.getfield 9, 3) := by decide +kernel
theorem dX2_addConstructor_25 : decode cX2_addConstructor 25 = .ok (.invokevirtual 44, 3) := by decide +kernel
theorem dX2_addConstructor_28 : decode cX2_addConstructor 28 = .ok (.aload_n 0, 1) := by decide +kernel
theorem dX2_addConstructor_29 : decode cX2_addConstructor 29 = .ok (.getfield 17, 3) := by decide +kernel
theorem dX2_addConstructor_32 : decode cX2_addConstructor 32 = .ok (.aload_n 0, 1) := by decide +kernel
theorem dX2_addConstructor_33 : decode cX2_addConstructor 33 = .ok (.getfield 35, 3) := by decide +kernel
theorem dX2_addConstructor_36 : decode cX2_addConstructor 36 = .ok (.aaload, 1) := by decide +kernel
theorem dX2_addConstructor_37 : decode cX2_addConstructor 37 = .ok (.iload_n 1, 1) := by decide +kernel
theorem dX2_addConstructor_38 : decode cX2_addConstructor 38 = .ok (.iload_n 2, 1) := by decide +kernel
theorem dX2_addConstructor_39 : decode cX2_addConstructor 39 = .ok (.iload_n 3, 1) := by decide +kernel
theorem dX2_addConstructor_40 : decode cX2_addConstructor 40 = .ok (.iload 4, 2) := by decide +kernel
theorem dX2_addConstructor_42 : decode cX2_addConstructor 42 = .ok (.invokevirtual 48, 3) := by decide +kernel
theorem dX2_addConstructor_45 : decode cX2_addConstructor 45 = .ok (.aload_n 0, 1) := by decide +kernel
theorem dX2_addConstructor_46 : decode cX2_addConstructor 46 = .ok (.dup, 1) := by decide +kernel
theorem dX2_addConstructor_47 : decode cX2_addConstructor 47 = .ok (.getfield 35, 3) := by decide +kernel
theorem dX2_addConstructor_50 : decode cX2_addConstructor 50 = .ok (.iconst 1, 1) := by decide +kernel
theorem dX2_addConstructor_51 : decode cX2_addConstructor 51 = .ok (.iadd, 1) := by decide +kernel
theorem dX2_addConstructor_52 : decode cX2_addConstructor 52 = .ok (.putfield 35, 3) := by decide +kernel
theorem dX2_addConstructor_55 : decode cX2_addConstructor 55 = .ok (.iconst 1, 1) := by decide +kernel
theorem dX2_addConstructor_56 : decode cX2_addConstructor 56 = .ok (.ireturn, 1) := by decide +kernel
theorem dX2_addFactory_0 : decode cX2_addFactory 0 = .ok (.aload_n 0, 1) := by decide +kernel
theorem dX2_addFactory_1 : decode cX2_addFactory 1 = .ok (.getfield 38, 3) := by decide +kernel
theorem dX2_addFactory_4 : decode cX2_addFactory 4 = .ok (.iconst 4, 1) := by decide +kernel
theorem dX2_addFactory_5 : decode cX2_addFactory 5 = .ok (.if_icmp .lt 5, 3) := by decide +kernel
theorem dX2_addFactory_8 : decode cX2_addFactory 8 = .ok (.iconst 0, 1) := by decide +kernel
theorem dX2_addFactory_9 : decode cX2_addFactory 9 = .ok (.ireturn, 1) := by decide +kernel
theorem dX2_addFactory_10 : decode cX2_addFactory 10 = .ok (.aload_n 0, 1) := by decide +kernel
theorem dX2_addFactory_11 : decode cX2_addFactory 11 = .ok (.getfield 21, 3) := by decide +kernel
theorem dX2_addFactory_14 : decode cX2_addFactory 14 = .ok (.aload_n 0, 1) := by decide +kernel
theorem dX2_addFactory_15 : decode cX2_addFactory 15 = .ok (.getfield 38, 3) := by decide +kernel
theorem dX2_addFactory_18 : decode cX2_addFactory 18 = .ok (.aaload, 1) := by decide +kernel
theorem dX2_addFactory_19 : decode cX2_addFactory 19 = .ok (.iload_n 1, 1) := by decide +kernel
theorem dX2_addFactory_20 : decode cX2_addFactory 20 = .ok (.iload_n 2, 1) := by decide +kernel
theorem dX2_addFactory_21 : decode cX2_addFactory 21 = .ok (.iload_n 3, 1) := by decide +kernel
theorem dX2_addFactory_22 : decode cX2_addFactory 22 = .ok (.invokevirtual 44, 3) := by decide +kernel
theorem dX2_addFactory_25 : decode cX2_addFactory 25 = .ok (.aload_n 0, 1) := by decide +kernel
theorem dX2_addFactory_26 : decode cX2_addFactory 26 = .ok (.getfield 21, 3) := by decide +kernel
theorem dX2_addFactory_29 : decode cX2_addFactory 29 = .ok (.aload_n 0, 1) := by decide +kernel
theorem dX2_addFactory_30 : decode cX2_addFactory 30 = .ok (.getfield 38, 3) := by decide +kernel
theorem dX2_addFactory_33 : decode cX2_addFactory 33 = .ok (.aaload, 1) := by decide +kernel
theorem dX2_addFactory_34 : decode cX2_addFactory 34 = .ok (.iload 4, 2) := by decide +kernel
theorem dX2_addFactory_36 : decode cX2_addFactory 36 = .ok (.iload 5, 2) := by decide +kernel
theorem dX2_addFactory_38 : decode cX2_addFactory 38 = .ok (.iload 6, 2) := by decide +kernel
theorem dX2_addFactory_40 : decode cX2_addFactory 40 = .ok (.iload 7, 2) := by decide +kernel
theorem dX2_addFactory_42 : decode cX2_addFactory 42 = .ok (.invokevirtual 48, 3) := by decide +kernel
theorem dX2_addFactory_45 : decode cX2_addFactory 45 = .ok (.aload_n 0, 1) := by decide +kernel
theorem dX2_addFactory_46 : decode cX2_addFactory 46 = .ok (.dup, 1) := by decide +kernel
theorem dX2_addFactory_47 : decode cX2_addFactory 47 = .ok (.getfield 38, 3) := by decide +kernel
theorem dX2_addFactory_50 : decode cX2_addFactory 50 = .ok (.iconst 1, 1) := by decide +kernel
theorem dX2_addFactory_51 : decode cX2_addFactory 51 = .ok (.iadd, 1) := by decide +kernel
theorem dX2_addFactory_52 : decode cX2_addFactory 52 = .ok (.putfield 38, 3) := by decide +kernel
theorem dX2_addFactory_55 : decode cX2_addFactory 55 = .ok (.iconst 1, 1) := by decide +kernel
theorem dX2_addFactory_56 : decode cX2_addFactory 56 = .ok (.ireturn, 1) := by decide +kernel
theorem dX2_addSetter_0 : decode cX2_addSetter 0 = .ok (.aload_n 0, 1) := by decide +kernel
theorem dX2_addSetter_1 : decode cX2_addSetter 1 = .ok (.getfield 41, 3) := by decide +kernel
theorem dX2_addSetter_4 : decode cX2_addSetter 4 = .ok (.bipush 8, 2) := by decide +kernel
theorem dX2_addSetter_6 : decode cX2_addSetter 6 = .ok (.if_icmp .ge 13, 3) := by decide +kernel
theorem dX2_addSetter_9 : decode cX2_addSetter 9 = .ok (.aload_n 0, 1) := by decide +kernel
theorem dX2_addSetter_10 : decode cX2_addSetter 10 = .ok (.getfield 27, 3) := by decide +kernel
theorem dX2_addSetter_13 : decode cX2_addSetter 13 = .ok (.iload_n 1, 1) := by decide +kernel
theorem dX2_addSetter_14 : decode cX2_addSetter 14 = .ok (.iaload, 1) := by decide +kernel
theorem dX2_addSetter_15 : decode cX2_addSetter 15 = .ok (.iconst (-1), 1) := by decide +kernel
theorem dX2_addSetter_16 : decode cX2_addSetter 16 = .ok (.if_icmp .eq 5, 3) := by decide +kernel
theorem dX2_addSetter_19 : decode cX2_addSetter 19 = .ok (.iconst 0, 1) := by decide +kernel
theorem dX2_addSetter_20 : decode cX2_addSetter 20 = .ok (.ireturn, 1) := by decide +kernel
theorem dX2_addSetter_21 : decode cX2_addSetter 21 = .ok (.aload_n 0, 1) := by decide +kernel
theorem dX2_addSetter_22 : decode cX2_addSetter 22 = .ok (.getfield 27, 3) := by decide +kernel
theorem dX2_addSetter_25 : decode cX2_addSetter 25 = .ok (.iload_n 1, 1) := by decide +kernel
theorem dX2_addSetter_26 : decode cX2_addSetter 26 = .ok (.iload_n 2, 1) := by decide +kernel
theorem dX2_addSetter_27 : decode cX2_addSetter 27 = .ok (.iastore, 1) := by decide +kernel
theorem dX2_addSetter_28 : decode cX2_addSetter 28 = .ok (.aload_n 0, 1) := by decide +kernel
theorem dX2_addSetter_29 : decode cX2_addSetter 29 = .ok (.dup, 1) := by decide +kernel
theorem dX2_addSetter_30 : decode cX2_addSetter 30 = .ok (.getfield 41, 3) := by decide +kernel
theorem dX2_addSetter_33 : decode cX2_addSetter 33 = .ok (.iconst 1, 1) := by decide +kernel
theorem dX2_addSetter_34 : decode cX2_addSetter 34 = .ok (.iadd, 1) := by decide +kernel
theorem dX2_addSetter_35 : decode cX2_addSetter 35 = .ok (.putfield 41, 3) := by decide +kernel
theorem dX2_addSetter_38 : decode cX2_addSetter 38 = .ok (.iconst 1, 1) := by decide +kernel
theorem dX2_addSetter_39 : decode cX2_addSetter 39 = .ok (.ireturn, 1) := by decide +kernel
theorem dX3_init_0 : decode cX3_init 0 = .ok (.aload_n 0, 1) := by decide +kernel
theorem dX3_init_1 : decode cX3_init 1 = .ok (.invokespecial 3, 3) := by decide +kernel
theorem dX3_init_4 : decode cX3_init 4 = .ok (.aload_n 0, 1) := by decide +kernel
theorem dX3_init_5 : decode cX3_init 5 = .ok (.bipush 24, 2) := by decide +kernel
theorem dX3_init_7 : decode cX3_init 7 = .ok (.newarray .char, 2) := by decide +kernel
theorem dX3_init_9 : decode cX3_init 9 = .ok (.putfield 11, 3) := by decide +kernel
theorem dX3_init_12 : decode cX3_init 12 = .ok (.return_, 1) := by decide +kernel
theorem dX6_init_0 : decode cX6_init 0 = .ok (.aload_n 0, 1) := by decide +kernel
theorem dX6_init_1 : decode cX6_init 1 = .ok (.invokespecial 3, 3) := by decide +kernel
theorem dX6_init_4 : decode cX6_init 4 = .ok (.aload_n 0, 1) := by decide +kernel
theorem dX6_init_5 : decode cX6_init 5 = .ok (.bipush 80, 2) := by decide +kernel
theorem dX6_init_7 : decode cX6_init 7 = .ok (.anewarray 11, 3) := by decide +kernel
theorem dX6_init_10 : decode cX6_init 10 = .ok (.putfield 13, 3) := by decide +kernel
theorem dX6_init_13 : decode cX6_init 13 = .ok (.iconst 0, 1) := by decide +kernel
theorem dX6_init_14 : decode cX6_init 14 = .ok (.istore_n 2, 1) := by decide +kernel
theorem dX6_init_15 : decode cX6_init 15 = .ok (.iload_n 2, 1) := by decide +kernel
theorem dX6_init_16 : decode cX6_init 16 = .ok (.bipush 80, 2) := by decide +kernel
theorem dX6_init_18 : decode cX6_init 18 = .ok (.if_icmp .ge 22, 3) := by decide +kernel
theorem dX6_init_21 : decode cX6_init 21 = .ok (.aload_n 0, 1) := by decide +kernel
theorem dX6_init_22 : decode cX6_init 22 = .ok (.getfield 13, 3) := by decide +kernel
theorem dX6_init_25 : decode cX6_init 25 = .ok (.iload_n 2, 1) := by decide +kernel
theorem dX6_init_26 : decode cX6_init 26 = .ok (.new 11, 3) := by decide +kernel
theorem dX6_init_29 : decode cX6_init 29 = .ok (.dup, 1) := by decide +kernel
theorem dX6_init_30 : decode cX6_init 30 = .ok (.invokespecial 17, 3) := by decide +kernel
theorem dX6_init_33 : decode cX6_init 33 = .ok (.aastore, 1) := by decide +kernel
theorem dX6_init_34 : decode cX6_init 34 = .ok (.iinc 2 1, 3) := by decide +kernel
theorem dX6_init_37 : decode cX6_init 37 = .ok (.goto (-22), 3) := by decide +kernel
theorem dX6_init_40 : decode cX6_init 40 = .ok (.aload_n 0, 1) := by decide +kernel
theorem dX6_init_41 : decode cX6_init 41 = .ok (.iload_n 1, 1) := by decide +kernel
theorem dX6_init_42 : decode cX6_init 42 = .ok (.iconst 5, 1) := by decide +kernel
theorem dX6_init_43 : decode cX6_init 43 = .ok (.idiv, 1) := by decide +kernel
theorem dX6_init_44 : decode cX6_init 44 = .ok (.newarray .long, 2) := by decide +kernel
theorem dX6_init_46 : decode cX6_init 46 = .ok (.putfield 18, 3) := by decide +kernel
theorem dX6_init_49 : decode cX6_init 49 = .ok (.aload_n 0, 1) := by decide +kernel
theorem dX6_init_50 : decode cX6_init 50 = .ok (.iload_n 1, 1) := by decide +kernel
theorem dX6_init_51 : decode cX6_init 51 = .ok (.iconst 5, 1) := by decide +kernel
theorem dX6_init_52 : decode cX6_init 52 = .ok (.idiv, 1) := by decide +kernel
theorem dX6_init_53 : decode cX6_init 53 = .ok (.newarray .int, 2) := by decide +kernel
theorem dX6_init_55 : decode cX6_init 55 = .ok (.putfield 22, 3) := by decide +kernel
theorem dX6_init_58 : decode cX6_init 58 = .ok (.aload_n 0, 1) := by decide +kernel
theorem dX6_init_59 : decode cX6_init 59 = .ok (.iload_n 1, 1) := by decide +kernel
theorem dX6_init_60 : decode cX6_init 60 = .ok (.iconst 5, 1) := by decide +kernel
theorem dX6_init_61 : decode cX6_init 61 = .ok (.idiv, 1) := by decide +kernel
theorem dX6_init_62 : decode cX6_init 62 = .ok (.newarray .int, 2) := by decide +kernel
theorem dX6_init_64 : decode cX6_init 64 = .ok (.putfield 26, 3) := by decide +kernel
theorem dX6_init_67 : decode cX6_init 67 = .ok (.aload_n 0, 1) := by decide +kernel
theorem dX6_init_68 : decode cX6_init 68 = .ok (.iload_n 1, 1) := by decide +kernel
theorem dX6_init_69 : decode cX6_init 69 = .ok (.newarray .char, 2) := by decide +kernel
theorem dX6_init_71 : decode cX6_init 71 = .ok (.putfield 29, 3) := by decide +kernel
theorem dX6_init_74 : decode cX6_init 74 = .ok (.return_, 1) := by decide +kernel
theorem dX6_clear_0 : decode cX6_clear 0 = .ok (.aload_n 0, 1) := by decide +kernel
theorem dX6_clear_1 : decode cX6_clear 1 = .ok (.iconst 0, 1) := by decide +kernel
theorem dX6_clear_2 : decode cX6_clear 2 = .ok (.putfield 33, 3) := by decide +kernel
theorem dX6_clear_5 : decode cX6_clear 5 = .ok (.aload_n 0, 1) := by decide +kernel
theorem dX6_clear_6 : decode cX6_clear 6 = .ok (.iconst 0, 1) := by decide +kernel
theorem dX6_clear_7 : decode cX6_clear 7 = .ok (.putfield 37, 3) := by decide +kernel
theorem dX6_clear_10 : decode cX6_clear 10 = .ok (.aload_n 0, 1) := by decide +kernel
theorem dX6_clear_11 : decode cX6_clear 11 = .ok (.iconst 0, 1) := by decide +kernel
theorem dX6_clear_12 : decode cX6_clear 12 = .ok (.putfield 40, 3) := by decide +kernel
theorem dX6_clear_15 : decode cX6_clear 15 = .ok (.return_, 1) := by decide +kernel
theorem dX7_init_0 : decode cX7_init 0 = .ok (.aload_n 0, 1) := by decide +kernel
theorem dX7_init_1 : decode cX7_init 1 = .ok (.invokespecial 3, 3) := by decide +kernel
theorem dX7_init_4 : decode cX7_init 4 = .ok (.aload_n 0, 1) := by decide +kernel
theorem dX7_init_5 : decode cX7_init 5 = .ok (.aload_n 1, 1) := by decide +kernel
theorem dX7_init_6 : decode cX7_init 6 = .ok (.putfield 9, 3) := by decide +kernel
theorem dX7_init_9 : decode cX7_init 9 = .ok (.return_, 1) := by decide +kernel
theorem dX7_firstWrongPlace_0 : decode cX7_firstWrongPlace 0 = .ok (.aload_n 0, 1) := by decide +kernel
theorem dX7_firstWrongPlace_1 : decode cX7_firstWrongPlace 1 = .ok (.aload_n 1, 1) := by decide +kernel
theorem dX7_firstWrongPlace_2 : decode cX7_firstWrongPlace 2 = .ok (.putfield 15, 3) := by decide +kernel
theorem dX7_firstWrongPlace_5 : decode cX7_firstWrongPlace 5 = .ok (.aload_n 0, 1) := by decide +kernel
theorem dX7_firstWrongPlace_6 : decode cX7_firstWrongPlace 6 = .ok (.iload_n 2, 1) := by decide +kernel
theorem dX7_firstWrongPlace_7 : decode cX7_firstWrongPlace 7 = .ok (.putfield 19, 3) := by decide +kernel
theorem dX7_firstWrongPlace_10 : decode cX7_firstWrongPlace 10 = .ok (.aload_n 0, 1) := by decide +kernel
theorem dX7_firstWrongPlace_11 : decode cX7_firstWrongPlace 11 = .ok (.iconst 0, 1) := by decide +kernel
theorem dX7_firstWrongPlace_12 : decode cX7_firstWrongPlace 12 = .ok (.putfield 23, 3) := by decide +kernel
theorem dX7_firstWrongPlace_15 : decode cX7_firstWrongPlace 15 = .ok (.aload_n 0, 1) := by decide +kernel
theorem dX7_firstWrongPlace_16 : decode cX7_firstWrongPlace 16 = .ok (.iconst 0, 1) := by decide +kernel
theorem dX7_firstWrongPlace_17 : decode cX7_firstWrongPlace 17 = .ok (.putfield 26, 3) := by decide +kernel
theorem dX7_firstWrongPlace_20 : decode cX7_firstWrongPlace 20 = .ok (.aload_n 0, 1) := by decide +kernel
theorem dX7_firstWrongPlace_21 : decode cX7_firstWrongPlace 21 = .ok (.aconst_null, 1) := by decide +kernel
theorem dX7_firstWrongPlace_22 : decode cX7_firstWrongPlace 22 = .ok (.putfield 29, 3) := by decide +kernel
theorem dX7_firstWrongPlace_25 : decode cX7_firstWrongPlace 25 = .ok (.aload_n 0, 1) := by decide +kernel
theorem dX7_firstWrongPlace_26 : decode cX7_firstWrongPlace 26 = .ok (.getfield 9, 3) := by decide +kernel
theorem dX7_firstWrongPlace_29 : decode cX7_firstWrongPlace 29 = .ok (.invokevirtual 33, 3) := by decide +kernel
theorem dX7_firstWrongPlace_32 : decode cX7_firstWrongPlace 32 = .ok (.aload_n 0, 1) := by decide +kernel
theorem dX7_firstWrongPlace_33 : decode cX7_firstWrongPlace 33 = .ok (.invokevirtual 38, 3) := by decide +kernel
theorem dX7_firstWrongPlace_36 : decode cX7_firstWrongPlace 36 = .ok (.aload_n 0, 1) := by decide +kernel
theorem dX7_firstWrongPlace_37 : decode cX7_firstWrongPlace 37 = .ok (.invokevirtual 41, 3) := by decide +kernel
theorem dX7_firstWrongPlace_40 : decode cX7_firstWrongPlace 40 = .ok (.iconst 0, 1) := by decide +kernel
theorem dX7_firstWrongPlace_41 : decode cX7_firstWrongPlace 41 = .ok (.istore_n 3, 1) := by decide +kernel
theorem dX7_firstWrongPlace_42 : decode cX7_firstWrongPlace 42 = .ok (.iload_n 3, 1) := by decide +kernel
theorem dX7_firstWrongPlace_43 : decode cX7_firstWrongPlace 43 = .ok (.aload_n 0, 1) := by decide +kernel
theorem dX7_firstWrongPlace_44 : decode cX7_firstWrongPlace 44 = .ok (.getfield 19, 3) := by decide +kernel
theorem dX7_firstWrongPlace_47 : decode cX7_firstWrongPlace 47 = .ok (.if_icmp .gt 20, 3) := by decide +kernel
theorem dX7_firstWrongPlace_50 : decode cX7_firstWrongPlace 50 = .ok (.aload_n 0, 1) := by decide +kernel
theorem dX7_firstWrongPlace_51 : decode cX7_firstWrongPlace 51 = .ok (.getfield 29, 3) := by decide +kernel
theorem dX7_firstWrongPlace_54 : decode cX7_firstWrongPlace 54 = .ok (.ifnull 13, 3) := by decide +kernel
theorem dX7_firstWrongPlace_57 : decode cX7_firstWrongPlace 57 = .ok (.aload_n 0, 1) := by decide +kernel
theorem dX7_firstWrongPlace_58 : decode cX7_firstWrongPlace 58 = .ok (.invokevirtual 44, 3) := by decide +kernel
theorem dX7_firstWrongPlace_61 : decode cX7_firstWrongPlace 61 = .ok (.iinc 3 1, 3) := by decide +kernel
theorem dX7_firstWrongPlace_64 : decode cX7_firstWrongPlace 64 = .ok (.goto (-22), 3) := by decide +kernel
theorem dX7_firstWrongPlace_67 : decode cX7_firstWrongPlace 67 = .ok (.aload_n 0, 1) := by decide +kernel
theorem dX7_firstWrongPlace_68 : decode cX7_firstWrongPlace 68 = .ok (.invokevirtual 38, 3) := by decide +kernel
theorem dX7_firstWrongPlace_71 : decode cX7_firstWrongPlace 71 = .ok (.aload_n 0, 1) := by decide +kernel
theorem dX7_firstWrongPlace_72 : decode cX7_firstWrongPlace 72 = .ok (.invokevirtual 47, 3) := by decide +kernel
theorem dX7_firstWrongPlace_75 : decode cX7_firstWrongPlace 75 = .ok (.goto 9, 3) := by decide +kernel
theorem dX7_firstWrongPlace_78 : decode cX7_firstWrongPlace 78 = .ok (.astore_n 3, 1) := by decide +kernel
theorem dX7_firstWrongPlace_79 : decode cX7_firstWrongPlace 79 = .ok (.aload_n 0, 1) := by decide +kernel
theorem dX7_firstWrongPlace_80 : decode cX7_firstWrongPlace 80 = .ok (.getfield 23, 3) := by decide +kernel
theorem dX7_firstWrongPlace_83 : decode cX7_firstWrongPlace 83 = .ok (.ireturn, 1) := by decide +kernel
theorem dX7_firstWrongPlace_84 : decode cX7_firstWrongPlace 84 = .ok (.iconst (-1), 1) := by decide +kernel
theorem dX7_firstWrongPlace_85 : decode cX7_firstWrongPlace 85 = .ok (.ireturn, 1) := by decide +kernel
theorem dX7_skipAround_0 : decode cX7_skipAround 0 = .ok (.aload_n 0, 1) := by decide +kernel
theorem dX7_skipAround_1 : decode cX7_skipAround 1 = .ok (.invokevirtual 53, 3) := by decide +kernel
theorem dX7_skipAround_4 : decode cX7_skipAround 4 = .ok (.pop, 1) := by decide +kernel
theorem dX7_skipAround_5 : decode cX7_skipAround 5 = .ok (.iconst 0, 1) := by decide +kernel
theorem dX7_skipAround_6 : decode cX7_skipAround 6 = .ok (.istore_n 1, 1) := by decide +kernel
theorem dX7_skipAround_7 : decode cX7_skipAround 7 = .ok (.iload_n 1, 1) := by decide +kernel
theorem dX7_skipAround_8 : decode cX7_skipAround 8 = .ok (.aload_n 0, 1) := by decide +kernel
theorem dX7_skipAround_9 : decode cX7_skipAround 9 = .ok (.getfield 19, 3) := by decide +kernel
theorem dX7_skipAround_12 : decode cX7_skipAround 12 = .ok (.if_icmp .ge 46, 3) := by decide +kernel
theorem dX7_skipAround_15 : decode cX7_skipAround 15 = .ok (.aload_n 0, 1) := by decide +kernel
theorem dX7_skipAround_16 : decode cX7_skipAround 16 = .ok (.aload_n 0, 1) := by decide +kernel
theorem dX7_skipAround_17 : decode cX7_skipAround 17 = .ok (.getfield 23, 3) := by decide +kernel
theorem dX7_skipAround_20 : decode cX7_skipAround 20 = .ok (.invokevirtual 57, 3) := by decide +kernel
theorem dX7_skipAround_23 : decode cX7_skipAround 23 = .ok (.bipush 60, 2) := by decide +kernel
theorem dX7_skipAround_25 : decode cX7_skipAround 25 = .ok (.if_icmp .ne 33, 3) := by decide +kernel
theorem dX7_skipAround_28 : decode cX7_skipAround 28 = .ok (.aload_n 0, 1) := by decide +kernel
theorem dX7_skipAround_29 : decode cX7_skipAround 29 = .ok (.aload_n 0, 1) := by decide +kernel
theorem dX7_skipAround_30 : decode cX7_skipAround 30 = .ok (.getfield 23, 3) := by decide +kernel
theorem dX7_skipAround_33 : decode cX7_skipAround 33 = .ok (.iconst 1, 1) := by decide +kernel
theorem dX7_skipAround_34 : decode cX7_skipAround 34 = .ok (.iadd, 1) := by decide +kernel
theorem dX7_skipAround_35 : decode cX7_skipAround 35 = .ok (.invokevirtual 57, 3) := by decide +kernel
theorem dX7_skipAround_38 : decode cX7_skipAround 38 = .ok (.bipush 33, 2) := by decide +kernel
theorem dX7_skipAround_40 : decode cX7_skipAround 40 = .ok (.if_icmp .ne 18, 3) := by decide +kernel
theorem dX7_skipAround_43 : decode cX7_skipAround 43 = .ok (.aload_n 0, 1) := by decide +kernel
theorem dX7_skipAround_44 : decode cX7_skipAround 44 = .ok (.invokevirtual 61, 3) := by decide +kernel
theorem dX7_skipAround_47 : decode cX7_skipAround 47 = .ok (.aload_n 0, 1) := by decide +kernel
theorem dX7_skipAround_48 : decode cX7_skipAround 48 = .ok (.invokevirtual 53, 3) := by decide +kernel
theorem dX7_skipAround_51 : decode cX7_skipAround 51 = .ok (.pop, 1) := by decide +kernel
theorem dX7_skipAround_52 : decode cX7_skipAround 52 = .ok (.iinc 1 1, 3) := by decide +kernel
theorem dX7_skipAround_55 : decode cX7_skipAround 55 = .ok (.goto (-48), 3) := by decide +kernel
theorem dX7_skipAround_58 : decode cX7_skipAround 58 = .ok (.return_, 1) := by decide +kernel
theorem dX7_skipsWhite_0 : decode cX7_skipsWhite 0 = .ok (.aload_n 0, 1) := by decide +kernel
theorem dX7_skipsWhite_1 : decode cX7_skipsWhite 1 = .ok (.getfield 23, 3) := by decide +kernel
theorem dX7_skipsWhite_4 : decode cX7_skipsWhite 4 = .ok (.istore_n 1, 1) := by decide +kernel
theorem dX7_skipsWhite_5 : decode cX7_skipsWhite 5 = .ok (.aload_n 0, 1) := by decide +kernel
theorem dX7_skipsWhite_6 : decode cX7_skipsWhite 6 = .ok (.getfield 23, 3) := by decide +kernel
theorem dX7_skipsWhite_9 : decode cX7_skipsWhite 9 = .ok (.aload_n 0, 1) := by decide +kernel
theorem dX7_skipsWhite_10 : decode cX7_skipsWhite 10 = .ok (.getfield 19, 3) := by decide +kernel
theorem dX7_skipsWhite_13 : decode cX7_skipsWhite 13 = .ok (.if_icmp .ge 44, 3) := by decide +kernel
theorem dX7_skipsWhite_16 : decode cX7_skipsWhite 16 = .ok (.aload_n 0, 1) := by decide +kernel
theorem dX7_skipsWhite_17 : decode cX7_skipsWhite 17 = .ok (.getfield 15, 3) := by decide +kernel
theorem dX7_skipsWhite_20 : decode cX7_skipsWhite 20 = .ok (.aload_n 0, 1) := by decide +kernel
theorem dX7_skipsWhite_21 : decode cX7_skipsWhite 21 = .ok (.getfield 23, 3) := by decide +kernel
theorem dX7_skipsWhite_24 : decode cX7_skipsWhite 24 = .ok (.caload, 1) := by decide +kernel
theorem dX7_skipsWhite_25 : decode cX7_skipsWhite 25 = .ok (.bipush 10, 2) := by decide +kernel
theorem dX7_skipsWhite_27 : decode cX7_skipsWhite 27 = .ok (.if_icmp .eq 17, 3) := by decide +kernel
theorem dX7_skipsWhite_30 : decode cX7_skipsWhite 30 = .ok (.aload_n 0, 1) := by decide +kernel
theorem dX7_skipsWhite_31 : decode cX7_skipsWhite 31 = .ok (.getfield 15, 3) := by decide +kernel
theorem dX7_skipsWhite_34 : decode cX7_skipsWhite 34 = .ok (.aload_n 0, 1) := by decide +kernel
theorem dX7_skipsWhite_35 : decode cX7_skipsWhite 35 = .ok (.getfield 23, 3) := by decide +kernel
theorem dX7_skipsWhite_38 : decode cX7_skipsWhite 38 = .ok (.caload, 1) := by decide +kernel
theorem dX7_skipsWhite_39 : decode cX7_skipsWhite 39 = .ok (.bipush 32, 2) := by decide +kernel
theorem dX7_skipsWhite_41 : decode cX7_skipsWhite 41 = .ok (.if_icmp .ne 16, 3) := by decide +kernel
theorem dX7_skipsWhite_44 : decode cX7_skipsWhite 44 = .ok (.aload_n 0, 1) := by decide +kernel
theorem dX7_skipsWhite_45 : decode cX7_skipsWhite 45 = .ok (.dup, 1) := by decide +kernel
theorem dX7_skipsWhite_46 : decode cX7_skipsWhite 46 = .ok (.getfield 23, 3) := by decide +kernel
theorem dX7_skipsWhite_49 : decode cX7_skipsWhite 49 = .ok (.iconst 1, 1) := by decide +kernel
theorem dX7_skipsWhite_50 : decode cX7_skipsWhite 50 = .ok (.iadd, 1) := by decide +kernel
theorem dX7_skipsWhite_51 : decode cX7_skipsWhite 51 = .ok (.putfield 23, 3) := by decide +kernel
theorem dX7_skipsWhite_54 : decode cX7_skipsWhite 54 = .ok (.goto (-49), 3) := by decide +kernel
theorem dX7_skipsWhite_57 : decode cX7_skipsWhite 57 = .ok (.aload_n 0, 1) := by decide +kernel
theorem dX7_skipsWhite_58 : decode cX7_skipsWhite 58 = .ok (.getfield 23, 3) := by decide +kernel
theorem dX7_skipsWhite_61 : decode cX7_skipsWhite 61 = .ok (.iload_n 1, 1) := by decide +kernel
theorem dX7_skipsWhite_62 : decode cX7_skipsWhite 62 = .ok (.if_icmp .le 7, 3) := by decide +kernel
theorem dX7_skipsWhite_65 : decode cX7_skipsWhite 65 = .ok (.iconst 1, 1) := by decide +kernel
theorem dX7_skipsWhite_66 : decode cX7_skipsWhite 66 = .ok (.goto 4, 3) := by decide +kernel
theorem dX7_skipsWhite_69 : decode cX7_skipsWhite 69 = .ok (.iconst 0, 1) := by decide +kernel
theorem dX7_skipsWhite_70 : decode cX7_skipsWhite 70 = .ok (.ireturn, 1) := by decide +kernel
theorem dX7_openElement_0 : decode cX7_openElement 0 = .ok (.aload_n 0, 1) := by decide +kernel
theorem dX7_openElement_1 : decode cX7_openElement 1 = .ok (.getfield 23, 3) := by decide +kernel
theorem dX7_openElement_4 : decode cX7_openElement 4 = .ok (.istore_n 1, 1) := by decide +kernel
theorem dX7_openElement_5 : decode cX7_openElement 5 = .ok (.aload_n 0, 1) := by decide +kernel
theorem dX7_openElement_6 : decode cX7_openElement 6 = .ok (.bipush 60, 2) := by decide +kernel
theorem dX7_openElement_8 : decode cX7_openElement 8 = .ok (.invokevirtual 64, 3) := by decide +kernel
theorem dX7_openElement_11 : decode cX7_openElement 11 = .ok (.aload_n 0, 1) := by decide +kernel
theorem dX7_openElement_12 : decode cX7_openElement 12 = .ok (.aload_n 0, 1) := by decide +kernel
theorem dX7_openElement_13 : decode cX7_openElement 13 = .ok (.getfield 23, 3) := by decide +kernel
theorem dX7_openElement_16 : decode cX7_openElement 16 = .ok (.invokevirtual 57, 3) := by decide +kernel
theorem dX7_openElement_19 : decode cX7_openElement 19 = .ok (.invokestatic 81, 3) := by decide +kernel
theorem dX7_openElement_22 : decode cX7_openElement 22 = .ok (.ifCond .eq 35, 3) := by decide +kernel
theorem dX7_openElement_25 : decode cX7_openElement 25 = .ok (.aload_n 0, 1) := by decide +kernel
theorem dX7_openElement_26 : decode cX7_openElement 26 = .ok (.getfield 26, 3) := by decide +kernel
theorem dX7_openElement_29 : decode cX7_openElement 29 = .ok (.bipush 6, 2) := by decide +kernel
theorem dX7_openElement_31 : decode cX7_openElement 31 = .ok (.if_icmp .ge 13, 3) := by decide +kernel
theorem dX7_openElement_34 : decode cX7_openElement 34 = .ok (.aload_n 0, 1) := by decide +kernel
theorem dX7_openElement_35 : decode cX7_openElement 35 = .ok (.getfield 9, 3) := by decide +kernel
theorem dX7_openElement_38 : decode cX7_openElement 38 = .ok (.invokevirtual 84, 3) := by decide +kernel
theorem dX7_openElement_41 : decode cX7_openElement 41 = .ok (.ifCond .eq 16, 3) := by decide +kernel
theorem dX7_openElement_44 : decode cX7_openElement 44 = .ok (.aload_n 0, 1) := by decide +kernel
theorem dX7_openElement_45 : decode cX7_openElement 45 = .ok (.iload_n 1, 1) := by decide +kernel
theorem dX7_openElement_46 : decode cX7_openElement 46 = .ok (.putfield 23, 3) := by decide +kernel
theorem dX7_openElement_49 : decode cX7_openElement 49 = .ok (.new 50, 3) := by decide +kernel
theorem dX7_openElement_52 : decode cX7_openElement 52 = .ok (.dup, 1) := by decide +kernel
theorem dX7_openElement_53 : decode cX7_openElement 53 = .ok (.invokespecial 52, 3) := by decide +kernel
theorem dX7_openElement_56 : decode cX7_openElement 56 = .ok (.athrow, 1) := by decide +kernel
theorem dX7_openElement_57 : decode cX7_openElement 57 = .ok (.aload_n 0, 1) := by decide +kernel
theorem dX7_openElement_58 : decode cX7_openElement 58 = .ok (.invokevirtual 87, 3) := by decide +kernel
theorem dX7_openElement_61 : decode cX7_openElement 61 = .ok (.lstore_n 2, 1) := by decide +kernel
theorem dX7_openElement_62 : decode cX7_openElement 62 = .ok (.aload_n 0, 1) := by decide +kernel
theorem dX7_openElement_63 : decode cX7_openElement 63 = .ok (.aload_n 0, 1) := by decide +kernel
theorem dX7_openElement_64 : decode cX7_openElement 64 = .ok (.getfield 9, 3) := by decide +kernel
theorem dX7_openElement_67 : decode cX7_openElement 67 = .ok (.iload_n 1, 1) := by decide +kernel
theorem dX7_openElement_68 : decode cX7_openElement 68 = .ok (.aload_n 0, 1) := by decide +kernel
theorem dX7_openElement_69 : decode cX7_openElement 69 = .ok (.getfield 29, 3) := by decide +kernel
theorem dX7_openElement_72 : decode cX7_openElement 72 = .ok (.invokevirtual 91, 3) := by decide +kernel
theorem dX7_openElement_75 : decode cX7_openElement 75 = .ok (.putfield 29, 3) := by decide +kernel
theorem dX7_openElement_78 : decode cX7_openElement 78 = .ok (.aload_n 0, 1) := by decide +kernel
theorem dX7_openElement_79 : decode cX7_openElement 79 = .ok (.getfield 29, 3) := by decide +kernel
theorem dX7_openElement_82 : decode cX7_openElement 82 = .ok (.lload_n 2, 1) := by decide +kernel
theorem dX7_openElement_83 : decode cX7_openElement 83 = .ok (.invokestatic 95, 3) := by decide +kernel
theorem dX7_openElement_86 : decode cX7_openElement 86 = .ok (.putfield 101, 3) := by decide +kernel
theorem dX7_openElement_89 : decode cX7_openElement 89 = .ok (.aload_n 0, 1) := by decide +kernel
theorem dX7_openElement_90 : decode cX7_openElement 90 = .ok (.dup, 1) := by decide +kernel
theorem dX7_openElement_91 : decode cX7_openElement 91 = .ok (.getfield 26, 3) := by decide +kernel
theorem dX7_openElement_94 : decode cX7_openElement 94 = .ok (.iconst 1, 1) := by decide +kernel
theorem dX7_openElement_95 : decode cX7_openElement 95 = .ok (.iadd, 1) := by decide +kernel
theorem dX7_openElement_96 : decode cX7_openElement 96 = .ok (.putfield 26, 3) := by decide +kernel
theorem dX7_openElement_99 : decode cX7_openElement 99 = .ok (.iconst 0, 1) := by decide +kernel
theorem dX7_openElement_100 : decode cX7_openElement 100 = .ok (.istore 4, 2) := by decide +kernel
theorem dX7_openElement_102 : decode cX7_openElement 102 = .ok (.iload 4, 2) := by decide +kernel
theorem dX7_openElement_104 : decode cX7_openElement 104 = .ok (.bipush 12, 2) := by decide +kernel
theorem dX7_openElement_106 : decode cX7_openElement 106 = .ok (.if_icmp .gt 34, 3) := by decide +kernel
theorem dX7_openElement_109 : decode cX7_openElement 109 = .ok (.aload_n 0, 1) := by decide +kernel
theorem dX7_openElement_110 : decode cX7_openElement 110 = .ok (.invokevirtual 53, 3) := by decide +kernel
theorem dX7_openElement_113 : decode cX7_openElement 113 = .ok (.ifCond .eq 27, 3) := by decide +kernel
theorem dX7_openElement_116 : decode cX7_openElement 116 = .ok (.aload_n 0, 1) := by decide +kernel
theorem dX7_openElement_117 : decode cX7_openElement 117 = .ok (.aload_n 0, 1) := by decide +kernel
theorem dX7_openElement_118 : decode cX7_openElement 118 = .ok (.getfield 23, 3) := by decide +kernel
theorem dX7_openElement_121 : decode cX7_openElement 121 = .ok (.invokevirtual 57, 3) := by decide +kernel
theorem dX7_openElement_124 : decode cX7_openElement 124 = .ok (.invokestatic 81, 3) := by decide +kernel
theorem dX7_openElement_127 : decode cX7_openElement 127 = .ok (.ifCond .eq 13, 3) := by decide +kernel
theorem dX7_openElement_130 : decode cX7_openElement 130 = .ok (.aload_n 0, 1) := by decide +kernel
theorem dX7_openElement_131 : decode cX7_openElement 131 = .ok (.invokevirtual 105, 3) := by decide +kernel
theorem dX7_openElement_134 : decode cX7_openElement 134 = .ok (.iinc 4 1, 3) := by decide +kernel
theorem dX7_openElement_137 : decode cX7_openElement 137 = .ok (.goto (-35), 3) := by decide +kernel
theorem dX7_openElement_140 : decode cX7_openElement 140 = .ok (.aload_n 0, 1) := by decide +kernel
theorem dX7_openElement_141 : decode cX7_openElement 141 = .ok (.aload_n 0, 1) := by decide +kernel
theorem dX7_openElement_142 : decode cX7_openElement 142 = .ok (.getfield 23, 3) := by decide +kernel
theorem dX7_openElement_145 : decode cX7_openElement 145 = .ok (.invokevirtual 57, 3) := by decide +kernel
theorem dX7_openElement_148 : decode cX7_openElement 148 = .ok (.bipush 47, 2) := by decide +kernel
theorem dX7_openElement_150 : decode cX7_openElement 150 = .ok (.if_icmp .ne 7, 3) := by decide +kernel
theorem dX7_openElement_153 : decode cX7_openElement 153 = .ok (.iconst 1, 1) := by decide +kernel
theorem dX7_openElement_154 : decode cX7_openElement 154 = .ok (.goto 4, 3) := by decide +kernel
theorem dX7_openElement_157 : decode cX7_openElement 157 = .ok (.iconst 0, 1) := by decide +kernel
theorem dX7_openElement_158 : decode cX7_openElement 158 = .ok (.istore 4, 2) := by decide +kernel
theorem dX7_openElement_160 : decode cX7_openElement 160 = .ok (.iload 4, 2) := by decide +kernel
theorem dX7_openElement_162 : decode cX7_openElement 162 = .ok (.ifCond .eq 13, 3) := by decide +kernel
theorem dX7_openElement_165 : decode cX7_openElement 165 = .ok (.aload_n 0, 1) := by decide +kernel
theorem dX7_openElement_166 : decode cX7_openElement 166 = .ok (.dup, 1) := by decide +kernel
theorem dX7_openElement_167 : decode cX7_openElement 167 = .ok (.getfield 23, 3) := by decide +kernel
theorem dX7_openElement_170 : decode cX7_openElement 170 = .ok (.iconst 1, 1) := by decide +kernel
theorem dX7_openElement_171 : decode cX7_openElement 171 = .ok (.iadd, 1) := by decide +kernel
theorem dX7_openElement_172 : decode cX7_openElement 172 = .ok (.putfield 23, 3) := by decide +kernel
theorem dX7_openElement_175 : decode cX7_openElement 175 = .ok (.aload_n 0, 1) := by decide +kernel
theorem dX7_openElement_176 : decode cX7_openElement 176 = .ok (.bipush 62, 2) := by decide +kernel
theorem dX7_openElement_178 : decode cX7_openElement 178 = .ok (.invokevirtual 64, 3) := by decide +kernel
theorem dX7_openElement_181 : decode cX7_openElement 181 = .ok (.iload 4, 2) := by decide +kernel
theorem dX7_openElement_183 : decode cX7_openElement 183 = .ok (.ifCond .eq 7, 3) := by decide +kernel
theorem dX7_openElement_186 : decode cX7_openElement 186 = .ok (.aload_n 0, 1) := by decide +kernel
theorem dX7_openElement_187 : decode cX7_openElement 187 = .ok (.invokevirtual 108, 3) := by decide +kernel
theorem dX7_openElement_190 : decode cX7_openElement 190 = .ok (.return_, 1) := by decide +kernel
theorem dX7_expect_0 : decode cX7_expect 0 = .ok (.aload_n 0, 1) := by decide +kernel
theorem dX7_expect_1 : decode cX7_expect 1 = .ok (.getfield 23, 3) := by decide +kernel
theorem dX7_expect_4 : decode cX7_expect 4 = .ok (.aload_n 0, 1) := by decide +kernel
theorem dX7_expect_5 : decode cX7_expect 5 = .ok (.getfield 19, 3) := by decide +kernel
theorem dX7_expect_8 : decode cX7_expect 8 = .ok (.if_icmp .ge 16, 3) := by decide +kernel
theorem dX7_expect_11 : decode cX7_expect 11 = .ok (.aload_n 0, 1) := by decide +kernel
theorem dX7_expect_12 : decode cX7_expect 12 = .ok (.getfield 15, 3) := by decide +kernel
theorem dX7_expect_15 : decode cX7_expect 15 = .ok (.aload_n 0, 1) := by decide +kernel
theorem dX7_expect_16 : decode cX7_expect 16 = .ok (.getfield 23, 3) := by decide +kernel
theorem dX7_expect_19 : decode cX7_expect 19 = .ok (.caload, 1) := by decide +kernel
theorem dX7_expect_20 : decode cX7_expect 20 = .ok (.iload_n 1, 1) := by decide +kernel
theorem dX7_expect_21 : decode cX7_expect 21 = .ok (.if_icmp .eq 11, 3) := by decide +kernel
theorem dX7_expect_24 : decode cX7_expect 24 = .ok (.new 50, 3) := by decide +kernel
theorem dX7_expect_27 : decode cX7_expect 27 = .ok (.dup, 1) := by decide +kernel
theorem dX7_expect_28 : decode cX7_expect 28 = .ok (.invokespecial 52, 3) := by decide +kernel
theorem dX7_expect_31 : decode cX7_expect 31 = .ok (.athrow, 1) := by decide +kernel
theorem dX7_expect_32 : decode cX7_expect 32 = .ok (.aload_n 0, 1) := by decide +kernel
theorem dX7_expect_33 : decode cX7_expect 33 = .ok (.dup, 1) := by decide +kernel
theorem dX7_expect_34 : decode cX7_expect 34 = .ok (.getfield 23, 3) := by decide +kernel
theorem dX7_expect_37 : decode cX7_expect 37 = .ok (.iconst 1, 1) := by decide +kernel
theorem dX7_expect_38 : decode cX7_expect 38 = .ok (.iadd, 1) := by decide +kernel
theorem dX7_expect_39 : decode cX7_expect 39 = .ok (.putfield 23, 3) := by decide +kernel
theorem dX7_expect_42 : decode cX7_expect 42 = .ok (.return_, 1) := by decide +kernel
theorem dX9_init_0 : decode cX9_init 0 = .ok (.aload_n 0, 1) := by decide +kernel
theorem dX9_init_1 : decode cX9_init 1 = .ok (.invokespecial 3, 3) := by decide +kernel
theorem dX9_init_4 : decode cX9_init 4 = .ok (.aload_n 0, 1) := by decide +kernel
theorem dX9_init_5 : decode cX9_init 5 = .ok (.aload_n 1, 1) := by decide +kernel
theorem dX9_init_6 : decode cX9_init 6 = .ok (.putfield 9, 3) := by decide +kernel
theorem dX9_init_9 : decode cX9_init 9 = .ok (.return_, 1) := by decide +kernel
theorem dX1_init_0 : decode cX1_init 0 = .ok (.aload_n 0, 1) := by decide +kernel
theorem dX1_init_1 : decode cX1_init 1 = .ok (.invokespecial 3, 3) := by decide +kernel
theorem dX1_init_4 : decode cX1_init 4 = .ok (.aload_n 0, 1) := by decide +kernel
theorem dX1_init_5 : decode cX1_init 5 = .ok (.iload_n 1, 1) := by decide +kernel
theorem dX1_init_6 : decode cX1_init 6 = .ok (.putfield 9, 3) := by decide +kernel
theorem dX1_init_9 : decode cX1_init 9 = .ok (.aload_n 0, 1) := by decide +kernel
theorem dX1_init_10 : decode cX1_init 10 = .ok (.new 15, 3) := by decide +kernel
theorem dX1_init_13 : decode cX1_init 13 = .ok (.dup, 1) := by decide +kernel
theorem dX1_init_14 : decode cX1_init 14 = .ok (.invokespecial 17, 3) := by decide +kernel
theorem dX1_init_17 : decode cX1_init 17 = .ok (.putfield 18, 3) := by decide +kernel
theorem dX1_init_20 : decode cX1_init 20 = .ok (.aload_n 0, 1) := by decide +kernel
theorem dX1_init_21 : decode cX1_init 21 = .ok (.new 15, 3) := by decide +kernel
theorem dX1_init_24 : decode cX1_init 24 = .ok (.dup, 1) := by decide +kernel
theorem dX1_init_25 : decode cX1_init 25 = .ok (.invokespecial 17, 3) := by decide +kernel
theorem dX1_init_28 : decode cX1_init 28 = .ok (.putfield 22, 3) := by decide +kernel
theorem dX1_init_31 : decode cX1_init 31 = .ok (.aload_n 0, 1) := by decide +kernel
theorem dX1_init_32 : decode cX1_init 32 = .ok (.new 15, 3) := by decide +kernel
theorem dX1_init_35 : decode cX1_init 35 = .ok (.dup, 1) := by decide +kernel
theorem dX1_init_36 : decode cX1_init 36 = .ok (.invokespecial 17, 3) := by decide +kernel
theorem dX1_init_39 : decode cX1_init 39 = .ok (.putfield 25, 3) := by decide +kernel
theorem dX1_init_42 : decode cX1_init 42 = .ok (.return_, 1) := by decide +kernel
theorem dX10_init_0 : decode cX10_init 0 = .ok (.aload_n 0, 1) := by decide +kernel
theorem dX10_init_1 : decode cX10_init 1 = .ok (.invokespecial 3, 3) := by decide +kernel
theorem dX10_init_4 : decode cX10_init 4 = .ok (.aload_n 0, 1) := by decide +kernel
theorem dX10_init_5 : decode cX10_init 5 = .ok (.aload_n 1, 1) := by decide +kernel
theorem dX10_init_6 : decode cX10_init 6 = .ok (.putfield 9, 3) := by decide +kernel
theorem dX10_init_9 : decode cX10_init 9 = .ok (.aload_n 0, 1) := by decide +kernel
theorem dX10_init_10 : decode cX10_init 10 = .ok (.bipush 80, 2) := by decide +kernel
theorem dX10_init_12 : decode cX10_init 12 = .ok (.anewarray 17, 3) := by decide +kernel
theorem dX10_init_15 : decode cX10_init 15 = .ok (.putfield 19, 3) := by decide +kernel
theorem dX10_init_18 : decode cX10_init 18 = .ok (.iconst 0, 1) := by decide +kernel
theorem dX10_init_19 : decode cX10_init 19 = .ok (.istore_n 2, 1) := by decide +kernel
theorem dX10_init_20 : decode cX10_init 20 = .ok (.iload_n 2, 1) := by decide +kernel
theorem dX10_init_21 : decode cX10_init 21 = .ok (.aload_n 0, 1) := by decide +kernel
theorem dX10_init_22 : decode cX10_init 22 = .ok (.getfield 19, 3) := by decide +kernel
theorem dX10_init_25 : decode cX10_init 25 = .ok (.arraylength, 1) := by decide +kernel
theorem dX10_init_26 : decode cX10_init 26 = .ok (.if_icmp .ge 23, 3) := by decide +kernel
theorem dX10_init_29 : decode cX10_init 29 = .ok (.aload_n 0, 1) := by decide +kernel
theorem dX10_init_30 : decode cX10_init 30 = .ok (.getfield 19, 3) := by decide +kernel
theorem dX10_init_33 : decode cX10_init 33 = .ok (.iload_n 2, 1) := by decide +kernel
theorem dX10_init_34 : decode cX10_init 34 = .ok (.new 17, 3) := by decide +kernel
theorem dX10_init_37 : decode cX10_init 37 = .ok (.dup, 1) := by decide +kernel
theorem dX10_init_38 : decode cX10_init 38 = .ok (.iload_n 2, 1) := by decide +kernel
theorem dX10_init_39 : decode cX10_init 39 = .ok (.invokespecial 23, 3) := by decide +kernel
theorem dX10_init_42 : decode cX10_init 42 = .ok (.aastore, 1) := by decide +kernel
theorem dX10_init_43 : decode cX10_init 43 = .ok (.iinc 2 1, 3) := by decide +kernel
theorem dX10_init_46 : decode cX10_init 46 = .ok (.goto (-26), 3) := by decide +kernel
theorem dX10_init_49 : decode cX10_init 49 = .ok (.aload_n 0, 1) := by decide +kernel
theorem dX10_init_50 : decode cX10_init 50 = .ok (.bipush 80, 2) := by decide +kernel
theorem dX10_init_52 : decode cX10_init 52 = .ok (.anewarray 17, 3) := by decide +kernel
theorem dX10_init_55 : decode cX10_init 55 = .ok (.putfield 26, 3) := by decide +kernel
theorem dX10_init_58 : decode cX10_init 58 = .ok (.return_, 1) := by decide +kernel
theorem dX10_count_0 : decode cX10_count 0 = .ok (.aload_n 0, 1) := by decide +kernel
theorem dX10_count_1 : decode cX10_count 1 = .ok (.getfield 29, 3) := by decide +kernel
theorem dX10_count_4 : decode cX10_count 4 = .ok (.ireturn, 1) := by decide +kernel
theorem dX10_forgetBeans_0 : decode cX10_forgetBeans 0 = .ok (.aload_n 0, 1) := by decide +kernel
theorem dX10_forgetBeans_1 : decode cX10_forgetBeans 1 = .ok (.iconst 0, 1) := by decide +kernel
theorem dX10_forgetBeans_2 : decode cX10_forgetBeans 2 = .ok (.putfield 29, 3) := by decide +kernel
theorem dX10_forgetBeans_5 : decode cX10_forgetBeans 5 = .ok (.return_, 1) := by decide +kernel
theorem dX4_init_0 : decode cX4_init 0 = .ok (.aload_n 0, 1) := by decide +kernel
theorem dX4_init_1 : decode cX4_init 1 = .ok (.invokespecial 3, 3) := by decide +kernel
theorem dX4_init_4 : decode cX4_init 4 = .ok (.aload_n 0, 1) := by decide +kernel
theorem dX4_init_5 : decode cX4_init 5 = .ok (.sipush 1600, 3) := by decide +kernel
theorem dX4_init_8 : decode cX4_init 8 = .ok (.newarray .int, 2) := by decide +kernel
theorem dX4_init_10 : decode cX4_init 10 = .ok (.putfield 11, 3) := by decide +kernel
theorem dX4_init_13 : decode cX4_init 13 = .ok (.return_, 1) := by decide +kernel
theorem dX4_clear_0 : decode cX4_clear 0 = .ok (.aload_n 0, 1) := by decide +kernel
theorem dX4_clear_1 : decode cX4_clear 1 = .ok (.iconst 0, 1) := by decide +kernel
theorem dX4_clear_2 : decode cX4_clear 2 = .ok (.putfield 15, 3) := by decide +kernel
theorem dX4_clear_5 : decode cX4_clear 5 = .ok (.return_, 1) := by decide +kernel
theorem dX4_count_0 : decode cX4_count 0 = .ok (.aload_n 0, 1) := by decide +kernel
theorem dX4_count_1 : decode cX4_count 1 = .ok (.getfield 15, 3) := by decide +kernel
theorem dX4_count_4 : decode cX4_count 4 = .ok (.ireturn, 1) := by decide +kernel
theorem dX4_number_0 : decode cX4_number 0 = .ok (.iload_n 1, 1) := by decide +kernel
theorem dX4_number_1 : decode cX4_number 1 = .ok (.ifCond .lt 33, 3) := by decide +kernel
theorem dX4_number_4 : decode cX4_number 4 = .ok (.iload_n 1, 1) := by decide +kernel
theorem dX4_number_5 : decode cX4_number 5 = .ok (.aload_n 0, 1) := by decide +kernel
theorem dX4_number_6 : decode cX4_number 6 = .ok (.getfield 15, 3) := by decide +kernel
theorem dX4_number_9 : decode cX4_number 9 = .ok (.if_icmp .ge 25, 3) := by decide +kernel
theorem dX4_number_12 : decode cX4_number 12 = .ok (.iload_n 2, 1) := by decide +kernel
theorem dX4_number_13 : decode cX4_number 13 = .ok (.ifCond .lt 21, 3) := by decide +kernel
theorem dX4_number_16 : decode cX4_number 16 = .ok (.iload_n 2, 1) := by decide +kernel
theorem dX4_number_17 : decode cX4_number 17 = .ok (.iconst 4, 1) := by decide +kernel
theorem dX4_number_18 : decode cX4_number 18 = .ok (.if_icmp .ge 16, 3) := by decide +kernel
theorem dX4_number_21 : decode cX4_number 21 = .ok (.aload_n 0, 1) := by decide +kernel
theorem dX4_number_22 : decode cX4_number 22 = .ok (.getfield 11, 3) := by decide +kernel
theorem dX4_number_25 : decode cX4_number 25 = .ok (.iload_n 1, 1) := by decide +kernel
theorem dX4_number_26 : decode cX4_number 26 = .ok (.iconst 4, 1) := by decide +kernel
theorem dX4_number_27 : decode cX4_number 27 = .ok (.imul, 1) := by decide +kernel
theorem dX4_number_28 : decode cX4_number 28 = .ok (.iload_n 2, 1) := by decide +kernel
theorem dX4_number_29 : decode cX4_number 29 = .ok (.iadd, 1) := by decide +kernel
theorem dX4_number_30 : decode cX4_number 30 = .ok (.iaload, 1) := by decide +kernel
theorem dX4_number_31 : decode cX4_number 31 = .ok (.goto 4, 3) := by decide +kernel
theorem dX4_number_34 : decode cX4_number 34 = .ok (.iconst (-1), 1) := by decide +kernel
theorem dX4_number_35 : decode cX4_number 35 = .ok (.ireturn, 1) := by decide +kernel
theorem dX5_init_0 : decode cX5_init 0 = .ok (.aload_n 0, 1) := by decide +kernel
theorem dX5_init_1 : decode cX5_init 1 = .ok (.invokespecial 7, 3) := by decide +kernel
theorem dX5_init_4 : decode cX5_init 4 = .ok (.aload_n 0, 1) := by decide +kernel
theorem dX5_init_5 : decode cX5_init 5 = .ok (.aload_n 1, 1) := by decide +kernel
theorem dX5_init_6 : decode cX5_init 6 = .ok (.putfield 13, 3) := by decide +kernel
theorem dX5_init_9 : decode cX5_init 9 = .ok (.aload_n 0, 1) := by decide +kernel
theorem dX5_init_10 : decode cX5_init 10 = .ok (.aload_n 2, 1) := by decide +kernel
theorem dX5_init_11 : decode cX5_init 11 = .ok (.putfield 17, 3) := by decide +kernel
theorem dX5_init_14 : decode cX5_init 14 = .ok (.aload_n 0, 1) := by decide +kernel
theorem dX5_init_15 : decode cX5_init 15 = .ok (.aload_n 3, 1) := by decide +kernel
theorem dX5_init_16 : decode cX5_init 16 = .ok (.putfield 21, 3) := by decide +kernel
theorem dX5_init_19 : decode cX5_init 19 = .ok (.aload_n 0, 1) := by decide +kernel
theorem dX5_init_20 : decode cX5_init 20 = .ok (.bipush 60, 2) := by decide +kernel
theorem dX5_init_22 : decode cX5_init 22 = .ok (.newarray .int, 2) := by decide +kernel
theorem dX5_init_24 : decode cX5_init 24 = .ok (.putfield 25, 3) := by decide +kernel
theorem dX5_init_27 : decode cX5_init 27 = .ok (.aload_n 0, 1) := by decide +kernel
theorem dX5_init_28 : decode cX5_init 28 = .ok (.bipush 60, 2) := by decide +kernel
theorem dX5_init_30 : decode cX5_init 30 = .ok (.newarray .int, 2) := by decide +kernel
theorem dX5_init_32 : decode cX5_init 32 = .ok (.putfield 29, 3) := by decide +kernel
theorem dX5_init_35 : decode cX5_init 35 = .ok (.aload_n 0, 1) := by decide +kernel
theorem dX5_init_36 : decode cX5_init 36 = .ok (.bipush 80, 2) := by decide +kernel
theorem dX5_init_38 : decode cX5_init 38 = .ok (.anewarray 34, 3) := by decide +kernel
theorem dX5_init_41 : decode cX5_init 41 = .ok (.putfield 36, 3) := by decide +kernel
theorem dX5_init_44 : decode cX5_init 44 = .ok (.aload_n 0, 1) := by decide +kernel
theorem dX5_init_45 : decode cX5_init 45 = .ok (.sipush 960, 3) := by decide +kernel
theorem dX5_init_48 : decode cX5_init 48 = .ok (.newarray .int, 2) := by decide +kernel
theorem dX5_init_50 : decode cX5_init 50 = .ok (.putfield 40, 3) := by decide +kernel
theorem dX5_init_53 : decode cX5_init 53 = .ok (.aload_n 0, 1) := by decide +kernel
theorem dX5_init_54 : decode cX5_init 54 = .ok (.iconst 3, 1) := by decide +kernel
theorem dX5_init_55 : decode cX5_init 55 = .ok (.newarray .int, 2) := by decide +kernel
theorem dX5_init_57 : decode cX5_init 57 = .ok (.putfield 43, 3) := by decide +kernel
theorem dX5_init_60 : decode cX5_init 60 = .ok (.aload_n 0, 1) := by decide +kernel
theorem dX5_init_61 : decode cX5_init 61 = .ok (.iconst (-1), 1) := by decide +kernel
theorem dX5_init_62 : decode cX5_init 62 = .ok (.putfield 46, 3) := by decide +kernel
theorem dX5_init_65 : decode cX5_init 65 = .ok (.return_, 1) := by decide +kernel
theorem dX5_startAfresh_0 : decode cX5_startAfresh 0 = .ok (.aload_n 0, 1) := by decide +kernel
theorem dX5_startAfresh_1 : decode cX5_startAfresh 1 = .ok (.iconst 0, 1) := by decide +kernel
theorem dX5_startAfresh_2 : decode cX5_startAfresh 2 = .ok (.putfield 50, 3) := by decide +kernel
theorem dX5_startAfresh_5 : decode cX5_startAfresh 5 = .ok (.aload_n 0, 1) := by decide +kernel
theorem dX5_startAfresh_6 : decode cX5_startAfresh 6 = .ok (.invokevirtual 53, 3) := by decide +kernel
theorem dX5_startAfresh_9 : decode cX5_startAfresh 9 = .ok (.aload_n 0, 1) := by decide +kernel
theorem dX5_startAfresh_10 : decode cX5_startAfresh 10 = .ok (.getfield 21, 3) := by decide +kernel
theorem dX5_startAfresh_13 : decode cX5_startAfresh 13 = .ok (.invokevirtual 56, 3) := by decide +kernel
theorem dX5_startAfresh_16 : decode cX5_startAfresh 16 = .ok (.return_, 1) := by decide +kernel
theorem dX5_forgetMade_0 : decode cX5_forgetMade 0 = .ok (.iconst 0, 1) := by decide +kernel
theorem dX5_forgetMade_1 : decode cX5_forgetMade 1 = .ok (.istore_n 1, 1) := by decide +kernel
theorem dX5_forgetMade_2 : decode cX5_forgetMade 2 = .ok (.iload_n 1, 1) := by decide +kernel
theorem dX5_forgetMade_3 : decode cX5_forgetMade 3 = .ok (.aload_n 0, 1) := by decide +kernel
theorem dX5_forgetMade_4 : decode cX5_forgetMade 4 = .ok (.getfield 13, 3) := by decide +kernel
theorem dX5_forgetMade_7 : decode cX5_forgetMade 7 = .ok (.invokevirtual 78, 3) := by decide +kernel
theorem dX5_forgetMade_10 : decode cX5_forgetMade 10 = .ok (.if_icmp .ge 21, 3) := by decide +kernel
theorem dX5_forgetMade_13 : decode cX5_forgetMade 13 = .ok (.aload_n 0, 1) := by decide +kernel
theorem dX5_forgetMade_14 : decode cX5_forgetMade 14 = .ok (.getfield 13, 3) := by decide +kernel
theorem dX5_forgetMade_17 : decode cX5_forgetMade 17 = .ok (.iload_n 1, 1) := by decide +kernel
theorem dX5_forgetMade_18 : decode cX5_forgetMade 18 = .ok (.invokevirtual 68, 3) := by decide +kernel
theorem dX5_forgetMade_21 : decode cX5_forgetMade 21 = .ok (.iconst 0, 1) := by decide +kernel
theorem dX5_forgetMade_22 : decode cX5_forgetMade 22 = .ok (.putfield 82, 3) := by decide +kernel
theorem dX5_forgetMade_25 : decode cX5_forgetMade 25 = .ok (.iinc 1 1, 3) := by decide +kernel
theorem dX5_forgetMade_28 : decode cX5_forgetMade 28 = .ok (.goto (-26), 3) := by decide +kernel
theorem dX5_forgetMade_31 : decode cX5_forgetMade 31 = .ok (.aload_n 0, 1) := by decide +kernel
theorem dX5_forgetMade_32 : decode cX5_forgetMade 32 = .ok (.iconst 0, 1) := by decide +kernel
theorem dX5_forgetMade_33 : decode cX5_forgetMade 33 = .ok (.putfield 86, 3) := by decide +kernel
theorem dX5_forgetMade_36 : decode cX5_forgetMade 36 = .ok (.return_, 1) := by decide +kernel
theorem dX5_forgetFailure_0 : decode cX5_forgetFailure 0 = .ok (.aload_n 0, 1) := by decide +kernel
theorem dX5_forgetFailure_1 : decode cX5_forgetFailure 1 = .ok (.iconst 0, 1) := by decide +kernel
theorem dX5_forgetFailure_2 : decode cX5_forgetFailure 2 = .ok (.putfield 61, 3) := by decide +kernel
theorem dX5_forgetFailure_5 : decode cX5_forgetFailure 5 = .ok (.aload_n 0, 1) := by decide +kernel
theorem dX5_forgetFailure_6 : decode cX5_forgetFailure 6 = .ok (.iconst (-1), 1) := by decide +kernel
theorem dX5_forgetFailure_7 : decode cX5_forgetFailure 7 = .ok (.putfield 46, 3) := by decide +kernel
theorem dX5_forgetFailure_10 : decode cX5_forgetFailure 10 = .ok (.return_, 1) := by decide +kernel
theorem dX5_failure_0 : decode cX5_failure 0 = .ok (.aload_n 0, 1) := by decide +kernel
theorem dX5_failure_1 : decode cX5_failure 1 = .ok (.getfield 61, 3) := by decide +kernel
theorem dX5_failure_4 : decode cX5_failure 4 = .ok (.ireturn, 1) := by decide +kernel
theorem dX5_failureBean_0 : decode cX5_failureBean 0 = .ok (.aload_n 0, 1) := by decide +kernel
theorem dX5_failureBean_1 : decode cX5_failureBean 1 = .ok (.getfield 46, 3) := by decide +kernel
theorem dX5_failureBean_4 : decode cX5_failureBean 4 = .ok (.ireturn, 1) := by decide +kernel
theorem dX5_destroyAll_0 : decode cX5_destroyAll 0 = .ok (.aload_n 0, 1) := by decide +kernel
theorem dX5_destroyAll_1 : decode cX5_destroyAll 1 = .ok (.getfield 86, 3) := by decide +kernel
theorem dX5_destroyAll_4 : decode cX5_destroyAll 4 = .ok (.iconst 1, 1) := by decide +kernel
theorem dX5_destroyAll_5 : decode cX5_destroyAll 5 = .ok (.isub, 1) := by decide +kernel
theorem dX5_destroyAll_6 : decode cX5_destroyAll 6 = .ok (.istore_n 1, 1) := by decide +kernel
theorem dX5_destroyAll_7 : decode cX5_destroyAll 7 = .ok (.iload_n 1, 1) := by decide +kernel
theorem dX5_destroyAll_8 : decode cX5_destroyAll 8 = .ok (.ifCond .lt 50, 3) := by decide +kernel
theorem dX5_destroyAll_11 : decode cX5_destroyAll 11 = .ok (.aload_n 0, 1) := by decide +kernel
theorem dX5_destroyAll_12 : decode cX5_destroyAll 12 = .ok (.getfield 36, 3) := by decide +kernel
theorem dX5_destroyAll_15 : decode cX5_destroyAll 15 = .ok (.iload_n 1, 1) := by decide +kernel
theorem dX5_destroyAll_16 : decode cX5_destroyAll 16 = .ok (.aaload, 1) := by decide +kernel
theorem dX5_destroyAll_17 : decode cX5_destroyAll 17 = .ok (.getfield 89, 3) := by decide +kernel
theorem dX5_destroyAll_20 : decode cX5_destroyAll 20 = .ok (.iconst (-1), 1) := by decide +kernel
theorem dX5_destroyAll_21 : decode cX5_destroyAll 21 = .ok (.if_icmp .eq 31, 3) := by decide +kernel
theorem dX5_destroyAll_24 : decode cX5_destroyAll 24 = .ok (.aload_n 0, 1) := by decide +kernel
theorem dX5_destroyAll_25 : decode cX5_destroyAll 25 = .ok (.getfield 21, 3) := by decide +kernel
theorem dX5_destroyAll_28 : decode cX5_destroyAll 28 = .ok (.bipush 7, 2) := by decide +kernel
theorem dX5_destroyAll_30 : decode cX5_destroyAll 30 = .ok (.aload_n 0, 1) := by decide +kernel
theorem dX5_destroyAll_31 : decode cX5_destroyAll 31 = .ok (.getfield 36, 3) := by decide +kernel
theorem dX5_destroyAll_34 : decode cX5_destroyAll 34 = .ok (.iload_n 1, 1) := by decide +kernel
theorem dX5_destroyAll_35 : decode cX5_destroyAll 35 = .ok (.aaload, 1) := by decide +kernel
theorem dX5_destroyAll_36 : decode cX5_destroyAll 36 = .ok (.getfield 92, 3) := by decide +kernel
theorem dX5_destroyAll_39 : decode cX5_destroyAll 39 = .ok (.aload_n 0, 1) := by decide +kernel
theorem dX5_destroyAll_40 : decode cX5_destroyAll 40 = .ok (.getfield 36, 3) := by decide +kernel
theorem dX5_destroyAll_43 : decode cX5_destroyAll 43 = .ok (.iload_n 1, 1) := by decide +kernel
theorem dX5_destroyAll_44 : decode cX5_destroyAll 44 = .ok (.aaload, 1) := by decide +kernel
theorem dX5_destroyAll_45 : decode cX5_destroyAll 45 = .ok (.getfield 89, 3) := by decide +kernel
theorem dX5_destroyAll_48 : decode cX5_destroyAll 48 = .ok (.iconst 0, 1) := by decide +kernel
theorem dX5_destroyAll_49 : decode cX5_destroyAll 49 = .ok (.invokevirtual 95, 3) := by decide +kernel
theorem dX5_destroyAll_52 : decode cX5_destroyAll 52 = .ok (.iinc 1 (-1), 3) := by decide +kernel
theorem dX5_destroyAll_55 : decode cX5_destroyAll 55 = .ok (.goto (-48), 3) := by decide +kernel
theorem dX5_destroyAll_58 : decode cX5_destroyAll 58 = .ok (.aload_n 0, 1) := by decide +kernel
theorem dX5_destroyAll_59 : decode cX5_destroyAll 59 = .ok (.invokevirtual 53, 3) := by decide +kernel
theorem dX5_destroyAll_62 : decode cX5_destroyAll 62 = .ok (.return_, 1) := by decide +kernel
theorem dX5_classOfObject_0 : decode cX5_classOfObject 0 = .ok (.aload_n 0, 1) := by decide +kernel
theorem dX5_classOfObject_1 : decode cX5_classOfObject 1 = .ok (.iload_n 1, 1) := by decide +kernel
theorem dX5_classOfObject_2 : decode cX5_classOfObject 2 = .ok (.invokevirtual 64, 3) := by decide +kernel
theorem dX5_classOfObject_5 : decode cX5_classOfObject 5 = .ok (.ifCond .eq 12, 3) := by decide +kernel
theorem dX5_classOfObject_8 : decode cX5_classOfObject 8 = .ok (.aload_n 0, 1) := by decide +kernel
theorem dX5_classOfObject_9 : decode cX5_classOfObject 9 = .ok (.getfield 25, 3) := by decide +kernel
theorem dX5_classOfObject_12 : decode cX5_classOfObject 12 = .ok (.iload_n 1, 1) := by decide +kernel
theorem dX5_classOfObject_13 : decode cX5_classOfObject 13 = .ok (.iaload, 1) := by decide +kernel
theorem dX5_classOfObject_14 : decode cX5_classOfObject 14 = .ok (.goto 4, 3) := by decide +kernel
theorem dX5_classOfObject_17 : decode cX5_classOfObject 17 = .ok (.iconst (-1), 1) := by decide +kernel
theorem dX5_classOfObject_18 : decode cX5_classOfObject 18 = .ok (.ireturn, 1) := by decide +kernel
theorem dX5_beanOfObject_0 : decode cX5_beanOfObject 0 = .ok (.aload_n 0, 1) := by decide +kernel
theorem dX5_beanOfObject_1 : decode cX5_beanOfObject 1 = .ok (.iload_n 1, 1) := by decide +kernel
theorem dX5_beanOfObject_2 : decode cX5_beanOfObject 2 = .ok (.invokevirtual 64, 3) := by decide +kernel
theorem dX5_beanOfObject_5 : decode cX5_beanOfObject 5 = .ok (.ifCond .eq 12, 3) := by decide +kernel
theorem dX5_beanOfObject_8 : decode cX5_beanOfObject 8 = .ok (.aload_n 0, 1) := by decide +kernel
theorem dX5_beanOfObject_9 : decode cX5_beanOfObject 9 = .ok (.getfield 29, 3) := by decide +kernel
theorem dX5_beanOfObject_12 : decode cX5_beanOfObject 12 = .ok (.iload_n 1, 1) := by decide +kernel
theorem dX5_beanOfObject_13 : decode cX5_beanOfObject 13 = .ok (.iaload, 1) := by decide +kernel
theorem dX5_beanOfObject_14 : decode cX5_beanOfObject 14 = .ok (.goto 4, 3) := by decide +kernel
theorem dX5_beanOfObject_17 : decode cX5_beanOfObject 17 = .ok (.iconst (-1), 1) := by decide +kernel
theorem dX5_beanOfObject_18 : decode cX5_beanOfObject 18 = .ok (.ireturn, 1) := by decide +kernel
theorem dX5_isObject_0 : decode cX5_isObject 0 = .ok (.iload_n 1, 1) := by decide +kernel
theorem dX5_isObject_1 : decode cX5_isObject 1 = .ok (.ifCond .lt 15, 3) := by decide +kernel
theorem dX5_isObject_4 : decode cX5_isObject 4 = .ok (.iload_n 1, 1) := by decide +kernel
theorem dX5_isObject_5 : decode cX5_isObject 5 = .ok (.aload_n 0, 1) := by decide +kernel
theorem dX5_isObject_6 : decode cX5_isObject 6 = .ok (.getfield 50, 3) := by decide +kernel
theorem dX5_isObject_9 : decode cX5_isObject 9 = .ok (.if_icmp .ge 7, 3) := by decide +kernel
theorem dX5_isObject_12 : decode cX5_isObject 12 = .ok (.iconst 1, 1) := by decide +kernel
theorem dX5_isObject_13 : decode cX5_isObject 13 = .ok (.goto 4, 3) := by decide +kernel
theorem dX5_isObject_16 : decode cX5_isObject 16 = .ok (.iconst 0, 1) := by decide +kernel
theorem dX5_isObject_17 : decode cX5_isObject 17 = .ok (.ireturn, 1) := by decide +kernel
theorem dJx4a65c_init_da8c8_0 : decode cJx4a65c_init_da8c8 0 = .ok (.aload_n 0, 1) := by decide +kernel
theorem dJx4a65c_init_da8c8_1 : decode cJx4a65c_init_da8c8 1 = .ok (.invokespecial 1, 3) := by decide +kernel
theorem dJx4a65c_init_da8c8_4 : decode cJx4a65c_init_da8c8 4 = .ok (.aload_n 0, 1) := by decide +kernel
theorem dJx4a65c_init_da8c8_5 : decode cJx4a65c_init_da8c8 5 = .ok (.getstatic 39, 3) := by decide +kernel
theorem dJx4a65c_init_da8c8_8 : decode cJx4a65c_init_da8c8 8 = .ok (.putfield 9, 3) := by decide +kernel
theorem dJx4a65c_init_da8c8_11 : decode cJx4a65c_init_da8c8 11 = .ok (.return_, 1) := by decide +kernel
theorem dJxc12de_init_da8c8_0 : decode cJxc12de_init_da8c8 0 = .ok (.aload_n 0, 1) := by decide +kernel
theorem dJxc12de_init_da8c8_1 : decode cJxc12de_init_da8c8 1 = .ok (.invokespecial 1, 3) := by decide +kernel
theorem dJxc12de_init_da8c8_4 : decode cJxc12de_init_da8c8 4 = .ok (.aload_n 0, 1) := by decide +kernel
theorem dJxc12de_init_da8c8_5 : decode cJxc12de_init_da8c8 5 = .ok (.iconst 0, 1) := by decide +kernel
theorem dJxc12de_init_da8c8_6 : decode cJxc12de_init_da8c8 6 = .ok (.putfield 7, 3) := by decide +kernel
theorem dJxc12de_init_da8c8_9 : decode cJxc12de_init_da8c8 9 = .ok (.return_, 1) := by decide +kernel
theorem dJxa1e45_init_da8c8_0 : decode cJxa1e45_init_da8c8 0 = .ok (.aload_n 0, 1) := by decide +kernel
theorem dJxa1e45_init_da8c8_1 : decode cJxa1e45_init_da8c8 1 = .ok (.invokespecial 1, 3) := by decide +kernel
theorem dJxa1e45_init_da8c8_4 : decode cJxa1e45_init_da8c8 4 = .ok (.return_, 1) := by decide +kernel
