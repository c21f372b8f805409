theorem dX5_init_0 : decode cX5_init 0 = .ok (.aload_n 0, 1) := by decide +kernel
theorem dX5_init_1 : decode cX5_init 1 = .ok (.invokespecial 3, 3) := by decide +kernel
theorem dX5_init_4 : decode cX5_init 4 = .ok (.aload_n 0, 1) := by decide +kernel
theorem dX5_init_5 : decode cX5_init 5 = .ok (.new 9, 3) := by decide +kernel
theorem dX5_init_8 : decode cX5_init 8 = .ok (.dup, 1) := by decide +kernel
theorem dX5_init_9 : decode cX5_init 9 = .ok (.bipush 24, 2) := by decide +kernel
theorem dX5_init_11 : decode cX5_init 11 = .ok (.invokespecial 11, 3) := by decide +kernel
theorem dX5_init_14 : decode cX5_init 14 = .ok (.putfield 14, 3) := by decide +kernel
theorem dX5_init_17 : decode cX5_init 17 = .ok (.aload_n 0, 1) := by decide +kernel
theorem dX5_init_18 : decode cX5_init 18 = .ok (.new 9, 3) := by decide +kernel
theorem dX5_init_21 : decode cX5_init 21 = .ok (.dup, 1) := by decide +kernel
theorem dX5_init_22 : decode cX5_init 22 = .ok (.bipush 12, 2) := by decide +kernel
theorem dX5_init_24 : decode cX5_init 24 = .ok (.invokespecial 11, 3) := by decide +kernel
theorem dX5_init_27 : decode cX5_init 27 = .ok (.putfield 20, 3) := by decide +kernel
theorem dX5_init_30 : decode cX5_init 30 = .ok (.aload_n 0, 1) := by decide +kernel
theorem dX5_init_31 : decode cX5_init 31 = .ok (.new 9, 3) := by decide +kernel
theorem dX5_init_34 : decode cX5_init 34 = .ok (.dup, 1) := by decide +kernel
theorem dX5_init_35 : decode cX5_init 35 = .ok (.bipush 8, 2) := by decide +kernel
theorem dX5_init_37 : decode cX5_init 37 = .ok (.invokespecial 11, 3) := by decide +kernel
theorem dX5_init_40 : decode cX5_init 40 = .ok (.putfield 23, 3) := by decide +kernel
theorem dX5_init_43 : decode cX5_init 43 = .ok (.aload_n 0, 1) := by decide +kernel
theorem dX5_init_44 : decode cX5_init 44 = .ok (.new 9, 3) := by decide +kernel
theorem dX5_init_47 : decode cX5_init 47 = .ok (.dup, 1) := by decide +kernel
theorem dX5_init_48 : decode cX5_init 48 = .ok (.bipush 30, 2) := by decide +kernel
theorem dX5_init_50 : decode cX5_init 50 = .ok (.invokespecial 11, 3) := by decide +kernel
theorem dX5_init_53 : decode cX5_init 53 = .ok (.putfield 26, 3) := by decide +kernel
theorem dX5_init_56 : decode cX5_init 56 = .ok (.aload_n 0, 1) := by decide +kernel
theorem dX5_init_57 : decode cX5_init 57 = .ok (.getfield 20, 3) := by decide +kernel
theorem dX5_init_60 : decode cX5_init 60 = .ok (.invokevirtual 29, 3) := by decide +kernel
theorem dX5_init_63 : decode cX5_init 63 = .ok (.return_, 1) := by decide +kernel
theorem dX5_clear_0 : decode cX5_clear 0 = .ok (.aload_n 0, 1) := by decide +kernel
theorem dX5_clear_1 : decode cX5_clear 1 = .ok (.getfield 14, 3) := by decide +kernel
theorem dX5_clear_4 : decode cX5_clear 4 = .ok (.iconst 0, 1) := by decide +kernel
theorem dX5_clear_5 : decode cX5_clear 5 = .ok (.invokevirtual 32, 3) := by decide +kernel
theorem dX5_clear_8 : decode cX5_clear 8 = .ok (.aload_n 0, 1) := by decide +kernel
theorem dX5_clear_9 : decode cX5_clear 9 = .ok (.getfield 20, 3) := by decide +kernel
theorem dX5_clear_12 : decode cX5_clear 12 = .ok (.invokevirtual 29, 3) := by decide +kernel
theorem dX5_clear_15 : decode cX5_clear 15 = .ok (.aload_n 0, 1) := by decide +kernel
theorem dX5_clear_16 : decode cX5_clear 16 = .ok (.getfield 23, 3) := by decide +kernel
theorem dX5_clear_19 : decode cX5_clear 19 = .ok (.iconst 0, 1) := by decide +kernel
theorem dX5_clear_20 : decode cX5_clear 20 = .ok (.invokevirtual 32, 3) := by decide +kernel
theorem dX5_clear_23 : decode cX5_clear 23 = .ok (.aload_n 0, 1) := by decide +kernel
theorem dX5_clear_24 : decode cX5_clear 24 = .ok (.getfield 26, 3) := by decide +kernel
theorem dX5_clear_27 : decode cX5_clear 27 = .ok (.iconst 0, 1) := by decide +kernel
theorem dX5_clear_28 : decode cX5_clear 28 = .ok (.invokevirtual 32, 3) := by decide +kernel
theorem dX5_clear_31 : decode cX5_clear 31 = .ok (.aload_n 0, 1) := by decide +kernel
theorem dX5_clear_32 : decode cX5_clear 32 = .ok (.iconst 0, 1) := by decide +kernel
theorem dX5_clear_33 : decode cX5_clear 33 = .ok (.putfield 35, 3) := by decide +kernel
theorem dX5_clear_36 : decode cX5_clear 36 = .ok (.aload_n 0, 1) := by decide +kernel
theorem dX5_clear_37 : decode cX5_clear 37 = .ok (.iconst 0, 1) := by decide +kernel
theorem dX5_clear_38 : decode cX5_clear 38 = .ok (.putfield 39, 3) := by decide +kernel
theorem dX5_clear_41 : decode cX5_clear 41 = .ok (.aload_n 0, 1) := by decide +kernel
theorem dX5_clear_42 : decode cX5_clear 42 = .ok (.iconst 0, 1) := by decide +kernel
theorem dX5_clear_43 : decode cX5_clear 43 = .ok (.putfield 42, 3) := by decide +kernel
theorem dX5_clear_46 : decode cX5_clear 46 = .ok (.aload_n 0, 1) := by decide +kernel
theorem dX5_clear_47 : decode cX5_clear 47 = .ok (.iconst 0, 1) := by decide +kernel
theorem dX5_clear_48 : decode cX5_clear 48 = .ok (.putfield 45, 3) := by decide +kernel
theorem dX5_clear_51 : decode cX5_clear 51 = .ok (.return_, 1) := by decide +kernel
theorem dX5_copyFrom_0 : decode cX5_copyFrom 0 = .ok (.aload_n 0, 1) := by decide +kernel
theorem dX5_copyFrom_1 : decode cX5_copyFrom 1 = .ok (.getfield 14, 3) := by decide +kernel
theorem dX5_copyFrom_4 : decode cX5_copyFrom 4 = .ok (.aload_n 1, 1) := by decide +kernel
theorem dX5_copyFrom_5 : decode cX5_copyFrom 5 = .ok (.getfield 14, 3) := by decide +kernel
theorem dX5_copyFrom_8 : decode cX5_copyFrom 8 = .ok (.invokevirtual 48, 3) := by decide +kernel
theorem dX5_copyFrom_11 : decode cX5_copyFrom 11 = .ok (.aload_n 0, 1) := by decide +kernel
theorem dX5_copyFrom_12 : decode cX5_copyFrom 12 = .ok (.getfield 20, 3) := by decide +kernel
theorem dX5_copyFrom_15 : decode cX5_copyFrom 15 = .ok (.aload_n 1, 1) := by decide +kernel
theorem dX5_copyFrom_16 : decode cX5_copyFrom 16 = .ok (.getfield 20, 3) := by decide +kernel
theorem dX5_copyFrom_19 : decode cX5_copyFrom 19 = .ok (.invokevirtual 48, 3) := by decide +kernel
theorem dX5_copyFrom_22 : decode cX5_copyFrom 22 = .ok (.aload_n 0, 1) := by decide +kernel
theorem dX5_copyFrom_23 : decode cX5_copyFrom 23 = .ok (.getfield 23, 3) := by decide +kernel
theorem dX5_copyFrom_26 : decode cX5_copyFrom 26 = .ok (.aload_n 1, 1) := by decide +kernel
theorem dX5_copyFrom_27 : decode cX5_copyFrom 27 = .ok (.getfield 23, 3) := by decide +kernel
theorem dX5_copyFrom_30 : decode cX5_copyFrom 30 = .ok (.invokevirtual 48, 3) := by decide +kernel
theorem dX5_copyFrom_33 : decode cX5_copyFrom 33 = .ok (.aload_n 0, 1) := by decide +kernel
theorem dX5_copyFrom_34 : decode cX5_copyFrom 34 = .ok (.getfield 26, 3) := by decide +kernel
theorem dX5_copyFrom_37 : decode cX5_copyFrom 37 = .ok (.aload_n 1, 1) := by decide +kernel
theorem dX5_copyFrom_38 : decode cX5_copyFrom 38 = .ok (.getfield 26, 3) := by decide +kernel
theorem dX5_copyFrom_41 : decode cX5_copyFrom 41 = .ok (.invokevirtual 48, 3) := by decide +kernel
theorem dX5_copyFrom_44 : decode cX5_copyFrom 44 = .ok (.aload_n 0, 1) := by decide +kernel
theorem dX5_copyFrom_45 : decode cX5_copyFrom 45 = .ok (.aload_n 1, 1) := by decide +kernel
theorem dX5_copyFrom_46 : decode cX5_copyFrom 46 = .ok (.getfield 35, 3) := by decide +kernel
theorem dX5_copyFrom_49 : decode cX5_copyFrom 49 = .ok (.putfield 35, 3) := by decide +kernel
theorem dX5_copyFrom_52 : decode cX5_copyFrom 52 = .ok (.aload_n 0, 1) := by decide +kernel
theorem dX5_copyFrom_53 : decode cX5_copyFrom 53 = .ok (.aload_n 1, 1) := by decide +kernel
theorem dX5_copyFrom_54 : decode cX5_copyFrom 54 = .ok (.getfield 39, 3) := by decide +kernel
theorem dX5_copyFrom_57 : decode cX5_copyFrom 57 = .ok (.putfield 39, 3) := by decide +kernel
theorem dX5_copyFrom_60 : decode cX5_copyFrom 60 = .ok (.aload_n 0, 1) := by decide +kernel
theorem dX5_copyFrom_61 : decode cX5_copyFrom 61 = .ok (.aload_n 1, 1) := by decide +kernel
theorem dX5_copyFrom_62 : decode cX5_copyFrom 62 = .ok (.getfield 42, 3) := by decide +kernel
theorem dX5_copyFrom_65 : decode cX5_copyFrom 65 = .ok (.putfield 42, 3) := by decide +kernel
theorem dX5_copyFrom_68 : decode cX5_copyFrom 68 = .ok (.aload_n 0, 1) := by decide +kernel
theorem dX5_copyFrom_69 : decode cX5_copyFrom 69 = .ok (.aload_n 1, 1) := by decide +kernel
theorem dX5_copyFrom_70 : decode cX5_copyFrom 70 = .ok (.getfield 45, 3) := by decide +kernel
theorem dX5_copyFrom_73 : decode cX5_copyFrom 73 = .ok (.putfield 45, 3) := by decide +kernel
theorem dX5_copyFrom_76 : decode cX5_copyFrom 76 = .ok (.return_, 1) := by decide +kernel
theorem dX5_readies_0 : decode cX5_readies 0 = .ok (.aload_n 0, 1) := by decide +kernel
theorem dX5_readies_1 : decode cX5_readies 1 = .ok (.getfield 39, 3) := by decide +kernel
theorem dX5_readies_4 : decode cX5_readies 4 = .ok (.ifCond .ne 12, 3) := by decide +kernel
theorem dX5_readies_7 : decode cX5_readies 7 = .ok (.aload_n 0, 1) := by decide +kernel
theorem dX5_readies_8 : decode cX5_readies 8 = .ok (.aload_n 0, 1) := by decide +kernel
theorem dX5_readies_9 : decode cX5_readies 9 = .ok (.aload_n 1, 1) := by decide +kernel
theorem dX5_readies_10 : decode cX5_readies 10 = .ok (.invokevirtual 52, 3) := by decide +kernel
theorem dX5_readies_13 : decode cX5_readies 13 = .ok (.putfield 39, 3) := by decide +kernel
theorem dX5_readies_16 : decode cX5_readies 16 = .ok (.aload_n 0, 1) := by decide +kernel
theorem dX5_readies_17 : decode cX5_readies 17 = .ok (.getfield 39, 3) := by decide +kernel
theorem dX5_readies_20 : decode cX5_readies 20 = .ok (.ifCond .ne 7, 3) := by decide +kernel
theorem dX5_readies_23 : decode cX5_readies 23 = .ok (.iconst 1, 1) := by decide +kernel
theorem dX5_readies_24 : decode cX5_readies 24 = .ok (.goto 4, 3) := by decide +kernel
theorem dX5_readies_27 : decode cX5_readies 27 = .ok (.iconst 0, 1) := by decide +kernel
theorem dX5_readies_28 : decode cX5_readies 28 = .ok (.ireturn, 1) := by decide +kernel
theorem dX5_failureOf_0 : decode cX5_failureOf 0 = .ok (.aload_n 1, 1) := by decide +kernel
theorem dX5_failureOf_1 : decode cX5_failureOf 1 = .ok (.aload_n 0, 1) := by decide +kernel
theorem dX5_failureOf_2 : decode cX5_failureOf 2 = .ok (.getfield 35, 3) := by decide +kernel
theorem dX5_failureOf_5 : decode cX5_failureOf 5 = .ok (.invokevirtual 56, 3) := by decide +kernel
theorem dX5_failureOf_8 : decode cX5_failureOf 8 = .ok (.ifCond .ne 6, 3) := by decide +kernel
theorem dX5_failureOf_11 : decode cX5_failureOf 11 = .ok (.bipush 6, 2) := by decide +kernel
theorem dX5_failureOf_13 : decode cX5_failureOf 13 = .ok (.ireturn, 1) := by decide +kernel
theorem dX5_failureOf_14 : decode cX5_failureOf 14 = .ok (.aload_n 1, 1) := by decide +kernel
theorem dX5_failureOf_15 : decode cX5_failureOf 15 = .ok (.aload_n 0, 1) := by decide +kernel
theorem dX5_failureOf_16 : decode cX5_failureOf 16 = .ok (.getfield 35, 3) := by decide +kernel
theorem dX5_failureOf_19 : decode cX5_failureOf 19 = .ok (.invokevirtual 62, 3) := by decide +kernel
theorem dX5_failureOf_22 : decode cX5_failureOf 22 = .ok (.istore_n 2, 1) := by decide +kernel
theorem dX5_failureOf_23 : decode cX5_failureOf 23 = .ok (.aload_n 0, 1) := by decide +kernel
theorem dX5_failureOf_24 : decode cX5_failureOf 24 = .ok (.getfield 14, 3) := by decide +kernel
theorem dX5_failureOf_27 : decode cX5_failureOf 27 = .ok (.invokevirtual 66, 3) := by decide +kernel
theorem dX5_failureOf_30 : decode cX5_failureOf 30 = .ok (.iload_n 2, 1) := by decide +kernel
theorem dX5_failureOf_31 : decode cX5_failureOf 31 = .ok (.invokestatic 70, 3) := by decide +kernel
theorem dX5_failureOf_34 : decode cX5_failureOf 34 = .ok (.if_icmp .lt 19, 3) := by decide +kernel
theorem dX5_failureOf_37 : decode cX5_failureOf 37 = .ok (.iload_n 2, 1) := by decide +kernel
theorem dX5_failureOf_38 : decode cX5_failureOf 38 = .ok (.bipush 19, 2) := by decide +kernel
theorem dX5_failureOf_40 : decode cX5_failureOf 40 = .ok (.if_icmp .ne 15, 3) := by decide +kernel
theorem dX5_failureOf_43 : decode cX5_failureOf 43 = .ok (.aload_n 0, 1) := by decide +kernel
theorem dX5_failureOf_44 : decode cX5_failureOf 44 = .ok (.getfield 23, 3) := by decide +kernel
theorem dX5_failureOf_47 : decode cX5_failureOf 47 = .ok (.invokevirtual 66, 3) := by decide +kernel
theorem dX5_failureOf_50 : decode cX5_failureOf 50 = .ok (.ifCond .ne 5, 3) := by decide +kernel
theorem dX5_failureOf_53 : decode cX5_failureOf 53 = .ok (.iconst 2, 1) := by decide +kernel
theorem dX5_failureOf_54 : decode cX5_failureOf 54 = .ok (.ireturn, 1) := by decide +kernel
theorem dX5_failureOf_55 : decode cX5_failureOf 55 = .ok (.iload_n 2, 1) := by decide +kernel
theorem dX5_failureOf_56 : decode cX5_failureOf 56 = .ok (.bipush 8, 2) := by decide +kernel
theorem dX5_failureOf_58 : decode cX5_failureOf 58 = .ok (.if_icmp .ne 16, 3) := by decide +kernel
theorem dX5_failureOf_61 : decode cX5_failureOf 61 = .ok (.aload_n 0, 1) := by decide +kernel
theorem dX5_failureOf_62 : decode cX5_failureOf 62 = .ok (.getfield 14, 3) := by decide +kernel
theorem dX5_failureOf_65 : decode cX5_failureOf 65 = .ok (.iconst 0, 1) := by decide +kernel
theorem dX5_failureOf_66 : decode cX5_failureOf 66 = .ok (.invokevirtual 73, 3) := by decide +kernel
theorem dX5_failureOf_69 : decode cX5_failureOf 69 = .ok (.ifCond .ne 5, 3) := by decide +kernel
theorem dX5_failureOf_72 : decode cX5_failureOf 72 = .ok (.iconst 4, 1) := by decide +kernel
theorem dX5_failureOf_73 : decode cX5_failureOf 73 = .ok (.ireturn, 1) := by decide +kernel
theorem dX5_failureOf_74 : decode cX5_failureOf 74 = .ok (.iload_n 2, 1) := by decide +kernel
theorem dX5_failureOf_75 : decode cX5_failureOf 75 = .ok (.bipush 14, 2) := by decide +kernel
theorem dX5_failureOf_77 : decode cX5_failureOf 77 = .ok (.if_icmp .eq 9, 3) := by decide +kernel
theorem dX5_failureOf_80 : decode cX5_failureOf 80 = .ok (.iload_n 2, 1) := by decide +kernel
theorem dX5_failureOf_81 : decode cX5_failureOf 81 = .ok (.bipush 15, 2) := by decide +kernel
theorem dX5_failureOf_83 : decode cX5_failureOf 83 = .ok (.if_icmp .ne 19, 3) := by decide +kernel
theorem dX5_failureOf_86 : decode cX5_failureOf 86 = .ok (.aload_n 0, 1) := by decide +kernel
theorem dX5_failureOf_87 : decode cX5_failureOf 87 = .ok (.getfield 14, 3) := by decide +kernel
theorem dX5_failureOf_90 : decode cX5_failureOf 90 = .ok (.iconst 0, 1) := by decide +kernel
theorem dX5_failureOf_91 : decode cX5_failureOf 91 = .ok (.invokevirtual 73, 3) := by decide +kernel
theorem dX5_failureOf_94 : decode cX5_failureOf 94 = .ok (.invokestatic 76, 3) := by decide +kernel
theorem dX5_failureOf_97 : decode cX5_failureOf 97 = .ok (.ifCond .ne 5, 3) := by decide +kernel
theorem dX5_failureOf_100 : decode cX5_failureOf 100 = .ok (.iconst 5, 1) := by decide +kernel
theorem dX5_failureOf_101 : decode cX5_failureOf 101 = .ok (.ireturn, 1) := by decide +kernel
theorem dX5_failureOf_102 : decode cX5_failureOf 102 = .ok (.aload_n 0, 1) := by decide +kernel
theorem dX5_failureOf_103 : decode cX5_failureOf 103 = .ok (.iload_n 2, 1) := by decide +kernel
theorem dX5_failureOf_104 : decode cX5_failureOf 104 = .ok (.invokevirtual 79, 3) := by decide +kernel
theorem dX5_failureOf_107 : decode cX5_failureOf 107 = .ok (.ifCond .eq 7, 3) := by decide +kernel
theorem dX5_failureOf_110 : decode cX5_failureOf 110 = .ok (.iconst 3, 1) := by decide +kernel
theorem dX5_failureOf_111 : decode cX5_failureOf 111 = .ok (.goto 4, 3) := by decide +kernel
theorem dX5_failureOf_114 : decode cX5_failureOf 114 = .ok (.iconst 0, 1) := by decide +kernel
theorem dX5_failureOf_115 : decode cX5_failureOf 115 = .ok (.ireturn, 1) := by decide +kernel
theorem dX5_needOnStack_0 : decode cX5_needOnStack 0 = .ok (.iload_n 0, 1) := by decide +kernel
theorem dX5_needOnStack_1 : decode cX5_needOnStack 1 = .ok (.tableswitch 111 0 22 #[107, 109, 109, 111, 111, 111, 111, 111, 111, 111, 111, 109, 107, 109, 109, 111, 107, 109, 107, 107, 107, 109, 107], 107) := by decide +kernel
theorem dX5_needOnStack_108 : decode cX5_needOnStack 108 = .ok (.iconst 0, 1) := by decide +kernel
theorem dX5_needOnStack_109 : decode cX5_needOnStack 109 = .ok (.ireturn, 1) := by decide +kernel
theorem dX5_needOnStack_110 : decode cX5_needOnStack 110 = .ok (.iconst 1, 1) := by decide +kernel
theorem dX5_needOnStack_111 : decode cX5_needOnStack 111 = .ok (.ireturn, 1) := by decide +kernel
theorem dX5_needOnStack_112 : decode cX5_needOnStack 112 = .ok (.iconst 2, 1) := by decide +kernel
theorem dX5_needOnStack_113 : decode cX5_needOnStack 113 = .ok (.ireturn, 1) := by decide +kernel
theorem dX5_isTooFullFor_0 : decode cX5_isTooFullFor 0 = .ok (.iload_n 1, 1) := by decide +kernel
theorem dX5_isTooFullFor_1 : decode cX5_isTooFullFor 1 = .ok (.tableswitch 127 0 21 #[103, 127, 103, 127, 103, 127, 127, 127, 127, 127, 127, 127, 103, 127, 127, 127, 127, 127, 111, 127, 103, 119], 103) := by decide +kernel
theorem dX5_isTooFullFor_104 : decode cX5_isTooFullFor 104 = .ok (.aload_n 0, 1) := by decide +kernel
theorem dX5_isTooFullFor_105 : decode cX5_isTooFullFor 105 = .ok (.getfield 14, 3) := by decide +kernel
theorem dX5_isTooFullFor_108 : decode cX5_isTooFullFor 108 = .ok (.invokevirtual 82, 3) := by decide +kernel
theorem dX5_isTooFullFor_111 : decode cX5_isTooFullFor 111 = .ok (.ireturn, 1) := by decide +kernel
theorem dX5_isTooFullFor_112 : decode cX5_isTooFullFor 112 = .ok (.aload_n 0, 1) := by decide +kernel
theorem dX5_isTooFullFor_113 : decode cX5_isTooFullFor 113 = .ok (.getfield 23, 3) := by decide +kernel
theorem dX5_isTooFullFor_116 : decode cX5_isTooFullFor 116 = .ok (.invokevirtual 82, 3) := by decide +kernel
theorem dX5_isTooFullFor_119 : decode cX5_isTooFullFor 119 = .ok (.ireturn, 1) := by decide +kernel
theorem dX5_isTooFullFor_120 : decode cX5_isTooFullFor 120 = .ok (.aload_n 0, 1) := by decide +kernel
theorem dX5_isTooFullFor_121 : decode cX5_isTooFullFor 121 = .ok (.getfield 26, 3) := by decide +kernel
theorem dX5_isTooFullFor_124 : decode cX5_isTooFullFor 124 = .ok (.invokevirtual 82, 3) := by decide +kernel
theorem dX5_isTooFullFor_127 : decode cX5_isTooFullFor 127 = .ok (.ireturn, 1) := by decide +kernel
theorem dX5_isTooFullFor_128 : decode cX5_isTooFullFor 128 = .ok (.iconst 0, 1) := by decide +kernel
theorem dX5_isTooFullFor_129 : decode cX5_isTooFullFor 129 = .ok (.ireturn, 1) := by decide +kernel
theorem dX5_perform_0 : decode cX5_perform 0 = .ok (.aload_n 1, 1) := by decide +kernel
theorem dX5_perform_1 : decode cX5_perform 1 = .ok (.aload_n 0, 1) := by decide +kernel
theorem dX5_perform_2 : decode cX5_perform 2 = .ok (.getfield 35, 3) := by decide +kernel
theorem dX5_perform_5 : decode cX5_perform 5 = .ok (.invokevirtual 62, 3) := by decide +kernel
theorem dX5_perform_8 : decode cX5_perform 8 = .ok (.istore_n 3, 1) := by decide +kernel
theorem dX5_perform_9 : decode cX5_perform 9 = .ok (.aload_n 1, 1) := by decide +kernel
theorem dX5_perform_10 : decode cX5_perform 10 = .ok (.aload_n 0, 1) := by decide +kernel
theorem dX5_perform_11 : decode cX5_perform 11 = .ok (.getfield 35, 3) := by decide +kernel
theorem dX5_perform_14 : decode cX5_perform 14 = .ok (.invokevirtual 86, 3) := by decide +kernel
theorem dX5_perform_17 : decode cX5_perform 17 = .ok (.istore 4, 2) := by decide +kernel
theorem dX5_perform_19 : decode cX5_perform 19 = .ok (.aload_n 0, 1) := by decide +kernel
theorem dX5_perform_20 : decode cX5_perform 20 = .ok (.getfield 35, 3) := by decide +kernel
theorem dX5_perform_23 : decode cX5_perform 23 = .ok (.iconst 1, 1) := by decide +kernel
theorem dX5_perform_24 : decode cX5_perform 24 = .ok (.iadd, 1) := by decide +kernel
theorem dX5_perform_25 : decode cX5_perform 25 = .ok (.istore 5, 2) := by decide +kernel
theorem dX5_perform_27 : decode cX5_perform 27 = .ok (.iload_n 3, 1) := by decide +kernel
theorem dX5_perform_28 : decode cX5_perform 28 = .ok (.tableswitch 374 0 22 #[108, 120, 131, 149, 156, 374, 374, 374, 374, 374, 374, 174, 202, 221, 240, 264, 271, 278, 300, 316, 328, 343, 360], 108) := by decide +kernel
theorem dX5_perform_136 : decode cX5_perform 136 = .ok (.aload_n 0, 1) := by decide +kernel
theorem dX5_perform_137 : decode cX5_perform 137 = .ok (.getfield 14, 3) := by decide +kernel
theorem dX5_perform_140 : decode cX5_perform 140 = .ok (.iload 4, 2) := by decide +kernel
theorem dX5_perform_142 : decode cX5_perform 142 = .ok (.invokevirtual 89, 3) := by decide +kernel
theorem dX5_perform_145 : decode cX5_perform 145 = .ok (.goto 262, 3) := by decide +kernel
theorem dX5_perform_148 : decode cX5_perform 148 = .ok (.aload_n 0, 1) := by decide +kernel
theorem dX5_perform_149 : decode cX5_perform 149 = .ok (.getfield 14, 3) := by decide +kernel
theorem dX5_perform_152 : decode cX5_perform 152 = .ok (.invokevirtual 92, 3) := by decide +kernel
theorem dX5_perform_155 : decode cX5_perform 155 = .ok (.pop, 1) := by decide +kernel
theorem dX5_perform_156 : decode cX5_perform 156 = .ok (.goto 251, 3) := by decide +kernel
theorem dX5_perform_159 : decode cX5_perform 159 = .ok (.aload_n 0, 1) := by decide +kernel
theorem dX5_perform_160 : decode cX5_perform 160 = .ok (.getfield 14, 3) := by decide +kernel
theorem dX5_perform_163 : decode cX5_perform 163 = .ok (.aload_n 0, 1) := by decide +kernel
theorem dX5_perform_164 : decode cX5_perform 164 = .ok (.getfield 14, 3) := by decide +kernel
theorem dX5_perform_167 : decode cX5_perform 167 = .ok (.iconst 0, 1) := by decide +kernel
theorem dX5_perform_168 : decode cX5_perform 168 = .ok (.invokevirtual 73, 3) := by decide +kernel
theorem dX5_perform_171 : decode cX5_perform 171 = .ok (.invokevirtual 89, 3) := by decide +kernel
theorem dX5_perform_174 : decode cX5_perform 174 = .ok (.goto 233, 3) := by decide +kernel
theorem dX5_perform_177 : decode cX5_perform 177 = .ok (.aload_n 0, 1) := by decide +kernel
theorem dX5_perform_178 : decode cX5_perform 178 = .ok (.invokevirtual 95, 3) := by decide +kernel
theorem dX5_perform_181 : decode cX5_perform 181 = .ok (.goto 226, 3) := by decide +kernel
theorem dX5_perform_184 : decode cX5_perform 184 = .ok (.aload_n 0, 1) := by decide +kernel
theorem dX5_perform_185 : decode cX5_perform 185 = .ok (.getfield 14, 3) := by decide +kernel
theorem dX5_perform_188 : decode cX5_perform 188 = .ok (.aload_n 0, 1) := by decide +kernel
theorem dX5_perform_189 : decode cX5_perform 189 = .ok (.getfield 14, 3) := by decide +kernel
theorem dX5_perform_192 : decode cX5_perform 192 = .ok (.iconst 1, 1) := by decide +kernel
theorem dX5_perform_193 : decode cX5_perform 193 = .ok (.invokevirtual 73, 3) := by decide +kernel
theorem dX5_perform_196 : decode cX5_perform 196 = .ok (.invokevirtual 89, 3) := by decide +kernel
theorem dX5_perform_199 : decode cX5_perform 199 = .ok (.goto 208, 3) := by decide +kernel
theorem dX5_perform_202 : decode cX5_perform 202 = .ok (.aload_n 0, 1) := by decide +kernel
theorem dX5_perform_203 : decode cX5_perform 203 = .ok (.getfield 14, 3) := by decide +kernel
theorem dX5_perform_206 : decode cX5_perform 206 = .ok (.aload_n 0, 1) := by decide +kernel
theorem dX5_perform_207 : decode cX5_perform 207 = .ok (.getfield 14, 3) := by decide +kernel
theorem dX5_perform_210 : decode cX5_perform 210 = .ok (.invokevirtual 92, 3) := by decide +kernel
theorem dX5_perform_213 : decode cX5_perform 213 = .ok (.ifCond .ne 7, 3) := by decide +kernel
theorem dX5_perform_216 : decode cX5_perform 216 = .ok (.iconst 1, 1) := by decide +kernel
theorem dX5_perform_217 : decode cX5_perform 217 = .ok (.goto 4, 3) := by decide +kernel
theorem dX5_perform_220 : decode cX5_perform 220 = .ok (.iconst 0, 1) := by decide +kernel
theorem dX5_perform_221 : decode cX5_perform 221 = .ok (.invokestatic 98, 3) := by decide +kernel
theorem dX5_perform_224 : decode cX5_perform 224 = .ok (.invokevirtual 89, 3) := by decide +kernel
theorem dX5_perform_227 : decode cX5_perform 227 = .ok (.goto 180, 3) := by decide +kernel
theorem dX5_perform_230 : decode cX5_perform 230 = .ok (.aload_n 0, 1) := by decide +kernel
theorem dX5_perform_231 : decode cX5_perform 231 = .ok (.getfield 14, 3) := by decide +kernel
theorem dX5_perform_234 : decode cX5_perform 234 = .ok (.aload_n 0, 1) := by decide +kernel
theorem dX5_perform_235 : decode cX5_perform 235 = .ok (.getfield 20, 3) := by decide +kernel
theorem dX5_perform_238 : decode cX5_perform 238 = .ok (.iload 4, 2) := by decide +kernel
theorem dX5_perform_240 : decode cX5_perform 240 = .ok (.invokevirtual 102, 3) := by decide +kernel
theorem dX5_perform_243 : decode cX5_perform 243 = .ok (.invokevirtual 89, 3) := by decide +kernel
theorem dX5_perform_246 : decode cX5_perform 246 = .ok (.goto 161, 3) := by decide +kernel
theorem dX5_perform_249 : decode cX5_perform 249 = .ok (.aload_n 0, 1) := by decide +kernel
theorem dX5_perform_250 : decode cX5_perform 250 = .ok (.getfield 20, 3) := by decide +kernel
theorem dX5_perform_253 : decode cX5_perform 253 = .ok (.iload 4, 2) := by decide +kernel
theorem dX5_perform_255 : decode cX5_perform 255 = .ok (.aload_n 0, 1) := by decide +kernel
theorem dX5_perform_256 : decode cX5_perform 256 = .ok (.getfield 14, 3) := by decide +kernel
theorem dX5_perform_259 : decode cX5_perform 259 = .ok (.invokevirtual 92, 3) := by decide +kernel
theorem dX5_perform_262 : decode cX5_perform 262 = .ok (.invokevirtual 105, 3) := by decide +kernel
theorem dX5_perform_265 : decode cX5_perform 265 = .ok (.goto 142, 3) := by decide +kernel
theorem dX5_perform_268 : decode cX5_perform 268 = .ok (.aload_n 0, 1) := by decide +kernel
theorem dX5_perform_269 : decode cX5_perform 269 = .ok (.getfield 14, 3) := by decide +kernel
theorem dX5_perform_272 : decode cX5_perform 272 = .ok (.aload_n 0, 1) := by decide +kernel
theorem dX5_perform_273 : decode cX5_perform 273 = .ok (.getfield 20, 3) := by decide +kernel
theorem dX5_perform_276 : decode cX5_perform 276 = .ok (.aload_n 0, 1) := by decide +kernel
theorem dX5_perform_277 : decode cX5_perform 277 = .ok (.getfield 14, 3) := by decide +kernel
theorem dX5_perform_280 : decode cX5_perform 280 = .ok (.invokevirtual 92, 3) := by decide +kernel
theorem dX5_perform_283 : decode cX5_perform 283 = .ok (.invokevirtual 102, 3) := by decide +kernel
theorem dX5_perform_286 : decode cX5_perform 286 = .ok (.invokevirtual 89, 3) := by decide +kernel
theorem dX5_perform_289 : decode cX5_perform 289 = .ok (.goto 118, 3) := by decide +kernel
theorem dX5_perform_292 : decode cX5_perform 292 = .ok (.aload_n 0, 1) := by decide +kernel
theorem dX5_perform_293 : decode cX5_perform 293 = .ok (.invokevirtual 109, 3) := by decide +kernel
theorem dX5_perform_296 : decode cX5_perform 296 = .ok (.goto 111, 3) := by decide +kernel
theorem dX5_perform_299 : decode cX5_perform 299 = .ok (.iload 4, 2) := by decide +kernel
theorem dX5_perform_301 : decode cX5_perform 301 = .ok (.istore 5, 2) := by decide +kernel
theorem dX5_perform_303 : decode cX5_perform 303 = .ok (.goto 104, 3) := by decide +kernel
theorem dX5_perform_306 : decode cX5_perform 306 = .ok (.aload_n 0, 1) := by decide +kernel
theorem dX5_perform_307 : decode cX5_perform 307 = .ok (.getfield 14, 3) := by decide +kernel
theorem dX5_perform_310 : decode cX5_perform 310 = .ok (.invokevirtual 92, 3) := by decide +kernel
theorem dX5_perform_313 : decode cX5_perform 313 = .ok (.ifCond .ne 8, 3) := by decide +kernel
theorem dX5_perform_316 : decode cX5_perform 316 = .ok (.iload 4, 2) := by decide +kernel
theorem dX5_perform_318 : decode cX5_perform 318 = .ok (.goto 5, 3) := by decide +kernel
theorem dX5_perform_321 : decode cX5_perform 321 = .ok (.iload 5, 2) := by decide +kernel
theorem dX5_perform_323 : decode cX5_perform 323 = .ok (.istore 5, 2) := by decide +kernel
theorem dX5_perform_325 : decode cX5_perform 325 = .ok (.goto 82, 3) := by decide +kernel
theorem dX5_perform_328 : decode cX5_perform 328 = .ok (.aload_n 0, 1) := by decide +kernel
theorem dX5_perform_329 : decode cX5_perform 329 = .ok (.getfield 23, 3) := by decide +kernel
theorem dX5_perform_332 : decode cX5_perform 332 = .ok (.iload 5, 2) := by decide +kernel
theorem dX5_perform_334 : decode cX5_perform 334 = .ok (.invokevirtual 89, 3) := by decide +kernel
theorem dX5_perform_337 : decode cX5_perform 337 = .ok (.iload 4, 2) := by decide +kernel
theorem dX5_perform_339 : decode cX5_perform 339 = .ok (.istore 5, 2) := by decide +kernel
theorem dX5_perform_341 : decode cX5_perform 341 = .ok (.goto 66, 3) := by decide +kernel
theorem dX5_perform_344 : decode cX5_perform 344 = .ok (.aload_n 0, 1) := by decide +kernel
theorem dX5_perform_345 : decode cX5_perform 345 = .ok (.getfield 23, 3) := by decide +kernel
theorem dX5_perform_348 : decode cX5_perform 348 = .ok (.invokevirtual 92, 3) := by decide +kernel
theorem dX5_perform_351 : decode cX5_perform 351 = .ok (.istore 5, 2) := by decide +kernel
theorem dX5_perform_353 : decode cX5_perform 353 = .ok (.goto 54, 3) := by decide +kernel
theorem dX5_perform_356 : decode cX5_perform 356 = .ok (.aload_n 0, 1) := by decide +kernel
theorem dX5_perform_357 : decode cX5_perform 357 = .ok (.getfield 14, 3) := by decide +kernel
theorem dX5_perform_360 : decode cX5_perform 360 = .ok (.aload_n 0, 1) := by decide +kernel
theorem dX5_perform_361 : decode cX5_perform 361 = .ok (.aload_n 2, 1) := by decide +kernel
theorem dX5_perform_362 : decode cX5_perform 362 = .ok (.invokevirtual 112, 3) := by decide +kernel
theorem dX5_perform_365 : decode cX5_perform 365 = .ok (.invokevirtual 89, 3) := by decide +kernel
theorem dX5_perform_368 : decode cX5_perform 368 = .ok (.goto 39, 3) := by decide +kernel
theorem dX5_perform_371 : decode cX5_perform 371 = .ok (.aload_n 0, 1) := by decide +kernel
theorem dX5_perform_372 : decode cX5_perform 372 = .ok (.getfield 26, 3) := by decide +kernel
theorem dX5_perform_375 : decode cX5_perform 375 = .ok (.aload_n 0, 1) := by decide +kernel
theorem dX5_perform_376 : decode cX5_perform 376 = .ok (.getfield 14, 3) := by decide +kernel
theorem dX5_perform_379 : decode cX5_perform 379 = .ok (.invokevirtual 92, 3) := by decide +kernel
theorem dX5_perform_382 : decode cX5_perform 382 = .ok (.invokevirtual 89, 3) := by decide +kernel
theorem dX5_perform_385 : decode cX5_perform 385 = .ok (.goto 22, 3) := by decide +kernel
theorem dX5_perform_388 : decode cX5_perform 388 = .ok (.aload_n 0, 1) := by decide +kernel
theorem dX5_perform_389 : decode cX5_perform 389 = .ok (.iconst 1, 1) := by decide +kernel
theorem dX5_perform_390 : decode cX5_perform 390 = .ok (.putfield 39, 3) := by decide +kernel
theorem dX5_perform_393 : decode cX5_perform 393 = .ok (.aload_n 0, 1) := by decide +kernel
theorem dX5_perform_394 : decode cX5_perform 394 = .ok (.getfield 35, 3) := by decide +kernel
theorem dX5_perform_397 : decode cX5_perform 397 = .ok (.istore 5, 2) := by decide +kernel
theorem dX5_perform_399 : decode cX5_perform 399 = .ok (.goto 8, 3) := by decide +kernel
theorem dX5_perform_402 : decode cX5_perform 402 = .ok (.aload_n 0, 1) := by decide +kernel
theorem dX5_perform_403 : decode cX5_perform 403 = .ok (.iload_n 3, 1) := by decide +kernel
theorem dX5_perform_404 : decode cX5_perform 404 = .ok (.invokevirtual 116, 3) := by decide +kernel
theorem dX5_perform_407 : decode cX5_perform 407 = .ok (.aload_n 0, 1) := by decide +kernel
theorem dX5_perform_408 : decode cX5_perform 408 = .ok (.iload 5, 2) := by decide +kernel
theorem dX5_perform_410 : decode cX5_perform 410 = .ok (.putfield 35, 3) := by decide +kernel
theorem dX5_perform_413 : decode cX5_perform 413 = .ok (.aload_n 0, 1) := by decide +kernel
theorem dX5_perform_414 : decode cX5_perform 414 = .ok (.dup, 1) := by decide +kernel
theorem dX5_perform_415 : decode cX5_perform 415 = .ok (.getfield 45, 3) := by decide +kernel
theorem dX5_perform_418 : decode cX5_perform 418 = .ok (.iconst 1, 1) := by decide +kernel
theorem dX5_perform_419 : decode cX5_perform 419 = .ok (.iadd, 1) := by decide +kernel
theorem dX5_perform_420 : decode cX5_perform 420 = .ok (.putfield 45, 3) := by decide +kernel
theorem dX5_perform_423 : decode cX5_perform 423 = .ok (.return_, 1) := by decide +kernel
theorem dX5_swap_0 : decode cX5_swap 0 = .ok (.aload_n 0, 1) := by decide +kernel
theorem dX5_swap_1 : decode cX5_swap 1 = .ok (.getfield 14, 3) := by decide +kernel
theorem dX5_swap_4 : decode cX5_swap 4 = .ok (.invokevirtual 92, 3) := by decide +kernel
theorem dX5_swap_7 : decode cX5_swap 7 = .ok (.istore_n 1, 1) := by decide +kernel
theorem dX5_swap_8 : decode cX5_swap 8 = .ok (.aload_n 0, 1) := by decide +kernel
theorem dX5_swap_9 : decode cX5_swap 9 = .ok (.getfield 14, 3) := by decide +kernel
theorem dX5_swap_12 : decode cX5_swap 12 = .ok (.invokevirtual 92, 3) := by decide +kernel
theorem dX5_swap_15 : decode cX5_swap 15 = .ok (.istore_n 2, 1) := by decide +kernel
theorem dX5_swap_16 : decode cX5_swap 16 = .ok (.aload_n 0, 1) := by decide +kernel
theorem dX5_swap_17 : decode cX5_swap 17 = .ok (.getfield 14, 3) := by decide +kernel
theorem dX5_swap_20 : decode cX5_swap 20 = .ok (.iload_n 1, 1) := by decide +kernel
theorem dX5_swap_21 : decode cX5_swap 21 = .ok (.invokevirtual 89, 3) := by decide +kernel
theorem dX5_swap_24 : decode cX5_swap 24 = .ok (.aload_n 0, 1) := by decide +kernel
theorem dX5_swap_25 : decode cX5_swap 25 = .ok (.getfield 14, 3) := by decide +kernel
theorem dX5_swap_28 : decode cX5_swap 28 = .ok (.iload_n 2, 1) := by decide +kernel
theorem dX5_swap_29 : decode cX5_swap 29 = .ok (.invokevirtual 89, 3) := by decide +kernel
theorem dX5_swap_32 : decode cX5_swap 32 = .ok (.return_, 1) := by decide +kernel
theorem dX5_storeAt_0 : decode cX5_storeAt 0 = .ok (.aload_n 0, 1) := by decide +kernel
theorem dX5_storeAt_1 : decode cX5_storeAt 1 = .ok (.getfield 14, 3) := by decide +kernel
theorem dX5_storeAt_4 : decode cX5_storeAt 4 = .ok (.invokevirtual 92, 3) := by decide +kernel
theorem dX5_storeAt_7 : decode cX5_storeAt 7 = .ok (.istore_n 1, 1) := by decide +kernel
theorem dX5_storeAt_8 : decode cX5_storeAt 8 = .ok (.aload_n 0, 1) := by decide +kernel
theorem dX5_storeAt_9 : decode cX5_storeAt 9 = .ok (.getfield 20, 3) := by decide +kernel
theorem dX5_storeAt_12 : decode cX5_storeAt 12 = .ok (.iload_n 1, 1) := by decide +kernel
theorem dX5_storeAt_13 : decode cX5_storeAt 13 = .ok (.aload_n 0, 1) := by decide +kernel
theorem dX5_storeAt_14 : decode cX5_storeAt 14 = .ok (.getfield 14, 3) := by decide +kernel
theorem dX5_storeAt_17 : decode cX5_storeAt 17 = .ok (.invokevirtual 92, 3) := by decide +kernel
theorem dX5_storeAt_20 : decode cX5_storeAt 20 = .ok (.invokevirtual 105, 3) := by decide +kernel
theorem dX5_storeAt_23 : decode cX5_storeAt 23 = .ok (.return_, 1) := by decide +kernel
theorem dX5_readFrom_0 : decode cX5_readFrom 0 = .ok (.aload_n 1, 1) := by decide +kernel
theorem dX5_readFrom_1 : decode cX5_readFrom 1 = .ok (.aload_n 0, 1) := by decide +kernel
theorem dX5_readFrom_2 : decode cX5_readFrom 2 = .ok (.getfield 42, 3) := by decide +kernel
theorem dX5_readFrom_5 : decode cX5_readFrom 5 = .ok (.invokevirtual 119, 3) := by decide +kernel
theorem dX5_readFrom_8 : decode cX5_readFrom 8 = .ok (.ifCond .ne 5, 3) := by decide +kernel
theorem dX5_readFrom_11 : decode cX5_readFrom 11 = .ok (.iconst 0, 1) := by decide +kernel
theorem dX5_readFrom_12 : decode cX5_readFrom 12 = .ok (.ireturn, 1) := by decide +kernel
theorem dX5_readFrom_13 : decode cX5_readFrom 13 = .ok (.aload_n 0, 1) := by decide +kernel
theorem dX5_readFrom_14 : decode cX5_readFrom 14 = .ok (.dup, 1) := by decide +kernel
theorem dX5_readFrom_15 : decode cX5_readFrom 15 = .ok (.getfield 42, 3) := by decide +kernel
theorem dX5_readFrom_18 : decode cX5_readFrom 18 = .ok (.iconst 1, 1) := by decide +kernel
theorem dX5_readFrom_19 : decode cX5_readFrom 19 = .ok (.iadd, 1) := by decide +kernel
theorem dX5_readFrom_20 : decode cX5_readFrom 20 = .ok (.putfield 42, 3) := by decide +kernel
theorem dX5_readFrom_23 : decode cX5_readFrom 23 = .ok (.aload_n 1, 1) := by decide +kernel
theorem dX5_readFrom_24 : decode cX5_readFrom 24 = .ok (.aload_n 0, 1) := by decide +kernel
theorem dX5_readFrom_25 : decode cX5_readFrom 25 = .ok (.getfield 42, 3) := by decide +kernel
theorem dX5_readFrom_28 : decode cX5_readFrom 28 = .ok (.iconst 1, 1) := by decide +kernel
theorem dX5_readFrom_29 : decode cX5_readFrom 29 = .ok (.isub, 1) := by decide +kernel
theorem dX5_readFrom_30 : decode cX5_readFrom 30 = .ok (.invokevirtual 102, 3) := by decide +kernel
theorem dX5_readFrom_33 : decode cX5_readFrom 33 = .ok (.ireturn, 1) := by decide +kernel
theorem dX5_reckon_0 : decode cX5_reckon 0 = .ok (.aload_n 0, 1) := by decide +kernel
theorem dX5_reckon_1 : decode cX5_reckon 1 = .ok (.getfield 14, 3) := by decide +kernel
theorem dX5_reckon_4 : decode cX5_reckon 4 = .ok (.invokevirtual 92, 3) := by decide +kernel
theorem dX5_reckon_7 : decode cX5_reckon 7 = .ok (.istore_n 2, 1) := by decide +kernel
theorem dX5_reckon_8 : decode cX5_reckon 8 = .ok (.aload_n 0, 1) := by decide +kernel
theorem dX5_reckon_9 : decode cX5_reckon 9 = .ok (.getfield 14, 3) := by decide +kernel
theorem dX5_reckon_12 : decode cX5_reckon 12 = .ok (.invokevirtual 92, 3) := by decide +kernel
theorem dX5_reckon_15 : decode cX5_reckon 15 = .ok (.istore_n 3, 1) := by decide +kernel
theorem dX5_reckon_16 : decode cX5_reckon 16 = .ok (.aload_n 0, 1) := by decide +kernel
theorem dX5_reckon_17 : decode cX5_reckon 17 = .ok (.getfield 14, 3) := by decide +kernel
theorem dX5_reckon_20 : decode cX5_reckon 20 = .ok (.iload_n 1, 1) := by decide +kernel
theorem dX5_reckon_21 : decode cX5_reckon 21 = .ok (.iload_n 3, 1) := by decide +kernel
theorem dX5_reckon_22 : decode cX5_reckon 22 = .ok (.iload_n 2, 1) := by decide +kernel
theorem dX5_reckon_23 : decode cX5_reckon 23 = .ok (.invokestatic 120, 3) := by decide +kernel
theorem dX5_reckon_26 : decode cX5_reckon 26 = .ok (.invokevirtual 89, 3) := by decide +kernel
theorem dX5_reckon_29 : decode cX5_reckon 29 = .ok (.return_, 1) := by decide +kernel
theorem dX5_reckoned_0 : decode cX5_reckoned 0 = .ok (.iload_n 0, 1) := by decide +kernel
theorem dX5_reckoned_1 : decode cX5_reckoned 1 = .ok (.tableswitch 91 5 10 #[39, 43, 47, 51, 63, 77], 39) := by decide +kernel
theorem dX5_reckoned_40 : decode cX5_reckoned 40 = .ok (.iload_n 1, 1) := by decide +kernel
theorem dX5_reckoned_41 : decode cX5_reckoned 41 = .ok (.iload_n 2, 1) := by decide +kernel
theorem dX5_reckoned_42 : decode cX5_reckoned 42 = .ok (.iadd, 1) := by decide +kernel
theorem dX5_reckoned_43 : decode cX5_reckoned 43 = .ok (.ireturn, 1) := by decide +kernel
theorem dX5_reckoned_44 : decode cX5_reckoned 44 = .ok (.iload_n 1, 1) := by decide +kernel
theorem dX5_reckoned_45 : decode cX5_reckoned 45 = .ok (.iload_n 2, 1) := by decide +kernel
theorem dX5_reckoned_46 : decode cX5_reckoned 46 = .ok (.isub, 1) := by decide +kernel
theorem dX5_reckoned_47 : decode cX5_reckoned 47 = .ok (.ireturn, 1) := by decide +kernel
theorem dX5_reckoned_48 : decode cX5_reckoned 48 = .ok (.iload_n 1, 1) := by decide +kernel
theorem dX5_reckoned_49 : decode cX5_reckoned 49 = .ok (.iload_n 2, 1) := by decide +kernel
theorem dX5_reckoned_50 : decode cX5_reckoned 50 = .ok (.imul, 1) := by decide +kernel
theorem dX5_reckoned_51 : decode cX5_reckoned 51 = .ok (.ireturn, 1) := by decide +kernel
theorem dX5_reckoned_52 : decode cX5_reckoned 52 = .ok (.iload_n 2, 1) := by decide +kernel
theorem dX5_reckoned_53 : decode cX5_reckoned 53 = .ok (.ifCond .ne 7, 3) := by decide +kernel
theorem dX5_reckoned_56 : decode cX5_reckoned 56 = .ok (.iconst 0, 1) := by decide +kernel
theorem dX5_reckoned_57 : decode cX5_reckoned 57 = .ok (.goto 6, 3) := by decide +kernel
theorem dX5_reckoned_60 : decode cX5_reckoned 60 = .ok (.iload_n 1, 1) := by decide +kernel
theorem dX5_reckoned_61 : decode cX5_reckoned 61 = .ok (.iload_n 2, 1) := by decide +kernel
theorem dX5_reckoned_62 : decode cX5_reckoned 62 = .ok (.idiv, 1) := by decide +kernel
theorem dX5_reckoned_63 : decode cX5_reckoned 63 = .ok (.ireturn, 1) := by decide +kernel
theorem dX5_reckoned_64 : decode cX5_reckoned 64 = .ok (.iload_n 1, 1) := by decide +kernel
theorem dX5_reckoned_65 : decode cX5_reckoned 65 = .ok (.iload_n 2, 1) := by decide +kernel
theorem dX5_reckoned_66 : decode cX5_reckoned 66 = .ok (.if_icmp .ge 7, 3) := by decide +kernel
theorem dX5_reckoned_69 : decode cX5_reckoned 69 = .ok (.iconst 1, 1) := by decide +kernel
theorem dX5_reckoned_70 : decode cX5_reckoned 70 = .ok (.goto 4, 3) := by decide +kernel
theorem dX5_reckoned_73 : decode cX5_reckoned 73 = .ok (.iconst 0, 1) := by decide +kernel
theorem dX5_reckoned_74 : decode cX5_reckoned 74 = .ok (.invokestatic 98, 3) := by decide +kernel
theorem dX5_reckoned_77 : decode cX5_reckoned 77 = .ok (.ireturn, 1) := by decide +kernel
theorem dX5_reckoned_78 : decode cX5_reckoned 78 = .ok (.iload_n 1, 1) := by decide +kernel
theorem dX5_reckoned_79 : decode cX5_reckoned 79 = .ok (.iload_n 2, 1) := by decide +kernel
theorem dX5_reckoned_80 : decode cX5_reckoned 80 = .ok (.if_icmp .ne 7, 3) := by decide +kernel
theorem dX5_reckoned_83 : decode cX5_reckoned 83 = .ok (.iconst 1, 1) := by decide +kernel
theorem dX5_reckoned_84 : decode cX5_reckoned 84 = .ok (.goto 4, 3) := by decide +kernel
theorem dX5_reckoned_87 : decode cX5_reckoned 87 = .ok (.iconst 0, 1) := by decide +kernel
theorem dX5_reckoned_88 : decode cX5_reckoned 88 = .ok (.invokestatic 98, 3) := by decide +kernel
theorem dX5_reckoned_91 : decode cX5_reckoned 91 = .ok (.ireturn, 1) := by decide +kernel
theorem dX5_reckoned_92 : decode cX5_reckoned 92 = .ok (.iconst 0, 1) := by decide +kernel
theorem dX5_reckoned_93 : decode cX5_reckoned 93 = .ok (.ireturn, 1) := by decide +kernel
theorem dX5_describe_0 : decode cX5_describe 0 = .ok (.aload_n 2, 1) := by decide +kernel
theorem dX5_describe_1 : decode cX5_describe 1 = .ok (.aload_n 0, 1) := by decide +kernel
theorem dX5_describe_2 : decode cX5_describe 2 = .ok (.getfield 35, 3) := by decide +kernel
theorem dX5_describe_5 : decode cX5_describe 5 = .ok (.invokevirtual 62, 3) := by decide +kernel
theorem dX5_describe_8 : decode cX5_describe 8 = .ok (.istore_n 3, 1) := by decide +kernel
theorem dX5_describe_9 : decode cX5_describe 9 = .ok (.aload_n 1, 1) := by decide +kernel
theorem dX5_describe_10 : decode cX5_describe 10 = .ok (.aload_n 0, 1) := by decide +kernel
theorem dX5_describe_11 : decode cX5_describe 11 = .ok (.getfield 35, 3) := by decide +kernel
theorem dX5_describe_14 : decode cX5_describe 14 = .ok (.putfield 124, 3) := by decide +kernel
theorem dX5_describe_17 : decode cX5_describe 17 = .ok (.aload_n 1, 1) := by decide +kernel
theorem dX5_describe_18 : decode cX5_describe 18 = .ok (.aload_n 0, 1) := by decide +kernel
theorem dX5_describe_19 : decode cX5_describe 19 = .ok (.getfield 14, 3) := by decide +kernel
theorem dX5_describe_22 : decode cX5_describe 22 = .ok (.invokevirtual 66, 3) := by decide +kernel
theorem dX5_describe_25 : decode cX5_describe 25 = .ok (.putfield 127, 3) := by decide +kernel
theorem dX5_describe_28 : decode cX5_describe 28 = .ok (.aload_n 1, 1) := by decide +kernel
theorem dX5_describe_29 : decode cX5_describe 29 = .ok (.aload_n 0, 1) := by decide +kernel
theorem dX5_describe_30 : decode cX5_describe 30 = .ok (.getfield 14, 3) := by decide +kernel
theorem dX5_describe_33 : decode cX5_describe 33 = .ok (.iconst 0, 1) := by decide +kernel
theorem dX5_describe_34 : decode cX5_describe 34 = .ok (.invokevirtual 73, 3) := by decide +kernel
theorem dX5_describe_37 : decode cX5_describe 37 = .ok (.putfield 130, 3) := by decide +kernel
theorem dX5_describe_40 : decode cX5_describe 40 = .ok (.aload_n 1, 1) := by decide +kernel
theorem dX5_describe_41 : decode cX5_describe 41 = .ok (.aload_n 0, 1) := by decide +kernel
theorem dX5_describe_42 : decode cX5_describe 42 = .ok (.getfield 14, 3) := by decide +kernel
theorem dX5_describe_45 : decode cX5_describe 45 = .ok (.iconst 1, 1) := by decide +kernel
theorem dX5_describe_46 : decode cX5_describe 46 = .ok (.invokevirtual 73, 3) := by decide +kernel
theorem dX5_describe_49 : decode cX5_describe 49 = .ok (.putfield 133, 3) := by decide +kernel
theorem dX5_describe_52 : decode cX5_describe 52 = .ok (.aload_n 1, 1) := by decide +kernel
theorem dX5_describe_53 : decode cX5_describe 53 = .ok (.aload_n 0, 1) := by decide +kernel
theorem dX5_describe_54 : decode cX5_describe 54 = .ok (.getfield 23, 3) := by decide +kernel
theorem dX5_describe_57 : decode cX5_describe 57 = .ok (.invokevirtual 66, 3) := by decide +kernel
theorem dX5_describe_60 : decode cX5_describe 60 = .ok (.putfield 136, 3) := by decide +kernel
theorem dX5_describe_63 : decode cX5_describe 63 = .ok (.aload_n 1, 1) := by decide +kernel
theorem dX5_describe_64 : decode cX5_describe 64 = .ok (.aload_n 0, 1) := by decide +kernel
theorem dX5_describe_65 : decode cX5_describe 65 = .ok (.getfield 23, 3) := by decide +kernel
theorem dX5_describe_68 : decode cX5_describe 68 = .ok (.iconst 0, 1) := by decide +kernel
theorem dX5_describe_69 : decode cX5_describe 69 = .ok (.invokevirtual 73, 3) := by decide +kernel
theorem dX5_describe_72 : decode cX5_describe 72 = .ok (.putfield 139, 3) := by decide +kernel
theorem dX5_describe_75 : decode cX5_describe 75 = .ok (.aload_n 1, 1) := by decide +kernel
theorem dX5_describe_76 : decode cX5_describe 76 = .ok (.aload_n 0, 1) := by decide +kernel
theorem dX5_describe_77 : decode cX5_describe 77 = .ok (.getfield 42, 3) := by decide +kernel
theorem dX5_describe_80 : decode cX5_describe 80 = .ok (.putfield 142, 3) := by decide +kernel
theorem dX5_describe_83 : decode cX5_describe 83 = .ok (.aload_n 1, 1) := by decide +kernel
theorem dX5_describe_84 : decode cX5_describe 84 = .ok (.aload_n 0, 1) := by decide +kernel
theorem dX5_describe_85 : decode cX5_describe 85 = .ok (.getfield 26, 3) := by decide +kernel
theorem dX5_describe_88 : decode cX5_describe 88 = .ok (.invokevirtual 66, 3) := by decide +kernel
theorem dX5_describe_91 : decode cX5_describe 91 = .ok (.putfield 143, 3) := by decide +kernel
theorem dX5_describe_94 : decode cX5_describe 94 = .ok (.aload_n 1, 1) := by decide +kernel
theorem dX5_describe_95 : decode cX5_describe 95 = .ok (.iconst (-1), 1) := by decide +kernel
theorem dX5_describe_96 : decode cX5_describe 96 = .ok (.putfield 146, 3) := by decide +kernel
theorem dX5_describe_99 : decode cX5_describe 99 = .ok (.iload_n 3, 1) := by decide +kernel
theorem dX5_describe_100 : decode cX5_describe 100 = .ok (.bipush 13, 2) := by decide +kernel
theorem dX5_describe_102 : decode cX5_describe 102 = .ok (.if_icmp .ne 34, 3) := by decide +kernel
theorem dX5_describe_105 : decode cX5_describe 105 = .ok (.aload_n 1, 1) := by decide +kernel
theorem dX5_describe_106 : decode cX5_describe 106 = .ok (.aload_n 2, 1) := by decide +kernel
theorem dX5_describe_107 : decode cX5_describe 107 = .ok (.aload_n 0, 1) := by decide +kernel
theorem dX5_describe_108 : decode cX5_describe 108 = .ok (.getfield 35, 3) := by decide +kernel
theorem dX5_describe_111 : decode cX5_describe 111 = .ok (.invokevirtual 86, 3) := by decide +kernel
theorem dX5_describe_114 : decode cX5_describe 114 = .ok (.aload_n 0, 1) := by decide +kernel
theorem dX5_describe_115 : decode cX5_describe 115 = .ok (.getfield 20, 3) := by decide +kernel
theorem dX5_describe_118 : decode cX5_describe 118 = .ok (.aload_n 2, 1) := by decide +kernel
theorem dX5_describe_119 : decode cX5_describe 119 = .ok (.aload_n 0, 1) := by decide +kernel
theorem dX5_describe_120 : decode cX5_describe 120 = .ok (.getfield 35, 3) := by decide +kernel
theorem dX5_describe_123 : decode cX5_describe 123 = .ok (.invokevirtual 86, 3) := by decide +kernel
theorem dX5_describe_126 : decode cX5_describe 126 = .ok (.invokevirtual 102, 3) := by decide +kernel
theorem dX5_describe_129 : decode cX5_describe 129 = .ok (.aload_n 1, 1) := by decide +kernel
theorem dX5_describe_130 : decode cX5_describe 130 = .ok (.getfield 130, 3) := by decide +kernel
theorem dX5_describe_133 : decode cX5_describe 133 = .ok (.invokevirtual 149, 3) := by decide +kernel
theorem dX5_describe_136 : decode cX5_describe 136 = .ok (.iload_n 3, 1) := by decide +kernel
theorem dX5_describe_137 : decode cX5_describe 137 = .ok (.bipush 15, 2) := by decide +kernel
theorem dX5_describe_139 : decode cX5_describe 139 = .ok (.if_icmp .ne 26, 3) := by decide +kernel
theorem dX5_describe_142 : decode cX5_describe 142 = .ok (.aload_n 1, 1) := by decide +kernel
theorem dX5_describe_143 : decode cX5_describe 143 = .ok (.aload_n 1, 1) := by decide +kernel
theorem dX5_describe_144 : decode cX5_describe 144 = .ok (.getfield 130, 3) := by decide +kernel
theorem dX5_describe_147 : decode cX5_describe 147 = .ok (.aload_n 0, 1) := by decide +kernel
theorem dX5_describe_148 : decode cX5_describe 148 = .ok (.getfield 20, 3) := by decide +kernel
theorem dX5_describe_151 : decode cX5_describe 151 = .ok (.aload_n 1, 1) := by decide +kernel
theorem dX5_describe_152 : decode cX5_describe 152 = .ok (.getfield 130, 3) := by decide +kernel
theorem dX5_describe_155 : decode cX5_describe 155 = .ok (.invokevirtual 102, 3) := by decide +kernel
theorem dX5_describe_158 : decode cX5_describe 158 = .ok (.aload_n 1, 1) := by decide +kernel
theorem dX5_describe_159 : decode cX5_describe 159 = .ok (.getfield 133, 3) := by decide +kernel
theorem dX5_describe_162 : decode cX5_describe 162 = .ok (.invokevirtual 149, 3) := by decide +kernel
theorem dX5_describe_165 : decode cX5_describe 165 = .ok (.return_, 1) := by decide +kernel
theorem dX5_goBackTo_0 : decode cX5_goBackTo 0 = .ok (.aload_n 0, 1) := by decide +kernel
theorem dX5_goBackTo_1 : decode cX5_goBackTo 1 = .ok (.aload_n 1, 1) := by decide +kernel
theorem dX5_goBackTo_2 : decode cX5_goBackTo 2 = .ok (.getfield 124, 3) := by decide +kernel
theorem dX5_goBackTo_5 : decode cX5_goBackTo 5 = .ok (.putfield 35, 3) := by decide +kernel
theorem dX5_goBackTo_8 : decode cX5_goBackTo 8 = .ok (.aload_n 0, 1) := by decide +kernel
theorem dX5_goBackTo_9 : decode cX5_goBackTo 9 = .ok (.getfield 14, 3) := by decide +kernel
theorem dX5_goBackTo_12 : decode cX5_goBackTo 12 = .ok (.aload_n 1, 1) := by decide +kernel
theorem dX5_goBackTo_13 : decode cX5_goBackTo 13 = .ok (.getfield 127, 3) := by decide +kernel
theorem dX5_goBackTo_16 : decode cX5_goBackTo 16 = .ok (.invokevirtual 32, 3) := by decide +kernel
theorem dX5_goBackTo_19 : decode cX5_goBackTo 19 = .ok (.aload_n 0, 1) := by decide +kernel
theorem dX5_goBackTo_20 : decode cX5_goBackTo 20 = .ok (.getfield 14, 3) := by decide +kernel
theorem dX5_goBackTo_23 : decode cX5_goBackTo 23 = .ok (.iconst 0, 1) := by decide +kernel
theorem dX5_goBackTo_24 : decode cX5_goBackTo 24 = .ok (.aload_n 1, 1) := by decide +kernel
theorem dX5_goBackTo_25 : decode cX5_goBackTo 25 = .ok (.getfield 130, 3) := by decide +kernel
theorem dX5_goBackTo_28 : decode cX5_goBackTo 28 = .ok (.invokevirtual 153, 3) := by decide +kernel
theorem dX5_goBackTo_31 : decode cX5_goBackTo 31 = .ok (.aload_n 0, 1) := by decide +kernel
theorem dX5_goBackTo_32 : decode cX5_goBackTo 32 = .ok (.getfield 14, 3) := by decide +kernel
theorem dX5_goBackTo_35 : decode cX5_goBackTo 35 = .ok (.iconst 1, 1) := by decide +kernel
theorem dX5_goBackTo_36 : decode cX5_goBackTo 36 = .ok (.aload_n 1, 1) := by decide +kernel
theorem dX5_goBackTo_37 : decode cX5_goBackTo 37 = .ok (.getfield 133, 3) := by decide +kernel
theorem dX5_goBackTo_40 : decode cX5_goBackTo 40 = .ok (.invokevirtual 153, 3) := by decide +kernel
theorem dX5_goBackTo_43 : decode cX5_goBackTo 43 = .ok (.aload_n 0, 1) := by decide +kernel
theorem dX5_goBackTo_44 : decode cX5_goBackTo 44 = .ok (.getfield 23, 3) := by decide +kernel
theorem dX5_goBackTo_47 : decode cX5_goBackTo 47 = .ok (.aload_n 1, 1) := by decide +kernel
theorem dX5_goBackTo_48 : decode cX5_goBackTo 48 = .ok (.getfield 136, 3) := by decide +kernel
theorem dX5_goBackTo_51 : decode cX5_goBackTo 51 = .ok (.invokevirtual 32, 3) := by decide +kernel
theorem dX5_goBackTo_54 : decode cX5_goBackTo 54 = .ok (.aload_n 0, 1) := by decide +kernel
theorem dX5_goBackTo_55 : decode cX5_goBackTo 55 = .ok (.getfield 23, 3) := by decide +kernel
theorem dX5_goBackTo_58 : decode cX5_goBackTo 58 = .ok (.iconst 0, 1) := by decide +kernel
theorem dX5_goBackTo_59 : decode cX5_goBackTo 59 = .ok (.aload_n 1, 1) := by decide +kernel
theorem dX5_goBackTo_60 : decode cX5_goBackTo 60 = .ok (.getfield 139, 3) := by decide +kernel
theorem dX5_goBackTo_63 : decode cX5_goBackTo 63 = .ok (.invokevirtual 153, 3) := by decide +kernel
theorem dX5_goBackTo_66 : decode cX5_goBackTo 66 = .ok (.aload_n 0, 1) := by decide +kernel
theorem dX5_goBackTo_67 : decode cX5_goBackTo 67 = .ok (.aload_n 1, 1) := by decide +kernel
theorem dX5_goBackTo_68 : decode cX5_goBackTo 68 = .ok (.getfield 142, 3) := by decide +kernel
theorem dX5_goBackTo_71 : decode cX5_goBackTo 71 = .ok (.putfield 42, 3) := by decide +kernel
theorem dX5_goBackTo_74 : decode cX5_goBackTo 74 = .ok (.aload_n 0, 1) := by decide +kernel
theorem dX5_goBackTo_75 : decode cX5_goBackTo 75 = .ok (.getfield 26, 3) := by decide +kernel
theorem dX5_goBackTo_78 : decode cX5_goBackTo 78 = .ok (.aload_n 1, 1) := by decide +kernel
theorem dX5_goBackTo_79 : decode cX5_goBackTo 79 = .ok (.getfield 143, 3) := by decide +kernel
theorem dX5_goBackTo_82 : decode cX5_goBackTo 82 = .ok (.invokevirtual 32, 3) := by decide +kernel
theorem dX5_goBackTo_85 : decode cX5_goBackTo 85 = .ok (.aload_n 0, 1) := by decide +kernel
theorem dX5_goBackTo_86 : decode cX5_goBackTo 86 = .ok (.getfield 20, 3) := by decide +kernel
theorem dX5_goBackTo_89 : decode cX5_goBackTo 89 = .ok (.aload_n 1, 1) := by decide +kernel
theorem dX5_goBackTo_90 : decode cX5_goBackTo 90 = .ok (.getfield 146, 3) := by decide +kernel
theorem dX5_goBackTo_93 : decode cX5_goBackTo 93 = .ok (.aload_n 1, 1) := by decide +kernel
theorem dX5_goBackTo_94 : decode cX5_goBackTo 94 = .ok (.getfield 156, 3) := by decide +kernel
theorem dX5_goBackTo_97 : decode cX5_goBackTo 97 = .ok (.invokevirtual 105, 3) := by decide +kernel
theorem dX5_goBackTo_100 : decode cX5_goBackTo 100 = .ok (.aload_n 0, 1) := by decide +kernel
theorem dX5_goBackTo_101 : decode cX5_goBackTo 101 = .ok (.iconst 0, 1) := by decide +kernel
theorem dX5_goBackTo_102 : decode cX5_goBackTo 102 = .ok (.putfield 39, 3) := by decide +kernel
theorem dX5_goBackTo_105 : decode cX5_goBackTo 105 = .ok (.aload_n 0, 1) := by decide +kernel
theorem dX5_goBackTo_106 : decode cX5_goBackTo 106 = .ok (.dup, 1) := by decide +kernel
theorem dX5_goBackTo_107 : decode cX5_goBackTo 107 = .ok (.getfield 45, 3) := by decide +kernel
theorem dX5_goBackTo_110 : decode cX5_goBackTo 110 = .ok (.iconst 1, 1) := by decide +kernel
theorem dX5_goBackTo_111 : decode cX5_goBackTo 111 = .ok (.isub, 1) := by decide +kernel
theorem dX5_goBackTo_112 : decode cX5_goBackTo 112 = .ok (.putfield 45, 3) := by decide +kernel
theorem dX5_goBackTo_115 : decode cX5_goBackTo 115 = .ok (.return_, 1) := by decide +kernel
theorem dX5_mixedInto_0 : decode cX5_mixedInto 0 = .ok (.aload_n 0, 1) := by decide +kernel
theorem dX5_mixedInto_1 : decode cX5_mixedInto 1 = .ok (.getfield 14, 3) := by decide +kernel
theorem dX5_mixedInto_4 : decode cX5_mixedInto 4 = .ok (.lload_n 1, 1) := by decide +kernel
theorem dX5_mixedInto_5 : decode cX5_mixedInto 5 = .ok (.invokevirtual 159, 3) := by decide +kernel
theorem dX5_mixedInto_8 : decode cX5_mixedInto 8 = .ok (.lstore_n 3, 1) := by decide +kernel
theorem dX5_mixedInto_9 : decode cX5_mixedInto 9 = .ok (.aload_n 0, 1) := by decide +kernel
theorem dX5_mixedInto_10 : decode cX5_mixedInto 10 = .ok (.getfield 20, 3) := by decide +kernel
theorem dX5_mixedInto_13 : decode cX5_mixedInto 13 = .ok (.lload_n 3, 1) := by decide +kernel
theorem dX5_mixedInto_14 : decode cX5_mixedInto 14 = .ok (.invokevirtual 163, 3) := by decide +kernel
theorem dX5_mixedInto_17 : decode cX5_mixedInto 17 = .ok (.lstore_n 3, 1) := by decide +kernel
theorem dX5_mixedInto_18 : decode cX5_mixedInto 18 = .ok (.aload_n 0, 1) := by decide +kernel
theorem dX5_mixedInto_19 : decode cX5_mixedInto 19 = .ok (.getfield 23, 3) := by decide +kernel
theorem dX5_mixedInto_22 : decode cX5_mixedInto 22 = .ok (.lload_n 3, 1) := by decide +kernel
theorem dX5_mixedInto_23 : decode cX5_mixedInto 23 = .ok (.invokevirtual 159, 3) := by decide +kernel
theorem dX5_mixedInto_26 : decode cX5_mixedInto 26 = .ok (.lstore_n 3, 1) := by decide +kernel
theorem dX5_mixedInto_27 : decode cX5_mixedInto 27 = .ok (.aload_n 0, 1) := by decide +kernel
theorem dX5_mixedInto_28 : decode cX5_mixedInto 28 = .ok (.getfield 26, 3) := by decide +kernel
theorem dX5_mixedInto_31 : decode cX5_mixedInto 31 = .ok (.lload_n 3, 1) := by decide +kernel
theorem dX5_mixedInto_32 : decode cX5_mixedInto 32 = .ok (.invokevirtual 163, 3) := by decide +kernel
theorem dX5_mixedInto_35 : decode cX5_mixedInto 35 = .ok (.lreturn, 1) := by decide +kernel
