theorem dX12_whyNot_1 : decode cX12_whyNot 1 = .ok (.iload_n 1, 1) := by decide +kernel
theorem dX12_whyNot_2 : decode cX12_whyNot 2 = .ok (.invokevirtual 332, 3) := by decide +kernel
theorem dX12_whyNot_5 : decode cX12_whyNot 5 = .ok (.ifCond .ne 5, 3) := by decide +kernel
theorem dX12_whyNot_8 : decode cX12_whyNot 8 = .ok (.iconst 0, 1) := by decide +kernel
theorem dX12_whyNot_9 : decode cX12_whyNot 9 = .ok (.ireturn, 1) := by decide +kernel
theorem dX12_whyNot_10 : decode cX12_whyNot 10 = .ok (.aload_n 0, 1) := by decide +kernel
theorem dX12_whyNot_11 : decode cX12_whyNot 11 = .ok (.iload_n 1, 1) := by decide +kernel
theorem dX12_whyNot_12 : decode cX12_whyNot 12 = .ok (.invokevirtual 335, 3) := by decide +kernel
theorem dX12_whyNot_15 : decode cX12_whyNot 15 = .ok (.aload_n 0, 1) := by decide +kernel
theorem dX12_whyNot_16 : decode cX12_whyNot 16 = .ok (.getfield 49, 3) := by decide +kernel
theorem dX12_whyNot_19 : decode cX12_whyNot 19 = .ok (.iconst 0, 1) := by decide +kernel
theorem dX12_whyNot_20 : decode cX12_whyNot 20 = .ok (.iaload, 1) := by decide +kernel
theorem dX12_whyNot_21 : decode cX12_whyNot 21 = .ok (.if_icmp .gt 23, 3) := by decide +kernel
theorem dX12_whyNot_24 : decode cX12_whyNot 24 = .ok (.aload_n 0, 1) := by decide +kernel
theorem dX12_whyNot_25 : decode cX12_whyNot 25 = .ok (.getfield 58, 3) := by decide +kernel
theorem dX12_whyNot_28 : decode cX12_whyNot 28 = .ok (.bipush 9, 2) := by decide +kernel
theorem dX12_whyNot_30 : decode cX12_whyNot 30 = .ok (.iaload, 1) := by decide +kernel
theorem dX12_whyNot_31 : decode cX12_whyNot 31 = .ok (.aload_n 0, 1) := by decide +kernel
theorem dX12_whyNot_32 : decode cX12_whyNot 32 = .ok (.iload_n 1, 1) := by decide +kernel
theorem dX12_whyNot_33 : decode cX12_whyNot 33 = .ok (.invokevirtual 313, 3) := by decide +kernel
theorem dX12_whyNot_36 : decode cX12_whyNot 36 = .ok (.iadd, 1) := by decide +kernel
theorem dX12_whyNot_37 : decode cX12_whyNot 37 = .ok (.aload_n 0, 1) := by decide +kernel
theorem dX12_whyNot_38 : decode cX12_whyNot 38 = .ok (.invokevirtual 329, 3) := by decide +kernel
theorem dX12_whyNot_41 : decode cX12_whyNot 41 = .ok (.if_icmp .le 7, 3) := by decide +kernel
theorem dX12_whyNot_44 : decode cX12_whyNot 44 = .ok (.iconst 1, 1) := by decide +kernel
theorem dX12_whyNot_45 : decode cX12_whyNot 45 = .ok (.goto 4, 3) := by decide +kernel
theorem dX12_whyNot_48 : decode cX12_whyNot 48 = .ok (.iconst 0, 1) := by decide +kernel
theorem dX12_whyNot_49 : decode cX12_whyNot 49 = .ok (.istore_n 2, 1) := by decide +kernel
theorem dX12_whyNot_50 : decode cX12_whyNot 50 = .ok (.aload_n 0, 1) := by decide +kernel
theorem dX12_whyNot_51 : decode cX12_whyNot 51 = .ok (.getfield 58, 3) := by decide +kernel
theorem dX12_whyNot_54 : decode cX12_whyNot 54 = .ok (.bipush 10, 2) := by decide +kernel
theorem dX12_whyNot_56 : decode cX12_whyNot 56 = .ok (.iaload, 1) := by decide +kernel
theorem dX12_whyNot_57 : decode cX12_whyNot 57 = .ok (.iload_n 1, 1) := by decide +kernel
theorem dX12_whyNot_58 : decode cX12_whyNot 58 = .ok (.if_icmp .eq 17, 3) := by decide +kernel
theorem dX12_whyNot_61 : decode cX12_whyNot 61 = .ok (.aload_n 0, 1) := by decide +kernel
theorem dX12_whyNot_62 : decode cX12_whyNot 62 = .ok (.getfield 58, 3) := by decide +kernel
theorem dX12_whyNot_65 : decode cX12_whyNot 65 = .ok (.bipush 11, 2) := by decide +kernel
theorem dX12_whyNot_67 : decode cX12_whyNot 67 = .ok (.iaload, 1) := by decide +kernel
theorem dX12_whyNot_68 : decode cX12_whyNot 68 = .ok (.iload_n 1, 1) := by decide +kernel
theorem dX12_whyNot_69 : decode cX12_whyNot 69 = .ok (.invokestatic 231, 3) := by decide +kernel
theorem dX12_whyNot_72 : decode cX12_whyNot 72 = .ok (.ifCond .eq 7, 3) := by decide +kernel
theorem dX12_whyNot_75 : decode cX12_whyNot 75 = .ok (.iconst 2, 1) := by decide +kernel
theorem dX12_whyNot_76 : decode cX12_whyNot 76 = .ok (.goto 12, 3) := by decide +kernel
theorem dX12_whyNot_79 : decode cX12_whyNot 79 = .ok (.iload_n 2, 1) := by decide +kernel
theorem dX12_whyNot_80 : decode cX12_whyNot 80 = .ok (.ifCond .eq 7, 3) := by decide +kernel
theorem dX12_whyNot_83 : decode cX12_whyNot 83 = .ok (.iconst 4, 1) := by decide +kernel
theorem dX12_whyNot_84 : decode cX12_whyNot 84 = .ok (.goto 4, 3) := by decide +kernel
theorem dX12_whyNot_87 : decode cX12_whyNot 87 = .ok (.iconst (-1), 1) := by decide +kernel
theorem dX12_whyNot_88 : decode cX12_whyNot 88 = .ok (.ireturn, 1) := by decide +kernel
theorem dX12_easesNow_0 : decode cX12_easesNow 0 = .ok (.aload_n 0, 1) := by decide +kernel
theorem dX12_easesNow_1 : decode cX12_easesNow 1 = .ok (.iload_n 1, 1) := by decide +kernel
theorem dX12_easesNow_2 : decode cX12_easesNow 2 = .ok (.invokevirtual 295, 3) := by decide +kernel
theorem dX12_easesNow_5 : decode cX12_easesNow 5 = .ok (.ifCond .eq 7, 3) := by decide +kernel
theorem dX12_easesNow_8 : decode cX12_easesNow 8 = .ok (.iconst 0, 1) := by decide +kernel
theorem dX12_easesNow_9 : decode cX12_easesNow 9 = .ok (.goto 19, 3) := by decide +kernel
theorem dX12_easesNow_12 : decode cX12_easesNow 12 = .ok (.aload_n 0, 1) := by decide +kernel
theorem dX12_easesNow_13 : decode cX12_easesNow 13 = .ok (.getfield 58, 3) := by decide +kernel
theorem dX12_easesNow_16 : decode cX12_easesNow 16 = .ok (.iconst 0, 1) := by decide +kernel
theorem dX12_easesNow_17 : decode cX12_easesNow 17 = .ok (.iload_n 1, 1) := by decide +kernel
theorem dX12_easesNow_18 : decode cX12_easesNow 18 = .ok (.iadd, 1) := by decide +kernel
theorem dX12_easesNow_19 : decode cX12_easesNow 19 = .ok (.iaload, 1) := by decide +kernel
theorem dX12_easesNow_20 : decode cX12_easesNow 20 = .ok (.aload_n 0, 1) := by decide +kernel
theorem dX12_easesNow_21 : decode cX12_easesNow 21 = .ok (.iload_n 1, 1) := by decide +kernel
theorem dX12_easesNow_22 : decode cX12_easesNow 22 = .ok (.invokevirtual 326, 3) := by decide +kernel
theorem dX12_easesNow_25 : decode cX12_easesNow 25 = .ok (.invokestatic 301, 3) := by decide +kernel
theorem dX12_easesNow_28 : decode cX12_easesNow 28 = .ok (.ireturn, 1) := by decide +kernel
theorem dX12_carryNow_0 : decode cX12_carryNow 0 = .ok (.aload_n 0, 1) := by decide +kernel
theorem dX12_carryNow_1 : decode cX12_carryNow 1 = .ok (.iload_n 1, 1) := by decide +kernel
theorem dX12_carryNow_2 : decode cX12_carryNow 2 = .ok (.invokevirtual 338, 3) := by decide +kernel
theorem dX12_carryNow_5 : decode cX12_carryNow 5 = .ok (.istore_n 2, 1) := by decide +kernel
theorem dX12_carryNow_6 : decode cX12_carryNow 6 = .ok (.aload_n 0, 1) := by decide +kernel
theorem dX12_carryNow_7 : decode cX12_carryNow 7 = .ok (.iload_n 1, 1) := by decide +kernel
theorem dX12_carryNow_8 : decode cX12_carryNow 8 = .ok (.invokevirtual 313, 3) := by decide +kernel
theorem dX12_carryNow_11 : decode cX12_carryNow 11 = .ok (.istore_n 3, 1) := by decide +kernel
theorem dX12_carryNow_12 : decode cX12_carryNow 12 = .ok (.aload_n 0, 1) := by decide +kernel
theorem dX12_carryNow_13 : decode cX12_carryNow 13 = .ok (.getfield 58, 3) := by decide +kernel
theorem dX12_carryNow_16 : decode cX12_carryNow 16 = .ok (.bipush 8, 2) := by decide +kernel
theorem dX12_carryNow_18 : decode cX12_carryNow 18 = .ok (.aload_n 0, 1) := by decide +kernel
theorem dX12_carryNow_19 : decode cX12_carryNow 19 = .ok (.iload_n 1, 1) := by decide +kernel
theorem dX12_carryNow_20 : decode cX12_carryNow 20 = .ok (.invokevirtual 335, 3) := by decide +kernel
theorem dX12_carryNow_23 : decode cX12_carryNow 23 = .ok (.iastore, 1) := by decide +kernel
theorem dX12_carryNow_24 : decode cX12_carryNow 24 = .ok (.aload_n 0, 1) := by decide +kernel
theorem dX12_carryNow_25 : decode cX12_carryNow 25 = .ok (.getfield 58, 3) := by decide +kernel
theorem dX12_carryNow_28 : decode cX12_carryNow 28 = .ok (.iconst 0, 1) := by decide +kernel
theorem dX12_carryNow_29 : decode cX12_carryNow 29 = .ok (.iload_n 1, 1) := by decide +kernel
theorem dX12_carryNow_30 : decode cX12_carryNow 30 = .ok (.iadd, 1) := by decide +kernel
theorem dX12_carryNow_31 : decode cX12_carryNow 31 = .ok (.dup2, 1) := by decide +kernel
theorem dX12_carryNow_32 : decode cX12_carryNow 32 = .ok (.iaload, 1) := by decide +kernel
theorem dX12_carryNow_33 : decode cX12_carryNow 33 = .ok (.iload_n 2, 1) := by decide +kernel
theorem dX12_carryNow_34 : decode cX12_carryNow 34 = .ok (.isub, 1) := by decide +kernel
theorem dX12_carryNow_35 : decode cX12_carryNow 35 = .ok (.iastore, 1) := by decide +kernel
theorem dX12_carryNow_36 : decode cX12_carryNow 36 = .ok (.aload_n 0, 1) := by decide +kernel
theorem dX12_carryNow_37 : decode cX12_carryNow 37 = .ok (.getfield 58, 3) := by decide +kernel
theorem dX12_carryNow_40 : decode cX12_carryNow 40 = .ok (.bipush 9, 2) := by decide +kernel
theorem dX12_carryNow_42 : decode cX12_carryNow 42 = .ok (.dup2, 1) := by decide +kernel
theorem dX12_carryNow_43 : decode cX12_carryNow 43 = .ok (.iaload, 1) := by decide +kernel
theorem dX12_carryNow_44 : decode cX12_carryNow 44 = .ok (.iload_n 3, 1) := by decide +kernel
theorem dX12_carryNow_45 : decode cX12_carryNow 45 = .ok (.iadd, 1) := by decide +kernel
theorem dX12_carryNow_46 : decode cX12_carryNow 46 = .ok (.iastore, 1) := by decide +kernel
theorem dX12_carryNow_47 : decode cX12_carryNow 47 = .ok (.aload_n 0, 1) := by decide +kernel
theorem dX12_carryNow_48 : decode cX12_carryNow 48 = .ok (.getfield 58, 3) := by decide +kernel
theorem dX12_carryNow_51 : decode cX12_carryNow 51 = .ok (.bipush 10, 2) := by decide +kernel
theorem dX12_carryNow_53 : decode cX12_carryNow 53 = .ok (.iload_n 1, 1) := by decide +kernel
theorem dX12_carryNow_54 : decode cX12_carryNow 54 = .ok (.iastore, 1) := by decide +kernel
theorem dX12_carryNow_55 : decode cX12_carryNow 55 = .ok (.aload_n 0, 1) := by decide +kernel
theorem dX12_carryNow_56 : decode cX12_carryNow 56 = .ok (.getfield 58, 3) := by decide +kernel
theorem dX12_carryNow_59 : decode cX12_carryNow 59 = .ok (.bipush 11, 2) := by decide +kernel
theorem dX12_carryNow_61 : decode cX12_carryNow 61 = .ok (.dup2, 1) := by decide +kernel
theorem dX12_carryNow_62 : decode cX12_carryNow 62 = .ok (.iaload, 1) := by decide +kernel
theorem dX12_carryNow_63 : decode cX12_carryNow 63 = .ok (.iconst 1, 1) := by decide +kernel
theorem dX12_carryNow_64 : decode cX12_carryNow 64 = .ok (.iload_n 1, 1) := by decide +kernel
theorem dX12_carryNow_65 : decode cX12_carryNow 65 = .ok (.ishl, 1) := by decide +kernel
theorem dX12_carryNow_66 : decode cX12_carryNow 66 = .ok (.ior, 1) := by decide +kernel
theorem dX12_carryNow_67 : decode cX12_carryNow 67 = .ok (.iastore, 1) := by decide +kernel
theorem dX12_carryNow_68 : decode cX12_carryNow 68 = .ok (.aload_n 0, 1) := by decide +kernel
theorem dX12_carryNow_69 : decode cX12_carryNow 69 = .ok (.getfield 58, 3) := by decide +kernel
theorem dX12_carryNow_72 : decode cX12_carryNow 72 = .ok (.bipush 13, 2) := by decide +kernel
theorem dX12_carryNow_74 : decode cX12_carryNow 74 = .ok (.dup2, 1) := by decide +kernel
theorem dX12_carryNow_75 : decode cX12_carryNow 75 = .ok (.iaload, 1) := by decide +kernel
theorem dX12_carryNow_76 : decode cX12_carryNow 76 = .ok (.iload_n 2, 1) := by decide +kernel
theorem dX12_carryNow_77 : decode cX12_carryNow 77 = .ok (.iadd, 1) := by decide +kernel
theorem dX12_carryNow_78 : decode cX12_carryNow 78 = .ok (.iastore, 1) := by decide +kernel
theorem dX12_carryNow_79 : decode cX12_carryNow 79 = .ok (.iload_n 2, 1) := by decide +kernel
theorem dX12_carryNow_80 : decode cX12_carryNow 80 = .ok (.ireturn, 1) := by decide +kernel
theorem dX12_carryLogged_0 : decode cX12_carryLogged 0 = .ok (.aload_n 0, 1) := by decide +kernel
theorem dX12_carryLogged_1 : decode cX12_carryLogged 1 = .ok (.iload_n 1, 1) := by decide +kernel
theorem dX12_carryLogged_2 : decode cX12_carryLogged 2 = .ok (.invokevirtual 326, 3) := by decide +kernel
theorem dX12_carryLogged_5 : decode cX12_carryLogged 5 = .ok (.istore_n 2, 1) := by decide +kernel
theorem dX12_carryLogged_6 : decode cX12_carryLogged 6 = .ok (.aload_n 0, 1) := by decide +kernel
theorem dX12_carryLogged_7 : decode cX12_carryLogged 7 = .ok (.iload_n 1, 1) := by decide +kernel
theorem dX12_carryLogged_8 : decode cX12_carryLogged 8 = .ok (.invokevirtual 341, 3) := by decide +kernel
theorem dX12_carryLogged_11 : decode cX12_carryLogged 11 = .ok (.istore_n 3, 1) := by decide +kernel
theorem dX12_carryLogged_12 : decode cX12_carryLogged 12 = .ok (.aload_n 0, 1) := by decide +kernel
theorem dX12_carryLogged_13 : decode cX12_carryLogged 13 = .ok (.getfield 58, 3) := by decide +kernel
theorem dX12_carryLogged_16 : decode cX12_carryLogged 16 = .ok (.bipush 14, 2) := by decide +kernel
theorem dX12_carryLogged_18 : decode cX12_carryLogged 18 = .ok (.iaload, 1) := by decide +kernel
theorem dX12_carryLogged_19 : decode cX12_carryLogged 19 = .ok (.bipush 60, 2) := by decide +kernel
theorem dX12_carryLogged_21 : decode cX12_carryLogged 21 = .ok (.if_icmp .ne 53, 3) := by decide +kernel
theorem dX12_carryLogged_24 : decode cX12_carryLogged 24 = .ok (.iconst 4, 1) := by decide +kernel
theorem dX12_carryLogged_25 : decode cX12_carryLogged 25 = .ok (.istore 4, 2) := by decide +kernel
theorem dX12_carryLogged_27 : decode cX12_carryLogged 27 = .ok (.iload 4, 2) := by decide +kernel
theorem dX12_carryLogged_29 : decode cX12_carryLogged 29 = .ok (.sipush 240, 3) := by decide +kernel
theorem dX12_carryLogged_32 : decode cX12_carryLogged 32 = .ok (.if_icmp .ge 31, 3) := by decide +kernel
theorem dX12_carryLogged_35 : decode cX12_carryLogged 35 = .ok (.aload_n 0, 1) := by decide +kernel
theorem dX12_carryLogged_36 : decode cX12_carryLogged 36 = .ok (.getfield 58, 3) := by decide +kernel
theorem dX12_carryLogged_39 : decode cX12_carryLogged 39 = .ok (.bipush 15, 2) := by decide +kernel
theorem dX12_carryLogged_41 : decode cX12_carryLogged 41 = .ok (.iload 4, 2) := by decide +kernel
theorem dX12_carryLogged_43 : decode cX12_carryLogged 43 = .ok (.iadd, 1) := by decide +kernel
theorem dX12_carryLogged_44 : decode cX12_carryLogged 44 = .ok (.iconst 4, 1) := by decide +kernel
theorem dX12_carryLogged_45 : decode cX12_carryLogged 45 = .ok (.isub, 1) := by decide +kernel
theorem dX12_carryLogged_46 : decode cX12_carryLogged 46 = .ok (.aload_n 0, 1) := by decide +kernel
theorem dX12_carryLogged_47 : decode cX12_carryLogged 47 = .ok (.getfield 58, 3) := by decide +kernel
theorem dX12_carryLogged_50 : decode cX12_carryLogged 50 = .ok (.bipush 15, 2) := by decide +kernel
theorem dX12_carryLogged_52 : decode cX12_carryLogged 52 = .ok (.iload 4, 2) := by decide +kernel
theorem dX12_carryLogged_54 : decode cX12_carryLogged 54 = .ok (.iadd, 1) := by decide +kernel
theorem dX12_carryLogged_55 : decode cX12_carryLogged 55 = .ok (.iaload, 1) := by decide +kernel
theorem dX12_carryLogged_56 : decode cX12_carryLogged 56 = .ok (.iastore, 1) := by decide +kernel
theorem dX12_carryLogged_57 : decode cX12_carryLogged 57 = .ok (.iinc 4 1, 3) := by decide +kernel
theorem dX12_carryLogged_60 : decode cX12_carryLogged 60 = .ok (.goto (-33), 3) := by decide +kernel
theorem dX12_carryLogged_63 : decode cX12_carryLogged 63 = .ok (.aload_n 0, 1) := by decide +kernel
theorem dX12_carryLogged_64 : decode cX12_carryLogged 64 = .ok (.getfield 58, 3) := by decide +kernel
theorem dX12_carryLogged_67 : decode cX12_carryLogged 67 = .ok (.bipush 14, 2) := by decide +kernel
theorem dX12_carryLogged_69 : decode cX12_carryLogged 69 = .ok (.dup2, 1) := by decide +kernel
theorem dX12_carryLogged_70 : decode cX12_carryLogged 70 = .ok (.iaload, 1) := by decide +kernel
theorem dX12_carryLogged_71 : decode cX12_carryLogged 71 = .ok (.iconst 1, 1) := by decide +kernel
theorem dX12_carryLogged_72 : decode cX12_carryLogged 72 = .ok (.isub, 1) := by decide +kernel
theorem dX12_carryLogged_73 : decode cX12_carryLogged 73 = .ok (.iastore, 1) := by decide +kernel
theorem dX12_carryLogged_74 : decode cX12_carryLogged 74 = .ok (.bipush 15, 2) := by decide +kernel
theorem dX12_carryLogged_76 : decode cX12_carryLogged 76 = .ok (.iconst 4, 1) := by decide +kernel
theorem dX12_carryLogged_77 : decode cX12_carryLogged 77 = .ok (.aload_n 0, 1) := by decide +kernel
theorem dX12_carryLogged_78 : decode cX12_carryLogged 78 = .ok (.getfield 58, 3) := by decide +kernel
theorem dX12_carryLogged_81 : decode cX12_carryLogged 81 = .ok (.bipush 14, 2) := by decide +kernel
theorem dX12_carryLogged_83 : decode cX12_carryLogged 83 = .ok (.iaload, 1) := by decide +kernel
theorem dX12_carryLogged_84 : decode cX12_carryLogged 84 = .ok (.imul, 1) := by decide +kernel
theorem dX12_carryLogged_85 : decode cX12_carryLogged 85 = .ok (.iadd, 1) := by decide +kernel
theorem dX12_carryLogged_86 : decode cX12_carryLogged 86 = .ok (.istore 4, 2) := by decide +kernel
theorem dX12_carryLogged_88 : decode cX12_carryLogged 88 = .ok (.aload_n 0, 1) := by decide +kernel
theorem dX12_carryLogged_89 : decode cX12_carryLogged 89 = .ok (.getfield 58, 3) := by decide +kernel
theorem dX12_carryLogged_92 : decode cX12_carryLogged 92 = .ok (.iload 4, 2) := by decide +kernel
theorem dX12_carryLogged_94 : decode cX12_carryLogged 94 = .ok (.iload_n 1, 1) := by decide +kernel
theorem dX12_carryLogged_95 : decode cX12_carryLogged 95 = .ok (.iastore, 1) := by decide +kernel
theorem dX12_carryLogged_96 : decode cX12_carryLogged 96 = .ok (.aload_n 0, 1) := by decide +kernel
theorem dX12_carryLogged_97 : decode cX12_carryLogged 97 = .ok (.getfield 58, 3) := by decide +kernel
theorem dX12_carryLogged_100 : decode cX12_carryLogged 100 = .ok (.iload 4, 2) := by decide +kernel
theorem dX12_carryLogged_102 : decode cX12_carryLogged 102 = .ok (.iconst 1, 1) := by decide +kernel
theorem dX12_carryLogged_103 : decode cX12_carryLogged 103 = .ok (.iadd, 1) := by decide +kernel
theorem dX12_carryLogged_104 : decode cX12_carryLogged 104 = .ok (.iload_n 2, 1) := by decide +kernel
theorem dX12_carryLogged_105 : decode cX12_carryLogged 105 = .ok (.iastore, 1) := by decide +kernel
theorem dX12_carryLogged_106 : decode cX12_carryLogged 106 = .ok (.aload_n 0, 1) := by decide +kernel
theorem dX12_carryLogged_107 : decode cX12_carryLogged 107 = .ok (.getfield 58, 3) := by decide +kernel
theorem dX12_carryLogged_110 : decode cX12_carryLogged 110 = .ok (.iload 4, 2) := by decide +kernel
theorem dX12_carryLogged_112 : decode cX12_carryLogged 112 = .ok (.iconst 2, 1) := by decide +kernel
theorem dX12_carryLogged_113 : decode cX12_carryLogged 113 = .ok (.iadd, 1) := by decide +kernel
theorem dX12_carryLogged_114 : decode cX12_carryLogged 114 = .ok (.iload_n 3, 1) := by decide +kernel
theorem dX12_carryLogged_115 : decode cX12_carryLogged 115 = .ok (.iastore, 1) := by decide +kernel
theorem dX12_carryLogged_116 : decode cX12_carryLogged 116 = .ok (.aload_n 0, 1) := by decide +kernel
theorem dX12_carryLogged_117 : decode cX12_carryLogged 117 = .ok (.getfield 58, 3) := by decide +kernel
theorem dX12_carryLogged_120 : decode cX12_carryLogged 120 = .ok (.iload 4, 2) := by decide +kernel
theorem dX12_carryLogged_122 : decode cX12_carryLogged 122 = .ok (.iconst 3, 1) := by decide +kernel
theorem dX12_carryLogged_123 : decode cX12_carryLogged 123 = .ok (.iadd, 1) := by decide +kernel
theorem dX12_carryLogged_124 : decode cX12_carryLogged 124 = .ok (.aload_n 0, 1) := by decide +kernel
theorem dX12_carryLogged_125 : decode cX12_carryLogged 125 = .ok (.getfield 58, 3) := by decide +kernel
theorem dX12_carryLogged_128 : decode cX12_carryLogged 128 = .ok (.bipush 8, 2) := by decide +kernel
theorem dX12_carryLogged_130 : decode cX12_carryLogged 130 = .ok (.iaload, 1) := by decide +kernel
theorem dX12_carryLogged_131 : decode cX12_carryLogged 131 = .ok (.iastore, 1) := by decide +kernel
theorem dX12_carryLogged_132 : decode cX12_carryLogged 132 = .ok (.aload_n 0, 1) := by decide +kernel
theorem dX12_carryLogged_133 : decode cX12_carryLogged 133 = .ok (.getfield 58, 3) := by decide +kernel
theorem dX12_carryLogged_136 : decode cX12_carryLogged 136 = .ok (.bipush 14, 2) := by decide +kernel
theorem dX12_carryLogged_138 : decode cX12_carryLogged 138 = .ok (.dup2, 1) := by decide +kernel
theorem dX12_carryLogged_139 : decode cX12_carryLogged 139 = .ok (.iaload, 1) := by decide +kernel
theorem dX12_carryLogged_140 : decode cX12_carryLogged 140 = .ok (.iconst 1, 1) := by decide +kernel
theorem dX12_carryLogged_141 : decode cX12_carryLogged 141 = .ok (.iadd, 1) := by decide +kernel
theorem dX12_carryLogged_142 : decode cX12_carryLogged 142 = .ok (.iastore, 1) := by decide +kernel
theorem dX12_carryLogged_143 : decode cX12_carryLogged 143 = .ok (.iload_n 3, 1) := by decide +kernel
theorem dX12_carryLogged_144 : decode cX12_carryLogged 144 = .ok (.ireturn, 1) := by decide +kernel
theorem dX12_carry_0 : decode cX12_carry 0 = .ok (.aload_n 0, 1) := by decide +kernel
theorem dX12_carry_1 : decode cX12_carry 1 = .ok (.aload_n 0, 1) := by decide +kernel
theorem dX12_carry_2 : decode cX12_carry 2 = .ok (.iload_n 1, 1) := by decide +kernel
theorem dX12_carry_3 : decode cX12_carry 3 = .ok (.invokevirtual 344, 3) := by decide +kernel
theorem dX12_carry_6 : decode cX12_carry 6 = .ok (.invokevirtual 347, 3) := by decide +kernel
theorem dX12_carry_9 : decode cX12_carry 9 = .ok (.ifCond .eq 5, 3) := by decide +kernel
theorem dX12_carry_12 : decode cX12_carry 12 = .ok (.iconst (-1), 1) := by decide +kernel
theorem dX12_carry_13 : decode cX12_carry 13 = .ok (.ireturn, 1) := by decide +kernel
theorem dX12_carry_14 : decode cX12_carry 14 = .ok (.aload_n 0, 1) := by decide +kernel
theorem dX12_carry_15 : decode cX12_carry 15 = .ok (.invokevirtual 350, 3) := by decide +kernel
theorem dX12_carry_18 : decode cX12_carry 18 = .ok (.aload_n 0, 1) := by decide +kernel
theorem dX12_carry_19 : decode cX12_carry 19 = .ok (.iload_n 1, 1) := by decide +kernel
theorem dX12_carry_20 : decode cX12_carry 20 = .ok (.invokevirtual 353, 3) := by decide +kernel
theorem dX12_carry_23 : decode cX12_carry 23 = .ok (.ireturn, 1) := by decide +kernel
theorem dX12_rest_0 : decode cX12_rest 0 = .ok (.aload_n 0, 1) := by decide +kernel
theorem dX12_rest_1 : decode cX12_rest 1 = .ok (.aload_n 0, 1) := by decide +kernel
theorem dX12_rest_2 : decode cX12_rest 2 = .ok (.getfield 264, 3) := by decide +kernel
theorem dX12_rest_5 : decode cX12_rest 5 = .ok (.ifCond .ne 7, 3) := by decide +kernel
theorem dX12_rest_8 : decode cX12_rest 8 = .ok (.iconst 0, 1) := by decide +kernel
theorem dX12_rest_9 : decode cX12_rest 9 = .ok (.goto 40, 3) := by decide +kernel
theorem dX12_rest_12 : decode cX12_rest 12 = .ok (.aload_n 0, 1) := by decide +kernel
theorem dX12_rest_13 : decode cX12_rest 13 = .ok (.getfield 58, 3) := by decide +kernel
theorem dX12_rest_16 : decode cX12_rest 16 = .ok (.bipush 9, 2) := by decide +kernel
theorem dX12_rest_18 : decode cX12_rest 18 = .ok (.iaload, 1) := by decide +kernel
theorem dX12_rest_19 : decode cX12_rest 19 = .ok (.ifCond .ne 7, 3) := by decide +kernel
theorem dX12_rest_22 : decode cX12_rest 22 = .ok (.iconst 2, 1) := by decide +kernel
theorem dX12_rest_23 : decode cX12_rest 23 = .ok (.goto 26, 3) := by decide +kernel
theorem dX12_rest_26 : decode cX12_rest 26 = .ok (.aload_n 0, 1) := by decide +kernel
theorem dX12_rest_27 : decode cX12_rest 27 = .ok (.getfield 58, 3) := by decide +kernel
theorem dX12_rest_30 : decode cX12_rest 30 = .ok (.bipush 8, 2) := by decide +kernel
theorem dX12_rest_32 : decode cX12_rest 32 = .ok (.iaload, 1) := by decide +kernel
theorem dX12_rest_33 : decode cX12_rest 33 = .ok (.iconst 5, 1) := by decide +kernel
theorem dX12_rest_34 : decode cX12_rest 34 = .ok (.iadd, 1) := by decide +kernel
theorem dX12_rest_35 : decode cX12_rest 35 = .ok (.aload_n 0, 1) := by decide +kernel
theorem dX12_rest_36 : decode cX12_rest 36 = .ok (.getfield 49, 3) := by decide +kernel
theorem dX12_rest_39 : decode cX12_rest 39 = .ok (.iconst 0, 1) := by decide +kernel
theorem dX12_rest_40 : decode cX12_rest 40 = .ok (.iaload, 1) := by decide +kernel
theorem dX12_rest_41 : decode cX12_rest 41 = .ok (.if_icmp .le 7, 3) := by decide +kernel
theorem dX12_rest_44 : decode cX12_rest 44 = .ok (.iconst 4, 1) := by decide +kernel
theorem dX12_rest_45 : decode cX12_rest 45 = .ok (.goto 4, 3) := by decide +kernel
theorem dX12_rest_48 : decode cX12_rest 48 = .ok (.iconst (-1), 1) := by decide +kernel
theorem dX12_rest_49 : decode cX12_rest 49 = .ok (.invokevirtual 347, 3) := by decide +kernel
theorem dX12_rest_52 : decode cX12_rest 52 = .ok (.ifCond .eq 5, 3) := by decide +kernel
theorem dX12_rest_55 : decode cX12_rest 55 = .ok (.iconst (-1), 1) := by decide +kernel
theorem dX12_rest_56 : decode cX12_rest 56 = .ok (.ireturn, 1) := by decide +kernel
theorem dX12_rest_57 : decode cX12_rest 57 = .ok (.aload_n 0, 1) := by decide +kernel
theorem dX12_rest_58 : decode cX12_rest 58 = .ok (.invokevirtual 350, 3) := by decide +kernel
theorem dX12_rest_61 : decode cX12_rest 61 = .ok (.aload_n 0, 1) := by decide +kernel
theorem dX12_rest_62 : decode cX12_rest 62 = .ok (.getfield 58, 3) := by decide +kernel
theorem dX12_rest_65 : decode cX12_rest 65 = .ok (.bipush 8, 2) := by decide +kernel
theorem dX12_rest_67 : decode cX12_rest 67 = .ok (.dup2, 1) := by decide +kernel
theorem dX12_rest_68 : decode cX12_rest 68 = .ok (.iaload, 1) := by decide +kernel
theorem dX12_rest_69 : decode cX12_rest 69 = .ok (.iconst 5, 1) := by decide +kernel
theorem dX12_rest_70 : decode cX12_rest 70 = .ok (.iadd, 1) := by decide +kernel
theorem dX12_rest_71 : decode cX12_rest 71 = .ok (.iastore, 1) := by decide +kernel
theorem dX12_rest_72 : decode cX12_rest 72 = .ok (.aload_n 0, 1) := by decide +kernel
theorem dX12_rest_73 : decode cX12_rest 73 = .ok (.getfield 58, 3) := by decide +kernel
theorem dX12_rest_76 : decode cX12_rest 76 = .ok (.bipush 9, 2) := by decide +kernel
theorem dX12_rest_78 : decode cX12_rest 78 = .ok (.iconst 0, 1) := by decide +kernel
theorem dX12_rest_79 : decode cX12_rest 79 = .ok (.aload_n 0, 1) := by decide +kernel
theorem dX12_rest_80 : decode cX12_rest 80 = .ok (.getfield 58, 3) := by decide +kernel
theorem dX12_rest_83 : decode cX12_rest 83 = .ok (.bipush 9, 2) := by decide +kernel
theorem dX12_rest_85 : decode cX12_rest 85 = .ok (.iaload, 1) := by decide +kernel
theorem dX12_rest_86 : decode cX12_rest 86 = .ok (.bipush 10, 2) := by decide +kernel
theorem dX12_rest_88 : decode cX12_rest 88 = .ok (.isub, 1) := by decide +kernel
theorem dX12_rest_89 : decode cX12_rest 89 = .ok (.invokestatic 303, 3) := by decide +kernel
theorem dX12_rest_92 : decode cX12_rest 92 = .ok (.iastore, 1) := by decide +kernel
theorem dX12_rest_93 : decode cX12_rest 93 = .ok (.aload_n 0, 1) := by decide +kernel
theorem dX12_rest_94 : decode cX12_rest 94 = .ok (.getfield 58, 3) := by decide +kernel
theorem dX12_rest_97 : decode cX12_rest 97 = .ok (.bipush 9, 2) := by decide +kernel
theorem dX12_rest_99 : decode cX12_rest 99 = .ok (.iaload, 1) := by decide +kernel
theorem dX12_rest_100 : decode cX12_rest 100 = .ok (.ireturn, 1) := by decide +kernel
theorem dX12_gift_0 : decode cX12_gift 0 = .ok (.aload_n 0, 1) := by decide +kernel
theorem dX12_gift_1 : decode cX12_gift 1 = .ok (.aload_n 0, 1) := by decide +kernel
theorem dX12_gift_2 : decode cX12_gift 2 = .ok (.iload_n 1, 1) := by decide +kernel
theorem dX12_gift_3 : decode cX12_gift 3 = .ok (.invokevirtual 332, 3) := by decide +kernel
theorem dX12_gift_6 : decode cX12_gift 6 = .ok (.ifCond .ne 7, 3) := by decide +kernel
theorem dX12_gift_9 : decode cX12_gift 9 = .ok (.iconst 0, 1) := by decide +kernel
theorem dX12_gift_10 : decode cX12_gift 10 = .ok (.goto 45, 3) := by decide +kernel
theorem dX12_gift_13 : decode cX12_gift 13 = .ok (.iload_n 2, 1) := by decide +kernel
theorem dX12_gift_14 : decode cX12_gift 14 = .ok (.iconst 1, 1) := by decide +kernel
theorem dX12_gift_15 : decode cX12_gift 15 = .ok (.bipush 30, 2) := by decide +kernel
theorem dX12_gift_17 : decode cX12_gift 17 = .ok (.invokestatic 220, 3) := by decide +kernel
theorem dX12_gift_20 : decode cX12_gift 20 = .ok (.ifCond .eq 15, 3) := by decide +kernel
theorem dX12_gift_23 : decode cX12_gift 23 = .ok (.iload_n 2, 1) := by decide +kernel
theorem dX12_gift_24 : decode cX12_gift 24 = .ok (.aload_n 0, 1) := by decide +kernel
theorem dX12_gift_25 : decode cX12_gift 25 = .ok (.getfield 58, 3) := by decide +kernel
theorem dX12_gift_28 : decode cX12_gift 28 = .ok (.iconst 0, 1) := by decide +kernel
theorem dX12_gift_29 : decode cX12_gift 29 = .ok (.iload_n 1, 1) := by decide +kernel
theorem dX12_gift_30 : decode cX12_gift 30 = .ok (.iadd, 1) := by decide +kernel
theorem dX12_gift_31 : decode cX12_gift 31 = .ok (.iaload, 1) := by decide +kernel
theorem dX12_gift_32 : decode cX12_gift 32 = .ok (.if_icmp .le 7, 3) := by decide +kernel
theorem dX12_gift_35 : decode cX12_gift 35 = .ok (.iconst 1, 1) := by decide +kernel
theorem dX12_gift_36 : decode cX12_gift 36 = .ok (.goto 19, 3) := by decide +kernel
theorem dX12_gift_39 : decode cX12_gift 39 = .ok (.aload_n 0, 1) := by decide +kernel
theorem dX12_gift_40 : decode cX12_gift 40 = .ok (.getfield 58, 3) := by decide +kernel
theorem dX12_gift_43 : decode cX12_gift 43 = .ok (.bipush 7, 2) := by decide +kernel
theorem dX12_gift_45 : decode cX12_gift 45 = .ok (.iaload, 1) := by decide +kernel
theorem dX12_gift_46 : decode cX12_gift 46 = .ok (.iload_n 2, 1) := by decide +kernel
theorem dX12_gift_47 : decode cX12_gift 47 = .ok (.if_icmp .ge 7, 3) := by decide +kernel
theorem dX12_gift_50 : decode cX12_gift 50 = .ok (.iconst 3, 1) := by decide +kernel
theorem dX12_gift_51 : decode cX12_gift 51 = .ok (.goto 4, 3) := by decide +kernel
theorem dX12_gift_54 : decode cX12_gift 54 = .ok (.iconst (-1), 1) := by decide +kernel
theorem dX12_gift_55 : decode cX12_gift 55 = .ok (.invokevirtual 347, 3) := by decide +kernel
theorem dX12_gift_58 : decode cX12_gift 58 = .ok (.ifCond .eq 5, 3) := by decide +kernel
theorem dX12_gift_61 : decode cX12_gift 61 = .ok (.iconst (-1), 1) := by decide +kernel
theorem dX12_gift_62 : decode cX12_gift 62 = .ok (.ireturn, 1) := by decide +kernel
theorem dX12_gift_63 : decode cX12_gift 63 = .ok (.aload_n 0, 1) := by decide +kernel
theorem dX12_gift_64 : decode cX12_gift 64 = .ok (.invokevirtual 350, 3) := by decide +kernel
theorem dX12_gift_67 : decode cX12_gift 67 = .ok (.aload_n 0, 1) := by decide +kernel
theorem dX12_gift_68 : decode cX12_gift 68 = .ok (.getfield 58, 3) := by decide +kernel
theorem dX12_gift_71 : decode cX12_gift 71 = .ok (.iconst 0, 1) := by decide +kernel
theorem dX12_gift_72 : decode cX12_gift 72 = .ok (.iload_n 1, 1) := by decide +kernel
theorem dX12_gift_73 : decode cX12_gift 73 = .ok (.iadd, 1) := by decide +kernel
theorem dX12_gift_74 : decode cX12_gift 74 = .ok (.dup2, 1) := by decide +kernel
theorem dX12_gift_75 : decode cX12_gift 75 = .ok (.iaload, 1) := by decide +kernel
theorem dX12_gift_76 : decode cX12_gift 76 = .ok (.iload_n 2, 1) := by decide +kernel
theorem dX12_gift_77 : decode cX12_gift 77 = .ok (.isub, 1) := by decide +kernel
theorem dX12_gift_78 : decode cX12_gift 78 = .ok (.iastore, 1) := by decide +kernel
theorem dX12_gift_79 : decode cX12_gift 79 = .ok (.aload_n 0, 1) := by decide +kernel
theorem dX12_gift_80 : decode cX12_gift 80 = .ok (.getfield 58, 3) := by decide +kernel
theorem dX12_gift_83 : decode cX12_gift 83 = .ok (.bipush 7, 2) := by decide +kernel
theorem dX12_gift_85 : decode cX12_gift 85 = .ok (.dup2, 1) := by decide +kernel
theorem dX12_gift_86 : decode cX12_gift 86 = .ok (.iaload, 1) := by decide +kernel
theorem dX12_gift_87 : decode cX12_gift 87 = .ok (.iload_n 2, 1) := by decide +kernel
theorem dX12_gift_88 : decode cX12_gift 88 = .ok (.isub, 1) := by decide +kernel
theorem dX12_gift_89 : decode cX12_gift 89 = .ok (.iastore, 1) := by decide +kernel
theorem dX12_gift_90 : decode cX12_gift 90 = .ok (.aload_n 0, 1) := by decide +kernel
theorem dX12_gift_91 : decode cX12_gift 91 = .ok (.getfield 58, 3) := by decide +kernel
theorem dX12_gift_94 : decode cX12_gift 94 = .ok (.iconst 0, 1) := by decide +kernel
theorem dX12_gift_95 : decode cX12_gift 95 = .ok (.iload_n 1, 1) := by decide +kernel
theorem dX12_gift_96 : decode cX12_gift 96 = .ok (.iadd, 1) := by decide +kernel
theorem dX12_gift_97 : decode cX12_gift 97 = .ok (.iaload, 1) := by decide +kernel
theorem dX12_gift_98 : decode cX12_gift 98 = .ok (.ireturn, 1) := by decide +kernel
theorem dX12_give_0 : decode cX12_give 0 = .ok (.aload_n 0, 1) := by decide +kernel
theorem dX12_give_1 : decode cX12_give 1 = .ok (.aload_n 0, 1) := by decide +kernel
theorem dX12_give_2 : decode cX12_give 2 = .ok (.getfield 264, 3) := by decide +kernel
theorem dX12_give_5 : decode cX12_give 5 = .ok (.ifCond .ne 7, 3) := by decide +kernel
theorem dX12_give_8 : decode cX12_give 8 = .ok (.iconst 0, 1) := by decide +kernel
theorem dX12_give_9 : decode cX12_give 9 = .ok (.goto 33, 3) := by decide +kernel
theorem dX12_give_12 : decode cX12_give 12 = .ok (.iload_n 1, 1) := by decide +kernel
theorem dX12_give_13 : decode cX12_give 13 = .ok (.iconst 1, 1) := by decide +kernel
theorem dX12_give_14 : decode cX12_give 14 = .ok (.bipush 50, 2) := by decide +kernel
theorem dX12_give_16 : decode cX12_give 16 = .ok (.invokestatic 220, 3) := by decide +kernel
theorem dX12_give_19 : decode cX12_give 19 = .ok (.ifCond .eq 18, 3) := by decide +kernel
theorem dX12_give_22 : decode cX12_give 22 = .ok (.aload_n 0, 1) := by decide +kernel
theorem dX12_give_23 : decode cX12_give 23 = .ok (.getfield 58, 3) := by decide +kernel
theorem dX12_give_26 : decode cX12_give 26 = .ok (.bipush 7, 2) := by decide +kernel
theorem dX12_give_28 : decode cX12_give 28 = .ok (.iaload, 1) := by decide +kernel
theorem dX12_give_29 : decode cX12_give 29 = .ok (.iload_n 1, 1) := by decide +kernel
theorem dX12_give_30 : decode cX12_give 30 = .ok (.iadd, 1) := by decide +kernel
theorem dX12_give_31 : decode cX12_give 31 = .ok (.sipush 999, 3) := by decide +kernel
theorem dX12_give_34 : decode cX12_give 34 = .ok (.if_icmp .le 7, 3) := by decide +kernel
theorem dX12_give_37 : decode cX12_give 37 = .ok (.iconst 1, 1) := by decide +kernel
theorem dX12_give_38 : decode cX12_give 38 = .ok (.goto 4, 3) := by decide +kernel
theorem dX12_give_41 : decode cX12_give 41 = .ok (.iconst (-1), 1) := by decide +kernel
theorem dX12_give_42 : decode cX12_give 42 = .ok (.invokevirtual 347, 3) := by decide +kernel
theorem dX12_give_45 : decode cX12_give 45 = .ok (.ifCond .eq 5, 3) := by decide +kernel
theorem dX12_give_48 : decode cX12_give 48 = .ok (.iconst (-1), 1) := by decide +kernel
theorem dX12_give_49 : decode cX12_give 49 = .ok (.ireturn, 1) := by decide +kernel
theorem dX12_give_50 : decode cX12_give 50 = .ok (.aload_n 0, 1) := by decide +kernel
theorem dX12_give_51 : decode cX12_give 51 = .ok (.invokevirtual 350, 3) := by decide +kernel
theorem dX12_give_54 : decode cX12_give 54 = .ok (.aload_n 0, 1) := by decide +kernel
theorem dX12_give_55 : decode cX12_give 55 = .ok (.getfield 58, 3) := by decide +kernel
theorem dX12_give_58 : decode cX12_give 58 = .ok (.bipush 7, 2) := by decide +kernel
theorem dX12_give_60 : decode cX12_give 60 = .ok (.dup2, 1) := by decide +kernel
theorem dX12_give_61 : decode cX12_give 61 = .ok (.iaload, 1) := by decide +kernel
theorem dX12_give_62 : decode cX12_give 62 = .ok (.iload_n 1, 1) := by decide +kernel
theorem dX12_give_63 : decode cX12_give 63 = .ok (.iadd, 1) := by decide +kernel
theorem dX12_give_64 : decode cX12_give 64 = .ok (.iastore, 1) := by decide +kernel
theorem dX12_give_65 : decode cX12_give 65 = .ok (.aload_n 0, 1) := by decide +kernel
theorem dX12_give_66 : decode cX12_give 66 = .ok (.getfield 58, 3) := by decide +kernel
theorem dX12_give_69 : decode cX12_give 69 = .ok (.bipush 7, 2) := by decide +kernel
theorem dX12_give_71 : decode cX12_give 71 = .ok (.iaload, 1) := by decide +kernel
theorem dX12_give_72 : decode cX12_give 72 = .ok (.ireturn, 1) := by decide +kernel
theorem dX12_passYear_0 : decode cX12_passYear 0 = .ok (.iconst 0, 1) := by decide +kernel
theorem dX12_passYear_1 : decode cX12_passYear 1 = .ok (.istore_n 1, 1) := by decide +kernel
theorem dX12_passYear_2 : decode cX12_passYear 2 = .ok (.iload_n 1, 1) := by decide +kernel
theorem dX12_passYear_3 : decode cX12_passYear 3 = .ok (.aload_n 0, 1) := by decide +kernel
theorem dX12_passYear_4 : decode cX12_passYear 4 = .ok (.getfield 264, 3) := by decide +kernel
theorem dX12_passYear_7 : decode cX12_passYear 7 = .ok (.if_icmp .ge 56, 3) := by decide +kernel
theorem dX12_passYear_10 : decode cX12_passYear 10 = .ok (.aload_n 0, 1) := by decide +kernel
theorem dX12_passYear_11 : decode cX12_passYear 11 = .ok (.getfield 58, 3) := by decide +kernel
theorem dX12_passYear_14 : decode cX12_passYear 14 = .ok (.iconst 0, 1) := by decide +kernel
theorem dX12_passYear_15 : decode cX12_passYear 15 = .ok (.iload_n 1, 1) := by decide +kernel
theorem dX12_passYear_16 : decode cX12_passYear 16 = .ok (.iadd, 1) := by decide +kernel
theorem dX12_passYear_17 : decode cX12_passYear 17 = .ok (.aload_n 0, 1) := by decide +kernel
theorem dX12_passYear_18 : decode cX12_passYear 18 = .ok (.iload_n 1, 1) := by decide +kernel
theorem dX12_passYear_19 : decode cX12_passYear 19 = .ok (.invokevirtual 295, 3) := by decide +kernel
theorem dX12_passYear_22 : decode cX12_passYear 22 = .ok (.ifCond .eq 14, 3) := by decide +kernel
theorem dX12_passYear_25 : decode cX12_passYear 25 = .ok (.aload_n 0, 1) := by decide +kernel
theorem dX12_passYear_26 : decode cX12_passYear 26 = .ok (.getfield 58, 3) := by decide +kernel
theorem dX12_passYear_29 : decode cX12_passYear 29 = .ok (.iconst 0, 1) := by decide +kernel
theorem dX12_passYear_30 : decode cX12_passYear 30 = .ok (.iload_n 1, 1) := by decide +kernel
theorem dX12_passYear_31 : decode cX12_passYear 31 = .ok (.iadd, 1) := by decide +kernel
theorem dX12_passYear_32 : decode cX12_passYear 32 = .ok (.iaload, 1) := by decide +kernel
theorem dX12_passYear_33 : decode cX12_passYear 33 = .ok (.goto 23, 3) := by decide +kernel
theorem dX12_passYear_36 : decode cX12_passYear 36 = .ok (.bipush 30, 2) := by decide +kernel
theorem dX12_passYear_38 : decode cX12_passYear 38 = .ok (.aload_n 0, 1) := by decide +kernel
theorem dX12_passYear_39 : decode cX12_passYear 39 = .ok (.getfield 58, 3) := by decide +kernel
theorem dX12_passYear_42 : decode cX12_passYear 42 = .ok (.iconst 0, 1) := by decide +kernel
theorem dX12_passYear_43 : decode cX12_passYear 43 = .ok (.iload_n 1, 1) := by decide +kernel
theorem dX12_passYear_44 : decode cX12_passYear 44 = .ok (.iadd, 1) := by decide +kernel
theorem dX12_passYear_45 : decode cX12_passYear 45 = .ok (.iaload, 1) := by decide +kernel
theorem dX12_passYear_46 : decode cX12_passYear 46 = .ok (.aload_n 0, 1) := by decide +kernel
theorem dX12_passYear_47 : decode cX12_passYear 47 = .ok (.getfield 49, 3) := by decide +kernel
theorem dX12_passYear_50 : decode cX12_passYear 50 = .ok (.iconst 2, 1) := by decide +kernel
theorem dX12_passYear_51 : decode cX12_passYear 51 = .ok (.iaload, 1) := by decide +kernel
theorem dX12_passYear_52 : decode cX12_passYear 52 = .ok (.iadd, 1) := by decide +kernel
theorem dX12_passYear_53 : decode cX12_passYear 53 = .ok (.invokestatic 301, 3) := by decide +kernel
theorem dX12_passYear_56 : decode cX12_passYear 56 = .ok (.iastore, 1) := by decide +kernel
theorem dX12_passYear_57 : decode cX12_passYear 57 = .ok (.iinc 1 1, 3) := by decide +kernel
theorem dX12_passYear_60 : decode cX12_passYear 60 = .ok (.goto (-58), 3) := by decide +kernel
theorem dX12_passYear_63 : decode cX12_passYear 63 = .ok (.aload_n 0, 1) := by decide +kernel
theorem dX12_passYear_64 : decode cX12_passYear 64 = .ok (.getfield 58, 3) := by decide +kernel
theorem dX12_passYear_67 : decode cX12_passYear 67 = .ok (.bipush 8, 2) := by decide +kernel
theorem dX12_passYear_69 : decode cX12_passYear 69 = .ok (.iconst 0, 1) := by decide +kernel
theorem dX12_passYear_70 : decode cX12_passYear 70 = .ok (.iastore, 1) := by decide +kernel
theorem dX12_passYear_71 : decode cX12_passYear 71 = .ok (.aload_n 0, 1) := by decide +kernel
theorem dX12_passYear_72 : decode cX12_passYear 72 = .ok (.getfield 58, 3) := by decide +kernel
theorem dX12_passYear_75 : decode cX12_passYear 75 = .ok (.bipush 9, 2) := by decide +kernel
theorem dX12_passYear_77 : decode cX12_passYear 77 = .ok (.iconst 0, 1) := by decide +kernel
theorem dX12_passYear_78 : decode cX12_passYear 78 = .ok (.iastore, 1) := by decide +kernel
theorem dX12_passYear_79 : decode cX12_passYear 79 = .ok (.aload_n 0, 1) := by decide +kernel
theorem dX12_passYear_80 : decode cX12_passYear 80 = .ok (.getfield 58, 3) := by decide +kernel
theorem dX12_passYear_83 : decode cX12_passYear 83 = .ok (.bipush 10, 2) := by decide +kernel
theorem dX12_passYear_85 : decode cX12_passYear 85 = .ok (.iconst (-1), 1) := by decide +kernel
theorem dX12_passYear_86 : decode cX12_passYear 86 = .ok (.iastore, 1) := by decide +kernel
theorem dX12_passYear_87 : decode cX12_passYear 87 = .ok (.aload_n 0, 1) := by decide +kernel
theorem dX12_passYear_88 : decode cX12_passYear 88 = .ok (.getfield 58, 3) := by decide +kernel
theorem dX12_passYear_91 : decode cX12_passYear 91 = .ok (.bipush 11, 2) := by decide +kernel
theorem dX12_passYear_93 : decode cX12_passYear 93 = .ok (.iconst 0, 1) := by decide +kernel
theorem dX12_passYear_94 : decode cX12_passYear 94 = .ok (.iastore, 1) := by decide +kernel
theorem dX12_passYear_95 : decode cX12_passYear 95 = .ok (.aload_n 0, 1) := by decide +kernel
theorem dX12_passYear_96 : decode cX12_passYear 96 = .ok (.getfield 58, 3) := by decide +kernel
theorem dX12_passYear_99 : decode cX12_passYear 99 = .ok (.bipush 12, 2) := by decide +kernel
theorem dX12_passYear_101 : decode cX12_passYear 101 = .ok (.dup2, 1) := by decide +kernel
theorem dX12_passYear_102 : decode cX12_passYear 102 = .ok (.iaload, 1) := by decide +kernel
theorem dX12_passYear_103 : decode cX12_passYear 103 = .ok (.iconst 1, 1) := by decide +kernel
theorem dX12_passYear_104 : decode cX12_passYear 104 = .ok (.iadd, 1) := by decide +kernel
theorem dX12_passYear_105 : decode cX12_passYear 105 = .ok (.iastore, 1) := by decide +kernel
theorem dX12_passYear_106 : decode cX12_passYear 106 = .ok (.return_, 1) := by decide +kernel
theorem dX12_year_0 : decode cX12_year 0 = .ok (.aload_n 0, 1) := by decide +kernel
theorem dX12_year_1 : decode cX12_year 1 = .ok (.aload_n 0, 1) := by decide +kernel
theorem dX12_year_2 : decode cX12_year 2 = .ok (.getfield 264, 3) := by decide +kernel
theorem dX12_year_5 : decode cX12_year 5 = .ok (.ifCond .ne 7, 3) := by decide +kernel
theorem dX12_year_8 : decode cX12_year 8 = .ok (.iconst 0, 1) := by decide +kernel
theorem dX12_year_9 : decode cX12_year 9 = .ok (.goto 21, 3) := by decide +kernel
theorem dX12_year_12 : decode cX12_year 12 = .ok (.aload_n 0, 1) := by decide +kernel
theorem dX12_year_13 : decode cX12_year 13 = .ok (.getfield 58, 3) := by decide +kernel
theorem dX12_year_16 : decode cX12_year 16 = .ok (.bipush 12, 2) := by decide +kernel
theorem dX12_year_18 : decode cX12_year 18 = .ok (.iaload, 1) := by decide +kernel
theorem dX12_year_19 : decode cX12_year 19 = .ok (.sipush 999, 3) := by decide +kernel
theorem dX12_year_22 : decode cX12_year 22 = .ok (.if_icmp .ne 7, 3) := by decide +kernel
theorem dX12_year_25 : decode cX12_year 25 = .ok (.iconst 4, 1) := by decide +kernel
theorem dX12_year_26 : decode cX12_year 26 = .ok (.goto 4, 3) := by decide +kernel
theorem dX12_year_29 : decode cX12_year 29 = .ok (.iconst (-1), 1) := by decide +kernel
theorem dX12_year_30 : decode cX12_year 30 = .ok (.invokevirtual 347, 3) := by decide +kernel
theorem dX12_year_33 : decode cX12_year 33 = .ok (.ifCond .eq 5, 3) := by decide +kernel
theorem dX12_year_36 : decode cX12_year 36 = .ok (.iconst (-1), 1) := by decide +kernel
theorem dX12_year_37 : decode cX12_year 37 = .ok (.ireturn, 1) := by decide +kernel
theorem dX12_year_38 : decode cX12_year 38 = .ok (.aload_n 0, 1) := by decide +kernel
theorem dX12_year_39 : decode cX12_year 39 = .ok (.invokevirtual 350, 3) := by decide +kernel
theorem dX12_year_42 : decode cX12_year 42 = .ok (.aload_n 0, 1) := by decide +kernel
theorem dX12_year_43 : decode cX12_year 43 = .ok (.invokevirtual 356, 3) := by decide +kernel
theorem dX12_year_46 : decode cX12_year 46 = .ok (.aload_n 0, 1) := by decide +kernel
theorem dX12_year_47 : decode cX12_year 47 = .ok (.getfield 58, 3) := by decide +kernel
theorem dX12_year_50 : decode cX12_year 50 = .ok (.bipush 12, 2) := by decide +kernel
theorem dX12_year_52 : decode cX12_year 52 = .ok (.iaload, 1) := by decide +kernel
theorem dX12_year_53 : decode cX12_year 53 = .ok (.ireturn, 1) := by decide +kernel
theorem dX12_faith_0 : decode cX12_faith 0 = .ok (.iload_n 1, 1) := by decide +kernel
theorem dX12_faith_1 : decode cX12_faith 1 = .ok (.iconst 0, 1) := by decide +kernel
theorem dX12_faith_2 : decode cX12_faith 2 = .ok (.bipush 9, 2) := by decide +kernel
theorem dX12_faith_4 : decode cX12_faith 4 = .ok (.invokestatic 220, 3) := by decide +kernel
theorem dX12_faith_7 : decode cX12_faith 7 = .ok (.ifCond .eq 11, 3) := by decide +kernel
theorem dX12_faith_10 : decode cX12_faith 10 = .ok (.iload_n 1, 1) := by decide +kernel
theorem dX12_faith_11 : decode cX12_faith 11 = .ok (.aload_n 0, 1) := by decide +kernel
theorem dX12_faith_12 : decode cX12_faith 12 = .ok (.getfield 68, 3) := by decide +kernel
theorem dX12_faith_15 : decode cX12_faith 15 = .ok (.if_icmp .ne 5, 3) := by decide +kernel
theorem dX12_faith_18 : decode cX12_faith 18 = .ok (.iconst 0, 1) := by decide +kernel
theorem dX12_faith_19 : decode cX12_faith 19 = .ok (.ireturn, 1) := by decide +kernel
theorem dX12_faith_20 : decode cX12_faith 20 = .ok (.aload_n 0, 1) := by decide +kernel
theorem dX12_faith_21 : decode cX12_faith 21 = .ok (.iload_n 1, 1) := by decide +kernel
theorem dX12_faith_22 : decode cX12_faith 22 = .ok (.putfield 68, 3) := by decide +kernel
theorem dX12_faith_25 : decode cX12_faith 25 = .ok (.iconst 1, 1) := by decide +kernel
theorem dX12_faith_26 : decode cX12_faith 26 = .ok (.ireturn, 1) := by decide +kernel
theorem dX12_draw_0 : decode cX12_draw 0 = .ok (.aload_n 0, 1) := by decide +kernel
theorem dX12_draw_1 : decode cX12_draw 1 = .ok (.aload_n 0, 1) := by decide +kernel
theorem dX12_draw_2 : decode cX12_draw 2 = .ok (.getfield 359, 3) := by decide +kernel
theorem dX12_draw_5 : decode cX12_draw 5 = .ok (.ldc2_w 363, 3) := by decide +kernel
theorem dX12_draw_8 : decode cX12_draw 8 = .ok (.lmul, 1) := by decide +kernel
theorem dX12_draw_9 : decode cX12_draw 9 = .ok (.ldc2_w 365, 3) := by decide +kernel
theorem dX12_draw_12 : decode cX12_draw 12 = .ok (.ladd, 1) := by decide +kernel
theorem dX12_draw_13 : decode cX12_draw 13 = .ok (.putfield 359, 3) := by decide +kernel
theorem dX12_draw_16 : decode cX12_draw 16 = .ok (.aload_n 0, 1) := by decide +kernel
theorem dX12_draw_17 : decode cX12_draw 17 = .ok (.getfield 359, 3) := by decide +kernel
theorem dX12_draw_20 : decode cX12_draw 20 = .ok (.bipush 33, 2) := by decide +kernel
theorem dX12_draw_22 : decode cX12_draw 22 = .ok (.lushr, 1) := by decide +kernel
theorem dX12_draw_23 : decode cX12_draw 23 = .ok (.iload_n 1, 1) := by decide +kernel
theorem dX12_draw_24 : decode cX12_draw 24 = .ok (.i2l, 1) := by decide +kernel
theorem dX12_draw_25 : decode cX12_draw 25 = .ok (.lrem, 1) := by decide +kernel
theorem dX12_draw_26 : decode cX12_draw 26 = .ok (.l2i, 1) := by decide +kernel
theorem dX12_draw_27 : decode cX12_draw 27 = .ok (.ireturn, 1) := by decide +kernel
theorem dX12_drawAct_0 : decode cX12_drawAct 0 = .ok (.aload_n 0, 1) := by decide +kernel
theorem dX12_drawAct_1 : decode cX12_drawAct 1 = .ok (.bipush 10, 2) := by decide +kernel
theorem dX12_drawAct_3 : decode cX12_drawAct 3 = .ok (.invokevirtual 367, 3) := by decide +kernel
theorem dX12_drawAct_6 : decode cX12_drawAct 6 = .ok (.aload_n 0, 1) := by decide +kernel
theorem dX12_drawAct_7 : decode cX12_drawAct 7 = .ok (.getfield 68, 3) := by decide +kernel
theorem dX12_drawAct_10 : decode cX12_drawAct 10 = .ok (.if_icmp .ge 39, 3) := by decide +kernel
theorem dX12_drawAct_13 : decode cX12_drawAct 13 = .ok (.aload_n 0, 1) := by decide +kernel
theorem dX12_drawAct_14 : decode cX12_drawAct 14 = .ok (.aload_n 0, 1) := by decide +kernel
theorem dX12_drawAct_15 : decode cX12_drawAct 15 = .ok (.getfield 264, 3) := by decide +kernel
theorem dX12_drawAct_18 : decode cX12_drawAct 18 = .ok (.invokevirtual 367, 3) := by decide +kernel
theorem dX12_drawAct_21 : decode cX12_drawAct 21 = .ok (.istore_n 1, 1) := by decide +kernel
theorem dX12_drawAct_22 : decode cX12_drawAct 22 = .ok (.aload_n 0, 1) := by decide +kernel
theorem dX12_drawAct_23 : decode cX12_drawAct 23 = .ok (.iload_n 1, 1) := by decide +kernel
theorem dX12_drawAct_24 : decode cX12_drawAct 24 = .ok (.invokevirtual 344, 3) := by decide +kernel
theorem dX12_drawAct_27 : decode cX12_drawAct 27 = .ok (.iconst (-1), 1) := by decide +kernel
theorem dX12_drawAct_28 : decode cX12_drawAct 28 = .ok (.if_icmp .ne 7, 3) := by decide +kernel
theorem dX12_drawAct_31 : decode cX12_drawAct 31 = .ok (.iconst 1, 1) := by decide +kernel
theorem dX12_drawAct_32 : decode cX12_drawAct 32 = .ok (.goto 4, 3) := by decide +kernel
theorem dX12_drawAct_35 : decode cX12_drawAct 35 = .ok (.iconst 0, 1) := by decide +kernel
theorem dX12_drawAct_36 : decode cX12_drawAct 36 = .ok (.istore_n 2, 1) := by decide +kernel
theorem dX12_drawAct_37 : decode cX12_drawAct 37 = .ok (.iload_n 2, 1) := by decide +kernel
theorem dX12_drawAct_38 : decode cX12_drawAct 38 = .ok (.ifCond .eq 9, 3) := by decide +kernel
theorem dX12_drawAct_41 : decode cX12_drawAct 41 = .ok (.aload_n 0, 1) := by decide +kernel
theorem dX12_drawAct_42 : decode cX12_drawAct 42 = .ok (.iload_n 1, 1) := by decide +kernel
theorem dX12_drawAct_43 : decode cX12_drawAct 43 = .ok (.invokevirtual 353, 3) := by decide +kernel
theorem dX12_drawAct_46 : decode cX12_drawAct 46 = .ok (.pop, 1) := by decide +kernel
theorem dX12_drawAct_47 : decode cX12_drawAct 47 = .ok (.iload_n 2, 1) := by decide +kernel
theorem dX12_drawAct_48 : decode cX12_drawAct 48 = .ok (.ireturn, 1) := by decide +kernel
theorem dX12_drawAct_49 : decode cX12_drawAct 49 = .ok (.aload_n 0, 1) := by decide +kernel
theorem dX12_drawAct_50 : decode cX12_drawAct 50 = .ok (.getfield 58, 3) := by decide +kernel
theorem dX12_drawAct_53 : decode cX12_drawAct 53 = .ok (.bipush 12, 2) := by decide +kernel
theorem dX12_drawAct_55 : decode cX12_drawAct 55 = .ok (.iaload, 1) := by decide +kernel
theorem dX12_drawAct_56 : decode cX12_drawAct 56 = .ok (.sipush 999, 3) := by decide +kernel
theorem dX12_drawAct_59 : decode cX12_drawAct 59 = .ok (.if_icmp .ge 7, 3) := by decide +kernel
theorem dX12_drawAct_62 : decode cX12_drawAct 62 = .ok (.aload_n 0, 1) := by decide +kernel
theorem dX12_drawAct_63 : decode cX12_drawAct 63 = .ok (.invokevirtual 356, 3) := by decide +kernel
theorem dX12_drawAct_66 : decode cX12_drawAct 66 = .ok (.iconst 0, 1) := by decide +kernel
theorem dX12_drawAct_67 : decode cX12_drawAct 67 = .ok (.ireturn, 1) := by decide +kernel
theorem dX12_decades_0 : decode cX12_decades 0 = .ok (.aload_n 0, 1) := by decide +kernel
theorem dX12_decades_1 : decode cX12_decades 1 = .ok (.getfield 264, 3) := by decide +kernel
theorem dX12_decades_4 : decode cX12_decades 4 = .ok (.ifCond .eq 13, 3) := by decide +kernel
theorem dX12_decades_7 : decode cX12_decades 7 = .ok (.iload_n 1, 1) := by decide +kernel
theorem dX12_decades_8 : decode cX12_decades 8 = .ok (.iconst 1, 1) := by decide +kernel
theorem dX12_decades_9 : decode cX12_decades 9 = .ok (.bipush 60, 2) := by decide +kernel
theorem dX12_decades_11 : decode cX12_decades 11 = .ok (.invokestatic 220, 3) := by decide +kernel
theorem dX12_decades_14 : decode cX12_decades 14 = .ok (.ifCond .ne 5, 3) := by decide +kernel
theorem dX12_decades_17 : decode cX12_decades 17 = .ok (.iconst (-1), 1) := by decide +kernel
theorem dX12_decades_18 : decode cX12_decades 18 = .ok (.ireturn, 1) := by decide +kernel
theorem dX12_decades_19 : decode cX12_decades 19 = .ok (.aload_n 0, 1) := by decide +kernel
theorem dX12_decades_20 : decode cX12_decades 20 = .ok (.lload_n 2, 1) := by decide +kernel
theorem dX12_decades_21 : decode cX12_decades 21 = .ok (.putfield 359, 3) := by decide +kernel
theorem dX12_decades_24 : decode cX12_decades 24 = .ok (.iconst 0, 1) := by decide +kernel
theorem dX12_decades_25 : decode cX12_decades 25 = .ok (.istore 4, 2) := by decide +kernel
theorem dX12_decades_27 : decode cX12_decades 27 = .ok (.iconst 0, 1) := by decide +kernel
theorem dX12_decades_28 : decode cX12_decades 28 = .ok (.istore 5, 2) := by decide +kernel
theorem dX12_decades_30 : decode cX12_decades 30 = .ok (.iload 5, 2) := by decide +kernel
theorem dX12_decades_32 : decode cX12_decades 32 = .ok (.iload_n 1, 1) := by decide +kernel
theorem dX12_decades_33 : decode cX12_decades 33 = .ok (.if_icmp .ge 30, 3) := by decide +kernel
theorem dX12_decades_36 : decode cX12_decades 36 = .ok (.aload_n 0, 1) := by decide +kernel
theorem dX12_decades_37 : decode cX12_decades 37 = .ok (.invokevirtual 350, 3) := by decide +kernel
theorem dX12_decades_40 : decode cX12_decades 40 = .ok (.iload 4, 2) := by decide +kernel
theorem dX12_decades_42 : decode cX12_decades 42 = .ok (.aload_n 0, 1) := by decide +kernel
theorem dX12_decades_43 : decode cX12_decades 43 = .ok (.invokevirtual 370, 3) := by decide +kernel
theorem dX12_decades_46 : decode cX12_decades 46 = .ok (.ifCond .eq 7, 3) := by decide +kernel
theorem dX12_decades_49 : decode cX12_decades 49 = .ok (.iconst 1, 1) := by decide +kernel
theorem dX12_decades_50 : decode cX12_decades 50 = .ok (.goto 4, 3) := by decide +kernel
theorem dX12_decades_53 : decode cX12_decades 53 = .ok (.iconst 0, 1) := by decide +kernel
theorem dX12_decades_54 : decode cX12_decades 54 = .ok (.iadd, 1) := by decide +kernel
theorem dX12_decades_55 : decode cX12_decades 55 = .ok (.istore 4, 2) := by decide +kernel
theorem dX12_decades_57 : decode cX12_decades 57 = .ok (.iinc 5 1, 3) := by decide +kernel
theorem dX12_decades_60 : decode cX12_decades 60 = .ok (.goto (-30), 3) := by decide +kernel
theorem dX12_decades_63 : decode cX12_decades 63 = .ok (.iload 4, 2) := by decide +kernel
theorem dX12_decades_65 : decode cX12_decades 65 = .ok (.ireturn, 1) := by decide +kernel
theorem dX12_status_0 : decode cX12_status 0 = .ok (.iload_n 1, 1) := by decide +kernel
theorem dX12_status_1 : decode cX12_status 1 = .ok (.iconst 0, 1) := by decide +kernel
theorem dX12_status_2 : decode cX12_status 2 = .ok (.iconst 4, 1) := by decide +kernel
theorem dX12_status_3 : decode cX12_status 3 = .ok (.invokestatic 220, 3) := by decide +kernel
theorem dX12_status_6 : decode cX12_status 6 = .ok (.ifCond .eq 12, 3) := by decide +kernel
theorem dX12_status_9 : decode cX12_status 9 = .ok (.aload_n 0, 1) := by decide +kernel
theorem dX12_status_10 : decode cX12_status 10 = .ok (.getfield 61, 3) := by decide +kernel
theorem dX12_status_13 : decode cX12_status 13 = .ok (.iload_n 1, 1) := by decide +kernel
theorem dX12_status_14 : decode cX12_status 14 = .ok (.iaload, 1) := by decide +kernel
theorem dX12_status_15 : decode cX12_status 15 = .ok (.goto 4, 3) := by decide +kernel
theorem dX12_status_18 : decode cX12_status 18 = .ok (.iconst (-1), 1) := by decide +kernel
theorem dX12_status_19 : decode cX12_status 19 = .ok (.ireturn, 1) := by decide +kernel
theorem dX12_undo_0 : decode cX12_undo 0 = .ok (.aload_n 0, 1) := by decide +kernel
theorem dX12_undo_1 : decode cX12_undo 1 = .ok (.getfield 279, 3) := by decide +kernel
theorem dX12_undo_4 : decode cX12_undo 4 = .ok (.ifCond .ne 5, 3) := by decide +kernel
theorem dX12_undo_7 : decode cX12_undo 7 = .ok (.iconst (-1), 1) := by decide +kernel
theorem dX12_undo_8 : decode cX12_undo 8 = .ok (.ireturn, 1) := by decide +kernel
theorem dX12_undo_9 : decode cX12_undo 9 = .ok (.aload_n 0, 1) := by decide +kernel
theorem dX12_undo_10 : decode cX12_undo 10 = .ok (.dup, 1) := by decide +kernel
theorem dX12_undo_11 : decode cX12_undo 11 = .ok (.getfield 279, 3) := by decide +kernel
theorem dX12_undo_14 : decode cX12_undo 14 = .ok (.iconst 1, 1) := by decide +kernel
theorem dX12_undo_15 : decode cX12_undo 15 = .ok (.isub, 1) := by decide +kernel
theorem dX12_undo_16 : decode cX12_undo 16 = .ok (.putfield 279, 3) := by decide +kernel
theorem dX12_undo_19 : decode cX12_undo 19 = .ok (.iconst 0, 1) := by decide +kernel
theorem dX12_undo_20 : decode cX12_undo 20 = .ok (.istore_n 1, 1) := by decide +kernel
theorem dX12_undo_21 : decode cX12_undo 21 = .ok (.iload_n 1, 1) := by decide +kernel
theorem dX12_undo_22 : decode cX12_undo 22 = .ok (.sipush 255, 3) := by decide +kernel
theorem dX12_undo_25 : decode cX12_undo 25 = .ok (.if_icmp .ge 30, 3) := by decide +kernel
theorem dX12_undo_28 : decode cX12_undo 28 = .ok (.aload_n 0, 1) := by decide +kernel
theorem dX12_undo_29 : decode cX12_undo 29 = .ok (.getfield 58, 3) := by decide +kernel
theorem dX12_undo_32 : decode cX12_undo 32 = .ok (.iload_n 1, 1) := by decide +kernel
theorem dX12_undo_33 : decode cX12_undo 33 = .ok (.aload_n 0, 1) := by decide +kernel
theorem dX12_undo_34 : decode cX12_undo 34 = .ok (.getfield 71, 3) := by decide +kernel
theorem dX12_undo_37 : decode cX12_undo 37 = .ok (.sipush 255, 3) := by decide +kernel
theorem dX12_undo_40 : decode cX12_undo 40 = .ok (.aload_n 0, 1) := by decide +kernel
theorem dX12_undo_41 : decode cX12_undo 41 = .ok (.getfield 279, 3) := by decide +kernel
theorem dX12_undo_44 : decode cX12_undo 44 = .ok (.imul, 1) := by decide +kernel
theorem dX12_undo_45 : decode cX12_undo 45 = .ok (.iload_n 1, 1) := by decide +kernel
theorem dX12_undo_46 : decode cX12_undo 46 = .ok (.iadd, 1) := by decide +kernel
theorem dX12_undo_47 : decode cX12_undo 47 = .ok (.iaload, 1) := by decide +kernel
theorem dX12_undo_48 : decode cX12_undo 48 = .ok (.iastore, 1) := by decide +kernel
theorem dX12_undo_49 : decode cX12_undo 49 = .ok (.iinc 1 1, 3) := by decide +kernel
theorem dX12_undo_52 : decode cX12_undo 52 = .ok (.goto (-31), 3) := by decide +kernel
theorem dX12_undo_55 : decode cX12_undo 55 = .ok (.aload_n 0, 1) := by decide +kernel
theorem dX12_undo_56 : decode cX12_undo 56 = .ok (.getfield 279, 3) := by decide +kernel
theorem dX12_undo_59 : decode cX12_undo 59 = .ok (.ireturn, 1) := by decide +kernel
theorem dX12_log_0 : decode cX12_log 0 = .ok (.iload_n 1, 1) := by decide +kernel
theorem dX12_log_1 : decode cX12_log 1 = .ok (.iconst 0, 1) := by decide +kernel
theorem dX12_log_2 : decode cX12_log 2 = .ok (.aload_n 0, 1) := by decide +kernel
theorem dX12_log_3 : decode cX12_log 3 = .ok (.getfield 58, 3) := by decide +kernel
theorem dX12_log_6 : decode cX12_log 6 = .ok (.bipush 14, 2) := by decide +kernel
theorem dX12_log_8 : decode cX12_log 8 = .ok (.iaload, 1) := by decide +kernel
theorem dX12_log_9 : decode cX12_log 9 = .ok (.iconst 1, 1) := by decide +kernel
theorem dX12_log_10 : decode cX12_log 10 = .ok (.isub, 1) := by decide +kernel
theorem dX12_log_11 : decode cX12_log 11 = .ok (.invokestatic 220, 3) := by decide +kernel
theorem dX12_log_14 : decode cX12_log 14 = .ok (.ifCond .eq 38, 3) := by decide +kernel
theorem dX12_log_17 : decode cX12_log 17 = .ok (.iload_n 2, 1) := by decide +kernel
theorem dX12_log_18 : decode cX12_log 18 = .ok (.iconst 0, 1) := by decide +kernel
theorem dX12_log_19 : decode cX12_log 19 = .ok (.iconst 3, 1) := by decide +kernel
theorem dX12_log_20 : decode cX12_log 20 = .ok (.invokestatic 220, 3) := by decide +kernel
theorem dX12_log_23 : decode cX12_log 23 = .ok (.ifCond .eq 29, 3) := by decide +kernel
theorem dX12_log_26 : decode cX12_log 26 = .ok (.aload_n 0, 1) := by decide +kernel
theorem dX12_log_27 : decode cX12_log 27 = .ok (.getfield 58, 3) := by decide +kernel
theorem dX12_log_30 : decode cX12_log 30 = .ok (.bipush 15, 2) := by decide +kernel
theorem dX12_log_32 : decode cX12_log 32 = .ok (.iconst 4, 1) := by decide +kernel
theorem dX12_log_33 : decode cX12_log 33 = .ok (.aload_n 0, 1) := by decide +kernel
theorem dX12_log_34 : decode cX12_log 34 = .ok (.getfield 58, 3) := by decide +kernel
theorem dX12_log_37 : decode cX12_log 37 = .ok (.bipush 14, 2) := by decide +kernel
theorem dX12_log_39 : decode cX12_log 39 = .ok (.iaload, 1) := by decide +kernel
theorem dX12_log_40 : decode cX12_log 40 = .ok (.iconst 1, 1) := by decide +kernel
theorem dX12_log_41 : decode cX12_log 41 = .ok (.isub, 1) := by decide +kernel
theorem dX12_log_42 : decode cX12_log 42 = .ok (.iload_n 1, 1) := by decide +kernel
theorem dX12_log_43 : decode cX12_log 43 = .ok (.isub, 1) := by decide +kernel
theorem dX12_log_44 : decode cX12_log 44 = .ok (.imul, 1) := by decide +kernel
theorem dX12_log_45 : decode cX12_log 45 = .ok (.iadd, 1) := by decide +kernel
theorem dX12_log_46 : decode cX12_log 46 = .ok (.iload_n 2, 1) := by decide +kernel
theorem dX12_log_47 : decode cX12_log 47 = .ok (.iadd, 1) := by decide +kernel
theorem dX12_log_48 : decode cX12_log 48 = .ok (.iaload, 1) := by decide +kernel
theorem dX12_log_49 : decode cX12_log 49 = .ok (.goto 4, 3) := by decide +kernel
theorem dX12_log_52 : decode cX12_log 52 = .ok (.iconst (-1), 1) := by decide +kernel
theorem dX12_log_53 : decode cX12_log 53 = .ok (.ireturn, 1) := by decide +kernel
theorem dX12_putAside_0 : decode cX12_putAside 0 = .ok (.iconst 0, 1) := by decide +kernel
theorem dX12_putAside_1 : decode cX12_putAside 1 = .ok (.istore_n 2, 1) := by decide +kernel
theorem dX12_putAside_2 : decode cX12_putAside 2 = .ok (.iload_n 2, 1) := by decide +kernel
theorem dX12_putAside_3 : decode cX12_putAside 3 = .ok (.bipush 14, 2) := by decide +kernel
theorem dX12_putAside_5 : decode cX12_putAside 5 = .ok (.if_icmp .ge 26, 3) := by decide +kernel
theorem dX12_putAside_8 : decode cX12_putAside 8 = .ok (.aload_n 0, 1) := by decide +kernel
theorem dX12_putAside_9 : decode cX12_putAside 9 = .ok (.getfield 74, 3) := by decide +kernel
theorem dX12_putAside_12 : decode cX12_putAside 12 = .ok (.bipush 14, 2) := by decide +kernel
theorem dX12_putAside_14 : decode cX12_putAside 14 = .ok (.iload_n 1, 1) := by decide +kernel
theorem dX12_putAside_15 : decode cX12_putAside 15 = .ok (.imul, 1) := by decide +kernel
theorem dX12_putAside_16 : decode cX12_putAside 16 = .ok (.iload_n 2, 1) := by decide +kernel
theorem dX12_putAside_17 : decode cX12_putAside 17 = .ok (.iadd, 1) := by decide +kernel
theorem dX12_putAside_18 : decode cX12_putAside 18 = .ok (.aload_n 0, 1) := by decide +kernel
theorem dX12_putAside_19 : decode cX12_putAside 19 = .ok (.getfield 58, 3) := by decide +kernel
theorem dX12_putAside_22 : decode cX12_putAside 22 = .ok (.iload_n 2, 1) := by decide +kernel
theorem dX12_putAside_23 : decode cX12_putAside 23 = .ok (.iaload, 1) := by decide +kernel
theorem dX12_putAside_24 : decode cX12_putAside 24 = .ok (.iastore, 1) := by decide +kernel
theorem dX12_putAside_25 : decode cX12_putAside 25 = .ok (.iinc 2 1, 3) := by decide +kernel
theorem dX12_putAside_28 : decode cX12_putAside 28 = .ok (.goto (-26), 3) := by decide +kernel
theorem dX12_putAside_31 : decode cX12_putAside 31 = .ok (.return_, 1) := by decide +kernel
theorem dX12_takeBack_0 : decode cX12_takeBack 0 = .ok (.iconst 0, 1) := by decide +kernel
theorem dX12_takeBack_1 : decode cX12_takeBack 1 = .ok (.istore_n 2, 1) := by decide +kernel
theorem dX12_takeBack_2 : decode cX12_takeBack 2 = .ok (.iload_n 2, 1) := by decide +kernel
theorem dX12_takeBack_3 : decode cX12_takeBack 3 = .ok (.bipush 14, 2) := by decide +kernel
theorem dX12_takeBack_5 : decode cX12_takeBack 5 = .ok (.if_icmp .ge 26, 3) := by decide +kernel
theorem dX12_takeBack_8 : decode cX12_takeBack 8 = .ok (.aload_n 0, 1) := by decide +kernel
theorem dX12_takeBack_9 : decode cX12_takeBack 9 = .ok (.getfield 58, 3) := by decide +kernel
theorem dX12_takeBack_12 : decode cX12_takeBack 12 = .ok (.iload_n 2, 1) := by decide +kernel
theorem dX12_takeBack_13 : decode cX12_takeBack 13 = .ok (.aload_n 0, 1) := by decide +kernel
theorem dX12_takeBack_14 : decode cX12_takeBack 14 = .ok (.getfield 74, 3) := by decide +kernel
theorem dX12_takeBack_17 : decode cX12_takeBack 17 = .ok (.bipush 14, 2) := by decide +kernel
theorem dX12_takeBack_19 : decode cX12_takeBack 19 = .ok (.iload_n 1, 1) := by decide +kernel
theorem dX12_takeBack_20 : decode cX12_takeBack 20 = .ok (.imul, 1) := by decide +kernel
theorem dX12_takeBack_21 : decode cX12_takeBack 21 = .ok (.iload_n 2, 1) := by decide +kernel
theorem dX12_takeBack_22 : decode cX12_takeBack 22 = .ok (.iadd, 1) := by decide +kernel
theorem dX12_takeBack_23 : decode cX12_takeBack 23 = .ok (.iaload, 1) := by decide +kernel
theorem dX12_takeBack_24 : decode cX12_takeBack 24 = .ok (.iastore, 1) := by decide +kernel
theorem dX12_takeBack_25 : decode cX12_takeBack 25 = .ok (.iinc 2 1, 3) := by decide +kernel
theorem dX12_takeBack_28 : decode cX12_takeBack 28 = .ok (.goto (-26), 3) := by decide +kernel
theorem dX12_takeBack_31 : decode cX12_takeBack 31 = .ok (.return_, 1) := by decide +kernel
theorem dX12_tryRoute_0 : decode cX12_tryRoute 0 = .ok (.iload_n 3, 1) := by decide +kernel
theorem dX12_tryRoute_1 : decode cX12_tryRoute 1 = .ok (.aload_n 0, 1) := by decide +kernel
theorem dX12_tryRoute_2 : decode cX12_tryRoute 2 = .ok (.getfield 373, 3) := by decide +kernel
theorem dX12_tryRoute_5 : decode cX12_tryRoute 5 = .ok (.if_icmp .gt 35, 3) := by decide +kernel
theorem dX12_tryRoute_8 : decode cX12_tryRoute 8 = .ok (.iload_n 3, 1) := by decide +kernel
theorem dX12_tryRoute_9 : decode cX12_tryRoute 9 = .ok (.aload_n 0, 1) := by decide +kernel
theorem dX12_tryRoute_10 : decode cX12_tryRoute 10 = .ok (.getfield 373, 3) := by decide +kernel
theorem dX12_tryRoute_13 : decode cX12_tryRoute 13 = .ok (.if_icmp .ne 31, 3) := by decide +kernel
theorem dX12_tryRoute_16 : decode cX12_tryRoute 16 = .ok (.iload_n 1, 1) := by decide +kernel
theorem dX12_tryRoute_17 : decode cX12_tryRoute 17 = .ok (.aload_n 0, 1) := by decide +kernel
theorem dX12_tryRoute_18 : decode cX12_tryRoute 18 = .ok (.getfield 376, 3) := by decide +kernel
theorem dX12_tryRoute_21 : decode cX12_tryRoute 21 = .ok (.if_icmp .lt 19, 3) := by decide +kernel
theorem dX12_tryRoute_24 : decode cX12_tryRoute 24 = .ok (.iload_n 1, 1) := by decide +kernel
theorem dX12_tryRoute_25 : decode cX12_tryRoute 25 = .ok (.aload_n 0, 1) := by decide +kernel
theorem dX12_tryRoute_26 : decode cX12_tryRoute 26 = .ok (.getfield 376, 3) := by decide +kernel
theorem dX12_tryRoute_29 : decode cX12_tryRoute 29 = .ok (.if_icmp .ne 15, 3) := by decide +kernel
theorem dX12_tryRoute_32 : decode cX12_tryRoute 32 = .ok (.iload_n 2, 1) := by decide +kernel
theorem dX12_tryRoute_33 : decode cX12_tryRoute 33 = .ok (.aload_n 0, 1) := by decide +kernel
theorem dX12_tryRoute_34 : decode cX12_tryRoute 34 = .ok (.getfield 379, 3) := by decide +kernel
theorem dX12_tryRoute_37 : decode cX12_tryRoute 37 = .ok (.if_icmp .ge 7, 3) := by decide +kernel
theorem dX12_tryRoute_40 : decode cX12_tryRoute 40 = .ok (.iconst 1, 1) := by decide +kernel
theorem dX12_tryRoute_41 : decode cX12_tryRoute 41 = .ok (.goto 4, 3) := by decide +kernel
theorem dX12_tryRoute_44 : decode cX12_tryRoute 44 = .ok (.iconst 0, 1) := by decide +kernel
theorem dX12_tryRoute_45 : decode cX12_tryRoute 45 = .ok (.istore 4, 2) := by decide +kernel
theorem dX12_tryRoute_47 : decode cX12_tryRoute 47 = .ok (.iload 4, 2) := by decide +kernel
theorem dX12_tryRoute_49 : decode cX12_tryRoute 49 = .ok (.ifCond .eq 29, 3) := by decide +kernel
theorem dX12_tryRoute_52 : decode cX12_tryRoute 52 = .ok (.aload_n 0, 1) := by decide +kernel
theorem dX12_tryRoute_53 : decode cX12_tryRoute 53 = .ok (.iload_n 2, 1) := by decide +kernel
theorem dX12_tryRoute_54 : decode cX12_tryRoute 54 = .ok (.putfield 379, 3) := by decide +kernel
theorem dX12_tryRoute_57 : decode cX12_tryRoute 57 = .ok (.aload_n 0, 1) := by decide +kernel
theorem dX12_tryRoute_58 : decode cX12_tryRoute 58 = .ok (.iload_n 3, 1) := by decide +kernel
theorem dX12_tryRoute_59 : decode cX12_tryRoute 59 = .ok (.putfield 373, 3) := by decide +kernel
theorem dX12_tryRoute_62 : decode cX12_tryRoute 62 = .ok (.aload_n 0, 1) := by decide +kernel
theorem dX12_tryRoute_63 : decode cX12_tryRoute 63 = .ok (.iload_n 1, 1) := by decide +kernel
theorem dX12_tryRoute_64 : decode cX12_tryRoute 64 = .ok (.putfield 376, 3) := by decide +kernel
theorem dX12_tryRoute_67 : decode cX12_tryRoute 67 = .ok (.aload_n 0, 1) := by decide +kernel
theorem dX12_tryRoute_68 : decode cX12_tryRoute 68 = .ok (.aload_n 0, 1) := by decide +kernel
theorem dX12_tryRoute_69 : decode cX12_tryRoute 69 = .ok (.getfield 58, 3) := by decide +kernel
theorem dX12_tryRoute_72 : decode cX12_tryRoute 72 = .ok (.bipush 8, 2) := by decide +kernel
theorem dX12_tryRoute_74 : decode cX12_tryRoute 74 = .ok (.iaload, 1) := by decide +kernel
theorem dX12_tryRoute_75 : decode cX12_tryRoute 75 = .ok (.putfield 382, 3) := by decide +kernel
theorem dX12_tryRoute_78 : decode cX12_tryRoute 78 = .ok (.aload_n 0, 1) := by decide +kernel
theorem dX12_tryRoute_79 : decode cX12_tryRoute 79 = .ok (.iload_n 1, 1) := by decide +kernel
theorem dX12_tryRoute_80 : decode cX12_tryRoute 80 = .ok (.invokevirtual 385, 3) := by decide +kernel
theorem dX12_tryRoute_83 : decode cX12_tryRoute 83 = .ok (.iconst 0, 1) := by decide +kernel
theorem dX12_tryRoute_84 : decode cX12_tryRoute 84 = .ok (.istore 5, 2) := by decide +kernel
theorem dX12_tryRoute_86 : decode cX12_tryRoute 86 = .ok (.iload 5, 2) := by decide +kernel
theorem dX12_tryRoute_88 : decode cX12_tryRoute 88 = .ok (.aload_n 0, 1) := by decide +kernel
theorem dX12_tryRoute_89 : decode cX12_tryRoute 89 = .ok (.getfield 264, 3) := by decide +kernel
theorem dX12_tryRoute_92 : decode cX12_tryRoute 92 = .ok (.if_icmp .ge 50, 3) := by decide +kernel
theorem dX12_tryRoute_95 : decode cX12_tryRoute 95 = .ok (.aload_n 0, 1) := by decide +kernel
theorem dX12_tryRoute_96 : decode cX12_tryRoute 96 = .ok (.iload 5, 2) := by decide +kernel
theorem dX12_tryRoute_98 : decode cX12_tryRoute 98 = .ok (.invokevirtual 344, 3) := by decide +kernel
theorem dX12_tryRoute_101 : decode cX12_tryRoute 101 = .ok (.iconst (-1), 1) := by decide +kernel
theorem dX12_tryRoute_102 : decode cX12_tryRoute 102 = .ok (.if_icmp .ne 34, 3) := by decide +kernel
theorem dX12_tryRoute_105 : decode cX12_tryRoute 105 = .ok (.aload_n 0, 1) := by decide +kernel
theorem dX12_tryRoute_106 : decode cX12_tryRoute 106 = .ok (.iload 5, 2) := by decide +kernel
theorem dX12_tryRoute_108 : decode cX12_tryRoute 108 = .ok (.invokevirtual 341, 3) := by decide +kernel
theorem dX12_tryRoute_111 : decode cX12_tryRoute 111 = .ok (.istore 6, 2) := by decide +kernel
theorem dX12_tryRoute_113 : decode cX12_tryRoute 113 = .ok (.aload_n 0, 1) := by decide +kernel
theorem dX12_tryRoute_114 : decode cX12_tryRoute 114 = .ok (.iload_n 1, 1) := by decide +kernel
theorem dX12_tryRoute_115 : decode cX12_tryRoute 115 = .ok (.iconst 1, 1) := by decide +kernel
theorem dX12_tryRoute_116 : decode cX12_tryRoute 116 = .ok (.iadd, 1) := by decide +kernel
theorem dX12_tryRoute_117 : decode cX12_tryRoute 117 = .ok (.bipush 10, 2) := by decide +kernel
theorem dX12_tryRoute_119 : decode cX12_tryRoute 119 = .ok (.iload_n 2, 1) := by decide +kernel
theorem dX12_tryRoute_120 : decode cX12_tryRoute 120 = .ok (.imul, 1) := by decide +kernel
theorem dX12_tryRoute_121 : decode cX12_tryRoute 121 = .ok (.iload 5, 2) := by decide +kernel
theorem dX12_tryRoute_123 : decode cX12_tryRoute 123 = .ok (.iadd, 1) := by decide +kernel
theorem dX12_tryRoute_124 : decode cX12_tryRoute 124 = .ok (.iload_n 3, 1) := by decide +kernel
theorem dX12_tryRoute_125 : decode cX12_tryRoute 125 = .ok (.iload 6, 2) := by decide +kernel
theorem dX12_tryRoute_127 : decode cX12_tryRoute 127 = .ok (.iadd, 1) := by decide +kernel
theorem dX12_tryRoute_128 : decode cX12_tryRoute 128 = .ok (.invokevirtual 388, 3) := by decide +kernel
theorem dX12_tryRoute_131 : decode cX12_tryRoute 131 = .ok (.aload_n 0, 1) := by decide +kernel
theorem dX12_tryRoute_132 : decode cX12_tryRoute 132 = .ok (.iload_n 1, 1) := by decide +kernel
theorem dX12_tryRoute_133 : decode cX12_tryRoute 133 = .ok (.invokevirtual 392, 3) := by decide +kernel
theorem dX12_tryRoute_136 : decode cX12_tryRoute 136 = .ok (.iinc 5 1, 3) := by decide +kernel
theorem dX12_tryRoute_139 : decode cX12_tryRoute 139 = .ok (.goto (-53), 3) := by decide +kernel
theorem dX12_tryRoute_142 : decode cX12_tryRoute 142 = .ok (.return_, 1) := by decide +kernel
theorem dX12_route_0 : decode cX12_route 0 = .ok (.aload_n 0, 1) := by decide +kernel
theorem dX12_route_1 : decode cX12_route 1 = .ok (.getfield 264, 3) := by decide +kernel
theorem dX12_route_4 : decode cX12_route 4 = .ok (.ifCond .eq 12, 3) := by decide +kernel
theorem dX12_route_7 : decode cX12_route 7 = .ok (.iload_n 1, 1) := by decide +kernel
theorem dX12_route_8 : decode cX12_route 8 = .ok (.iconst 0, 1) := by decide +kernel
theorem dX12_route_9 : decode cX12_route 9 = .ok (.iconst 2, 1) := by decide +kernel
theorem dX12_route_10 : decode cX12_route 10 = .ok (.invokestatic 220, 3) := by decide +kernel
theorem dX12_route_13 : decode cX12_route 13 = .ok (.ifCond .ne 5, 3) := by decide +kernel
theorem dX12_route_16 : decode cX12_route 16 = .ok (.iconst (-1), 1) := by decide +kernel
theorem dX12_route_17 : decode cX12_route 17 = .ok (.ireturn, 1) := by decide +kernel
theorem dX12_route_18 : decode cX12_route 18 = .ok (.aload_n 0, 1) := by decide +kernel
theorem dX12_route_19 : decode cX12_route 19 = .ok (.iconst (-1), 1) := by decide +kernel
theorem dX12_route_20 : decode cX12_route 20 = .ok (.putfield 373, 3) := by decide +kernel
theorem dX12_route_23 : decode cX12_route 23 = .ok (.aload_n 0, 1) := by decide +kernel
theorem dX12_route_24 : decode cX12_route 24 = .ok (.iconst 0, 1) := by decide +kernel
theorem dX12_route_25 : decode cX12_route 25 = .ok (.putfield 376, 3) := by decide +kernel
theorem dX12_route_28 : decode cX12_route 28 = .ok (.aload_n 0, 1) := by decide +kernel
theorem dX12_route_29 : decode cX12_route 29 = .ok (.iconst 0, 1) := by decide +kernel
theorem dX12_route_30 : decode cX12_route 30 = .ok (.putfield 379, 3) := by decide +kernel
theorem dX12_route_33 : decode cX12_route 33 = .ok (.aload_n 0, 1) := by decide +kernel
theorem dX12_route_34 : decode cX12_route 34 = .ok (.iconst 0, 1) := by decide +kernel
theorem dX12_route_35 : decode cX12_route 35 = .ok (.iconst 0, 1) := by decide +kernel
theorem dX12_route_36 : decode cX12_route 36 = .ok (.iconst 0, 1) := by decide +kernel
theorem dX12_route_37 : decode cX12_route 37 = .ok (.invokevirtual 388, 3) := by decide +kernel
theorem dX12_route_40 : decode cX12_route 40 = .ok (.iload_n 1, 1) := by decide +kernel
theorem dX12_route_41 : decode cX12_route 41 = .ok (.ifCond .ne 21, 3) := by decide +kernel
theorem dX12_route_44 : decode cX12_route 44 = .ok (.aload_n 0, 1) := by decide +kernel
theorem dX12_route_45 : decode cX12_route 45 = .ok (.getfield 376, 3) := by decide +kernel
theorem dX12_route_48 : decode cX12_route 48 = .ok (.ifCond .ne 7, 3) := by decide +kernel
theorem dX12_route_51 : decode cX12_route 51 = .ok (.iconst (-1), 1) := by decide +kernel
theorem dX12_route_52 : decode cX12_route 52 = .ok (.goto 26, 3) := by decide +kernel
theorem dX12_route_55 : decode cX12_route 55 = .ok (.aload_n 0, 1) := by decide +kernel
theorem dX12_route_56 : decode cX12_route 56 = .ok (.getfield 379, 3) := by decide +kernel
theorem dX12_route_59 : decode cX12_route 59 = .ok (.goto 19, 3) := by decide +kernel
theorem dX12_route_62 : decode cX12_route 62 = .ok (.iload_n 1, 1) := by decide +kernel
theorem dX12_route_63 : decode cX12_route 63 = .ok (.iconst 1, 1) := by decide +kernel
theorem dX12_route_64 : decode cX12_route 64 = .ok (.if_icmp .ne 10, 3) := by decide +kernel
theorem dX12_route_67 : decode cX12_route 67 = .ok (.aload_n 0, 1) := by decide +kernel
theorem dX12_route_68 : decode cX12_route 68 = .ok (.getfield 373, 3) := by decide +kernel
theorem dX12_route_71 : decode cX12_route 71 = .ok (.goto 7, 3) := by decide +kernel
theorem dX12_route_74 : decode cX12_route 74 = .ok (.aload_n 0, 1) := by decide +kernel
theorem dX12_route_75 : decode cX12_route 75 = .ok (.getfield 382, 3) := by decide +kernel
theorem dX12_route_78 : decode cX12_route 78 = .ok (.ireturn, 1) := by decide +kernel
theorem dX12_layOrder_0 : decode cX12_layOrder 0 = .ok (.iconst 0, 1) := by decide +kernel
theorem dX12_layOrder_1 : decode cX12_layOrder 1 = .ok (.istore_n 3, 1) := by decide +kernel
theorem dX12_layOrder_2 : decode cX12_layOrder 2 = .ok (.iload_n 2, 1) := by decide +kernel
theorem dX12_layOrder_3 : decode cX12_layOrder 3 = .ok (.istore 4, 2) := by decide +kernel
theorem dX12_layOrder_5 : decode cX12_layOrder 5 = .ok (.iload_n 3, 1) := by decide +kernel
theorem dX12_layOrder_6 : decode cX12_layOrder 6 = .ok (.aload_n 0, 1) := by decide +kernel
theorem dX12_layOrder_7 : decode cX12_layOrder 7 = .ok (.getfield 264, 3) := by decide +kernel
theorem dX12_layOrder_10 : decode cX12_layOrder 10 = .ok (.if_icmp .ge 119, 3) := by decide +kernel
theorem dX12_layOrder_13 : decode cX12_layOrder 13 = .ok (.iconst (-1), 1) := by decide +kernel
theorem dX12_layOrder_14 : decode cX12_layOrder 14 = .ok (.istore 5, 2) := by decide +kernel
theorem dX12_layOrder_16 : decode cX12_layOrder 16 = .ok (.iconst 0, 1) := by decide +kernel
theorem dX12_layOrder_17 : decode cX12_layOrder 17 = .ok (.istore 6, 2) := by decide +kernel
theorem dX12_layOrder_19 : decode cX12_layOrder 19 = .ok (.iload 6, 2) := by decide +kernel
theorem dX12_layOrder_21 : decode cX12_layOrder 21 = .ok (.aload_n 0, 1) := by decide +kernel
theorem dX12_layOrder_22 : decode cX12_layOrder 22 = .ok (.getfield 264, 3) := by decide +kernel
theorem dX12_layOrder_25 : decode cX12_layOrder 25 = .ok (.if_icmp .ge 73, 3) := by decide +kernel
theorem dX12_layOrder_28 : decode cX12_layOrder 28 = .ok (.iload 4, 2) := by decide +kernel
theorem dX12_layOrder_30 : decode cX12_layOrder 30 = .ok (.iload 6, 2) := by decide +kernel
theorem dX12_layOrder_32 : decode cX12_layOrder 32 = .ok (.invokestatic 231, 3) := by decide +kernel
theorem dX12_layOrder_35 : decode cX12_layOrder 35 = .ok (.ifCond .ne 17, 3) := by decide +kernel
theorem dX12_layOrder_38 : decode cX12_layOrder 38 = .ok (.aload_n 0, 1) := by decide +kernel
theorem dX12_layOrder_39 : decode cX12_layOrder 39 = .ok (.iload 6, 2) := by decide +kernel
theorem dX12_layOrder_41 : decode cX12_layOrder 41 = .ok (.iload_n 1, 1) := by decide +kernel
theorem dX12_layOrder_42 : decode cX12_layOrder 42 = .ok (.invokevirtual 395, 3) := by decide +kernel
theorem dX12_layOrder_45 : decode cX12_layOrder 45 = .ok (.ifCond .le 7, 3) := by decide +kernel
theorem dX12_layOrder_48 : decode cX12_layOrder 48 = .ok (.iconst 1, 1) := by decide +kernel
theorem dX12_layOrder_49 : decode cX12_layOrder 49 = .ok (.goto 4, 3) := by decide +kernel
theorem dX12_layOrder_52 : decode cX12_layOrder 52 = .ok (.iconst 0, 1) := by decide +kernel
theorem dX12_layOrder_53 : decode cX12_layOrder 53 = .ok (.istore 7, 2) := by decide +kernel
theorem dX12_layOrder_55 : decode cX12_layOrder 55 = .ok (.iload 7, 2) := by decide +kernel
theorem dX12_layOrder_57 : decode cX12_layOrder 57 = .ok (.ifCond .eq 31, 3) := by decide +kernel
theorem dX12_layOrder_60 : decode cX12_layOrder 60 = .ok (.iload 5, 2) := by decide +kernel
theorem dX12_layOrder_62 : decode cX12_layOrder 62 = .ok (.iconst (-1), 1) := by decide +kernel
theorem dX12_layOrder_63 : decode cX12_layOrder 63 = .ok (.if_icmp .eq 20, 3) := by decide +kernel
theorem dX12_layOrder_66 : decode cX12_layOrder 66 = .ok (.aload_n 0, 1) := by decide +kernel
theorem dX12_layOrder_67 : decode cX12_layOrder 67 = .ok (.iload 6, 2) := by decide +kernel
theorem dX12_layOrder_69 : decode cX12_layOrder 69 = .ok (.iload_n 1, 1) := by decide +kernel
theorem dX12_layOrder_70 : decode cX12_layOrder 70 = .ok (.invokevirtual 395, 3) := by decide +kernel
theorem dX12_layOrder_73 : decode cX12_layOrder 73 = .ok (.aload_n 0, 1) := by decide +kernel
theorem dX12_layOrder_74 : decode cX12_layOrder 74 = .ok (.iload 5, 2) := by decide +kernel
theorem dX12_layOrder_76 : decode cX12_layOrder 76 = .ok (.iload_n 1, 1) := by decide +kernel
theorem dX12_layOrder_77 : decode cX12_layOrder 77 = .ok (.invokevirtual 395, 3) := by decide +kernel
theorem dX12_layOrder_80 : decode cX12_layOrder 80 = .ok (.if_icmp .ge 8, 3) := by decide +kernel
theorem dX12_layOrder_83 : decode cX12_layOrder 83 = .ok (.iload 6, 2) := by decide +kernel
theorem dX12_layOrder_85 : decode cX12_layOrder 85 = .ok (.goto 5, 3) := by decide +kernel
theorem dX12_layOrder_88 : decode cX12_layOrder 88 = .ok (.iload 5, 2) := by decide +kernel
theorem dX12_layOrder_90 : decode cX12_layOrder 90 = .ok (.istore 5, 2) := by decide +kernel
theorem dX12_layOrder_92 : decode cX12_layOrder 92 = .ok (.iinc 6 1, 3) := by decide +kernel
theorem dX12_layOrder_95 : decode cX12_layOrder 95 = .ok (.goto (-76), 3) := by decide +kernel
theorem dX12_layOrder_98 : decode cX12_layOrder 98 = .ok (.iload 5, 2) := by decide +kernel
theorem dX12_layOrder_100 : decode cX12_layOrder 100 = .ok (.iconst (-1), 1) := by decide +kernel
theorem dX12_layOrder_101 : decode cX12_layOrder 101 = .ok (.if_icmp .ne 5, 3) := by decide +kernel
theorem dX12_layOrder_104 : decode cX12_layOrder 104 = .ok (.iload_n 3, 1) := by decide +kernel
theorem dX12_layOrder_105 : decode cX12_layOrder 105 = .ok (.ireturn, 1) := by decide +kernel
theorem dX12_layOrder_106 : decode cX12_layOrder 106 = .ok (.iload 4, 2) := by decide +kernel
theorem dX12_layOrder_108 : decode cX12_layOrder 108 = .ok (.iconst 1, 1) := by decide +kernel
theorem dX12_layOrder_109 : decode cX12_layOrder 109 = .ok (.iload 5, 2) := by decide +kernel
theorem dX12_layOrder_111 : decode cX12_layOrder 111 = .ok (.ishl, 1) := by decide +kernel
theorem dX12_layOrder_112 : decode cX12_layOrder 112 = .ok (.ior, 1) := by decide +kernel
theorem dX12_layOrder_113 : decode cX12_layOrder 113 = .ok (.istore 4, 2) := by decide +kernel
theorem dX12_layOrder_115 : decode cX12_layOrder 115 = .ok (.aload_n 0, 1) := by decide +kernel
theorem dX12_layOrder_116 : decode cX12_layOrder 116 = .ok (.getfield 77, 3) := by decide +kernel
theorem dX12_layOrder_119 : decode cX12_layOrder 119 = .ok (.iload_n 3, 1) := by decide +kernel
theorem dX12_layOrder_120 : decode cX12_layOrder 120 = .ok (.iload 5, 2) := by decide +kernel
theorem dX12_layOrder_122 : decode cX12_layOrder 122 = .ok (.iastore, 1) := by decide +kernel
theorem dX12_layOrder_123 : decode cX12_layOrder 123 = .ok (.iinc 3 1, 3) := by decide +kernel
theorem dX12_layOrder_126 : decode cX12_layOrder 126 = .ok (.goto (-121), 3) := by decide +kernel
theorem dX12_layOrder_129 : decode cX12_layOrder 129 = .ok (.iload_n 3, 1) := by decide +kernel
theorem dX12_layOrder_130 : decode cX12_layOrder 130 = .ok (.ireturn, 1) := by decide +kernel
theorem dX12_griefOf_0 : decode cX12_griefOf 0 = .ok (.iload_n 2, 1) := by decide +kernel
theorem dX12_griefOf_1 : decode cX12_griefOf 1 = .ok (.ifCond .eq 12, 3) := by decide +kernel
theorem dX12_griefOf_4 : decode cX12_griefOf 4 = .ok (.aload_n 0, 1) := by decide +kernel
theorem dX12_griefOf_5 : decode cX12_griefOf 5 = .ok (.iload_n 1, 1) := by decide +kernel
theorem dX12_griefOf_6 : decode cX12_griefOf 6 = .ok (.iconst 2, 1) := by decide +kernel
theorem dX12_griefOf_7 : decode cX12_griefOf 7 = .ok (.invokevirtual 270, 3) := by decide +kernel
theorem dX12_griefOf_10 : decode cX12_griefOf 10 = .ok (.goto 11, 3) := by decide +kernel
theorem dX12_griefOf_13 : decode cX12_griefOf 13 = .ok (.aload_n 0, 1) := by decide +kernel
theorem dX12_griefOf_14 : decode cX12_griefOf 14 = .ok (.getfield 58, 3) := by decide +kernel
theorem dX12_griefOf_17 : decode cX12_griefOf 17 = .ok (.iconst 0, 1) := by decide +kernel
theorem dX12_griefOf_18 : decode cX12_griefOf 18 = .ok (.iload_n 1, 1) := by decide +kernel
theorem dX12_griefOf_19 : decode cX12_griefOf 19 = .ok (.iadd, 1) := by decide +kernel
theorem dX12_griefOf_20 : decode cX12_griefOf 20 = .ok (.iaload, 1) := by decide +kernel
theorem dX12_griefOf_21 : decode cX12_griefOf 21 = .ok (.ireturn, 1) := by decide +kernel
theorem dX12_order_0 : decode cX12_order 0 = .ok (.aload_n 0, 1) := by decide +kernel
theorem dX12_order_1 : decode cX12_order 1 = .ok (.getfield 264, 3) := by decide +kernel
theorem dX12_order_4 : decode cX12_order 4 = .ok (.ifCond .eq 12, 3) := by decide +kernel
theorem dX12_order_7 : decode cX12_order 7 = .ok (.iload_n 1, 1) := by decide +kernel
theorem dX12_order_8 : decode cX12_order 8 = .ok (.iconst 0, 1) := by decide +kernel
theorem dX12_order_9 : decode cX12_order 9 = .ok (.iconst 1, 1) := by decide +kernel
theorem dX12_order_10 : decode cX12_order 10 = .ok (.invokestatic 220, 3) := by decide +kernel
theorem dX12_order_13 : decode cX12_order 13 = .ok (.ifCond .ne 5, 3) := by decide +kernel
theorem dX12_order_16 : decode cX12_order 16 = .ok (.iconst (-1), 1) := by decide +kernel
theorem dX12_order_17 : decode cX12_order 17 = .ok (.ireturn, 1) := by decide +kernel
theorem dX12_order_18 : decode cX12_order 18 = .ok (.aload_n 0, 1) := by decide +kernel
theorem dX12_order_19 : decode cX12_order 19 = .ok (.iconst 0, 1) := by decide +kernel
theorem dX12_order_20 : decode cX12_order 20 = .ok (.aload_n 0, 1) := by decide +kernel
theorem dX12_order_21 : decode cX12_order 21 = .ok (.getfield 58, 3) := by decide +kernel
theorem dX12_order_24 : decode cX12_order 24 = .ok (.bipush 11, 2) := by decide +kernel
theorem dX12_order_26 : decode cX12_order 26 = .ok (.iaload, 1) := by decide +kernel
theorem dX12_order_27 : decode cX12_order 27 = .ok (.invokevirtual 399, 3) := by decide +kernel
theorem dX12_order_30 : decode cX12_order 30 = .ok (.istore_n 2, 1) := by decide +kernel
theorem dX12_order_31 : decode cX12_order 31 = .ok (.iconst 0, 1) := by decide +kernel
theorem dX12_order_32 : decode cX12_order 32 = .ok (.istore_n 3, 1) := by decide +kernel
theorem dX12_order_33 : decode cX12_order 33 = .ok (.iconst 0, 1) := by decide +kernel
theorem dX12_order_34 : decode cX12_order 34 = .ok (.istore 4, 2) := by decide +kernel
theorem dX12_order_36 : decode cX12_order 36 = .ok (.aload_n 0, 1) := by decide +kernel
theorem dX12_order_37 : decode cX12_order 37 = .ok (.iconst 0, 1) := by decide +kernel
theorem dX12_order_38 : decode cX12_order 38 = .ok (.invokevirtual 385, 3) := by decide +kernel
theorem dX12_order_41 : decode cX12_order 41 = .ok (.iconst 0, 1) := by decide +kernel
theorem dX12_order_42 : decode cX12_order 42 = .ok (.istore 5, 2) := by decide +kernel
theorem dX12_order_44 : decode cX12_order 44 = .ok (.iload 5, 2) := by decide +kernel
theorem dX12_order_46 : decode cX12_order 46 = .ok (.iload_n 2, 1) := by decide +kernel
theorem dX12_order_47 : decode cX12_order 47 = .ok (.if_icmp .ge 59, 3) := by decide +kernel
theorem dX12_order_50 : decode cX12_order 50 = .ok (.bipush 10, 2) := by decide +kernel
theorem dX12_order_52 : decode cX12_order 52 = .ok (.iload_n 3, 1) := by decide +kernel
theorem dX12_order_53 : decode cX12_order 53 = .ok (.imul, 1) := by decide +kernel
theorem dX12_order_54 : decode cX12_order 54 = .ok (.aload_n 0, 1) := by decide +kernel
theorem dX12_order_55 : decode cX12_order 55 = .ok (.getfield 77, 3) := by decide +kernel
theorem dX12_order_58 : decode cX12_order 58 = .ok (.iload 5, 2) := by decide +kernel
theorem dX12_order_60 : decode cX12_order 60 = .ok (.iaload, 1) := by decide +kernel
theorem dX12_order_61 : decode cX12_order 61 = .ok (.iadd, 1) := by decide +kernel
theorem dX12_order_62 : decode cX12_order 62 = .ok (.istore_n 3, 1) := by decide +kernel
theorem dX12_order_63 : decode cX12_order 63 = .ok (.iload 4, 2) := by decide +kernel
theorem dX12_order_65 : decode cX12_order 65 = .ok (.iload 5, 2) := by decide +kernel
theorem dX12_order_67 : decode cX12_order 67 = .ok (.if_icmp .ne 33, 3) := by decide +kernel
theorem dX12_order_70 : decode cX12_order 70 = .ok (.aload_n 0, 1) := by decide +kernel
theorem dX12_order_71 : decode cX12_order 71 = .ok (.aload_n 0, 1) := by decide +kernel
theorem dX12_order_72 : decode cX12_order 72 = .ok (.getfield 77, 3) := by decide +kernel
theorem dX12_order_75 : decode cX12_order 75 = .ok (.iload 5, 2) := by decide +kernel
theorem dX12_order_77 : decode cX12_order 77 = .ok (.iaload, 1) := by decide +kernel
theorem dX12_order_78 : decode cX12_order 78 = .ok (.invokevirtual 344, 3) := by decide +kernel
theorem dX12_order_81 : decode cX12_order 81 = .ok (.iconst (-1), 1) := by decide +kernel
theorem dX12_order_82 : decode cX12_order 82 = .ok (.if_icmp .ne 18, 3) := by decide +kernel
theorem dX12_order_85 : decode cX12_order 85 = .ok (.aload_n 0, 1) := by decide +kernel
theorem dX12_order_86 : decode cX12_order 86 = .ok (.aload_n 0, 1) := by decide +kernel
theorem dX12_order_87 : decode cX12_order 87 = .ok (.getfield 77, 3) := by decide +kernel
theorem dX12_order_90 : decode cX12_order 90 = .ok (.iload 5, 2) := by decide +kernel
theorem dX12_order_92 : decode cX12_order 92 = .ok (.iaload, 1) := by decide +kernel
theorem dX12_order_93 : decode cX12_order 93 = .ok (.invokevirtual 341, 3) := by decide +kernel
theorem dX12_order_96 : decode cX12_order 96 = .ok (.pop, 1) := by decide +kernel
theorem dX12_order_97 : decode cX12_order 97 = .ok (.iinc 4 1, 3) := by decide +kernel
theorem dX12_order_100 : decode cX12_order 100 = .ok (.iinc 5 1, 3) := by decide +kernel
theorem dX12_order_103 : decode cX12_order 103 = .ok (.goto (-59), 3) := by decide +kernel
theorem dX12_order_106 : decode cX12_order 106 = .ok (.aload_n 0, 1) := by decide +kernel
theorem dX12_order_107 : decode cX12_order 107 = .ok (.iconst 0, 1) := by decide +kernel
theorem dX12_order_108 : decode cX12_order 108 = .ok (.invokevirtual 392, 3) := by decide +kernel
theorem dX12_order_111 : decode cX12_order 111 = .ok (.iload_n 1, 1) := by decide +kernel
theorem dX12_order_112 : decode cX12_order 112 = .ok (.iconst 1, 1) := by decide +kernel
theorem dX12_order_113 : decode cX12_order 113 = .ok (.if_icmp .ne 8, 3) := by decide +kernel
theorem dX12_order_116 : decode cX12_order 116 = .ok (.iload 4, 2) := by decide +kernel
theorem dX12_order_118 : decode cX12_order 118 = .ok (.goto 12, 3) := by decide +kernel
theorem dX12_order_121 : decode cX12_order 121 = .ok (.iload_n 2, 1) := by decide +kernel
theorem dX12_order_122 : decode cX12_order 122 = .ok (.ifCond .ne 7, 3) := by decide +kernel
theorem dX12_order_125 : decode cX12_order 125 = .ok (.iconst (-1), 1) := by decide +kernel
theorem dX12_order_126 : decode cX12_order 126 = .ok (.goto 4, 3) := by decide +kernel
theorem dX12_order_129 : decode cX12_order 129 = .ok (.iload_n 3, 1) := by decide +kernel
theorem dX12_order_130 : decode cX12_order 130 = .ok (.ireturn, 1) := by decide +kernel
theorem dX12_shorter_0 : decode cX12_shorter 0 = .ok (.aload_n 0, 1) := by decide +kernel
theorem dX12_shorter_1 : decode cX12_shorter 1 = .ok (.iload_n 1, 1) := by decide +kernel
theorem dX12_shorter_2 : decode cX12_shorter 2 = .ok (.invokevirtual 332, 3) := by decide +kernel
theorem dX12_shorter_5 : decode cX12_shorter 5 = .ok (.ifCond .eq 13, 3) := by decide +kernel
theorem dX12_shorter_8 : decode cX12_shorter 8 = .ok (.iload_n 2, 1) := by decide +kernel
theorem dX12_shorter_9 : decode cX12_shorter 9 = .ok (.iconst 0, 1) := by decide +kernel
theorem dX12_shorter_10 : decode cX12_shorter 10 = .ok (.bipush 60, 2) := by decide +kernel
theorem dX12_shorter_12 : decode cX12_shorter 12 = .ok (.invokestatic 220, 3) := by decide +kernel
theorem dX12_shorter_15 : decode cX12_shorter 15 = .ok (.ifCond .ne 5, 3) := by decide +kernel
theorem dX12_shorter_18 : decode cX12_shorter 18 = .ok (.iconst (-1), 1) := by decide +kernel
theorem dX12_shorter_19 : decode cX12_shorter 19 = .ok (.ireturn, 1) := by decide +kernel
theorem dX12_shorter_20 : decode cX12_shorter 20 = .ok (.iconst 0, 1) := by decide +kernel
theorem dX12_shorter_21 : decode cX12_shorter 21 = .ok (.istore_n 3, 1) := by decide +kernel
theorem dX12_shorter_22 : decode cX12_shorter 22 = .ok (.iload_n 3, 1) := by decide +kernel
theorem dX12_shorter_23 : decode cX12_shorter 23 = .ok (.aload_n 0, 1) := by decide +kernel
theorem dX12_shorter_24 : decode cX12_shorter 24 = .ok (.getfield 58, 3) := by decide +kernel
theorem dX12_shorter_27 : decode cX12_shorter 27 = .ok (.iconst 0, 1) := by decide +kernel
theorem dX12_shorter_28 : decode cX12_shorter 28 = .ok (.iload_n 1, 1) := by decide +kernel
theorem dX12_shorter_29 : decode cX12_shorter 29 = .ok (.iadd, 1) := by decide +kernel
theorem dX12_shorter_30 : decode cX12_shorter 30 = .ok (.iaload, 1) := by decide +kernel
theorem dX12_shorter_31 : decode cX12_shorter 31 = .ok (.if_icmp .gt 31, 3) := by decide +kernel
theorem dX12_shorter_34 : decode cX12_shorter 34 = .ok (.aload_n 0, 1) := by decide +kernel
theorem dX12_shorter_35 : decode cX12_shorter 35 = .ok (.iload_n 1, 1) := by decide +kernel
theorem dX12_shorter_36 : decode cX12_shorter 36 = .ok (.aload_n 0, 1) := by decide +kernel
theorem dX12_shorter_37 : decode cX12_shorter 37 = .ok (.getfield 58, 3) := by decide +kernel
theorem dX12_shorter_40 : decode cX12_shorter 40 = .ok (.iconst 0, 1) := by decide +kernel
theorem dX12_shorter_41 : decode cX12_shorter 41 = .ok (.iload_n 1, 1) := by decide +kernel
theorem dX12_shorter_42 : decode cX12_shorter 42 = .ok (.iadd, 1) := by decide +kernel
theorem dX12_shorter_43 : decode cX12_shorter 43 = .ok (.iaload, 1) := by decide +kernel
theorem dX12_shorter_44 : decode cX12_shorter 44 = .ok (.iload_n 3, 1) := by decide +kernel
theorem dX12_shorter_45 : decode cX12_shorter 45 = .ok (.isub, 1) := by decide +kernel
theorem dX12_shorter_46 : decode cX12_shorter 46 = .ok (.iconst 0, 1) := by decide +kernel
theorem dX12_shorter_47 : decode cX12_shorter 47 = .ok (.invokevirtual 323, 3) := by decide +kernel
theorem dX12_shorter_50 : decode cX12_shorter 50 = .ok (.iload_n 2, 1) := by decide +kernel
theorem dX12_shorter_51 : decode cX12_shorter 51 = .ok (.if_icmp .gt 5, 3) := by decide +kernel
theorem dX12_shorter_54 : decode cX12_shorter 54 = .ok (.iload_n 3, 1) := by decide +kernel
theorem dX12_shorter_55 : decode cX12_shorter 55 = .ok (.ireturn, 1) := by decide +kernel
theorem dX12_shorter_56 : decode cX12_shorter 56 = .ok (.iinc 3 1, 3) := by decide +kernel
theorem dX12_shorter_59 : decode cX12_shorter 59 = .ok (.goto (-37), 3) := by decide +kernel
theorem dX12_shorter_62 : decode cX12_shorter 62 = .ok (.iconst (-1), 1) := by decide +kernel
theorem dX12_shorter_63 : decode cX12_shorter 63 = .ok (.ireturn, 1) := by decide +kernel
theorem dX12_roster_0 : decode cX12_roster 0 = .ok (.aload_n 0, 1) := by decide +kernel
theorem dX12_roster_1 : decode cX12_roster 1 = .ok (.getfield 264, 3) := by decide +kernel
theorem dX12_roster_4 : decode cX12_roster 4 = .ok (.ifCond .eq 14, 3) := by decide +kernel
theorem dX12_roster_7 : decode cX12_roster 7 = .ok (.iload_n 1, 1) := by decide +kernel
theorem dX12_roster_8 : decode cX12_roster 8 = .ok (.iconst 1, 1) := by decide +kernel
theorem dX12_roster_9 : decode cX12_roster 9 = .ok (.sipush 200, 3) := by decide +kernel
theorem dX12_roster_12 : decode cX12_roster 12 = .ok (.invokestatic 220, 3) := by decide +kernel
theorem dX12_roster_15 : decode cX12_roster 15 = .ok (.ifCond .ne 5, 3) := by decide +kernel
theorem dX12_roster_18 : decode cX12_roster 18 = .ok (.iconst (-1), 1) := by decide +kernel
theorem dX12_roster_19 : decode cX12_roster 19 = .ok (.ireturn, 1) := by decide +kernel
theorem dX12_roster_20 : decode cX12_roster 20 = .ok (.iconst (-1), 1) := by decide +kernel
theorem dX12_roster_21 : decode cX12_roster 21 = .ok (.istore_n 2, 1) := by decide +kernel
theorem dX12_roster_22 : decode cX12_roster 22 = .ok (.iconst 0, 1) := by decide +kernel
theorem dX12_roster_23 : decode cX12_roster 23 = .ok (.istore_n 3, 1) := by decide +kernel
theorem dX12_roster_24 : decode cX12_roster 24 = .ok (.iload_n 3, 1) := by decide +kernel
theorem dX12_roster_25 : decode cX12_roster 25 = .ok (.iconst 1, 1) := by decide +kernel
theorem dX12_roster_26 : decode cX12_roster 26 = .ok (.aload_n 0, 1) := by decide +kernel
theorem dX12_roster_27 : decode cX12_roster 27 = .ok (.getfield 267, 3) := by decide +kernel
theorem dX12_roster_30 : decode cX12_roster 30 = .ok (.ishl, 1) := by decide +kernel
theorem dX12_roster_31 : decode cX12_roster 31 = .ok (.if_icmp .ge 83, 3) := by decide +kernel
theorem dX12_roster_34 : decode cX12_roster 34 = .ok (.iconst 0, 1) := by decide +kernel
theorem dX12_roster_35 : decode cX12_roster 35 = .ok (.istore 4, 2) := by decide +kernel
theorem dX12_roster_37 : decode cX12_roster 37 = .ok (.iconst 0, 1) := by decide +kernel
theorem dX12_roster_38 : decode cX12_roster 38 = .ok (.istore 5, 2) := by decide +kernel
theorem dX12_roster_40 : decode cX12_roster 40 = .ok (.iload 5, 2) := by decide +kernel
theorem dX12_roster_42 : decode cX12_roster 42 = .ok (.aload_n 0, 1) := by decide +kernel
theorem dX12_roster_43 : decode cX12_roster 43 = .ok (.getfield 267, 3) := by decide +kernel
theorem dX12_roster_46 : decode cX12_roster 46 = .ok (.if_icmp .ge 34, 3) := by decide +kernel
theorem dX12_roster_49 : decode cX12_roster 49 = .ok (.iload 4, 2) := by decide +kernel
theorem dX12_roster_51 : decode cX12_roster 51 = .ok (.iload_n 3, 1) := by decide +kernel
theorem dX12_roster_52 : decode cX12_roster 52 = .ok (.iload 5, 2) := by decide +kernel
theorem dX12_roster_54 : decode cX12_roster 54 = .ok (.invokestatic 231, 3) := by decide +kernel
theorem dX12_roster_57 : decode cX12_roster 57 = .ok (.ifCond .eq 13, 3) := by decide +kernel
theorem dX12_roster_60 : decode cX12_roster 60 = .ok (.aload_n 0, 1) := by decide +kernel
theorem dX12_roster_61 : decode cX12_roster 61 = .ok (.getfield 55, 3) := by decide +kernel
theorem dX12_roster_64 : decode cX12_roster 64 = .ok (.iload 5, 2) := by decide +kernel
theorem dX12_roster_66 : decode cX12_roster 66 = .ok (.iaload, 1) := by decide +kernel
theorem dX12_roster_67 : decode cX12_roster 67 = .ok (.goto 4, 3) := by decide +kernel
theorem dX12_roster_70 : decode cX12_roster 70 = .ok (.iconst 0, 1) := by decide +kernel
theorem dX12_roster_71 : decode cX12_roster 71 = .ok (.iadd, 1) := by decide +kernel
theorem dX12_roster_72 : decode cX12_roster 72 = .ok (.istore 4, 2) := by decide +kernel
theorem dX12_roster_74 : decode cX12_roster 74 = .ok (.iinc 5 1, 3) := by decide +kernel
theorem dX12_roster_77 : decode cX12_roster 77 = .ok (.goto (-37), 3) := by decide +kernel
theorem dX12_roster_80 : decode cX12_roster 80 = .ok (.iload 4, 2) := by decide +kernel
theorem dX12_roster_82 : decode cX12_roster 82 = .ok (.iload_n 1, 1) := by decide +kernel
theorem dX12_roster_83 : decode cX12_roster 83 = .ok (.if_icmp .lt 23, 3) := by decide +kernel
theorem dX12_roster_86 : decode cX12_roster 86 = .ok (.iload_n 2, 1) := by decide +kernel
theorem dX12_roster_87 : decode cX12_roster 87 = .ok (.iconst (-1), 1) := by decide +kernel
theorem dX12_roster_88 : decode cX12_roster 88 = .ok (.if_icmp .eq 14, 3) := by decide +kernel
theorem dX12_roster_91 : decode cX12_roster 91 = .ok (.iload_n 3, 1) := by decide +kernel
theorem dX12_roster_92 : decode cX12_roster 92 = .ok (.invokestatic 308, 3) := by decide +kernel
theorem dX12_roster_95 : decode cX12_roster 95 = .ok (.iload_n 2, 1) := by decide +kernel
theorem dX12_roster_96 : decode cX12_roster 96 = .ok (.invokestatic 308, 3) := by decide +kernel
theorem dX12_roster_99 : decode cX12_roster 99 = .ok (.if_icmp .ge 7, 3) := by decide +kernel
theorem dX12_roster_102 : decode cX12_roster 102 = .ok (.iload_n 3, 1) := by decide +kernel
theorem dX12_roster_103 : decode cX12_roster 103 = .ok (.goto 4, 3) := by decide +kernel
theorem dX12_roster_106 : decode cX12_roster 106 = .ok (.iload_n 2, 1) := by decide +kernel
theorem dX12_roster_107 : decode cX12_roster 107 = .ok (.istore_n 2, 1) := by decide +kernel
theorem dX12_roster_108 : decode cX12_roster 108 = .ok (.iinc 3 1, 3) := by decide +kernel
theorem dX12_roster_111 : decode cX12_roster 111 = .ok (.goto (-87), 3) := by decide +kernel
theorem dX12_roster_114 : decode cX12_roster 114 = .ok (.iload_n 2, 1) := by decide +kernel
theorem dX12_roster_115 : decode cX12_roster 115 = .ok (.ireturn, 1) := by decide +kernel
theorem dX12_stood_0 : decode cX12_stood 0 = .ok (.aload_n 0, 1) := by decide +kernel
theorem dX12_stood_1 : decode cX12_stood 1 = .ok (.iload_n 1, 1) := by decide +kernel
theorem dX12_stood_2 : decode cX12_stood 2 = .ok (.invokevirtual 332, 3) := by decide +kernel
theorem dX12_stood_5 : decode cX12_stood 5 = .ok (.ifCond .eq 32, 3) := by decide +kernel
theorem dX12_stood_8 : decode cX12_stood 8 = .ok (.iload_n 2, 1) := by decide +kernel
theorem dX12_stood_9 : decode cX12_stood 9 = .ok (.iconst 0, 1) := by decide +kernel
theorem dX12_stood_10 : decode cX12_stood 10 = .ok (.bipush 99, 2) := by decide +kernel
theorem dX12_stood_12 : decode cX12_stood 12 = .ok (.invokestatic 220, 3) := by decide +kernel
theorem dX12_stood_15 : decode cX12_stood 15 = .ok (.ifCond .eq 22, 3) := by decide +kernel
theorem dX12_stood_18 : decode cX12_stood 18 = .ok (.iload_n 3, 1) := by decide +kernel
theorem dX12_stood_19 : decode cX12_stood 19 = .ok (.iconst 0, 1) := by decide +kernel
theorem dX12_stood_20 : decode cX12_stood 20 = .ok (.bipush 60, 2) := by decide +kernel
theorem dX12_stood_22 : decode cX12_stood 22 = .ok (.invokestatic 220, 3) := by decide +kernel
theorem dX12_stood_25 : decode cX12_stood 25 = .ok (.ifCond .eq 12, 3) := by decide +kernel
theorem dX12_stood_28 : decode cX12_stood 28 = .ok (.aload_n 0, 1) := by decide +kernel
theorem dX12_stood_29 : decode cX12_stood 29 = .ok (.getfield 273, 3) := by decide +kernel
theorem dX12_stood_32 : decode cX12_stood 32 = .ok (.bipush 10, 2) := by decide +kernel
theorem dX12_stood_34 : decode cX12_stood 34 = .ok (.if_icmp .ne 5, 3) := by decide +kernel
theorem dX12_stood_37 : decode cX12_stood 37 = .ok (.iconst (-1), 1) := by decide +kernel
theorem dX12_stood_38 : decode cX12_stood 38 = .ok (.ireturn, 1) := by decide +kernel
theorem dX12_stood_39 : decode cX12_stood 39 = .ok (.aload_n 0, 1) := by decide +kernel
theorem dX12_stood_40 : decode cX12_stood 40 = .ok (.getfield 80, 3) := by decide +kernel
theorem dX12_stood_43 : decode cX12_stood 43 = .ok (.aload_n 0, 1) := by decide +kernel
theorem dX12_stood_44 : decode cX12_stood 44 = .ok (.getfield 273, 3) := by decide +kernel
theorem dX12_stood_47 : decode cX12_stood 47 = .ok (.iload_n 1, 1) := by decide +kernel
theorem dX12_stood_48 : decode cX12_stood 48 = .ok (.iastore, 1) := by decide +kernel
theorem dX12_stood_49 : decode cX12_stood 49 = .ok (.aload_n 0, 1) := by decide +kernel
theorem dX12_stood_50 : decode cX12_stood 50 = .ok (.getfield 83, 3) := by decide +kernel
theorem dX12_stood_53 : decode cX12_stood 53 = .ok (.aload_n 0, 1) := by decide +kernel
theorem dX12_stood_54 : decode cX12_stood 54 = .ok (.getfield 273, 3) := by decide +kernel
theorem dX12_stood_57 : decode cX12_stood 57 = .ok (.iload_n 2, 1) := by decide +kernel
theorem dX12_stood_58 : decode cX12_stood 58 = .ok (.iastore, 1) := by decide +kernel
theorem dX12_stood_59 : decode cX12_stood 59 = .ok (.aload_n 0, 1) := by decide +kernel
theorem dX12_stood_60 : decode cX12_stood 60 = .ok (.getfield 86, 3) := by decide +kernel
theorem dX12_stood_63 : decode cX12_stood 63 = .ok (.aload_n 0, 1) := by decide +kernel
theorem dX12_stood_64 : decode cX12_stood 64 = .ok (.getfield 273, 3) := by decide +kernel
theorem dX12_stood_67 : decode cX12_stood 67 = .ok (.iload_n 3, 1) := by decide +kernel
theorem dX12_stood_68 : decode cX12_stood 68 = .ok (.iastore, 1) := by decide +kernel
theorem dX12_stood_69 : decode cX12_stood 69 = .ok (.aload_n 0, 1) := by decide +kernel
theorem dX12_stood_70 : decode cX12_stood 70 = .ok (.dup, 1) := by decide +kernel
theorem dX12_stood_71 : decode cX12_stood 71 = .ok (.getfield 273, 3) := by decide +kernel
theorem dX12_stood_74 : decode cX12_stood 74 = .ok (.iconst 1, 1) := by decide +kernel
theorem dX12_stood_75 : decode cX12_stood 75 = .ok (.iadd, 1) := by decide +kernel
theorem dX12_stood_76 : decode cX12_stood 76 = .ok (.putfield 273, 3) := by decide +kernel
theorem dX12_stood_79 : decode cX12_stood 79 = .ok (.aload_n 0, 1) := by decide +kernel
theorem dX12_stood_80 : decode cX12_stood 80 = .ok (.getfield 273, 3) := by decide +kernel
theorem dX12_stood_83 : decode cX12_stood 83 = .ok (.ireturn, 1) := by decide +kernel
theorem dX12_standsFirst_0 : decode cX12_standsFirst 0 = .ok (.aload_n 0, 1) := by decide +kernel
theorem dX12_standsFirst_1 : decode cX12_standsFirst 1 = .ok (.iload_n 1, 1) := by decide +kernel
theorem dX12_standsFirst_2 : decode cX12_standsFirst 2 = .ok (.iload_n 2, 1) := by decide +kernel
theorem dX12_standsFirst_3 : decode cX12_standsFirst 3 = .ok (.iload_n 3, 1) := by decide +kernel
theorem dX12_standsFirst_4 : decode cX12_standsFirst 4 = .ok (.iconst 0, 1) := by decide +kernel
theorem dX12_standsFirst_5 : decode cX12_standsFirst 5 = .ok (.aload_n 0, 1) := by decide +kernel
theorem dX12_standsFirst_6 : decode cX12_standsFirst 6 = .ok (.iconst (-1), 1) := by decide +kernel
theorem dX12_standsFirst_7 : decode cX12_standsFirst 7 = .ok (.iload_n 1, 1) := by decide +kernel
theorem dX12_standsFirst_8 : decode cX12_standsFirst 8 = .ok (.invokevirtual 305, 3) := by decide +kernel
theorem dX12_standsFirst_11 : decode cX12_standsFirst 11 = .ok (.invokevirtual 319, 3) := by decide +kernel
theorem dX12_standsFirst_14 : decode cX12_standsFirst 14 = .ok (.ireturn, 1) := by decide +kernel
theorem dX12_isGrief_0 : decode cX12_isGrief 0 = .ok (.iconst 0, 1) := by decide +kernel
theorem dX12_isGrief_1 : decode cX12_isGrief 1 = .ok (.istore_n 3, 1) := by decide +kernel
theorem dX12_isGrief_2 : decode cX12_isGrief 2 = .ok (.iload_n 3, 1) := by decide +kernel
theorem dX12_isGrief_3 : decode cX12_isGrief 3 = .ok (.aload_n 0, 1) := by decide +kernel
theorem dX12_isGrief_4 : decode cX12_isGrief 4 = .ok (.getfield 273, 3) := by decide +kernel
theorem dX12_isGrief_7 : decode cX12_isGrief 7 = .ok (.if_icmp .ge 42, 3) := by decide +kernel
theorem dX12_isGrief_10 : decode cX12_isGrief 10 = .ok (.aload_n 0, 1) := by decide +kernel
theorem dX12_isGrief_11 : decode cX12_isGrief 11 = .ok (.getfield 80, 3) := by decide +kernel
theorem dX12_isGrief_14 : decode cX12_isGrief 14 = .ok (.iload_n 3, 1) := by decide +kernel
theorem dX12_isGrief_15 : decode cX12_isGrief 15 = .ok (.iaload, 1) := by decide +kernel
theorem dX12_isGrief_16 : decode cX12_isGrief 16 = .ok (.iload_n 1, 1) := by decide +kernel
theorem dX12_isGrief_17 : decode cX12_isGrief 17 = .ok (.if_icmp .ne 26, 3) := by decide +kernel
theorem dX12_isGrief_20 : decode cX12_isGrief 20 = .ok (.aload_n 0, 1) := by decide +kernel
theorem dX12_isGrief_21 : decode cX12_isGrief 21 = .ok (.iload_n 1, 1) := by decide +kernel
theorem dX12_isGrief_22 : decode cX12_isGrief 22 = .ok (.iload_n 2, 1) := by decide +kernel
theorem dX12_isGrief_23 : decode cX12_isGrief 23 = .ok (.aload_n 0, 1) := by decide +kernel
theorem dX12_isGrief_24 : decode cX12_isGrief 24 = .ok (.getfield 83, 3) := by decide +kernel
theorem dX12_isGrief_27 : decode cX12_isGrief 27 = .ok (.iload_n 3, 1) := by decide +kernel
theorem dX12_isGrief_28 : decode cX12_isGrief 28 = .ok (.iaload, 1) := by decide +kernel
theorem dX12_isGrief_29 : decode cX12_isGrief 29 = .ok (.invokevirtual 403, 3) := by decide +kernel
theorem dX12_isGrief_32 : decode cX12_isGrief 32 = .ok (.aload_n 0, 1) := by decide +kernel
theorem dX12_isGrief_33 : decode cX12_isGrief 33 = .ok (.getfield 86, 3) := by decide +kernel
theorem dX12_isGrief_36 : decode cX12_isGrief 36 = .ok (.iload_n 3, 1) := by decide +kernel
theorem dX12_isGrief_37 : decode cX12_isGrief 37 = .ok (.iaload, 1) := by decide +kernel
theorem dX12_isGrief_38 : decode cX12_isGrief 38 = .ok (.if_icmp .eq 5, 3) := by decide +kernel
theorem dX12_isGrief_41 : decode cX12_isGrief 41 = .ok (.iconst 0, 1) := by decide +kernel
theorem dX12_isGrief_42 : decode cX12_isGrief 42 = .ok (.ireturn, 1) := by decide +kernel
theorem dX12_isGrief_43 : decode cX12_isGrief 43 = .ok (.iinc 3 1, 3) := by decide +kernel
theorem dX12_isGrief_46 : decode cX12_isGrief 46 = .ok (.goto (-44), 3) := by decide +kernel
theorem dX12_isGrief_49 : decode cX12_isGrief 49 = .ok (.iconst 1, 1) := by decide +kernel
theorem dX12_isGrief_50 : decode cX12_isGrief 50 = .ok (.ireturn, 1) := by decide +kernel
theorem dX12_fits_0 : decode cX12_fits 0 = .ok (.aload_n 0, 1) := by decide +kernel
theorem dX12_fits_1 : decode cX12_fits 1 = .ok (.iload_n 1, 1) := by decide +kernel
theorem dX12_fits_2 : decode cX12_fits 2 = .ok (.invokevirtual 332, 3) := by decide +kernel
theorem dX12_fits_5 : decode cX12_fits 5 = .ok (.ifCond .eq 8, 3) := by decide +kernel
theorem dX12_fits_8 : decode cX12_fits 8 = .ok (.iload_n 2, 1) := by decide +kernel
theorem dX12_fits_9 : decode cX12_fits 9 = .ok (.iconst (-1), 1) := by decide +kernel
theorem dX12_fits_10 : decode cX12_fits 10 = .ok (.if_icmp .ge 5, 3) := by decide +kernel
theorem dX12_fits_13 : decode cX12_fits 13 = .ok (.iconst (-1), 1) := by decide +kernel
theorem dX12_fits_14 : decode cX12_fits 14 = .ok (.ireturn, 1) := by decide +kernel
theorem dX12_fits_15 : decode cX12_fits 15 = .ok (.iconst 0, 1) := by decide +kernel
theorem dX12_fits_16 : decode cX12_fits 16 = .ok (.istore_n 3, 1) := by decide +kernel
theorem dX12_fits_17 : decode cX12_fits 17 = .ok (.iconst 0, 1) := by decide +kernel
theorem dX12_fits_18 : decode cX12_fits 18 = .ok (.istore 4, 2) := by decide +kernel
theorem dX12_fits_20 : decode cX12_fits 20 = .ok (.iload 4, 2) := by decide +kernel
theorem dX12_fits_22 : decode cX12_fits 22 = .ok (.bipush 30, 2) := by decide +kernel
theorem dX12_fits_24 : decode cX12_fits 24 = .ok (.if_icmp .gt 30, 3) := by decide +kernel
theorem dX12_fits_27 : decode cX12_fits 27 = .ok (.aload_n 0, 1) := by decide +kernel
theorem dX12_fits_28 : decode cX12_fits 28 = .ok (.iload_n 1, 1) := by decide +kernel
theorem dX12_fits_29 : decode cX12_fits 29 = .ok (.iload 4, 2) := by decide +kernel
theorem dX12_fits_31 : decode cX12_fits 31 = .ok (.invokevirtual 406, 3) := by decide +kernel
theorem dX12_fits_34 : decode cX12_fits 34 = .ok (.ifCond .eq 14, 3) := by decide +kernel
theorem dX12_fits_37 : decode cX12_fits 37 = .ok (.iload_n 3, 1) := by decide +kernel
theorem dX12_fits_38 : decode cX12_fits 38 = .ok (.iload_n 2, 1) := by decide +kernel
theorem dX12_fits_39 : decode cX12_fits 39 = .ok (.if_icmp .ne 6, 3) := by decide +kernel
theorem dX12_fits_42 : decode cX12_fits 42 = .ok (.iload 4, 2) := by decide +kernel
theorem dX12_fits_44 : decode cX12_fits 44 = .ok (.ireturn, 1) := by decide +kernel
theorem dX12_fits_45 : decode cX12_fits 45 = .ok (.iinc 3 1, 3) := by decide +kernel
theorem dX12_fits_48 : decode cX12_fits 48 = .ok (.iinc 4 1, 3) := by decide +kernel
theorem dX12_fits_51 : decode cX12_fits 51 = .ok (.goto (-31), 3) := by decide +kernel
theorem dX12_fits_54 : decode cX12_fits 54 = .ok (.iload_n 2, 1) := by decide +kernel
theorem dX12_fits_55 : decode cX12_fits 55 = .ok (.iconst (-1), 1) := by decide +kernel
theorem dX12_fits_56 : decode cX12_fits 56 = .ok (.if_icmp .ne 7, 3) := by decide +kernel
theorem dX12_fits_59 : decode cX12_fits 59 = .ok (.iload_n 3, 1) := by decide +kernel
theorem dX12_fits_60 : decode cX12_fits 60 = .ok (.goto 4, 3) := by decide +kernel
theorem dX12_fits_63 : decode cX12_fits 63 = .ok (.iconst (-1), 1) := by decide +kernel
theorem dX12_fits_64 : decode cX12_fits 64 = .ok (.ireturn, 1) := by decide +kernel
theorem dX12_mostAlike_0 : decode cX12_mostAlike 0 = .ok (.iconst 0, 1) := by decide +kernel
theorem dX12_mostAlike_1 : decode cX12_mostAlike 1 = .ok (.istore_n 3, 1) := by decide +kernel
theorem dX12_mostAlike_2 : decode cX12_mostAlike 2 = .ok (.iload_n 3, 1) := by decide +kernel
theorem dX12_mostAlike_3 : decode cX12_mostAlike 3 = .ok (.bipush 60, 2) := by decide +kernel
theorem dX12_mostAlike_5 : decode cX12_mostAlike 5 = .ok (.if_icmp .gt 16, 3) := by decide +kernel
theorem dX12_mostAlike_8 : decode cX12_mostAlike 8 = .ok (.aload_n 0, 1) := by decide +kernel
theorem dX12_mostAlike_9 : decode cX12_mostAlike 9 = .ok (.getfield 89, 3) := by decide +kernel
theorem dX12_mostAlike_12 : decode cX12_mostAlike 12 = .ok (.iload_n 3, 1) := by decide +kernel
theorem dX12_mostAlike_13 : decode cX12_mostAlike 13 = .ok (.iconst 0, 1) := by decide +kernel
theorem dX12_mostAlike_14 : decode cX12_mostAlike 14 = .ok (.iastore, 1) := by decide +kernel
theorem dX12_mostAlike_15 : decode cX12_mostAlike 15 = .ok (.iinc 3 1, 3) := by decide +kernel
theorem dX12_mostAlike_18 : decode cX12_mostAlike 18 = .ok (.goto (-16), 3) := by decide +kernel
theorem dX12_mostAlike_21 : decode cX12_mostAlike 21 = .ok (.iconst 0, 1) := by decide +kernel
theorem dX12_mostAlike_22 : decode cX12_mostAlike 22 = .ok (.istore_n 3, 1) := by decide +kernel
theorem dX12_mostAlike_23 : decode cX12_mostAlike 23 = .ok (.iconst 0, 1) := by decide +kernel
theorem dX12_mostAlike_24 : decode cX12_mostAlike 24 = .ok (.istore 4, 2) := by decide +kernel
theorem dX12_mostAlike_26 : decode cX12_mostAlike 26 = .ok (.iload 4, 2) := by decide +kernel
theorem dX12_mostAlike_28 : decode cX12_mostAlike 28 = .ok (.bipush 30, 2) := by decide +kernel
theorem dX12_mostAlike_30 : decode cX12_mostAlike 30 = .ok (.if_icmp .gt 52, 3) := by decide +kernel
theorem dX12_mostAlike_33 : decode cX12_mostAlike 33 = .ok (.aload_n 0, 1) := by decide +kernel
theorem dX12_mostAlike_34 : decode cX12_mostAlike 34 = .ok (.iload_n 1, 1) := by decide +kernel
theorem dX12_mostAlike_35 : decode cX12_mostAlike 35 = .ok (.iload 4, 2) := by decide +kernel
theorem dX12_mostAlike_37 : decode cX12_mostAlike 37 = .ok (.invokevirtual 406, 3) := by decide +kernel
theorem dX12_mostAlike_40 : decode cX12_mostAlike 40 = .ok (.ifCond .eq 36, 3) := by decide +kernel
theorem dX12_mostAlike_43 : decode cX12_mostAlike 43 = .ok (.aload_n 0, 1) := by decide +kernel
theorem dX12_mostAlike_44 : decode cX12_mostAlike 44 = .ok (.iload_n 1, 1) := by decide +kernel
theorem dX12_mostAlike_45 : decode cX12_mostAlike 45 = .ok (.iload 4, 2) := by decide +kernel
theorem dX12_mostAlike_47 : decode cX12_mostAlike 47 = .ok (.iload_n 2, 1) := by decide +kernel
theorem dX12_mostAlike_48 : decode cX12_mostAlike 48 = .ok (.invokevirtual 403, 3) := by decide +kernel
theorem dX12_mostAlike_51 : decode cX12_mostAlike 51 = .ok (.istore 5, 2) := by decide +kernel
theorem dX12_mostAlike_53 : decode cX12_mostAlike 53 = .ok (.aload_n 0, 1) := by decide +kernel
theorem dX12_mostAlike_54 : decode cX12_mostAlike 54 = .ok (.getfield 89, 3) := by decide +kernel
theorem dX12_mostAlike_57 : decode cX12_mostAlike 57 = .ok (.iload 5, 2) := by decide +kernel
theorem dX12_mostAlike_59 : decode cX12_mostAlike 59 = .ok (.dup2, 1) := by decide +kernel
theorem dX12_mostAlike_60 : decode cX12_mostAlike 60 = .ok (.iaload, 1) := by decide +kernel
theorem dX12_mostAlike_61 : decode cX12_mostAlike 61 = .ok (.iconst 1, 1) := by decide +kernel
theorem dX12_mostAlike_62 : decode cX12_mostAlike 62 = .ok (.iadd, 1) := by decide +kernel
theorem dX12_mostAlike_63 : decode cX12_mostAlike 63 = .ok (.iastore, 1) := by decide +kernel
theorem dX12_mostAlike_64 : decode cX12_mostAlike 64 = .ok (.iload_n 3, 1) := by decide +kernel
theorem dX12_mostAlike_65 : decode cX12_mostAlike 65 = .ok (.aload_n 0, 1) := by decide +kernel
theorem dX12_mostAlike_66 : decode cX12_mostAlike 66 = .ok (.getfield 89, 3) := by decide +kernel
theorem dX12_mostAlike_69 : decode cX12_mostAlike 69 = .ok (.iload 5, 2) := by decide +kernel
theorem dX12_mostAlike_71 : decode cX12_mostAlike 71 = .ok (.iaload, 1) := by decide +kernel
theorem dX12_mostAlike_72 : decode cX12_mostAlike 72 = .ok (.invokestatic 303, 3) := by decide +kernel
theorem dX12_mostAlike_75 : decode cX12_mostAlike 75 = .ok (.istore_n 3, 1) := by decide +kernel
theorem dX12_mostAlike_76 : decode cX12_mostAlike 76 = .ok (.iinc 4 1, 3) := by decide +kernel
theorem dX12_mostAlike_79 : decode cX12_mostAlike 79 = .ok (.goto (-53), 3) := by decide +kernel
theorem dX12_mostAlike_82 : decode cX12_mostAlike 82 = .ok (.iload_n 3, 1) := by decide +kernel
theorem dX12_mostAlike_83 : decode cX12_mostAlike 83 = .ok (.ireturn, 1) := by decide +kernel
theorem dX12_ask_0 : decode cX12_ask 0 = .ok (.aload_n 0, 1) := by decide +kernel
theorem dX12_ask_1 : decode cX12_ask 1 = .ok (.getfield 264, 3) := by decide +kernel
theorem dX12_ask_4 : decode cX12_ask 4 = .ok (.ifCond .eq 13, 3) := by decide +kernel
theorem dX12_ask_7 : decode cX12_ask 7 = .ok (.iload_n 1, 1) := by decide +kernel
theorem dX12_ask_8 : decode cX12_ask 8 = .ok (.iconst 0, 1) := by decide +kernel
theorem dX12_ask_9 : decode cX12_ask 9 = .ok (.bipush 99, 2) := by decide +kernel
theorem dX12_ask_11 : decode cX12_ask 11 = .ok (.invokestatic 220, 3) := by decide +kernel
theorem dX12_ask_14 : decode cX12_ask 14 = .ok (.ifCond .ne 5, 3) := by decide +kernel
theorem dX12_ask_17 : decode cX12_ask 17 = .ok (.iconst (-1), 1) := by decide +kernel
theorem dX12_ask_18 : decode cX12_ask 18 = .ok (.ireturn, 1) := by decide +kernel
theorem dX12_ask_19 : decode cX12_ask 19 = .ok (.iconst (-1), 1) := by decide +kernel
theorem dX12_ask_20 : decode cX12_ask 20 = .ok (.istore_n 2, 1) := by decide +kernel
theorem dX12_ask_21 : decode cX12_ask 21 = .ok (.iconst 0, 1) := by decide +kernel
theorem dX12_ask_22 : decode cX12_ask 22 = .ok (.istore_n 3, 1) := by decide +kernel
theorem dX12_ask_23 : decode cX12_ask 23 = .ok (.iconst 0, 1) := by decide +kernel
theorem dX12_ask_24 : decode cX12_ask 24 = .ok (.istore 4, 2) := by decide +kernel
theorem dX12_ask_26 : decode cX12_ask 26 = .ok (.iload 4, 2) := by decide +kernel
theorem dX12_ask_28 : decode cX12_ask 28 = .ok (.aload_n 0, 1) := by decide +kernel
theorem dX12_ask_29 : decode cX12_ask 29 = .ok (.getfield 264, 3) := by decide +kernel
theorem dX12_ask_32 : decode cX12_ask 32 = .ok (.if_icmp .ge 40, 3) := by decide +kernel
theorem dX12_ask_35 : decode cX12_ask 35 = .ok (.aload_n 0, 1) := by decide +kernel
theorem dX12_ask_36 : decode cX12_ask 36 = .ok (.iload 4, 2) := by decide +kernel
theorem dX12_ask_38 : decode cX12_ask 38 = .ok (.iload_n 1, 1) := by decide +kernel
theorem dX12_ask_39 : decode cX12_ask 39 = .ok (.invokevirtual 409, 3) := by decide +kernel
theorem dX12_ask_42 : decode cX12_ask 42 = .ok (.istore 5, 2) := by decide +kernel
theorem dX12_ask_44 : decode cX12_ask 44 = .ok (.iload 5, 2) := by decide +kernel
theorem dX12_ask_46 : decode cX12_ask 46 = .ok (.ifCond .le 20, 3) := by decide +kernel
theorem dX12_ask_49 : decode cX12_ask 49 = .ok (.iload_n 2, 1) := by decide +kernel
theorem dX12_ask_50 : decode cX12_ask 50 = .ok (.iconst (-1), 1) := by decide +kernel
theorem dX12_ask_51 : decode cX12_ask 51 = .ok (.if_icmp .eq 9, 3) := by decide +kernel
theorem dX12_ask_54 : decode cX12_ask 54 = .ok (.iload 5, 2) := by decide +kernel
theorem dX12_ask_56 : decode cX12_ask 56 = .ok (.iload_n 3, 1) := by decide +kernel
theorem dX12_ask_57 : decode cX12_ask 57 = .ok (.if_icmp .ge 9, 3) := by decide +kernel
theorem dX12_ask_60 : decode cX12_ask 60 = .ok (.iload 4, 2) := by decide +kernel
theorem dX12_ask_62 : decode cX12_ask 62 = .ok (.istore_n 2, 1) := by decide +kernel
theorem dX12_ask_63 : decode cX12_ask 63 = .ok (.iload 5, 2) := by decide +kernel
theorem dX12_ask_65 : decode cX12_ask 65 = .ok (.istore_n 3, 1) := by decide +kernel
theorem dX12_ask_66 : decode cX12_ask 66 = .ok (.iinc 4 1, 3) := by decide +kernel
theorem dX12_ask_69 : decode cX12_ask 69 = .ok (.goto (-43), 3) := by decide +kernel
theorem dX12_ask_72 : decode cX12_ask 72 = .ok (.iload_n 2, 1) := by decide +kernel
theorem dX12_ask_73 : decode cX12_ask 73 = .ok (.ireturn, 1) := by decide +kernel
theorem dX12_claimOf_0 : decode cX12_claimOf 0 = .ok (.aload_n 0, 1) := by decide +kernel
theorem dX12_claimOf_1 : decode cX12_claimOf 1 = .ok (.iload_n 1, 1) := by decide +kernel
theorem dX12_claimOf_2 : decode cX12_claimOf 2 = .ok (.bipush 30, 2) := by decide +kernel
theorem dX12_claimOf_4 : decode cX12_claimOf 4 = .ok (.aload_n 0, 1) := by decide +kernel
theorem dX12_claimOf_5 : decode cX12_claimOf 5 = .ok (.getfield 58, 3) := by decide +kernel
theorem dX12_claimOf_8 : decode cX12_claimOf 8 = .ok (.iconst 0, 1) := by decide +kernel
theorem dX12_claimOf_9 : decode cX12_claimOf 9 = .ok (.iload_n 1, 1) := by decide +kernel
theorem dX12_claimOf_10 : decode cX12_claimOf 10 = .ok (.iadd, 1) := by decide +kernel
theorem dX12_claimOf_11 : decode cX12_claimOf 11 = .ok (.iaload, 1) := by decide +kernel
theorem dX12_claimOf_12 : decode cX12_claimOf 12 = .ok (.iload_n 2, 1) := by decide +kernel
theorem dX12_claimOf_13 : decode cX12_claimOf 13 = .ok (.iadd, 1) := by decide +kernel
theorem dX12_claimOf_14 : decode cX12_claimOf 14 = .ok (.invokestatic 301, 3) := by decide +kernel
theorem dX12_claimOf_17 : decode cX12_claimOf 17 = .ok (.iconst 0, 1) := by decide +kernel
theorem dX12_claimOf_18 : decode cX12_claimOf 18 = .ok (.invokevirtual 323, 3) := by decide +kernel
theorem dX12_claimOf_21 : decode cX12_claimOf 21 = .ok (.ireturn, 1) := by decide +kernel
theorem dX12_gameOf_0 : decode cX12_gameOf 0 = .ok (.aload_n 0, 1) := by decide +kernel
theorem dX12_gameOf_1 : decode cX12_gameOf 1 = .ok (.iload_n 1, 1) := by decide +kernel
theorem dX12_gameOf_2 : decode cX12_gameOf 2 = .ok (.iload_n 2, 1) := by decide +kernel
theorem dX12_gameOf_3 : decode cX12_gameOf 3 = .ok (.invokevirtual 412, 3) := by decide +kernel
theorem dX12_gameOf_6 : decode cX12_gameOf 6 = .ok (.iload_n 3, 1) := by decide +kernel
theorem dX12_gameOf_7 : decode cX12_gameOf 7 = .ok (.iload_n 2, 1) := by decide +kernel
theorem dX12_gameOf_8 : decode cX12_gameOf 8 = .ok (.if_icmp .le 7, 3) := by decide +kernel
theorem dX12_gameOf_11 : decode cX12_gameOf 11 = .ok (.iconst 4, 1) := by decide +kernel
theorem dX12_gameOf_12 : decode cX12_gameOf 12 = .ok (.goto 4, 3) := by decide +kernel
theorem dX12_gameOf_15 : decode cX12_gameOf 15 = .ok (.iconst 0, 1) := by decide +kernel
theorem dX12_gameOf_16 : decode cX12_gameOf 16 = .ok (.isub, 1) := by decide +kernel
theorem dX12_gameOf_17 : decode cX12_gameOf 17 = .ok (.iload_n 2, 1) := by decide +kernel
theorem dX12_gameOf_18 : decode cX12_gameOf 18 = .ok (.iconst 2, 1) := by decide +kernel
theorem dX12_gameOf_19 : decode cX12_gameOf 19 = .ok (.idiv, 1) := by decide +kernel
theorem dX12_gameOf_20 : decode cX12_gameOf 20 = .ok (.isub, 1) := by decide +kernel
theorem dX12_gameOf_21 : decode cX12_gameOf 21 = .ok (.ireturn, 1) := by decide +kernel
theorem dX12_areTwo_0 : decode cX12_areTwo 0 = .ok (.aload_n 0, 1) := by decide +kernel
theorem dX12_areTwo_1 : decode cX12_areTwo 1 = .ok (.iload_n 1, 1) := by decide +kernel
theorem dX12_areTwo_2 : decode cX12_areTwo 2 = .ok (.invokevirtual 332, 3) := by decide +kernel
theorem dX12_areTwo_5 : decode cX12_areTwo 5 = .ok (.ifCond .eq 20, 3) := by decide +kernel
theorem dX12_areTwo_8 : decode cX12_areTwo 8 = .ok (.aload_n 0, 1) := by decide +kernel
theorem dX12_areTwo_9 : decode cX12_areTwo 9 = .ok (.iload_n 2, 1) := by decide +kernel
theorem dX12_areTwo_10 : decode cX12_areTwo 10 = .ok (.invokevirtual 332, 3) := by decide +kernel
theorem dX12_areTwo_13 : decode cX12_areTwo 13 = .ok (.ifCond .eq 12, 3) := by decide +kernel
theorem dX12_areTwo_16 : decode cX12_areTwo 16 = .ok (.iload_n 1, 1) := by decide +kernel
theorem dX12_areTwo_17 : decode cX12_areTwo 17 = .ok (.iload_n 2, 1) := by decide +kernel
theorem dX12_areTwo_18 : decode cX12_areTwo 18 = .ok (.if_icmp .eq 7, 3) := by decide +kernel
theorem dX12_areTwo_21 : decode cX12_areTwo 21 = .ok (.iconst 1, 1) := by decide +kernel
theorem dX12_areTwo_22 : decode cX12_areTwo 22 = .ok (.goto 4, 3) := by decide +kernel
theorem dX12_areTwo_25 : decode cX12_areTwo 25 = .ok (.iconst 0, 1) := by decide +kernel
theorem dX12_areTwo_26 : decode cX12_areTwo 26 = .ok (.ireturn, 1) := by decide +kernel
theorem dX12_game_0 : decode cX12_game 0 = .ok (.aload_n 0, 1) := by decide +kernel
theorem dX12_game_1 : decode cX12_game 1 = .ok (.iload_n 1, 1) := by decide +kernel
theorem dX12_game_2 : decode cX12_game 2 = .ok (.iload_n 2, 1) := by decide +kernel
theorem dX12_game_3 : decode cX12_game 3 = .ok (.invokevirtual 415, 3) := by decide +kernel
theorem dX12_game_6 : decode cX12_game 6 = .ok (.ifCond .eq 34, 3) := by decide +kernel
theorem dX12_game_9 : decode cX12_game 9 = .ok (.iload_n 3, 1) := by decide +kernel
theorem dX12_game_10 : decode cX12_game 10 = .ok (.iconst 0, 1) := by decide +kernel
theorem dX12_game_11 : decode cX12_game 11 = .ok (.bipush 9, 2) := by decide +kernel
theorem dX12_game_13 : decode cX12_game 13 = .ok (.invokestatic 220, 3) := by decide +kernel
theorem dX12_game_16 : decode cX12_game 16 = .ok (.ifCond .eq 24, 3) := by decide +kernel
theorem dX12_game_19 : decode cX12_game 19 = .ok (.iload 4, 2) := by decide +kernel
theorem dX12_game_21 : decode cX12_game 21 = .ok (.iconst 0, 1) := by decide +kernel
theorem dX12_game_22 : decode cX12_game 22 = .ok (.bipush 9, 2) := by decide +kernel
theorem dX12_game_24 : decode cX12_game 24 = .ok (.invokestatic 220, 3) := by decide +kernel
theorem dX12_game_27 : decode cX12_game 27 = .ok (.ifCond .eq 13, 3) := by decide +kernel
theorem dX12_game_30 : decode cX12_game 30 = .ok (.iload 5, 2) := by decide +kernel
theorem dX12_game_32 : decode cX12_game 32 = .ok (.iconst 0, 1) := by decide +kernel
theorem dX12_game_33 : decode cX12_game 33 = .ok (.iconst 1, 1) := by decide +kernel
theorem dX12_game_34 : decode cX12_game 34 = .ok (.invokestatic 220, 3) := by decide +kernel
theorem dX12_game_37 : decode cX12_game 37 = .ok (.ifCond .ne 7, 3) := by decide +kernel
theorem dX12_game_40 : decode cX12_game 40 = .ok (.ldc_w 418, 3) := by decide +kernel
theorem dX12_game_43 : decode cX12_game 43 = .ok (.ireturn, 1) := by decide +kernel
theorem dX12_game_44 : decode cX12_game 44 = .ok (.iload 5, 2) := by decide +kernel
theorem dX12_game_46 : decode cX12_game 46 = .ok (.ifCond .ne 14, 3) := by decide +kernel
theorem dX12_game_49 : decode cX12_game 49 = .ok (.aload_n 0, 1) := by decide +kernel
theorem dX12_game_50 : decode cX12_game 50 = .ok (.iload_n 1, 1) := by decide +kernel
theorem dX12_game_51 : decode cX12_game 51 = .ok (.iload_n 3, 1) := by decide +kernel
theorem dX12_game_52 : decode cX12_game 52 = .ok (.iload 4, 2) := by decide +kernel
theorem dX12_game_54 : decode cX12_game 54 = .ok (.invokevirtual 419, 3) := by decide +kernel
theorem dX12_game_57 : decode cX12_game 57 = .ok (.goto 11, 3) := by decide +kernel
theorem dX12_game_60 : decode cX12_game 60 = .ok (.aload_n 0, 1) := by decide +kernel
theorem dX12_game_61 : decode cX12_game 61 = .ok (.iload_n 2, 1) := by decide +kernel
theorem dX12_game_62 : decode cX12_game 62 = .ok (.iload 4, 2) := by decide +kernel
theorem dX12_game_64 : decode cX12_game 64 = .ok (.iload_n 3, 1) := by decide +kernel
theorem dX12_game_65 : decode cX12_game 65 = .ok (.invokevirtual 419, 3) := by decide +kernel
theorem dX12_game_68 : decode cX12_game 68 = .ok (.ireturn, 1) := by decide +kernel
theorem dX12_isRest_0 : decode cX12_isRest 0 = .ok (.iconst 0, 1) := by decide +kernel
theorem dX12_isRest_1 : decode cX12_isRest 1 = .ok (.istore 5, 2) := by decide +kernel
theorem dX12_isRest_3 : decode cX12_isRest 3 = .ok (.iload 5, 2) := by decide +kernel
theorem dX12_isRest_5 : decode cX12_isRest 5 = .ok (.bipush 10, 2) := by decide +kernel
theorem dX12_isRest_7 : decode cX12_isRest 7 = .ok (.if_icmp .ge 50, 3) := by decide +kernel
theorem dX12_isRest_10 : decode cX12_isRest 10 = .ok (.aload_n 0, 1) := by decide +kernel
theorem dX12_isRest_11 : decode cX12_isRest 11 = .ok (.iload_n 1, 1) := by decide +kernel
theorem dX12_isRest_12 : decode cX12_isRest 12 = .ok (.iload 5, 2) := by decide +kernel
theorem dX12_isRest_14 : decode cX12_isRest 14 = .ok (.iload 4, 2) := by decide +kernel
theorem dX12_isRest_16 : decode cX12_isRest 16 = .ok (.invokevirtual 419, 3) := by decide +kernel
theorem dX12_isRest_19 : decode cX12_isRest 19 = .ok (.aload_n 0, 1) := by decide +kernel
theorem dX12_isRest_20 : decode cX12_isRest 20 = .ok (.iload_n 1, 1) := by decide +kernel
theorem dX12_isRest_21 : decode cX12_isRest 21 = .ok (.iload_n 3, 1) := by decide +kernel
theorem dX12_isRest_22 : decode cX12_isRest 22 = .ok (.iload 4, 2) := by decide +kernel
theorem dX12_isRest_24 : decode cX12_isRest 24 = .ok (.invokevirtual 419, 3) := by decide +kernel
theorem dX12_isRest_27 : decode cX12_isRest 27 = .ok (.if_icmp .gt 22, 3) := by decide +kernel
theorem dX12_isRest_30 : decode cX12_isRest 30 = .ok (.aload_n 0, 1) := by decide +kernel
theorem dX12_isRest_31 : decode cX12_isRest 31 = .ok (.iload_n 2, 1) := by decide +kernel
theorem dX12_isRest_32 : decode cX12_isRest 32 = .ok (.iload 5, 2) := by decide +kernel
theorem dX12_isRest_34 : decode cX12_isRest 34 = .ok (.iload_n 3, 1) := by decide +kernel
theorem dX12_isRest_35 : decode cX12_isRest 35 = .ok (.invokevirtual 419, 3) := by decide +kernel
theorem dX12_isRest_38 : decode cX12_isRest 38 = .ok (.aload_n 0, 1) := by decide +kernel
theorem dX12_isRest_39 : decode cX12_isRest 39 = .ok (.iload_n 2, 1) := by decide +kernel
theorem dX12_isRest_40 : decode cX12_isRest 40 = .ok (.iload 4, 2) := by decide +kernel
theorem dX12_isRest_42 : decode cX12_isRest 42 = .ok (.iload_n 3, 1) := by decide +kernel
theorem dX12_isRest_43 : decode cX12_isRest 43 = .ok (.invokevirtual 419, 3) := by decide +kernel
theorem dX12_isRest_46 : decode cX12_isRest 46 = .ok (.if_icmp .le 5, 3) := by decide +kernel
theorem dX12_isRest_49 : decode cX12_isRest 49 = .ok (.iconst 0, 1) := by decide +kernel
theorem dX12_isRest_50 : decode cX12_isRest 50 = .ok (.ireturn, 1) := by decide +kernel
theorem dX12_isRest_51 : decode cX12_isRest 51 = .ok (.iinc 5 1, 3) := by decide +kernel
theorem dX12_isRest_54 : decode cX12_isRest 54 = .ok (.goto (-51), 3) := by decide +kernel
theorem dX12_isRest_57 : decode cX12_isRest 57 = .ok (.iconst 1, 1) := by decide +kernel
theorem dX12_isRest_58 : decode cX12_isRest 58 = .ok (.ireturn, 1) := by decide +kernel
theorem dX12_rests_0 : decode cX12_rests 0 = .ok (.aload_n 0, 1) := by decide +kernel
theorem dX12_rests_1 : decode cX12_rests 1 = .ok (.iload_n 1, 1) := by decide +kernel
theorem dX12_rests_2 : decode cX12_rests 2 = .ok (.iload_n 2, 1) := by decide +kernel
theorem dX12_rests_3 : decode cX12_rests 3 = .ok (.invokevirtual 415, 3) := by decide +kernel
theorem dX12_rests_6 : decode cX12_rests 6 = .ok (.ifCond .eq 8, 3) := by decide +kernel
theorem dX12_rests_9 : decode cX12_rests 9 = .ok (.iload_n 3, 1) := by decide +kernel
theorem dX12_rests_10 : decode cX12_rests 10 = .ok (.iconst (-1), 1) := by decide +kernel
theorem dX12_rests_11 : decode cX12_rests 11 = .ok (.if_icmp .ge 5, 3) := by decide +kernel
theorem dX12_rests_14 : decode cX12_rests 14 = .ok (.iconst (-1), 1) := by decide +kernel
theorem dX12_rests_15 : decode cX12_rests 15 = .ok (.ireturn, 1) := by decide +kernel
theorem dX12_rests_16 : decode cX12_rests 16 = .ok (.iconst 0, 1) := by decide +kernel
theorem dX12_rests_17 : decode cX12_rests 17 = .ok (.istore 4, 2) := by decide +kernel
theorem dX12_rests_19 : decode cX12_rests 19 = .ok (.iconst 0, 1) := by decide +kernel
theorem dX12_rests_20 : decode cX12_rests 20 = .ok (.istore 5, 2) := by decide +kernel
theorem dX12_rests_22 : decode cX12_rests 22 = .ok (.iload 5, 2) := by decide +kernel
theorem dX12_rests_24 : decode cX12_rests 24 = .ok (.bipush 100, 2) := by decide +kernel
theorem dX12_rests_26 : decode cX12_rests 26 = .ok (.if_icmp .ge 40, 3) := by decide +kernel
theorem dX12_rests_29 : decode cX12_rests 29 = .ok (.aload_n 0, 1) := by decide +kernel
theorem dX12_rests_30 : decode cX12_rests 30 = .ok (.iload_n 1, 1) := by decide +kernel
theorem dX12_rests_31 : decode cX12_rests 31 = .ok (.iload_n 2, 1) := by decide +kernel
theorem dX12_rests_32 : decode cX12_rests 32 = .ok (.iload 5, 2) := by decide +kernel
theorem dX12_rests_34 : decode cX12_rests 34 = .ok (.bipush 10, 2) := by decide +kernel
theorem dX12_rests_36 : decode cX12_rests 36 = .ok (.idiv, 1) := by decide +kernel
theorem dX12_rests_37 : decode cX12_rests 37 = .ok (.iload 5, 2) := by decide +kernel
theorem dX12_rests_39 : decode cX12_rests 39 = .ok (.bipush 10, 2) := by decide +kernel
theorem dX12_rests_41 : decode cX12_rests 41 = .ok (.irem, 1) := by decide +kernel
theorem dX12_rests_42 : decode cX12_rests 42 = .ok (.invokevirtual 422, 3) := by decide +kernel
theorem dX12_rests_45 : decode cX12_rests 45 = .ok (.ifCond .eq 15, 3) := by decide +kernel
theorem dX12_rests_48 : decode cX12_rests 48 = .ok (.iload 4, 2) := by decide +kernel
theorem dX12_rests_50 : decode cX12_rests 50 = .ok (.iload_n 3, 1) := by decide +kernel
theorem dX12_rests_51 : decode cX12_rests 51 = .ok (.if_icmp .ne 6, 3) := by decide +kernel
theorem dX12_rests_54 : decode cX12_rests 54 = .ok (.iload 5, 2) := by decide +kernel
theorem dX12_rests_56 : decode cX12_rests 56 = .ok (.ireturn, 1) := by decide +kernel
theorem dX12_rests_57 : decode cX12_rests 57 = .ok (.iinc 4 1, 3) := by decide +kernel
theorem dX12_rests_60 : decode cX12_rests 60 = .ok (.iinc 5 1, 3) := by decide +kernel
theorem dX12_rests_63 : decode cX12_rests 63 = .ok (.goto (-41), 3) := by decide +kernel
theorem dX12_rests_66 : decode cX12_rests 66 = .ok (.iload_n 3, 1) := by decide +kernel
theorem dX12_rests_67 : decode cX12_rests 67 = .ok (.iconst (-1), 1) := by decide +kernel
theorem dX12_rests_68 : decode cX12_rests 68 = .ok (.if_icmp .ne 8, 3) := by decide +kernel
theorem dX12_rests_71 : decode cX12_rests 71 = .ok (.iload 4, 2) := by decide +kernel
theorem dX12_rests_73 : decode cX12_rests 73 = .ok (.goto 4, 3) := by decide +kernel
theorem dX12_rests_76 : decode cX12_rests 76 = .ok (.iconst (-1), 1) := by decide +kernel
theorem dX12_rests_77 : decode cX12_rests 77 = .ok (.ireturn, 1) := by decide +kernel
theorem dX12_rivalAt_0 : decode cX12_rivalAt 0 = .ok (.iconst 0, 1) := by decide +kernel
theorem dX12_rivalAt_1 : decode cX12_rivalAt 1 = .ok (.istore_n 2, 1) := by decide +kernel
theorem dX12_rivalAt_2 : decode cX12_rivalAt 2 = .ok (.iconst (-1), 1) := by decide +kernel
theorem dX12_rivalAt_3 : decode cX12_rivalAt 3 = .ok (.istore_n 3, 1) := by decide +kernel
theorem dX12_rivalAt_4 : decode cX12_rivalAt 4 = .ok (.iconst 0, 1) := by decide +kernel
theorem dX12_rivalAt_5 : decode cX12_rivalAt 5 = .ok (.istore 4, 2) := by decide +kernel
theorem dX12_rivalAt_7 : decode cX12_rivalAt 7 = .ok (.iload 4, 2) := by decide +kernel
theorem dX12_rivalAt_9 : decode cX12_rivalAt 9 = .ok (.aload_n 0, 1) := by decide +kernel
theorem dX12_rivalAt_10 : decode cX12_rivalAt 10 = .ok (.getfield 264, 3) := by decide +kernel
theorem dX12_rivalAt_13 : decode cX12_rivalAt 13 = .ok (.if_icmp .ge 45, 3) := by decide +kernel
theorem dX12_rivalAt_16 : decode cX12_rivalAt 16 = .ok (.aload_n 0, 1) := by decide +kernel
theorem dX12_rivalAt_17 : decode cX12_rivalAt 17 = .ok (.getfield 58, 3) := by decide +kernel
theorem dX12_rivalAt_20 : decode cX12_rivalAt 20 = .ok (.iconst 0, 1) := by decide +kernel
theorem dX12_rivalAt_21 : decode cX12_rivalAt 21 = .ok (.iload 4, 2) := by decide +kernel
theorem dX12_rivalAt_23 : decode cX12_rivalAt 23 = .ok (.iadd, 1) := by decide +kernel
theorem dX12_rivalAt_24 : decode cX12_rivalAt 24 = .ok (.iaload, 1) := by decide +kernel
theorem dX12_rivalAt_25 : decode cX12_rivalAt 25 = .ok (.ifCond .ne 27, 3) := by decide +kernel
theorem dX12_rivalAt_28 : decode cX12_rivalAt 28 = .ok (.iload_n 2, 1) := by decide +kernel
theorem dX12_rivalAt_29 : decode cX12_rivalAt 29 = .ok (.aload_n 0, 1) := by decide +kernel
theorem dX12_rivalAt_30 : decode cX12_rivalAt 30 = .ok (.iload_n 3, 1) := by decide +kernel
theorem dX12_rivalAt_31 : decode cX12_rivalAt 31 = .ok (.iload 4, 2) := by decide +kernel
theorem dX12_rivalAt_33 : decode cX12_rivalAt 33 = .ok (.invokevirtual 305, 3) := by decide +kernel
theorem dX12_rivalAt_36 : decode cX12_rivalAt 36 = .ok (.iadd, 1) := by decide +kernel
theorem dX12_rivalAt_37 : decode cX12_rivalAt 37 = .ok (.istore_n 2, 1) := by decide +kernel
theorem dX12_rivalAt_38 : decode cX12_rivalAt 38 = .ok (.iload 4, 2) := by decide +kernel
theorem dX12_rivalAt_40 : decode cX12_rivalAt 40 = .ok (.iload_n 1, 1) := by decide +kernel
theorem dX12_rivalAt_41 : decode cX12_rivalAt 41 = .ok (.if_icmp .ne 5, 3) := by decide +kernel
theorem dX12_rivalAt_44 : decode cX12_rivalAt 44 = .ok (.iload_n 2, 1) := by decide +kernel
theorem dX12_rivalAt_45 : decode cX12_rivalAt 45 = .ok (.ireturn, 1) := by decide +kernel
theorem dX12_rivalAt_46 : decode cX12_rivalAt 46 = .ok (.iinc 2 2, 3) := by decide +kernel
theorem dX12_rivalAt_49 : decode cX12_rivalAt 49 = .ok (.iload 4, 2) := by decide +kernel
theorem dX12_rivalAt_51 : decode cX12_rivalAt 51 = .ok (.istore_n 3, 1) := by decide +kernel
theorem dX12_rivalAt_52 : decode cX12_rivalAt 52 = .ok (.iinc 4 1, 3) := by decide +kernel
theorem dX12_rivalAt_55 : decode cX12_rivalAt 55 = .ok (.goto (-48), 3) := by decide +kernel
theorem dX12_rivalAt_58 : decode cX12_rivalAt 58 = .ok (.iconst (-1), 1) := by decide +kernel
theorem dX12_rivalAt_59 : decode cX12_rivalAt 59 = .ok (.ireturn, 1) := by decide +kernel
theorem dX12_rival_0 : decode cX12_rival 0 = .ok (.aload_n 0, 1) := by decide +kernel
theorem dX12_rival_1 : decode cX12_rival 1 = .ok (.iload_n 1, 1) := by decide +kernel
theorem dX12_rival_2 : decode cX12_rival 2 = .ok (.invokevirtual 332, 3) := by decide +kernel
theorem dX12_rival_5 : decode cX12_rival 5 = .ok (.ifCond .eq 11, 3) := by decide +kernel
theorem dX12_rival_8 : decode cX12_rival 8 = .ok (.aload_n 0, 1) := by decide +kernel
theorem dX12_rival_9 : decode cX12_rival 9 = .ok (.iload_n 1, 1) := by decide +kernel
theorem dX12_rival_10 : decode cX12_rival 10 = .ok (.invokevirtual 426, 3) := by decide +kernel
theorem dX12_rival_13 : decode cX12_rival 13 = .ok (.goto 4, 3) := by decide +kernel
theorem dX12_rival_16 : decode cX12_rival 16 = .ok (.iconst (-1), 1) := by decide +kernel
theorem dX12_rival_17 : decode cX12_rival 17 = .ok (.ireturn, 1) := by decide +kernel
theorem dX12_meets_0 : decode cX12_meets 0 = .ok (.aload_n 0, 1) := by decide +kernel
theorem dX12_meets_1 : decode cX12_meets 1 = .ok (.iload_n 1, 1) := by decide +kernel
theorem dX12_meets_2 : decode cX12_meets 2 = .ok (.invokevirtual 332, 3) := by decide +kernel
theorem dX12_meets_5 : decode cX12_meets 5 = .ok (.ifCond .ne 5, 3) := by decide +kernel
theorem dX12_meets_8 : decode cX12_meets 8 = .ok (.iconst (-1), 1) := by decide +kernel
theorem dX12_meets_9 : decode cX12_meets 9 = .ok (.ireturn, 1) := by decide +kernel
theorem dX12_meets_10 : decode cX12_meets 10 = .ok (.aload_n 0, 1) := by decide +kernel
theorem dX12_meets_11 : decode cX12_meets 11 = .ok (.iload_n 1, 1) := by decide +kernel
theorem dX12_meets_12 : decode cX12_meets 12 = .ok (.invokevirtual 426, 3) := by decide +kernel
theorem dX12_meets_15 : decode cX12_meets 15 = .ok (.istore_n 2, 1) := by decide +kernel
theorem dX12_meets_16 : decode cX12_meets 16 = .ok (.aload_n 0, 1) := by decide +kernel
theorem dX12_meets_17 : decode cX12_meets 17 = .ok (.getfield 58, 3) := by decide +kernel
theorem dX12_meets_20 : decode cX12_meets 20 = .ok (.bipush 8, 2) := by decide +kernel
theorem dX12_meets_22 : decode cX12_meets 22 = .ok (.iaload, 1) := by decide +kernel
theorem dX12_meets_23 : decode cX12_meets 23 = .ok (.aload_n 0, 1) := by decide +kernel
theorem dX12_meets_24 : decode cX12_meets 24 = .ok (.iload_n 1, 1) := by decide +kernel
theorem dX12_meets_25 : decode cX12_meets 25 = .ok (.invokevirtual 313, 3) := by decide +kernel
theorem dX12_meets_28 : decode cX12_meets 28 = .ok (.iadd, 1) := by decide +kernel
theorem dX12_meets_29 : decode cX12_meets 29 = .ok (.istore_n 3, 1) := by decide +kernel
theorem dX12_meets_30 : decode cX12_meets 30 = .ok (.iload_n 2, 1) := by decide +kernel
theorem dX12_meets_31 : decode cX12_meets 31 = .ok (.iconst (-1), 1) := by decide +kernel
theorem dX12_meets_32 : decode cX12_meets 32 = .ok (.if_icmp .eq 29, 3) := by decide +kernel
theorem dX12_meets_35 : decode cX12_meets 35 = .ok (.iload_n 2, 1) := by decide +kernel
theorem dX12_meets_36 : decode cX12_meets 36 = .ok (.iload_n 3, 1) := by decide +kernel
theorem dX12_meets_37 : decode cX12_meets 37 = .ok (.iconst 1, 1) := by decide +kernel
theorem dX12_meets_38 : decode cX12_meets 38 = .ok (.aload_n 0, 1) := by decide +kernel
theorem dX12_meets_39 : decode cX12_meets 39 = .ok (.iload_n 1, 1) := by decide +kernel
theorem dX12_meets_40 : decode cX12_meets 40 = .ok (.invokevirtual 326, 3) := by decide +kernel
theorem dX12_meets_43 : decode cX12_meets 43 = .ok (.invokestatic 303, 3) := by decide +kernel
theorem dX12_meets_46 : decode cX12_meets 46 = .ok (.iadd, 1) := by decide +kernel
theorem dX12_meets_47 : decode cX12_meets 47 = .ok (.if_icmp .ge 14, 3) := by decide +kernel
theorem dX12_meets_50 : decode cX12_meets 50 = .ok (.iload_n 3, 1) := by decide +kernel
theorem dX12_meets_51 : decode cX12_meets 51 = .ok (.iload_n 2, 1) := by decide +kernel
theorem dX12_meets_52 : decode cX12_meets 52 = .ok (.iconst 2, 1) := by decide +kernel
theorem dX12_meets_53 : decode cX12_meets 53 = .ok (.iadd, 1) := by decide +kernel
theorem dX12_meets_54 : decode cX12_meets 54 = .ok (.if_icmp .ge 7, 3) := by decide +kernel
theorem dX12_meets_57 : decode cX12_meets 57 = .ok (.iconst 1, 1) := by decide +kernel
theorem dX12_meets_58 : decode cX12_meets 58 = .ok (.goto 4, 3) := by decide +kernel
theorem dX12_meets_61 : decode cX12_meets 61 = .ok (.iconst 0, 1) := by decide +kernel
theorem dX12_meets_62 : decode cX12_meets 62 = .ok (.ireturn, 1) := by decide +kernel
theorem dX12_seen_0 : decode cX12_seen 0 = .ok (.aload_n 0, 1) := by decide +kernel
theorem dX12_seen_1 : decode cX12_seen 1 = .ok (.iload_n 2, 1) := by decide +kernel
theorem dX12_seen_2 : decode cX12_seen 2 = .ok (.invokevirtual 332, 3) := by decide +kernel
theorem dX12_seen_5 : decode cX12_seen 5 = .ok (.ifCond .eq 22, 3) := by decide +kernel
theorem dX12_seen_8 : decode cX12_seen 8 = .ok (.iload_n 1, 1) := by decide +kernel
theorem dX12_seen_9 : decode cX12_seen 9 = .ok (.iconst 0, 1) := by decide +kernel
theorem dX12_seen_10 : decode cX12_seen 10 = .ok (.bipush 6, 2) := by decide +kernel
theorem dX12_seen_12 : decode cX12_seen 12 = .ok (.invokestatic 220, 3) := by decide +kernel
theorem dX12_seen_15 : decode cX12_seen 15 = .ok (.ifCond .eq 12, 3) := by decide +kernel
theorem dX12_seen_18 : decode cX12_seen 18 = .ok (.aload_n 0, 1) := by decide +kernel
theorem dX12_seen_19 : decode cX12_seen 19 = .ok (.getfield 276, 3) := by decide +kernel
theorem dX12_seen_22 : decode cX12_seen 22 = .ok (.bipush 10, 2) := by decide +kernel
theorem dX12_seen_24 : decode cX12_seen 24 = .ok (.if_icmp .ne 5, 3) := by decide +kernel
theorem dX12_seen_27 : decode cX12_seen 27 = .ok (.iconst (-1), 1) := by decide +kernel
theorem dX12_seen_28 : decode cX12_seen 28 = .ok (.ireturn, 1) := by decide +kernel
theorem dX12_seen_29 : decode cX12_seen 29 = .ok (.aload_n 0, 1) := by decide +kernel
theorem dX12_seen_30 : decode cX12_seen 30 = .ok (.getfield 92, 3) := by decide +kernel
theorem dX12_seen_33 : decode cX12_seen 33 = .ok (.aload_n 0, 1) := by decide +kernel
theorem dX12_seen_34 : decode cX12_seen 34 = .ok (.getfield 276, 3) := by decide +kernel
theorem dX12_seen_37 : decode cX12_seen 37 = .ok (.iload_n 1, 1) := by decide +kernel
theorem dX12_seen_38 : decode cX12_seen 38 = .ok (.iastore, 1) := by decide +kernel
theorem dX12_seen_39 : decode cX12_seen 39 = .ok (.aload_n 0, 1) := by decide +kernel
theorem dX12_seen_40 : decode cX12_seen 40 = .ok (.getfield 95, 3) := by decide +kernel
theorem dX12_seen_43 : decode cX12_seen 43 = .ok (.aload_n 0, 1) := by decide +kernel
theorem dX12_seen_44 : decode cX12_seen 44 = .ok (.getfield 276, 3) := by decide +kernel
theorem dX12_seen_47 : decode cX12_seen 47 = .ok (.iload_n 2, 1) := by decide +kernel
theorem dX12_seen_48 : decode cX12_seen 48 = .ok (.iastore, 1) := by decide +kernel
theorem dX12_seen_49 : decode cX12_seen 49 = .ok (.aload_n 0, 1) := by decide +kernel
theorem dX12_seen_50 : decode cX12_seen 50 = .ok (.getfield 98, 3) := by decide +kernel
theorem dX12_seen_53 : decode cX12_seen 53 = .ok (.aload_n 0, 1) := by decide +kernel
theorem dX12_seen_54 : decode cX12_seen 54 = .ok (.getfield 276, 3) := by decide +kernel
theorem dX12_seen_57 : decode cX12_seen 57 = .ok (.iload_n 3, 1) := by decide +kernel
theorem dX12_seen_58 : decode cX12_seen 58 = .ok (.bastore, 1) := by decide +kernel
theorem dX12_seen_59 : decode cX12_seen 59 = .ok (.aload_n 0, 1) := by decide +kernel
theorem dX12_seen_60 : decode cX12_seen 60 = .ok (.dup, 1) := by decide +kernel
theorem dX12_seen_61 : decode cX12_seen 61 = .ok (.getfield 276, 3) := by decide +kernel
theorem dX12_seen_64 : decode cX12_seen 64 = .ok (.iconst 1, 1) := by decide +kernel
theorem dX12_seen_65 : decode cX12_seen 65 = .ok (.iadd, 1) := by decide +kernel
theorem dX12_seen_66 : decode cX12_seen 66 = .ok (.putfield 276, 3) := by decide +kernel
theorem dX12_seen_69 : decode cX12_seen 69 = .ok (.aload_n 0, 1) := by decide +kernel
theorem dX12_seen_70 : decode cX12_seen 70 = .ok (.getfield 276, 3) := by decide +kernel
theorem dX12_seen_73 : decode cX12_seen 73 = .ok (.ireturn, 1) := by decide +kernel
theorem dX12_isSo_0 : decode cX12_isSo 0 = .ok (.iload_n 1, 1) := by decide +kernel
theorem dX12_isSo_1 : decode cX12_isSo 1 = .ok (.bipush 9, 2) := by decide +kernel
theorem dX12_isSo_3 : decode cX12_isSo 3 = .ok (.if_icmp .eq 13, 3) := by decide +kernel
theorem dX12_isSo_6 : decode cX12_isSo 6 = .ok (.aload_n 0, 1) := by decide +kernel
theorem dX12_isSo_7 : decode cX12_isSo 7 = .ok (.iload_n 1, 1) := by decide +kernel
theorem dX12_isSo_8 : decode cX12_isSo 8 = .ok (.invokevirtual 332, 3) := by decide +kernel
theorem dX12_isSo_11 : decode cX12_isSo 11 = .ok (.ifCond .ne 5, 3) := by decide +kernel
theorem dX12_isSo_14 : decode cX12_isSo 14 = .ok (.iconst 0, 1) := by decide +kernel
theorem dX12_isSo_15 : decode cX12_isSo 15 = .ok (.ireturn, 1) := by decide +kernel
theorem dX12_isSo_16 : decode cX12_isSo 16 = .ok (.iload_n 1, 1) := by decide +kernel
theorem dX12_isSo_17 : decode cX12_isSo 17 = .ok (.bipush 9, 2) := by decide +kernel
theorem dX12_isSo_19 : decode cX12_isSo 19 = .ok (.if_icmp .ne 7, 3) := by decide +kernel
theorem dX12_isSo_22 : decode cX12_isSo 22 = .ok (.iconst 0, 1) := by decide +kernel
theorem dX12_isSo_23 : decode cX12_isSo 23 = .ok (.goto 9, 3) := by decide +kernel
theorem dX12_isSo_26 : decode cX12_isSo 26 = .ok (.aload_n 0, 1) := by decide +kernel
theorem dX12_isSo_27 : decode cX12_isSo 27 = .ok (.iload_n 1, 1) := by decide +kernel
theorem dX12_isSo_28 : decode cX12_isSo 28 = .ok (.iconst 2, 1) := by decide +kernel
theorem dX12_isSo_29 : decode cX12_isSo 29 = .ok (.invokevirtual 270, 3) := by decide +kernel
theorem dX12_isSo_32 : decode cX12_isSo 32 = .ok (.istore_n 3, 1) := by decide +kernel
theorem dX12_isSo_33 : decode cX12_isSo 33 = .ok (.iload_n 1, 1) := by decide +kernel
theorem dX12_isSo_34 : decode cX12_isSo 34 = .ok (.bipush 9, 2) := by decide +kernel
theorem dX12_isSo_36 : decode cX12_isSo 36 = .ok (.if_icmp .eq 21, 3) := by decide +kernel
theorem dX12_isSo_39 : decode cX12_isSo 39 = .ok (.aload_n 0, 1) := by decide +kernel
theorem dX12_isSo_40 : decode cX12_isSo 40 = .ok (.getfield 52, 3) := by decide +kernel
theorem dX12_isSo_43 : decode cX12_isSo 43 = .ok (.iconst 4, 1) := by decide +kernel
theorem dX12_isSo_44 : decode cX12_isSo 44 = .ok (.iload_n 1, 1) := by decide +kernel
theorem dX12_isSo_45 : decode cX12_isSo 45 = .ok (.imul, 1) := by decide +kernel
theorem dX12_isSo_46 : decode cX12_isSo 46 = .ok (.iconst 2, 1) := by decide +kernel
theorem dX12_isSo_47 : decode cX12_isSo 47 = .ok (.iadd, 1) := by decide +kernel
theorem dX12_isSo_48 : decode cX12_isSo 48 = .ok (.bipush 30, 2) := by decide +kernel
theorem dX12_isSo_50 : decode cX12_isSo 50 = .ok (.iload_n 3, 1) := by decide +kernel
theorem dX12_isSo_51 : decode cX12_isSo 51 = .ok (.iload_n 2, 1) := by decide +kernel
theorem dX12_isSo_52 : decode cX12_isSo 52 = .ok (.iadd, 1) := by decide +kernel
theorem dX12_isSo_53 : decode cX12_isSo 53 = .ok (.invokestatic 301, 3) := by decide +kernel
theorem dX12_isSo_56 : decode cX12_isSo 56 = .ok (.iastore, 1) := by decide +kernel
theorem dX12_isSo_57 : decode cX12_isSo 57 = .ok (.aload_n 0, 1) := by decide +kernel
theorem dX12_isSo_58 : decode cX12_isSo 58 = .ok (.iconst 1, 1) := by decide +kernel
theorem dX12_isSo_59 : decode cX12_isSo 59 = .ok (.iconst 0, 1) := by decide +kernel
theorem dX12_isSo_60 : decode cX12_isSo 60 = .ok (.invokevirtual 399, 3) := by decide +kernel
theorem dX12_isSo_63 : decode cX12_isSo 63 = .ok (.istore 4, 2) := by decide +kernel
theorem dX12_isSo_65 : decode cX12_isSo 65 = .ok (.iconst 1, 1) := by decide +kernel
theorem dX12_isSo_66 : decode cX12_isSo 66 = .ok (.istore 5, 2) := by decide +kernel
theorem dX12_isSo_68 : decode cX12_isSo 68 = .ok (.iconst 0, 1) := by decide +kernel
theorem dX12_isSo_69 : decode cX12_isSo 69 = .ok (.istore 6, 2) := by decide +kernel
theorem dX12_isSo_71 : decode cX12_isSo 71 = .ok (.iload 6, 2) := by decide +kernel
theorem dX12_isSo_73 : decode cX12_isSo 73 = .ok (.aload_n 0, 1) := by decide +kernel
theorem dX12_isSo_74 : decode cX12_isSo 74 = .ok (.getfield 276, 3) := by decide +kernel
theorem dX12_isSo_77 : decode cX12_isSo 77 = .ok (.if_icmp .ge 70, 3) := by decide +kernel
theorem dX12_isSo_80 : decode cX12_isSo 80 = .ok (.iload 5, 2) := by decide +kernel
theorem dX12_isSo_82 : decode cX12_isSo 82 = .ok (.ifCond .eq 56, 3) := by decide +kernel
theorem dX12_isSo_85 : decode cX12_isSo 85 = .ok (.aload_n 0, 1) := by decide +kernel
theorem dX12_isSo_86 : decode cX12_isSo 86 = .ok (.getfield 92, 3) := by decide +kernel
theorem dX12_isSo_89 : decode cX12_isSo 89 = .ok (.iload 6, 2) := by decide +kernel
theorem dX12_isSo_91 : decode cX12_isSo 91 = .ok (.iaload, 1) := by decide +kernel
theorem dX12_isSo_92 : decode cX12_isSo 92 = .ok (.iload 4, 2) := by decide +kernel
theorem dX12_isSo_94 : decode cX12_isSo 94 = .ok (.if_icmp .ge 29, 3) := by decide +kernel
theorem dX12_isSo_97 : decode cX12_isSo 97 = .ok (.aload_n 0, 1) := by decide +kernel
theorem dX12_isSo_98 : decode cX12_isSo 98 = .ok (.getfield 77, 3) := by decide +kernel
theorem dX12_isSo_101 : decode cX12_isSo 101 = .ok (.aload_n 0, 1) := by decide +kernel
theorem dX12_isSo_102 : decode cX12_isSo 102 = .ok (.getfield 92, 3) := by decide +kernel
theorem dX12_isSo_105 : decode cX12_isSo 105 = .ok (.iload 6, 2) := by decide +kernel
theorem dX12_isSo_107 : decode cX12_isSo 107 = .ok (.iaload, 1) := by decide +kernel
theorem dX12_isSo_108 : decode cX12_isSo 108 = .ok (.iaload, 1) := by decide +kernel
theorem dX12_isSo_109 : decode cX12_isSo 109 = .ok (.aload_n 0, 1) := by decide +kernel
theorem dX12_isSo_110 : decode cX12_isSo 110 = .ok (.getfield 95, 3) := by decide +kernel
theorem dX12_isSo_113 : decode cX12_isSo 113 = .ok (.iload 6, 2) := by decide +kernel
theorem dX12_isSo_115 : decode cX12_isSo 115 = .ok (.iaload, 1) := by decide +kernel
theorem dX12_isSo_116 : decode cX12_isSo 116 = .ok (.if_icmp .ne 7, 3) := by decide +kernel
theorem dX12_isSo_119 : decode cX12_isSo 119 = .ok (.iconst 1, 1) := by decide +kernel
theorem dX12_isSo_120 : decode cX12_isSo 120 = .ok (.goto 4, 3) := by decide +kernel
theorem dX12_isSo_123 : decode cX12_isSo 123 = .ok (.iconst 0, 1) := by decide +kernel
theorem dX12_isSo_124 : decode cX12_isSo 124 = .ok (.aload_n 0, 1) := by decide +kernel
theorem dX12_isSo_125 : decode cX12_isSo 125 = .ok (.getfield 98, 3) := by decide +kernel
theorem dX12_isSo_128 : decode cX12_isSo 128 = .ok (.iload 6, 2) := by decide +kernel
theorem dX12_isSo_130 : decode cX12_isSo 130 = .ok (.baload, 1) := by decide +kernel
theorem dX12_isSo_131 : decode cX12_isSo 131 = .ok (.if_icmp .ne 7, 3) := by decide +kernel
theorem dX12_isSo_134 : decode cX12_isSo 134 = .ok (.iconst 1, 1) := by decide +kernel
theorem dX12_isSo_135 : decode cX12_isSo 135 = .ok (.goto 4, 3) := by decide +kernel
theorem dX12_isSo_138 : decode cX12_isSo 138 = .ok (.iconst 0, 1) := by decide +kernel
theorem dX12_isSo_139 : decode cX12_isSo 139 = .ok (.istore 5, 2) := by decide +kernel
theorem dX12_isSo_141 : decode cX12_isSo 141 = .ok (.iinc 6 1, 3) := by decide +kernel
theorem dX12_isSo_144 : decode cX12_isSo 144 = .ok (.goto (-73), 3) := by decide +kernel
theorem dX12_isSo_147 : decode cX12_isSo 147 = .ok (.iload_n 1, 1) := by decide +kernel
theorem dX12_isSo_148 : decode cX12_isSo 148 = .ok (.bipush 9, 2) := by decide +kernel
theorem dX12_isSo_150 : decode cX12_isSo 150 = .ok (.if_icmp .eq 14, 3) := by decide +kernel
theorem dX12_isSo_153 : decode cX12_isSo 153 = .ok (.aload_n 0, 1) := by decide +kernel
theorem dX12_isSo_154 : decode cX12_isSo 154 = .ok (.getfield 52, 3) := by decide +kernel
theorem dX12_isSo_157 : decode cX12_isSo 157 = .ok (.iconst 4, 1) := by decide +kernel
theorem dX12_isSo_158 : decode cX12_isSo 158 = .ok (.iload_n 1, 1) := by decide +kernel
theorem dX12_isSo_159 : decode cX12_isSo 159 = .ok (.imul, 1) := by decide +kernel
theorem dX12_isSo_160 : decode cX12_isSo 160 = .ok (.iconst 2, 1) := by decide +kernel
theorem dX12_isSo_161 : decode cX12_isSo 161 = .ok (.iadd, 1) := by decide +kernel
theorem dX12_isSo_162 : decode cX12_isSo 162 = .ok (.iload_n 3, 1) := by decide +kernel
theorem dX12_isSo_163 : decode cX12_isSo 163 = .ok (.iastore, 1) := by decide +kernel
theorem dX12_isSo_164 : decode cX12_isSo 164 = .ok (.iload 5, 2) := by decide +kernel
theorem dX12_isSo_166 : decode cX12_isSo 166 = .ok (.ireturn, 1) := by decide +kernel
theorem dX12_who_0 : decode cX12_who 0 = .ok (.aload_n 0, 1) := by decide +kernel
theorem dX12_who_1 : decode cX12_who 1 = .ok (.getfield 264, 3) := by decide +kernel
theorem dX12_who_4 : decode cX12_who 4 = .ok (.ifCond .eq 18, 3) := by decide +kernel
theorem dX12_who_7 : decode cX12_who 7 = .ok (.iload_n 1, 1) := by decide +kernel
theorem dX12_who_8 : decode cX12_who 8 = .ok (.iconst 1, 1) := by decide +kernel
theorem dX12_who_9 : decode cX12_who 9 = .ok (.bipush 9, 2) := by decide +kernel
theorem dX12_who_11 : decode cX12_who 11 = .ok (.invokestatic 220, 3) := by decide +kernel
theorem dX12_who_14 : decode cX12_who 14 = .ok (.ifCond .eq 8, 3) := by decide +kernel
theorem dX12_who_17 : decode cX12_who 17 = .ok (.iload_n 2, 1) := by decide +kernel
theorem dX12_who_18 : decode cX12_who 18 = .ok (.iconst (-1), 1) := by decide +kernel
theorem dX12_who_19 : decode cX12_who 19 = .ok (.if_icmp .ge 5, 3) := by decide +kernel
theorem dX12_who_22 : decode cX12_who 22 = .ok (.iconst (-1), 1) := by decide +kernel
theorem dX12_who_23 : decode cX12_who 23 = .ok (.ireturn, 1) := by decide +kernel
theorem dX12_who_24 : decode cX12_who 24 = .ok (.iconst 0, 1) := by decide +kernel
theorem dX12_who_25 : decode cX12_who 25 = .ok (.istore_n 3, 1) := by decide +kernel
theorem dX12_who_26 : decode cX12_who 26 = .ok (.iconst 0, 1) := by decide +kernel
theorem dX12_who_27 : decode cX12_who 27 = .ok (.istore 4, 2) := by decide +kernel
theorem dX12_who_29 : decode cX12_who 29 = .ok (.iload 4, 2) := by decide +kernel
theorem dX12_who_31 : decode cX12_who 31 = .ok (.bipush 9, 2) := by decide +kernel
theorem dX12_who_33 : decode cX12_who 33 = .ok (.if_icmp .gt 30, 3) := by decide +kernel
theorem dX12_who_36 : decode cX12_who 36 = .ok (.aload_n 0, 1) := by decide +kernel
theorem dX12_who_37 : decode cX12_who 37 = .ok (.iload 4, 2) := by decide +kernel
theorem dX12_who_39 : decode cX12_who 39 = .ok (.iload_n 1, 1) := by decide +kernel
theorem dX12_who_40 : decode cX12_who 40 = .ok (.invokevirtual 429, 3) := by decide +kernel
theorem dX12_who_43 : decode cX12_who 43 = .ok (.ifCond .eq 14, 3) := by decide +kernel
theorem dX12_who_46 : decode cX12_who 46 = .ok (.iload_n 3, 1) := by decide +kernel
theorem dX12_who_47 : decode cX12_who 47 = .ok (.iload_n 2, 1) := by decide +kernel
theorem dX12_who_48 : decode cX12_who 48 = .ok (.if_icmp .ne 6, 3) := by decide +kernel
theorem dX12_who_51 : decode cX12_who 51 = .ok (.iload 4, 2) := by decide +kernel
theorem dX12_who_53 : decode cX12_who 53 = .ok (.ireturn, 1) := by decide +kernel
theorem dX12_who_54 : decode cX12_who 54 = .ok (.iinc 3 1, 3) := by decide +kernel
theorem dX12_who_57 : decode cX12_who 57 = .ok (.iinc 4 1, 3) := by decide +kernel
theorem dX12_who_60 : decode cX12_who 60 = .ok (.goto (-31), 3) := by decide +kernel
theorem dX12_who_63 : decode cX12_who 63 = .ok (.iload_n 2, 1) := by decide +kernel
theorem dX12_who_64 : decode cX12_who 64 = .ok (.iconst (-1), 1) := by decide +kernel
theorem dX12_who_65 : decode cX12_who 65 = .ok (.if_icmp .ne 7, 3) := by decide +kernel
theorem dX12_who_68 : decode cX12_who 68 = .ok (.iload_n 3, 1) := by decide +kernel
theorem dX12_who_69 : decode cX12_who 69 = .ok (.goto 4, 3) := by decide +kernel
theorem dX12_who_72 : decode cX12_who 72 = .ok (.iconst (-1), 1) := by decide +kernel
theorem dX12_who_73 : decode cX12_who 73 = .ok (.ireturn, 1) := by decide +kernel
theorem dX12_oddsFrom_0 : decode cX12_oddsFrom 0 = .ok (.iload_n 1, 1) := by decide +kernel
theorem dX12_oddsFrom_1 : decode cX12_oddsFrom 1 = .ok (.iload_n 2, 1) := by decide +kernel
theorem dX12_oddsFrom_2 : decode cX12_oddsFrom 2 = .ok (.if_icmp .ne 6, 3) := by decide +kernel
theorem dX12_oddsFrom_5 : decode cX12_oddsFrom 5 = .ok (.iload 4, 2) := by decide +kernel
theorem dX12_oddsFrom_7 : decode cX12_oddsFrom 7 = .ok (.ireturn, 1) := by decide +kernel
theorem dX12_oddsFrom_8 : decode cX12_oddsFrom 8 = .ok (.aload_n 0, 1) := by decide +kernel
theorem dX12_oddsFrom_9 : decode cX12_oddsFrom 9 = .ok (.getfield 77, 3) := by decide +kernel
theorem dX12_oddsFrom_12 : decode cX12_oddsFrom 12 = .ok (.iload_n 1, 1) := by decide +kernel
theorem dX12_oddsFrom_13 : decode cX12_oddsFrom 13 = .ok (.iaload, 1) := by decide +kernel
theorem dX12_oddsFrom_14 : decode cX12_oddsFrom 14 = .ok (.istore 5, 2) := by decide +kernel
theorem dX12_oddsFrom_16 : decode cX12_oddsFrom 16 = .ok (.iload 4, 2) := by decide +kernel
theorem dX12_oddsFrom_18 : decode cX12_oddsFrom 18 = .ok (.i2l, 1) := by decide +kernel
theorem dX12_oddsFrom_19 : decode cX12_oddsFrom 19 = .ok (.iload_n 3, 1) := by decide +kernel
theorem dX12_oddsFrom_20 : decode cX12_oddsFrom 20 = .ok (.i2l, 1) := by decide +kernel
theorem dX12_oddsFrom_21 : decode cX12_oddsFrom 21 = .ok (.lmul, 1) := by decide +kernel
theorem dX12_oddsFrom_22 : decode cX12_oddsFrom 22 = .ok (.ldc2_w 432, 3) := by decide +kernel
theorem dX12_oddsFrom_25 : decode cX12_oddsFrom 25 = .ok (.ldiv, 1) := by decide +kernel
theorem dX12_oddsFrom_26 : decode cX12_oddsFrom 26 = .ok (.l2i, 1) := by decide +kernel
theorem dX12_oddsFrom_27 : decode cX12_oddsFrom 27 = .ok (.istore 6, 2) := by decide +kernel
theorem dX12_oddsFrom_29 : decode cX12_oddsFrom 29 = .ok (.iconst 0, 1) := by decide +kernel
theorem dX12_oddsFrom_30 : decode cX12_oddsFrom 30 = .ok (.istore 7, 2) := by decide +kernel
theorem dX12_oddsFrom_32 : decode cX12_oddsFrom 32 = .ok (.aload_n 0, 1) := by decide +kernel
theorem dX12_oddsFrom_33 : decode cX12_oddsFrom 33 = .ok (.iload_n 1, 1) := by decide +kernel
theorem dX12_oddsFrom_34 : decode cX12_oddsFrom 34 = .ok (.invokevirtual 385, 3) := by decide +kernel
theorem dX12_oddsFrom_37 : decode cX12_oddsFrom 37 = .ok (.iconst 0, 1) := by decide +kernel
theorem dX12_oddsFrom_38 : decode cX12_oddsFrom 38 = .ok (.istore 8, 2) := by decide +kernel
theorem dX12_oddsFrom_40 : decode cX12_oddsFrom 40 = .ok (.iload 8, 2) := by decide +kernel
theorem dX12_oddsFrom_42 : decode cX12_oddsFrom 42 = .ok (.iconst 2, 1) := by decide +kernel
theorem dX12_oddsFrom_43 : decode cX12_oddsFrom 43 = .ok (.if_icmp .ge 187, 3) := by decide +kernel
theorem dX12_oddsFrom_46 : decode cX12_oddsFrom 46 = .ok (.aload_n 0, 1) := by decide +kernel
theorem dX12_oddsFrom_47 : decode cX12_oddsFrom 47 = .ok (.iload 5, 2) := by decide +kernel
theorem dX12_oddsFrom_49 : decode cX12_oddsFrom 49 = .ok (.invokevirtual 313, 3) := by decide +kernel
theorem dX12_oddsFrom_52 : decode cX12_oddsFrom 52 = .ok (.istore 9, 2) := by decide +kernel
theorem dX12_oddsFrom_54 : decode cX12_oddsFrom 54 = .ok (.iload 8, 2) := by decide +kernel
theorem dX12_oddsFrom_56 : decode cX12_oddsFrom 56 = .ok (.iconst 1, 1) := by decide +kernel
theorem dX12_oddsFrom_57 : decode cX12_oddsFrom 57 = .ok (.if_icmp .ne 10, 3) := by decide +kernel
theorem dX12_oddsFrom_60 : decode cX12_oddsFrom 60 = .ok (.iload 9, 2) := by decide +kernel
theorem dX12_oddsFrom_62 : decode cX12_oddsFrom 62 = .ok (.iconst 2, 1) := by decide +kernel
theorem dX12_oddsFrom_63 : decode cX12_oddsFrom 63 = .ok (.idiv, 1) := by decide +kernel
theorem dX12_oddsFrom_64 : decode cX12_oddsFrom 64 = .ok (.goto 4, 3) := by decide +kernel
theorem dX12_oddsFrom_67 : decode cX12_oddsFrom 67 = .ok (.iconst 0, 1) := by decide +kernel
theorem dX12_oddsFrom_68 : decode cX12_oddsFrom 68 = .ok (.istore 10, 2) := by decide +kernel
theorem dX12_oddsFrom_70 : decode cX12_oddsFrom 70 = .ok (.aload_n 0, 1) := by decide +kernel
theorem dX12_oddsFrom_71 : decode cX12_oddsFrom 71 = .ok (.iload 5, 2) := by decide +kernel
theorem dX12_oddsFrom_73 : decode cX12_oddsFrom 73 = .ok (.aload_n 0, 1) := by decide +kernel
theorem dX12_oddsFrom_74 : decode cX12_oddsFrom 74 = .ok (.getfield 58, 3) := by decide +kernel
theorem dX12_oddsFrom_77 : decode cX12_oddsFrom 77 = .ok (.iconst 0, 1) := by decide +kernel
theorem dX12_oddsFrom_78 : decode cX12_oddsFrom 78 = .ok (.iload 5, 2) := by decide +kernel
theorem dX12_oddsFrom_80 : decode cX12_oddsFrom 80 = .ok (.iadd, 1) := by decide +kernel
theorem dX12_oddsFrom_81 : decode cX12_oddsFrom 81 = .ok (.iaload, 1) := by decide +kernel
theorem dX12_oddsFrom_82 : decode cX12_oddsFrom 82 = .ok (.iload 10, 2) := by decide +kernel
theorem dX12_oddsFrom_84 : decode cX12_oddsFrom 84 = .ok (.invokevirtual 323, 3) := by decide +kernel
theorem dX12_oddsFrom_87 : decode cX12_oddsFrom 87 = .ok (.istore 11, 2) := by decide +kernel
theorem dX12_oddsFrom_89 : decode cX12_oddsFrom 89 = .ok (.aload_n 0, 1) := by decide +kernel
theorem dX12_oddsFrom_90 : decode cX12_oddsFrom 90 = .ok (.getfield 58, 3) := by decide +kernel
theorem dX12_oddsFrom_93 : decode cX12_oddsFrom 93 = .ok (.bipush 8, 2) := by decide +kernel
theorem dX12_oddsFrom_95 : decode cX12_oddsFrom 95 = .ok (.iaload, 1) := by decide +kernel
theorem dX12_oddsFrom_96 : decode cX12_oddsFrom 96 = .ok (.iload 9, 2) := by decide +kernel
theorem dX12_oddsFrom_98 : decode cX12_oddsFrom 98 = .ok (.iadd, 1) := by decide +kernel
theorem dX12_oddsFrom_99 : decode cX12_oddsFrom 99 = .ok (.iload 10, 2) := by decide +kernel
theorem dX12_oddsFrom_101 : decode cX12_oddsFrom 101 = .ok (.iadd, 1) := by decide +kernel
theorem dX12_oddsFrom_102 : decode cX12_oddsFrom 102 = .ok (.iload 11, 2) := by decide +kernel
theorem dX12_oddsFrom_104 : decode cX12_oddsFrom 104 = .ok (.iadd, 1) := by decide +kernel
theorem dX12_oddsFrom_105 : decode cX12_oddsFrom 105 = .ok (.istore 12, 2) := by decide +kernel
theorem dX12_oddsFrom_107 : decode cX12_oddsFrom 107 = .ok (.iload 12, 2) := by decide +kernel
theorem dX12_oddsFrom_109 : decode cX12_oddsFrom 109 = .ok (.aload_n 0, 1) := by decide +kernel
theorem dX12_oddsFrom_110 : decode cX12_oddsFrom 110 = .ok (.getfield 49, 3) := by decide +kernel
theorem dX12_oddsFrom_113 : decode cX12_oddsFrom 113 = .ok (.iconst 0, 1) := by decide +kernel
theorem dX12_oddsFrom_114 : decode cX12_oddsFrom 114 = .ok (.iaload, 1) := by decide +kernel
theorem dX12_oddsFrom_115 : decode cX12_oddsFrom 115 = .ok (.if_icmp .gt 109, 3) := by decide +kernel
theorem dX12_oddsFrom_118 : decode cX12_oddsFrom 118 = .ok (.aload_n 0, 1) := by decide +kernel
theorem dX12_oddsFrom_119 : decode cX12_oddsFrom 119 = .ok (.getfield 58, 3) := by decide +kernel
theorem dX12_oddsFrom_122 : decode cX12_oddsFrom 122 = .ok (.iconst 0, 1) := by decide +kernel
theorem dX12_oddsFrom_123 : decode cX12_oddsFrom 123 = .ok (.iload 5, 2) := by decide +kernel
theorem dX12_oddsFrom_125 : decode cX12_oddsFrom 125 = .ok (.iadd, 1) := by decide +kernel
theorem dX12_oddsFrom_126 : decode cX12_oddsFrom 126 = .ok (.dup2, 1) := by decide +kernel
theorem dX12_oddsFrom_127 : decode cX12_oddsFrom 127 = .ok (.iaload, 1) := by decide +kernel
theorem dX12_oddsFrom_128 : decode cX12_oddsFrom 128 = .ok (.aload_n 0, 1) := by decide +kernel
theorem dX12_oddsFrom_129 : decode cX12_oddsFrom 129 = .ok (.iload 5, 2) := by decide +kernel
theorem dX12_oddsFrom_131 : decode cX12_oddsFrom 131 = .ok (.invokevirtual 295, 3) := by decide +kernel
theorem dX12_oddsFrom_134 : decode cX12_oddsFrom 134 = .ok (.ifCond .eq 7, 3) := by decide +kernel
theorem dX12_oddsFrom_137 : decode cX12_oddsFrom 137 = .ok (.iconst 0, 1) := by decide +kernel
theorem dX12_oddsFrom_138 : decode cX12_oddsFrom 138 = .ok (.goto 17, 3) := by decide +kernel
theorem dX12_oddsFrom_141 : decode cX12_oddsFrom 141 = .ok (.aload_n 0, 1) := by decide +kernel
theorem dX12_oddsFrom_142 : decode cX12_oddsFrom 142 = .ok (.getfield 58, 3) := by decide +kernel
theorem dX12_oddsFrom_145 : decode cX12_oddsFrom 145 = .ok (.iconst 0, 1) := by decide +kernel
theorem dX12_oddsFrom_146 : decode cX12_oddsFrom 146 = .ok (.iload 5, 2) := by decide +kernel
theorem dX12_oddsFrom_148 : decode cX12_oddsFrom 148 = .ok (.iadd, 1) := by decide +kernel
theorem dX12_oddsFrom_149 : decode cX12_oddsFrom 149 = .ok (.iaload, 1) := by decide +kernel
theorem dX12_oddsFrom_150 : decode cX12_oddsFrom 150 = .ok (.iload 11, 2) := by decide +kernel
theorem dX12_oddsFrom_152 : decode cX12_oddsFrom 152 = .ok (.invokestatic 301, 3) := by decide +kernel
theorem dX12_oddsFrom_155 : decode cX12_oddsFrom 155 = .ok (.isub, 1) := by decide +kernel
theorem dX12_oddsFrom_156 : decode cX12_oddsFrom 156 = .ok (.iastore, 1) := by decide +kernel
theorem dX12_oddsFrom_157 : decode cX12_oddsFrom 157 = .ok (.aload_n 0, 1) := by decide +kernel
theorem dX12_oddsFrom_158 : decode cX12_oddsFrom 158 = .ok (.getfield 58, 3) := by decide +kernel
theorem dX12_oddsFrom_161 : decode cX12_oddsFrom 161 = .ok (.bipush 8, 2) := by decide +kernel
theorem dX12_oddsFrom_163 : decode cX12_oddsFrom 163 = .ok (.iload 12, 2) := by decide +kernel
theorem dX12_oddsFrom_165 : decode cX12_oddsFrom 165 = .ok (.iastore, 1) := by decide +kernel
theorem dX12_oddsFrom_166 : decode cX12_oddsFrom 166 = .ok (.aload_n 0, 1) := by decide +kernel
theorem dX12_oddsFrom_167 : decode cX12_oddsFrom 167 = .ok (.getfield 58, 3) := by decide +kernel
theorem dX12_oddsFrom_170 : decode cX12_oddsFrom 170 = .ok (.bipush 10, 2) := by decide +kernel
theorem dX12_oddsFrom_172 : decode cX12_oddsFrom 172 = .ok (.iload 5, 2) := by decide +kernel
theorem dX12_oddsFrom_174 : decode cX12_oddsFrom 174 = .ok (.iastore, 1) := by decide +kernel
theorem dX12_oddsFrom_175 : decode cX12_oddsFrom 175 = .ok (.aload_n 0, 1) := by decide +kernel
theorem dX12_oddsFrom_176 : decode cX12_oddsFrom 176 = .ok (.getfield 58, 3) := by decide +kernel
theorem dX12_oddsFrom_179 : decode cX12_oddsFrom 179 = .ok (.bipush 11, 2) := by decide +kernel
theorem dX12_oddsFrom_181 : decode cX12_oddsFrom 181 = .ok (.dup2, 1) := by decide +kernel
theorem dX12_oddsFrom_182 : decode cX12_oddsFrom 182 = .ok (.iaload, 1) := by decide +kernel
theorem dX12_oddsFrom_183 : decode cX12_oddsFrom 183 = .ok (.iconst 1, 1) := by decide +kernel
theorem dX12_oddsFrom_184 : decode cX12_oddsFrom 184 = .ok (.iload 5, 2) := by decide +kernel
theorem dX12_oddsFrom_186 : decode cX12_oddsFrom 186 = .ok (.ishl, 1) := by decide +kernel
theorem dX12_oddsFrom_187 : decode cX12_oddsFrom 187 = .ok (.ior, 1) := by decide +kernel
theorem dX12_oddsFrom_188 : decode cX12_oddsFrom 188 = .ok (.iastore, 1) := by decide +kernel
theorem dX12_oddsFrom_189 : decode cX12_oddsFrom 189 = .ok (.iload 7, 2) := by decide +kernel
theorem dX12_oddsFrom_191 : decode cX12_oddsFrom 191 = .ok (.aload_n 0, 1) := by decide +kernel
theorem dX12_oddsFrom_192 : decode cX12_oddsFrom 192 = .ok (.iload_n 1, 1) := by decide +kernel
theorem dX12_oddsFrom_193 : decode cX12_oddsFrom 193 = .ok (.iconst 1, 1) := by decide +kernel
theorem dX12_oddsFrom_194 : decode cX12_oddsFrom 194 = .ok (.iadd, 1) := by decide +kernel
theorem dX12_oddsFrom_195 : decode cX12_oddsFrom 195 = .ok (.iload_n 2, 1) := by decide +kernel
theorem dX12_oddsFrom_196 : decode cX12_oddsFrom 196 = .ok (.iload_n 3, 1) := by decide +kernel
theorem dX12_oddsFrom_197 : decode cX12_oddsFrom 197 = .ok (.iload 8, 2) := by decide +kernel
theorem dX12_oddsFrom_199 : decode cX12_oddsFrom 199 = .ok (.iconst 1, 1) := by decide +kernel
theorem dX12_oddsFrom_200 : decode cX12_oddsFrom 200 = .ok (.if_icmp .ne 8, 3) := by decide +kernel
theorem dX12_oddsFrom_203 : decode cX12_oddsFrom 203 = .ok (.iload 6, 2) := by decide +kernel
theorem dX12_oddsFrom_205 : decode cX12_oddsFrom 205 = .ok (.goto 8, 3) := by decide +kernel
theorem dX12_oddsFrom_208 : decode cX12_oddsFrom 208 = .ok (.iload 4, 2) := by decide +kernel
theorem dX12_oddsFrom_210 : decode cX12_oddsFrom 210 = .ok (.iload 6, 2) := by decide +kernel
theorem dX12_oddsFrom_212 : decode cX12_oddsFrom 212 = .ok (.isub, 1) := by decide +kernel
theorem dX12_oddsFrom_213 : decode cX12_oddsFrom 213 = .ok (.invokevirtual 434, 3) := by decide +kernel
theorem dX12_oddsFrom_216 : decode cX12_oddsFrom 216 = .ok (.iadd, 1) := by decide +kernel
theorem dX12_oddsFrom_217 : decode cX12_oddsFrom 217 = .ok (.istore 7, 2) := by decide +kernel
theorem dX12_oddsFrom_219 : decode cX12_oddsFrom 219 = .ok (.aload_n 0, 1) := by decide +kernel
theorem dX12_oddsFrom_220 : decode cX12_oddsFrom 220 = .ok (.iload_n 1, 1) := by decide +kernel
theorem dX12_oddsFrom_221 : decode cX12_oddsFrom 221 = .ok (.invokevirtual 392, 3) := by decide +kernel
theorem dX12_oddsFrom_224 : decode cX12_oddsFrom 224 = .ok (.iinc 8 1, 3) := by decide +kernel
theorem dX12_oddsFrom_227 : decode cX12_oddsFrom 227 = .ok (.goto (-187), 3) := by decide +kernel
theorem dX12_oddsFrom_230 : decode cX12_oddsFrom 230 = .ok (.iload 7, 2) := by decide +kernel
theorem dX12_oddsFrom_232 : decode cX12_oddsFrom 232 = .ok (.ireturn, 1) := by decide +kernel
theorem dX12_odds_0 : decode cX12_odds 0 = .ok (.aload_n 0, 1) := by decide +kernel
theorem dX12_odds_1 : decode cX12_odds 1 = .ok (.getfield 264, 3) := by decide +kernel
theorem dX12_odds_4 : decode cX12_odds 4 = .ok (.ifCond .eq 23, 3) := by decide +kernel
theorem dX12_odds_7 : decode cX12_odds 7 = .ok (.iload_n 1, 1) := by decide +kernel
theorem dX12_odds_8 : decode cX12_odds 8 = .ok (.iconst 0, 1) := by decide +kernel
theorem dX12_odds_9 : decode cX12_odds 9 = .ok (.bipush 7, 2) := by decide +kernel
theorem dX12_odds_11 : decode cX12_odds 11 = .ok (.invokestatic 220, 3) := by decide +kernel
theorem dX12_odds_14 : decode cX12_odds 14 = .ok (.ifCond .eq 13, 3) := by decide +kernel
theorem dX12_odds_17 : decode cX12_odds 17 = .ok (.iload_n 2, 1) := by decide +kernel
theorem dX12_odds_18 : decode cX12_odds 18 = .ok (.iconst 0, 1) := by decide +kernel
theorem dX12_odds_19 : decode cX12_odds 19 = .ok (.bipush 100, 2) := by decide +kernel
theorem dX12_odds_21 : decode cX12_odds 21 = .ok (.invokestatic 220, 3) := by decide +kernel
theorem dX12_odds_24 : decode cX12_odds 24 = .ok (.ifCond .ne 5, 3) := by decide +kernel
theorem dX12_odds_27 : decode cX12_odds 27 = .ok (.iconst (-1), 1) := by decide +kernel
theorem dX12_odds_28 : decode cX12_odds 28 = .ok (.ireturn, 1) := by decide +kernel
theorem dX12_odds_29 : decode cX12_odds 29 = .ok (.aload_n 0, 1) := by decide +kernel
theorem dX12_odds_30 : decode cX12_odds 30 = .ok (.iconst 0, 1) := by decide +kernel
theorem dX12_odds_31 : decode cX12_odds 31 = .ok (.aload_n 0, 1) := by decide +kernel
theorem dX12_odds_32 : decode cX12_odds 32 = .ok (.getfield 58, 3) := by decide +kernel
theorem dX12_odds_35 : decode cX12_odds 35 = .ok (.bipush 11, 2) := by decide +kernel
theorem dX12_odds_37 : decode cX12_odds 37 = .ok (.iaload, 1) := by decide +kernel
theorem dX12_odds_38 : decode cX12_odds 38 = .ok (.invokevirtual 399, 3) := by decide +kernel
theorem dX12_odds_41 : decode cX12_odds 41 = .ok (.iload_n 1, 1) := by decide +kernel
theorem dX12_odds_42 : decode cX12_odds 42 = .ok (.if_icmp .ge 7, 3) := by decide +kernel
theorem dX12_odds_45 : decode cX12_odds 45 = .ok (.iconst 0, 1) := by decide +kernel
theorem dX12_odds_46 : decode cX12_odds 46 = .ok (.goto 13, 3) := by decide +kernel
theorem dX12_odds_49 : decode cX12_odds 49 = .ok (.aload_n 0, 1) := by decide +kernel
theorem dX12_odds_50 : decode cX12_odds 50 = .ok (.iconst 0, 1) := by decide +kernel
theorem dX12_odds_51 : decode cX12_odds 51 = .ok (.iload_n 1, 1) := by decide +kernel
theorem dX12_odds_52 : decode cX12_odds 52 = .ok (.iload_n 2, 1) := by decide +kernel
theorem dX12_odds_53 : decode cX12_odds 53 = .ok (.ldc_w 438, 3) := by decide +kernel
theorem dX12_odds_56 : decode cX12_odds 56 = .ok (.invokevirtual 434, 3) := by decide +kernel
theorem dX12_odds_59 : decode cX12_odds 59 = .ok (.ireturn, 1) := by decide +kernel
theorem dX12_allGrief_0 : decode cX12_allGrief 0 = .ok (.iconst 0, 1) := by decide +kernel
theorem dX12_allGrief_1 : decode cX12_allGrief 1 = .ok (.istore_n 1, 1) := by decide +kernel
theorem dX12_allGrief_2 : decode cX12_allGrief 2 = .ok (.iconst 0, 1) := by decide +kernel
theorem dX12_allGrief_3 : decode cX12_allGrief 3 = .ok (.istore_n 2, 1) := by decide +kernel
theorem dX12_allGrief_4 : decode cX12_allGrief 4 = .ok (.iload_n 2, 1) := by decide +kernel
theorem dX12_allGrief_5 : decode cX12_allGrief 5 = .ok (.aload_n 0, 1) := by decide +kernel
theorem dX12_allGrief_6 : decode cX12_allGrief 6 = .ok (.getfield 264, 3) := by decide +kernel
theorem dX12_allGrief_9 : decode cX12_allGrief 9 = .ok (.if_icmp .ge 20, 3) := by decide +kernel
theorem dX12_allGrief_12 : decode cX12_allGrief 12 = .ok (.iload_n 1, 1) := by decide +kernel
theorem dX12_allGrief_13 : decode cX12_allGrief 13 = .ok (.aload_n 0, 1) := by decide +kernel
theorem dX12_allGrief_14 : decode cX12_allGrief 14 = .ok (.getfield 58, 3) := by decide +kernel
theorem dX12_allGrief_17 : decode cX12_allGrief 17 = .ok (.iconst 0, 1) := by decide +kernel
theorem dX12_allGrief_18 : decode cX12_allGrief 18 = .ok (.iload_n 2, 1) := by decide +kernel
theorem dX12_allGrief_19 : decode cX12_allGrief 19 = .ok (.iadd, 1) := by decide +kernel
theorem dX12_allGrief_20 : decode cX12_allGrief 20 = .ok (.iaload, 1) := by decide +kernel
theorem dX12_allGrief_21 : decode cX12_allGrief 21 = .ok (.iadd, 1) := by decide +kernel
theorem dX12_allGrief_22 : decode cX12_allGrief 22 = .ok (.istore_n 1, 1) := by decide +kernel
theorem dX12_allGrief_23 : decode cX12_allGrief 23 = .ok (.iinc 2 1, 3) := by decide +kernel
theorem dX12_allGrief_26 : decode cX12_allGrief 26 = .ok (.goto (-22), 3) := by decide +kernel
theorem dX12_allGrief_29 : decode cX12_allGrief 29 = .ok (.iload_n 1, 1) := by decide +kernel
theorem dX12_allGrief_30 : decode cX12_allGrief 30 = .ok (.ireturn, 1) := by decide +kernel
theorem dX12_shares_0 : decode cX12_shares 0 = .ok (.aload_n 0, 1) := by decide +kernel
theorem dX12_shares_1 : decode cX12_shares 1 = .ok (.iload_n 1, 1) := by decide +kernel
theorem dX12_shares_2 : decode cX12_shares 2 = .ok (.invokevirtual 332, 3) := by decide +kernel
theorem dX12_shares_5 : decode cX12_shares 5 = .ok (.ifCond .eq 14, 3) := by decide +kernel
theorem dX12_shares_8 : decode cX12_shares 8 = .ok (.iload_n 2, 1) := by decide +kernel
theorem dX12_shares_9 : decode cX12_shares 9 = .ok (.iconst 0, 1) := by decide +kernel
theorem dX12_shares_10 : decode cX12_shares 10 = .ok (.sipush 999, 3) := by decide +kernel
theorem dX12_shares_13 : decode cX12_shares 13 = .ok (.invokestatic 220, 3) := by decide +kernel
theorem dX12_shares_16 : decode cX12_shares 16 = .ok (.ifCond .ne 5, 3) := by decide +kernel
theorem dX12_shares_19 : decode cX12_shares 19 = .ok (.iconst (-1), 1) := by decide +kernel
theorem dX12_shares_20 : decode cX12_shares 20 = .ok (.ireturn, 1) := by decide +kernel
theorem dX12_shares_21 : decode cX12_shares 21 = .ok (.aload_n 0, 1) := by decide +kernel
theorem dX12_shares_22 : decode cX12_shares 22 = .ok (.invokevirtual 439, 3) := by decide +kernel
theorem dX12_shares_25 : decode cX12_shares 25 = .ok (.ifCond .ne 7, 3) := by decide +kernel
theorem dX12_shares_28 : decode cX12_shares 28 = .ok (.iconst 0, 1) := by decide +kernel
theorem dX12_shares_29 : decode cX12_shares 29 = .ok (.goto 18, 3) := by decide +kernel
theorem dX12_shares_32 : decode cX12_shares 32 = .ok (.iload_n 2, 1) := by decide +kernel
theorem dX12_shares_33 : decode cX12_shares 33 = .ok (.aload_n 0, 1) := by decide +kernel
theorem dX12_shares_34 : decode cX12_shares 34 = .ok (.getfield 58, 3) := by decide +kernel
theorem dX12_shares_37 : decode cX12_shares 37 = .ok (.iconst 0, 1) := by decide +kernel
theorem dX12_shares_38 : decode cX12_shares 38 = .ok (.iload_n 1, 1) := by decide +kernel
theorem dX12_shares_39 : decode cX12_shares 39 = .ok (.iadd, 1) := by decide +kernel
theorem dX12_shares_40 : decode cX12_shares 40 = .ok (.iaload, 1) := by decide +kernel
theorem dX12_shares_41 : decode cX12_shares 41 = .ok (.imul, 1) := by decide +kernel
theorem dX12_shares_42 : decode cX12_shares 42 = .ok (.aload_n 0, 1) := by decide +kernel
theorem dX12_shares_43 : decode cX12_shares 43 = .ok (.invokevirtual 439, 3) := by decide +kernel
theorem dX12_shares_46 : decode cX12_shares 46 = .ok (.idiv, 1) := by decide +kernel
theorem dX12_shares_47 : decode cX12_shares 47 = .ok (.ireturn, 1) := by decide +kernel
theorem dX12_nearest_0 : decode cX12_nearest 0 = .ok (.iconst (-1), 1) := by decide +kernel
theorem dX12_nearest_1 : decode cX12_nearest 1 = .ok (.istore_n 1, 1) := by decide +kernel
theorem dX12_nearest_2 : decode cX12_nearest 2 = .ok (.iconst 0, 1) := by decide +kernel
theorem dX12_nearest_3 : decode cX12_nearest 3 = .ok (.istore_n 2, 1) := by decide +kernel
theorem dX12_nearest_4 : decode cX12_nearest 4 = .ok (.iload_n 2, 1) := by decide +kernel
theorem dX12_nearest_5 : decode cX12_nearest 5 = .ok (.aload_n 0, 1) := by decide +kernel
theorem dX12_nearest_6 : decode cX12_nearest 6 = .ok (.getfield 264, 3) := by decide +kernel
theorem dX12_nearest_9 : decode cX12_nearest 9 = .ok (.if_icmp .ge 44, 3) := by decide +kernel
theorem dX12_nearest_12 : decode cX12_nearest 12 = .ok (.iload_n 2, 1) := by decide +kernel
theorem dX12_nearest_13 : decode cX12_nearest 13 = .ok (.aload_n 0, 1) := by decide +kernel
theorem dX12_nearest_14 : decode cX12_nearest 14 = .ok (.getfield 58, 3) := by decide +kernel
theorem dX12_nearest_17 : decode cX12_nearest 17 = .ok (.bipush 10, 2) := by decide +kernel
theorem dX12_nearest_19 : decode cX12_nearest 19 = .ok (.iaload, 1) := by decide +kernel
theorem dX12_nearest_20 : decode cX12_nearest 20 = .ok (.if_icmp .eq 25, 3) := by decide +kernel
theorem dX12_nearest_23 : decode cX12_nearest 23 = .ok (.iload_n 1, 1) := by decide +kernel
theorem dX12_nearest_24 : decode cX12_nearest 24 = .ok (.iconst (-1), 1) := by decide +kernel
theorem dX12_nearest_25 : decode cX12_nearest 25 = .ok (.if_icmp .eq 16, 3) := by decide +kernel
theorem dX12_nearest_28 : decode cX12_nearest 28 = .ok (.aload_n 0, 1) := by decide +kernel
theorem dX12_nearest_29 : decode cX12_nearest 29 = .ok (.iload_n 2, 1) := by decide +kernel
theorem dX12_nearest_30 : decode cX12_nearest 30 = .ok (.invokevirtual 313, 3) := by decide +kernel
theorem dX12_nearest_33 : decode cX12_nearest 33 = .ok (.aload_n 0, 1) := by decide +kernel
theorem dX12_nearest_34 : decode cX12_nearest 34 = .ok (.iload_n 1, 1) := by decide +kernel
theorem dX12_nearest_35 : decode cX12_nearest 35 = .ok (.invokevirtual 313, 3) := by decide +kernel
theorem dX12_nearest_38 : decode cX12_nearest 38 = .ok (.if_icmp .ge 7, 3) := by decide +kernel
theorem dX12_nearest_41 : decode cX12_nearest 41 = .ok (.iload_n 2, 1) := by decide +kernel
theorem dX12_nearest_42 : decode cX12_nearest 42 = .ok (.goto 4, 3) := by decide +kernel
theorem dX12_nearest_45 : decode cX12_nearest 45 = .ok (.iload_n 1, 1) := by decide +kernel
theorem dX12_nearest_46 : decode cX12_nearest 46 = .ok (.istore_n 1, 1) := by decide +kernel
theorem dX12_nearest_47 : decode cX12_nearest 47 = .ok (.iinc 2 1, 3) := by decide +kernel
theorem dX12_nearest_50 : decode cX12_nearest 50 = .ok (.goto (-46), 3) := by decide +kernel
theorem dX12_nearest_53 : decode cX12_nearest 53 = .ok (.iload_n 1, 1) := by decide +kernel
theorem dX12_nearest_54 : decode cX12_nearest 54 = .ok (.ireturn, 1) := by decide +kernel
theorem dX12_contents_0 : decode cX12_contents 0 = .ok (.iconst 0, 1) := by decide +kernel
theorem dX12_contents_1 : decode cX12_contents 1 = .ok (.istore_n 1, 1) := by decide +kernel
theorem dX12_contents_2 : decode cX12_contents 2 = .ok (.iconst 0, 1) := by decide +kernel
theorem dX12_contents_3 : decode cX12_contents 3 = .ok (.istore_n 2, 1) := by decide +kernel
theorem dX12_contents_4 : decode cX12_contents 4 = .ok (.iload_n 2, 1) := by decide +kernel
theorem dX12_contents_5 : decode cX12_contents 5 = .ok (.aload_n 0, 1) := by decide +kernel
theorem dX12_contents_6 : decode cX12_contents 6 = .ok (.getfield 264, 3) := by decide +kernel
theorem dX12_contents_9 : decode cX12_contents 9 = .ok (.if_icmp .ge 30, 3) := by decide +kernel
theorem dX12_contents_12 : decode cX12_contents 12 = .ok (.iload_n 1, 1) := by decide +kernel
theorem dX12_contents_13 : decode cX12_contents 13 = .ok (.aload_n 0, 1) := by decide +kernel
theorem dX12_contents_14 : decode cX12_contents 14 = .ok (.getfield 58, 3) := by decide +kernel
theorem dX12_contents_17 : decode cX12_contents 17 = .ok (.iconst 0, 1) := by decide +kernel
theorem dX12_contents_18 : decode cX12_contents 18 = .ok (.iload_n 2, 1) := by decide +kernel
theorem dX12_contents_19 : decode cX12_contents 19 = .ok (.iadd, 1) := by decide +kernel
theorem dX12_contents_20 : decode cX12_contents 20 = .ok (.iaload, 1) := by decide +kernel
theorem dX12_contents_21 : decode cX12_contents 21 = .ok (.ifCond .ne 9, 3) := by decide +kernel
theorem dX12_contents_24 : decode cX12_contents 24 = .ok (.iconst 1, 1) := by decide +kernel
theorem dX12_contents_25 : decode cX12_contents 25 = .ok (.iload_n 2, 1) := by decide +kernel
theorem dX12_contents_26 : decode cX12_contents 26 = .ok (.ishl, 1) := by decide +kernel
theorem dX12_contents_27 : decode cX12_contents 27 = .ok (.goto 4, 3) := by decide +kernel
theorem dX12_contents_30 : decode cX12_contents 30 = .ok (.iconst 0, 1) := by decide +kernel
theorem dX12_contents_31 : decode cX12_contents 31 = .ok (.ior, 1) := by decide +kernel
theorem dX12_contents_32 : decode cX12_contents 32 = .ok (.istore_n 1, 1) := by decide +kernel
theorem dX12_contents_33 : decode cX12_contents 33 = .ok (.iinc 2 1, 3) := by decide +kernel
theorem dX12_contents_36 : decode cX12_contents 36 = .ok (.goto (-32), 3) := by decide +kernel
theorem dX12_contents_39 : decode cX12_contents 39 = .ok (.iload_n 1, 1) := by decide +kernel
theorem dX12_contents_40 : decode cX12_contents 40 = .ok (.ireturn, 1) := by decide +kernel
theorem dX12_most_0 : decode cX12_most 0 = .ok (.aload_n 0, 1) := by decide +kernel
theorem dX12_most_1 : decode cX12_most 1 = .ok (.getfield 264, 3) := by decide +kernel
theorem dX12_most_4 : decode cX12_most 4 = .ok (.ifCond .eq 13, 3) := by decide +kernel
theorem dX12_most_7 : decode cX12_most 7 = .ok (.iload_n 1, 1) := by decide +kernel
theorem dX12_most_8 : decode cX12_most 8 = .ok (.iconst 0, 1) := by decide +kernel
theorem dX12_most_9 : decode cX12_most 9 = .ok (.bipush 7, 2) := by decide +kernel
theorem dX12_most_11 : decode cX12_most 11 = .ok (.invokestatic 220, 3) := by decide +kernel
theorem dX12_most_14 : decode cX12_most 14 = .ok (.ifCond .ne 5, 3) := by decide +kernel
theorem dX12_most_17 : decode cX12_most 17 = .ok (.iconst (-1), 1) := by decide +kernel
theorem dX12_most_18 : decode cX12_most 18 = .ok (.ireturn, 1) := by decide +kernel
theorem dX12_most_19 : decode cX12_most 19 = .ok (.iconst 0, 1) := by decide +kernel
theorem dX12_most_20 : decode cX12_most 20 = .ok (.istore_n 2, 1) := by decide +kernel
theorem dX12_most_21 : decode cX12_most 21 = .ok (.iconst 0, 1) := by decide +kernel
theorem dX12_most_22 : decode cX12_most 22 = .ok (.istore_n 3, 1) := by decide +kernel
theorem dX12_most_23 : decode cX12_most 23 = .ok (.iconst 1, 1) := by decide +kernel
theorem dX12_most_24 : decode cX12_most 24 = .ok (.istore 4, 2) := by decide +kernel
theorem dX12_most_26 : decode cX12_most 26 = .ok (.iload 4, 2) := by decide +kernel
theorem dX12_most_28 : decode cX12_most 28 = .ok (.aload_n 0, 1) := by decide +kernel
theorem dX12_most_29 : decode cX12_most 29 = .ok (.getfield 264, 3) := by decide +kernel
theorem dX12_most_32 : decode cX12_most 32 = .ok (.if_icmp .ge 59, 3) := by decide +kernel
theorem dX12_most_35 : decode cX12_most 35 = .ok (.aload_n 0, 1) := by decide +kernel
theorem dX12_most_36 : decode cX12_most 36 = .ok (.getfield 58, 3) := by decide +kernel
theorem dX12_most_39 : decode cX12_most 39 = .ok (.iconst 0, 1) := by decide +kernel
theorem dX12_most_40 : decode cX12_most 40 = .ok (.iload 4, 2) := by decide +kernel
theorem dX12_most_42 : decode cX12_most 42 = .ok (.iadd, 1) := by decide +kernel
theorem dX12_most_43 : decode cX12_most 43 = .ok (.iaload, 1) := by decide +kernel
theorem dX12_most_44 : decode cX12_most 44 = .ok (.aload_n 0, 1) := by decide +kernel
theorem dX12_most_45 : decode cX12_most 45 = .ok (.getfield 58, 3) := by decide +kernel
theorem dX12_most_48 : decode cX12_most 48 = .ok (.iconst 0, 1) := by decide +kernel
theorem dX12_most_49 : decode cX12_most 49 = .ok (.iload_n 2, 1) := by decide +kernel
theorem dX12_most_50 : decode cX12_most 50 = .ok (.iadd, 1) := by decide +kernel
theorem dX12_most_51 : decode cX12_most 51 = .ok (.iaload, 1) := by decide +kernel
theorem dX12_most_52 : decode cX12_most 52 = .ok (.if_icmp .le 8, 3) := by decide +kernel
theorem dX12_most_55 : decode cX12_most 55 = .ok (.iload 4, 2) := by decide +kernel
theorem dX12_most_57 : decode cX12_most 57 = .ok (.goto 4, 3) := by decide +kernel
theorem dX12_most_60 : decode cX12_most 60 = .ok (.iload_n 2, 1) := by decide +kernel
theorem dX12_most_61 : decode cX12_most 61 = .ok (.istore_n 2, 1) := by decide +kernel
theorem dX12_most_62 : decode cX12_most 62 = .ok (.aload_n 0, 1) := by decide +kernel
theorem dX12_most_63 : decode cX12_most 63 = .ok (.iconst (-1), 1) := by decide +kernel
theorem dX12_most_64 : decode cX12_most 64 = .ok (.iload 4, 2) := by decide +kernel
theorem dX12_most_66 : decode cX12_most 66 = .ok (.invokevirtual 305, 3) := by decide +kernel
theorem dX12_most_69 : decode cX12_most 69 = .ok (.aload_n 0, 1) := by decide +kernel
theorem dX12_most_70 : decode cX12_most 70 = .ok (.iconst (-1), 1) := by decide +kernel
theorem dX12_most_71 : decode cX12_most 71 = .ok (.iload_n 3, 1) := by decide +kernel
theorem dX12_most_72 : decode cX12_most 72 = .ok (.invokevirtual 305, 3) := by decide +kernel
theorem dX12_most_75 : decode cX12_most 75 = .ok (.if_icmp .le 8, 3) := by decide +kernel
theorem dX12_most_78 : decode cX12_most 78 = .ok (.iload 4, 2) := by decide +kernel
theorem dX12_most_80 : decode cX12_most 80 = .ok (.goto 4, 3) := by decide +kernel
theorem dX12_most_83 : decode cX12_most 83 = .ok (.iload_n 3, 1) := by decide +kernel
theorem dX12_most_84 : decode cX12_most 84 = .ok (.istore_n 3, 1) := by decide +kernel
theorem dX12_most_85 : decode cX12_most 85 = .ok (.iinc 4 1, 3) := by decide +kernel
theorem dX12_most_88 : decode cX12_most 88 = .ok (.goto (-62), 3) := by decide +kernel
theorem dX12_most_91 : decode cX12_most 91 = .ok (.iload_n 1, 1) := by decide +kernel
theorem dX12_most_92 : decode cX12_most 92 = .ok (.tableswitch 94 0 6 #[44, 46, 51, 53, 58, 73, 86], 44) := by decide +kernel
theorem dX12_most_136 : decode cX12_most 136 = .ok (.iload_n 2, 1) := by decide +kernel
theorem dX12_most_137 : decode cX12_most 137 = .ok (.ireturn, 1) := by decide +kernel
theorem dX12_most_138 : decode cX12_most 138 = .ok (.aload_n 0, 1) := by decide +kernel
theorem dX12_most_139 : decode cX12_most 139 = .ok (.invokevirtual 442, 3) := by decide +kernel
theorem dX12_most_142 : decode cX12_most 142 = .ok (.ireturn, 1) := by decide +kernel
theorem dX12_most_143 : decode cX12_most 143 = .ok (.iload_n 3, 1) := by decide +kernel
theorem dX12_most_144 : decode cX12_most 144 = .ok (.ireturn, 1) := by decide +kernel
theorem dX12_most_145 : decode cX12_most 145 = .ok (.aload_n 0, 1) := by decide +kernel
theorem dX12_most_146 : decode cX12_most 146 = .ok (.invokevirtual 445, 3) := by decide +kernel
theorem dX12_most_149 : decode cX12_most 149 = .ok (.ireturn, 1) := by decide +kernel
theorem dX12_most_150 : decode cX12_most 150 = .ok (.aload_n 0, 1) := by decide +kernel
theorem dX12_most_151 : decode cX12_most 151 = .ok (.getfield 49, 3) := by decide +kernel
theorem dX12_most_154 : decode cX12_most 154 = .ok (.iconst 0, 1) := by decide +kernel
theorem dX12_most_155 : decode cX12_most 155 = .ok (.iaload, 1) := by decide +kernel
theorem dX12_most_156 : decode cX12_most 156 = .ok (.aload_n 0, 1) := by decide +kernel
theorem dX12_most_157 : decode cX12_most 157 = .ok (.getfield 58, 3) := by decide +kernel
theorem dX12_most_160 : decode cX12_most 160 = .ok (.bipush 8, 2) := by decide +kernel
theorem dX12_most_162 : decode cX12_most 162 = .ok (.iaload, 1) := by decide +kernel
theorem dX12_most_163 : decode cX12_most 163 = .ok (.isub, 1) := by decide +kernel
theorem dX12_most_164 : decode cX12_most 164 = .ok (.ireturn, 1) := by decide +kernel
theorem dX12_most_165 : decode cX12_most 165 = .ok (.aload_n 0, 1) := by decide +kernel
theorem dX12_most_166 : decode cX12_most 166 = .ok (.invokevirtual 329, 3) := by decide +kernel
theorem dX12_most_169 : decode cX12_most 169 = .ok (.aload_n 0, 1) := by decide +kernel
theorem dX12_most_170 : decode cX12_most 170 = .ok (.getfield 58, 3) := by decide +kernel
theorem dX12_most_173 : decode cX12_most 173 = .ok (.bipush 9, 2) := by decide +kernel
theorem dX12_most_175 : decode cX12_most 175 = .ok (.iaload, 1) := by decide +kernel
theorem dX12_most_176 : decode cX12_most 176 = .ok (.isub, 1) := by decide +kernel
theorem dX12_most_177 : decode cX12_most 177 = .ok (.ireturn, 1) := by decide +kernel
theorem dX12_most_178 : decode cX12_most 178 = .ok (.aload_n 0, 1) := by decide +kernel
theorem dX12_most_179 : decode cX12_most 179 = .ok (.getfield 58, 3) := by decide +kernel
theorem dX12_most_182 : decode cX12_most 182 = .ok (.bipush 11, 2) := by decide +kernel
theorem dX12_most_184 : decode cX12_most 184 = .ok (.iaload, 1) := by decide +kernel
theorem dX12_most_185 : decode cX12_most 185 = .ok (.ireturn, 1) := by decide +kernel
theorem dX12_most_186 : decode cX12_most 186 = .ok (.aload_n 0, 1) := by decide +kernel
theorem dX12_most_187 : decode cX12_most 187 = .ok (.getfield 58, 3) := by decide +kernel
theorem dX12_most_190 : decode cX12_most 190 = .ok (.bipush 10, 2) := by decide +kernel
theorem dX12_most_192 : decode cX12_most 192 = .ok (.iaload, 1) := by decide +kernel
theorem dX12_most_193 : decode cX12_most 193 = .ok (.iconst (-1), 1) := by decide +kernel
theorem dX12_most_194 : decode cX12_most 194 = .ok (.if_icmp .ne 7, 3) := by decide +kernel
theorem dX12_most_197 : decode cX12_most 197 = .ok (.iconst 0, 1) := by decide +kernel
theorem dX12_most_198 : decode cX12_most 198 = .ok (.goto 15, 3) := by decide +kernel
theorem dX12_most_201 : decode cX12_most 201 = .ok (.aload_n 0, 1) := by decide +kernel
theorem dX12_most_202 : decode cX12_most 202 = .ok (.iconst (-1), 1) := by decide +kernel
theorem dX12_most_203 : decode cX12_most 203 = .ok (.aload_n 0, 1) := by decide +kernel
theorem dX12_most_204 : decode cX12_most 204 = .ok (.getfield 58, 3) := by decide +kernel
theorem dX12_most_207 : decode cX12_most 207 = .ok (.bipush 10, 2) := by decide +kernel
theorem dX12_most_209 : decode cX12_most 209 = .ok (.iaload, 1) := by decide +kernel
theorem dX12_most_210 : decode cX12_most 210 = .ok (.invokevirtual 305, 3) := by decide +kernel
theorem dX12_most_213 : decode cX12_most 213 = .ok (.ireturn, 1) := by decide +kernel
theorem dX12_years_0 : decode cX12_years 0 = .ok (.aload_n 0, 1) := by decide +kernel
theorem dX12_years_1 : decode cX12_years 1 = .ok (.getfield 264, 3) := by decide +kernel
theorem dX12_years_4 : decode cX12_years 4 = .ok (.ifCond .eq 14, 3) := by decide +kernel
theorem dX12_years_7 : decode cX12_years 7 = .ok (.iload_n 1, 1) := by decide +kernel
theorem dX12_years_8 : decode cX12_years 8 = .ok (.iconst 1, 1) := by decide +kernel
theorem dX12_years_9 : decode cX12_years 9 = .ok (.sipush 200, 3) := by decide +kernel
theorem dX12_years_12 : decode cX12_years 12 = .ok (.invokestatic 220, 3) := by decide +kernel
theorem dX12_years_15 : decode cX12_years 15 = .ok (.ifCond .ne 5, 3) := by decide +kernel
theorem dX12_years_18 : decode cX12_years 18 = .ok (.iconst (-1), 1) := by decide +kernel
theorem dX12_years_19 : decode cX12_years 19 = .ok (.ireturn, 1) := by decide +kernel
theorem dX12_years_20 : decode cX12_years 20 = .ok (.iconst 0, 1) := by decide +kernel
theorem dX12_years_21 : decode cX12_years 21 = .ok (.istore_n 2, 1) := by decide +kernel
theorem dX12_years_22 : decode cX12_years 22 = .ok (.iload_n 2, 1) := by decide +kernel
theorem dX12_years_23 : decode cX12_years 23 = .ok (.bipush 60, 2) := by decide +kernel
theorem dX12_years_25 : decode cX12_years 25 = .ok (.if_icmp .gt 83, 3) := by decide +kernel
theorem dX12_years_28 : decode cX12_years 28 = .ok (.iconst 0, 1) := by decide +kernel
theorem dX12_years_29 : decode cX12_years 29 = .ok (.istore_n 3, 1) := by decide +kernel
theorem dX12_years_30 : decode cX12_years 30 = .ok (.iconst 0, 1) := by decide +kernel
theorem dX12_years_31 : decode cX12_years 31 = .ok (.istore 4, 2) := by decide +kernel
theorem dX12_years_33 : decode cX12_years 33 = .ok (.iload 4, 2) := by decide +kernel
theorem dX12_years_35 : decode cX12_years 35 = .ok (.aload_n 0, 1) := by decide +kernel
theorem dX12_years_36 : decode cX12_years 36 = .ok (.getfield 264, 3) := by decide +kernel
theorem dX12_years_39 : decode cX12_years 39 = .ok (.if_icmp .ge 56, 3) := by decide +kernel
theorem dX12_years_42 : decode cX12_years 42 = .ok (.iload_n 3, 1) := by decide +kernel
theorem dX12_years_43 : decode cX12_years 43 = .ok (.aload_n 0, 1) := by decide +kernel
theorem dX12_years_44 : decode cX12_years 44 = .ok (.iload 4, 2) := by decide +kernel
theorem dX12_years_46 : decode cX12_years 46 = .ok (.invokevirtual 295, 3) := by decide +kernel
theorem dX12_years_49 : decode cX12_years 49 = .ok (.ifCond .eq 15, 3) := by decide +kernel
theorem dX12_years_52 : decode cX12_years 52 = .ok (.aload_n 0, 1) := by decide +kernel
theorem dX12_years_53 : decode cX12_years 53 = .ok (.getfield 58, 3) := by decide +kernel
theorem dX12_years_56 : decode cX12_years 56 = .ok (.iconst 0, 1) := by decide +kernel
theorem dX12_years_57 : decode cX12_years 57 = .ok (.iload 4, 2) := by decide +kernel
theorem dX12_years_59 : decode cX12_years 59 = .ok (.iadd, 1) := by decide +kernel
theorem dX12_years_60 : decode cX12_years 60 = .ok (.iaload, 1) := by decide +kernel
theorem dX12_years_61 : decode cX12_years 61 = .ok (.goto 26, 3) := by decide +kernel
theorem dX12_years_64 : decode cX12_years 64 = .ok (.bipush 30, 2) := by decide +kernel
theorem dX12_years_66 : decode cX12_years 66 = .ok (.aload_n 0, 1) := by decide +kernel
theorem dX12_years_67 : decode cX12_years 67 = .ok (.getfield 58, 3) := by decide +kernel
theorem dX12_years_70 : decode cX12_years 70 = .ok (.iconst 0, 1) := by decide +kernel
theorem dX12_years_71 : decode cX12_years 71 = .ok (.iload 4, 2) := by decide +kernel
theorem dX12_years_73 : decode cX12_years 73 = .ok (.iadd, 1) := by decide +kernel
theorem dX12_years_74 : decode cX12_years 74 = .ok (.iaload, 1) := by decide +kernel
theorem dX12_years_75 : decode cX12_years 75 = .ok (.iload_n 2, 1) := by decide +kernel
theorem dX12_years_76 : decode cX12_years 76 = .ok (.aload_n 0, 1) := by decide +kernel
theorem dX12_years_77 : decode cX12_years 77 = .ok (.getfield 49, 3) := by decide +kernel
theorem dX12_years_80 : decode cX12_years 80 = .ok (.iconst 2, 1) := by decide +kernel
theorem dX12_years_81 : decode cX12_years 81 = .ok (.iaload, 1) := by decide +kernel
theorem dX12_years_82 : decode cX12_years 82 = .ok (.imul, 1) := by decide +kernel
theorem dX12_years_83 : decode cX12_years 83 = .ok (.iadd, 1) := by decide +kernel
theorem dX12_years_84 : decode cX12_years 84 = .ok (.invokestatic 301, 3) := by decide +kernel
theorem dX12_years_87 : decode cX12_years 87 = .ok (.iadd, 1) := by decide +kernel
theorem dX12_years_88 : decode cX12_years 88 = .ok (.istore_n 3, 1) := by decide +kernel
theorem dX12_years_89 : decode cX12_years 89 = .ok (.iinc 4 1, 3) := by decide +kernel
theorem dX12_years_92 : decode cX12_years 92 = .ok (.goto (-59), 3) := by decide +kernel
theorem dX12_years_95 : decode cX12_years 95 = .ok (.iload_n 3, 1) := by decide +kernel
theorem dX12_years_96 : decode cX12_years 96 = .ok (.iload_n 1, 1) := by decide +kernel
theorem dX12_years_97 : decode cX12_years 97 = .ok (.if_icmp .lt 5, 3) := by decide +kernel
theorem dX12_years_100 : decode cX12_years 100 = .ok (.iload_n 2, 1) := by decide +kernel
theorem dX12_years_101 : decode cX12_years 101 = .ok (.ireturn, 1) := by decide +kernel
theorem dX12_years_102 : decode cX12_years 102 = .ok (.iinc 2 1, 3) := by decide +kernel
theorem dX12_years_105 : decode cX12_years 105 = .ok (.goto (-83), 3) := by decide +kernel
theorem dX12_years_108 : decode cX12_years 108 = .ok (.iconst (-1), 1) := by decide +kernel
theorem dX12_years_109 : decode cX12_years 109 = .ok (.ireturn, 1) := by decide +kernel
theorem dX12_waits_0 : decode cX12_waits 0 = .ok (.aload_n 0, 1) := by decide +kernel
theorem dX12_waits_1 : decode cX12_waits 1 = .ok (.getfield 264, 3) := by decide +kernel
theorem dX12_waits_4 : decode cX12_waits 4 = .ok (.ifCond .eq 13, 3) := by decide +kernel
theorem dX12_waits_7 : decode cX12_waits 7 = .ok (.iload_n 1, 1) := by decide +kernel
theorem dX12_waits_8 : decode cX12_waits 8 = .ok (.iconst 0, 1) := by decide +kernel
theorem dX12_waits_9 : decode cX12_waits 9 = .ok (.bipush 60, 2) := by decide +kernel
theorem dX12_waits_11 : decode cX12_waits 11 = .ok (.invokestatic 220, 3) := by decide +kernel
theorem dX12_waits_14 : decode cX12_waits 14 = .ok (.ifCond .ne 5, 3) := by decide +kernel
theorem dX12_waits_17 : decode cX12_waits 17 = .ok (.iconst (-1), 1) := by decide +kernel
theorem dX12_waits_18 : decode cX12_waits 18 = .ok (.ireturn, 1) := by decide +kernel
theorem dX12_waits_19 : decode cX12_waits 19 = .ok (.iconst 0, 1) := by decide +kernel
theorem dX12_waits_20 : decode cX12_waits 20 = .ok (.istore_n 2, 1) := by decide +kernel
theorem dX12_waits_21 : decode cX12_waits 21 = .ok (.iconst 0, 1) := by decide +kernel
theorem dX12_waits_22 : decode cX12_waits 22 = .ok (.istore_n 3, 1) := by decide +kernel
theorem dX12_waits_23 : decode cX12_waits 23 = .ok (.iload_n 3, 1) := by decide +kernel
theorem dX12_waits_24 : decode cX12_waits 24 = .ok (.aload_n 0, 1) := by decide +kernel
theorem dX12_waits_25 : decode cX12_waits 25 = .ok (.getfield 264, 3) := by decide +kernel
theorem dX12_waits_28 : decode cX12_waits 28 = .ok (.if_icmp .ge 42, 3) := by decide +kernel
theorem dX12_waits_31 : decode cX12_waits 31 = .ok (.iload_n 2, 1) := by decide +kernel
theorem dX12_waits_32 : decode cX12_waits 32 = .ok (.aload_n 0, 1) := by decide +kernel
theorem dX12_waits_33 : decode cX12_waits 33 = .ok (.getfield 58, 3) := by decide +kernel
theorem dX12_waits_36 : decode cX12_waits 36 = .ok (.bipush 11, 2) := by decide +kernel
theorem dX12_waits_38 : decode cX12_waits 38 = .ok (.iaload, 1) := by decide +kernel
theorem dX12_waits_39 : decode cX12_waits 39 = .ok (.iload_n 3, 1) := by decide +kernel
theorem dX12_waits_40 : decode cX12_waits 40 = .ok (.invokestatic 231, 3) := by decide +kernel
theorem dX12_waits_43 : decode cX12_waits 43 = .ok (.ifCond .ne 18, 3) := by decide +kernel
theorem dX12_waits_46 : decode cX12_waits 46 = .ok (.aload_n 0, 1) := by decide +kernel
theorem dX12_waits_47 : decode cX12_waits 47 = .ok (.iload_n 3, 1) := by decide +kernel
theorem dX12_waits_48 : decode cX12_waits 48 = .ok (.invokevirtual 326, 3) := by decide +kernel
theorem dX12_waits_51 : decode cX12_waits 51 = .ok (.iload_n 1, 1) := by decide +kernel
theorem dX12_waits_52 : decode cX12_waits 52 = .ok (.if_icmp .lt 9, 3) := by decide +kernel
theorem dX12_waits_55 : decode cX12_waits 55 = .ok (.iconst 1, 1) := by decide +kernel
theorem dX12_waits_56 : decode cX12_waits 56 = .ok (.iload_n 3, 1) := by decide +kernel
theorem dX12_waits_57 : decode cX12_waits 57 = .ok (.ishl, 1) := by decide +kernel
theorem dX12_waits_58 : decode cX12_waits 58 = .ok (.goto 4, 3) := by decide +kernel
theorem dX12_waits_61 : decode cX12_waits 61 = .ok (.iconst 0, 1) := by decide +kernel
theorem dX12_waits_62 : decode cX12_waits 62 = .ok (.ior, 1) := by decide +kernel
theorem dX12_waits_63 : decode cX12_waits 63 = .ok (.istore_n 2, 1) := by decide +kernel
theorem dX12_waits_64 : decode cX12_waits 64 = .ok (.iinc 3 1, 3) := by decide +kernel
theorem dX12_waits_67 : decode cX12_waits 67 = .ok (.goto (-44), 3) := by decide +kernel
theorem dX12_waits_70 : decode cX12_waits 70 = .ok (.iload_n 2, 1) := by decide +kernel
theorem dX12_waits_71 : decode cX12_waits 71 = .ok (.ireturn, 1) := by decide +kernel
theorem dX12_remains_0 : decode cX12_remains 0 = .ok (.aload_n 0, 1) := by decide +kernel
theorem dX12_remains_1 : decode cX12_remains 1 = .ok (.iload_n 1, 1) := by decide +kernel
theorem dX12_remains_2 : decode cX12_remains 2 = .ok (.invokevirtual 332, 3) := by decide +kernel
theorem dX12_remains_5 : decode cX12_remains 5 = .ok (.ifCond .eq 18, 3) := by decide +kernel
theorem dX12_remains_8 : decode cX12_remains 8 = .ok (.aload_n 0, 1) := by decide +kernel
theorem dX12_remains_9 : decode cX12_remains 9 = .ok (.getfield 49, 3) := by decide +kernel
theorem dX12_remains_12 : decode cX12_remains 12 = .ok (.iconst 0, 1) := by decide +kernel
theorem dX12_remains_13 : decode cX12_remains 13 = .ok (.iaload, 1) := by decide +kernel
theorem dX12_remains_14 : decode cX12_remains 14 = .ok (.aload_n 0, 1) := by decide +kernel
theorem dX12_remains_15 : decode cX12_remains 15 = .ok (.iload_n 1, 1) := by decide +kernel
theorem dX12_remains_16 : decode cX12_remains 16 = .ok (.invokevirtual 335, 3) := by decide +kernel
theorem dX12_remains_19 : decode cX12_remains 19 = .ok (.isub, 1) := by decide +kernel
theorem dX12_remains_20 : decode cX12_remains 20 = .ok (.goto 6, 3) := by decide +kernel
theorem dX12_remains_23 : decode cX12_remains 23 = .ok (.ldc_w 418, 3) := by decide +kernel
theorem dX12_remains_26 : decode cX12_remains 26 = .ok (.ireturn, 1) := by decide +kernel
theorem dX12_image_0 : decode cX12_image 0 = .ok (.aload_n 0, 1) := by decide +kernel
theorem dX12_image_1 : decode cX12_image 1 = .ok (.getfield 264, 3) := by decide +kernel
theorem dX12_image_4 : decode cX12_image 4 = .ok (.ifCond .ne 5, 3) := by decide +kernel
theorem dX12_image_7 : decode cX12_image 7 = .ok (.iconst (-1), 1) := by decide +kernel
theorem dX12_image_8 : decode cX12_image 8 = .ok (.ireturn, 1) := by decide +kernel
theorem dX12_image_9 : decode cX12_image 9 = .ok (.iconst 0, 1) := by decide +kernel
theorem dX12_image_10 : decode cX12_image 10 = .ok (.istore_n 1, 1) := by decide +kernel
theorem dX12_image_11 : decode cX12_image 11 = .ok (.iload_n 1, 1) := by decide +kernel
theorem dX12_image_12 : decode cX12_image 12 = .ok (.sipush 255, 3) := by decide +kernel
theorem dX12_image_15 : decode cX12_image 15 = .ok (.if_icmp .ge 21, 3) := by decide +kernel
theorem dX12_image_18 : decode cX12_image 18 = .ok (.aload_n 0, 1) := by decide +kernel
theorem dX12_image_19 : decode cX12_image 19 = .ok (.getfield 102, 3) := by decide +kernel
theorem dX12_image_22 : decode cX12_image 22 = .ok (.iload_n 1, 1) := by decide +kernel
theorem dX12_image_23 : decode cX12_image 23 = .ok (.aload_n 0, 1) := by decide +kernel
theorem dX12_image_24 : decode cX12_image 24 = .ok (.getfield 58, 3) := by decide +kernel
theorem dX12_image_27 : decode cX12_image 27 = .ok (.iload_n 1, 1) := by decide +kernel
theorem dX12_image_28 : decode cX12_image 28 = .ok (.iaload, 1) := by decide +kernel
theorem dX12_image_29 : decode cX12_image 29 = .ok (.iastore, 1) := by decide +kernel
theorem dX12_image_30 : decode cX12_image 30 = .ok (.iinc 1 1, 3) := by decide +kernel
theorem dX12_image_33 : decode cX12_image 33 = .ok (.goto (-22), 3) := by decide +kernel
theorem dX12_image_36 : decode cX12_image 36 = .ok (.aload_n 0, 1) := by decide +kernel
theorem dX12_image_37 : decode cX12_image 37 = .ok (.iconst 1, 1) := by decide +kernel
theorem dX12_image_38 : decode cX12_image 38 = .ok (.putfield 282, 3) := by decide +kernel
theorem dX12_image_41 : decode cX12_image 41 = .ok (.aload_n 0, 1) := by decide +kernel
theorem dX12_image_42 : decode cX12_image 42 = .ok (.getfield 58, 3) := by decide +kernel
theorem dX12_image_45 : decode cX12_image 45 = .ok (.bipush 12, 2) := by decide +kernel
theorem dX12_image_47 : decode cX12_image 47 = .ok (.iaload, 1) := by decide +kernel
theorem dX12_image_48 : decode cX12_image 48 = .ok (.ireturn, 1) := by decide +kernel
theorem dX12_back_0 : decode cX12_back 0 = .ok (.aload_n 0, 1) := by decide +kernel
theorem dX12_back_1 : decode cX12_back 1 = .ok (.getfield 282, 3) := by decide +kernel
theorem dX12_back_4 : decode cX12_back 4 = .ok (.ifCond .ne 5, 3) := by decide +kernel
theorem dX12_back_7 : decode cX12_back 7 = .ok (.iconst (-1), 1) := by decide +kernel
theorem dX12_back_8 : decode cX12_back 8 = .ok (.ireturn, 1) := by decide +kernel
theorem dX12_back_9 : decode cX12_back 9 = .ok (.iconst 0, 1) := by decide +kernel
theorem dX12_back_10 : decode cX12_back 10 = .ok (.istore_n 1, 1) := by decide +kernel
theorem dX12_back_11 : decode cX12_back 11 = .ok (.iload_n 1, 1) := by decide +kernel
theorem dX12_back_12 : decode cX12_back 12 = .ok (.sipush 255, 3) := by decide +kernel
theorem dX12_back_15 : decode cX12_back 15 = .ok (.if_icmp .ge 21, 3) := by decide +kernel
theorem dX12_back_18 : decode cX12_back 18 = .ok (.aload_n 0, 1) := by decide +kernel
theorem dX12_back_19 : decode cX12_back 19 = .ok (.getfield 58, 3) := by decide +kernel
theorem dX12_back_22 : decode cX12_back 22 = .ok (.iload_n 1, 1) := by decide +kernel
theorem dX12_back_23 : decode cX12_back 23 = .ok (.aload_n 0, 1) := by decide +kernel
theorem dX12_back_24 : decode cX12_back 24 = .ok (.getfield 102, 3) := by decide +kernel
theorem dX12_back_27 : decode cX12_back 27 = .ok (.iload_n 1, 1) := by decide +kernel
theorem dX12_back_28 : decode cX12_back 28 = .ok (.iaload, 1) := by decide +kernel
theorem dX12_back_29 : decode cX12_back 29 = .ok (.iastore, 1) := by decide +kernel
theorem dX12_back_30 : decode cX12_back 30 = .ok (.iinc 1 1, 3) := by decide +kernel
theorem dX12_back_33 : decode cX12_back 33 = .ok (.goto (-22), 3) := by decide +kernel
theorem dX12_back_36 : decode cX12_back 36 = .ok (.aload_n 0, 1) := by decide +kernel
theorem dX12_back_37 : decode cX12_back 37 = .ok (.iconst 0, 1) := by decide +kernel
theorem dX12_back_38 : decode cX12_back 38 = .ok (.putfield 279, 3) := by decide +kernel
theorem dX12_back_41 : decode cX12_back 41 = .ok (.aload_n 0, 1) := by decide +kernel
theorem dX12_back_42 : decode cX12_back 42 = .ok (.getfield 58, 3) := by decide +kernel
theorem dX12_back_45 : decode cX12_back 45 = .ok (.bipush 12, 2) := by decide +kernel
theorem dX12_back_47 : decode cX12_back 47 = .ok (.iaload, 1) := by decide +kernel
theorem dX12_back_48 : decode cX12_back 48 = .ok (.ireturn, 1) := by decide +kernel
theorem dX12_count_0 : decode cX12_count 0 = .ok (.iload_n 1, 1) := by decide +kernel
theorem dX12_count_1 : decode cX12_count 1 = .ok (.tableswitch 188 0 15 #[79, 84, 89, 94, 99, 104, 112, 120, 139, 144, 152, 160, 165, 170, 175, 183], 79) := by decide +kernel
theorem dX12_count_80 : decode cX12_count 80 = .ok (.aload_n 0, 1) := by decide +kernel
theorem dX12_count_81 : decode cX12_count 81 = .ok (.getfield 264, 3) := by decide +kernel
theorem dX12_count_84 : decode cX12_count 84 = .ok (.ireturn, 1) := by decide +kernel
theorem dX12_count_85 : decode cX12_count 85 = .ok (.aload_n 0, 1) := by decide +kernel
theorem dX12_count_86 : decode cX12_count 86 = .ok (.getfield 267, 3) := by decide +kernel
theorem dX12_count_89 : decode cX12_count 89 = .ok (.ireturn, 1) := by decide +kernel
theorem dX12_count_90 : decode cX12_count 90 = .ok (.aload_n 0, 1) := by decide +kernel
theorem dX12_count_91 : decode cX12_count 91 = .ok (.getfield 289, 3) := by decide +kernel
theorem dX12_count_94 : decode cX12_count 94 = .ok (.ireturn, 1) := by decide +kernel
theorem dX12_count_95 : decode cX12_count 95 = .ok (.aload_n 0, 1) := by decide +kernel
theorem dX12_count_96 : decode cX12_count 96 = .ok (.getfield 112, 3) := by decide +kernel
theorem dX12_count_99 : decode cX12_count 99 = .ok (.ireturn, 1) := by decide +kernel
theorem dX12_count_100 : decode cX12_count 100 = .ok (.aload_n 0, 1) := by decide +kernel
theorem dX12_count_101 : decode cX12_count 101 = .ok (.getfield 64, 3) := by decide +kernel
theorem dX12_count_104 : decode cX12_count 104 = .ok (.ireturn, 1) := by decide +kernel
theorem dX12_count_105 : decode cX12_count 105 = .ok (.aload_n 0, 1) := by decide +kernel
theorem dX12_count_106 : decode cX12_count 106 = .ok (.getfield 58, 3) := by decide +kernel
theorem dX12_count_109 : decode cX12_count 109 = .ok (.bipush 12, 2) := by decide +kernel
theorem dX12_count_111 : decode cX12_count 111 = .ok (.iaload, 1) := by decide +kernel
theorem dX12_count_112 : decode cX12_count 112 = .ok (.ireturn, 1) := by decide +kernel
theorem dX12_count_113 : decode cX12_count 113 = .ok (.aload_n 0, 1) := by decide +kernel
theorem dX12_count_114 : decode cX12_count 114 = .ok (.getfield 58, 3) := by decide +kernel
theorem dX12_count_117 : decode cX12_count 117 = .ok (.bipush 8, 2) := by decide +kernel
theorem dX12_count_119 : decode cX12_count 119 = .ok (.iaload, 1) := by decide +kernel
theorem dX12_count_120 : decode cX12_count 120 = .ok (.ireturn, 1) := by decide +kernel
theorem dX12_count_121 : decode cX12_count 121 = .ok (.aload_n 0, 1) := by decide +kernel
theorem dX12_count_122 : decode cX12_count 122 = .ok (.getfield 264, 3) := by decide +kernel
theorem dX12_count_125 : decode cX12_count 125 = .ok (.ifCond .ne 7, 3) := by decide +kernel
theorem dX12_count_128 : decode cX12_count 128 = .ok (.iconst (-1), 1) := by decide +kernel
theorem dX12_count_129 : decode cX12_count 129 = .ok (.goto 10, 3) := by decide +kernel
theorem dX12_count_132 : decode cX12_count 132 = .ok (.aload_n 0, 1) := by decide +kernel
theorem dX12_count_133 : decode cX12_count 133 = .ok (.getfield 58, 3) := by decide +kernel
theorem dX12_count_136 : decode cX12_count 136 = .ok (.bipush 10, 2) := by decide +kernel
theorem dX12_count_138 : decode cX12_count 138 = .ok (.iaload, 1) := by decide +kernel
theorem dX12_count_139 : decode cX12_count 139 = .ok (.ireturn, 1) := by decide +kernel
theorem dX12_count_140 : decode cX12_count 140 = .ok (.aload_n 0, 1) := by decide +kernel
theorem dX12_count_141 : decode cX12_count 141 = .ok (.invokevirtual 316, 3) := by decide +kernel
theorem dX12_count_144 : decode cX12_count 144 = .ok (.ireturn, 1) := by decide +kernel
theorem dX12_count_145 : decode cX12_count 145 = .ok (.aload_n 0, 1) := by decide +kernel
theorem dX12_count_146 : decode cX12_count 146 = .ok (.getfield 58, 3) := by decide +kernel
theorem dX12_count_149 : decode cX12_count 149 = .ok (.bipush 9, 2) := by decide +kernel
theorem dX12_count_151 : decode cX12_count 151 = .ok (.iaload, 1) := by decide +kernel
theorem dX12_count_152 : decode cX12_count 152 = .ok (.ireturn, 1) := by decide +kernel
theorem dX12_count_153 : decode cX12_count 153 = .ok (.aload_n 0, 1) := by decide +kernel
theorem dX12_count_154 : decode cX12_count 154 = .ok (.getfield 58, 3) := by decide +kernel
theorem dX12_count_157 : decode cX12_count 157 = .ok (.bipush 13, 2) := by decide +kernel
theorem dX12_count_159 : decode cX12_count 159 = .ok (.iaload, 1) := by decide +kernel
theorem dX12_count_160 : decode cX12_count 160 = .ok (.ireturn, 1) := by decide +kernel
theorem dX12_count_161 : decode cX12_count 161 = .ok (.aload_n 0, 1) := by decide +kernel
theorem dX12_count_162 : decode cX12_count 162 = .ok (.getfield 68, 3) := by decide +kernel
theorem dX12_count_165 : decode cX12_count 165 = .ok (.ireturn, 1) := by decide +kernel
theorem dX12_count_166 : decode cX12_count 166 = .ok (.aload_n 0, 1) := by decide +kernel
theorem dX12_count_167 : decode cX12_count 167 = .ok (.getfield 273, 3) := by decide +kernel
theorem dX12_count_170 : decode cX12_count 170 = .ok (.ireturn, 1) := by decide +kernel
theorem dX12_count_171 : decode cX12_count 171 = .ok (.aload_n 0, 1) := by decide +kernel
theorem dX12_count_172 : decode cX12_count 172 = .ok (.getfield 276, 3) := by decide +kernel
theorem dX12_count_175 : decode cX12_count 175 = .ok (.ireturn, 1) := by decide +kernel
theorem dX12_count_176 : decode cX12_count 176 = .ok (.aload_n 0, 1) := by decide +kernel
theorem dX12_count_177 : decode cX12_count 177 = .ok (.getfield 58, 3) := by decide +kernel
theorem dX12_count_180 : decode cX12_count 180 = .ok (.bipush 14, 2) := by decide +kernel
theorem dX12_count_182 : decode cX12_count 182 = .ok (.iaload, 1) := by decide +kernel
theorem dX12_count_183 : decode cX12_count 183 = .ok (.ireturn, 1) := by decide +kernel
theorem dX12_count_184 : decode cX12_count 184 = .ok (.aload_n 0, 1) := by decide +kernel
theorem dX12_count_185 : decode cX12_count 185 = .ok (.getfield 279, 3) := by decide +kernel
theorem dX12_count_188 : decode cX12_count 188 = .ok (.ireturn, 1) := by decide +kernel
theorem dX12_count_189 : decode cX12_count 189 = .ok (.ldc_w 418, 3) := by decide +kernel
theorem dX12_count_192 : decode cX12_count 192 = .ok (.ireturn, 1) := by decide +kernel
theorem dJ6_bitCount_0f7a4_0 : decode cJ6_bitCount_0f7a4 0 = .ok (.iload_n 0, 1) := by decide +kernel
theorem dJ6_bitCount_0f7a4_1 : decode cJ6_bitCount_0f7a4 1 = .ok (.iload_n 0, 1) := by decide +kernel
theorem dJ6_bitCount_0f7a4_2 : decode cJ6_bitCount_0f7a4 2 = .ok (.iconst 1, 1) := by decide +kernel
theorem dJ6_bitCount_0f7a4_3 : decode cJ6_bitCount_0f7a4 3 = .ok (.iushr, 1) := by decide +kernel
theorem dJ6_bitCount_0f7a4_4 : decode cJ6_bitCount_0f7a4 4 = .ok (.ldc_w 265, 3) := by decide +kernel
theorem dJ6_bitCount_0f7a4_7 : decode cJ6_bitCount_0f7a4 7 = .ok (.iand, 1) := by decide +kernel
theorem dJ6_bitCount_0f7a4_8 : decode cJ6_bitCount_0f7a4 8 = .ok (.isub, 1) := by decide +kernel
theorem dJ6_bitCount_0f7a4_9 : decode cJ6_bitCount_0f7a4 9 = .ok (.istore_n 0, 1) := by decide +kernel
theorem dJ6_bitCount_0f7a4_10 : decode cJ6_bitCount_0f7a4 10 = .ok (.iload_n 0, 1) := by decide +kernel
theorem dJ6_bitCount_0f7a4_11 : decode cJ6_bitCount_0f7a4 11 = .ok (.ldc_w 266, 3) := by decide +kernel
theorem dJ6_bitCount_0f7a4_14 : decode cJ6_bitCount_0f7a4 14 = .ok (.iand, 1) := by decide +kernel
theorem dJ6_bitCount_0f7a4_15 : decode cJ6_bitCount_0f7a4 15 = .ok (.iload_n 0, 1) := by decide +kernel
theorem dJ6_bitCount_0f7a4_16 : decode cJ6_bitCount_0f7a4 16 = .ok (.iconst 2, 1) := by decide +kernel
theorem dJ6_bitCount_0f7a4_17 : decode cJ6_bitCount_0f7a4 17 = .ok (.iushr, 1) := by decide +kernel
theorem dJ6_bitCount_0f7a4_18 : decode cJ6_bitCount_0f7a4 18 = .ok (.ldc_w 266, 3) := by decide +kernel
theorem dJ6_bitCount_0f7a4_21 : decode cJ6_bitCount_0f7a4 21 = .ok (.iand, 1) := by decide +kernel
theorem dJ6_bitCount_0f7a4_22 : decode cJ6_bitCount_0f7a4 22 = .ok (.iadd, 1) := by decide +kernel
theorem dJ6_bitCount_0f7a4_23 : decode cJ6_bitCount_0f7a4 23 = .ok (.istore_n 0, 1) := by decide +kernel
theorem dJ6_bitCount_0f7a4_24 : decode cJ6_bitCount_0f7a4 24 = .ok (.iload_n 0, 1) := by decide +kernel
theorem dJ6_bitCount_0f7a4_25 : decode cJ6_bitCount_0f7a4 25 = .ok (.iload_n 0, 1) := by decide +kernel
theorem dJ6_bitCount_0f7a4_26 : decode cJ6_bitCount_0f7a4 26 = .ok (.iconst 4, 1) := by decide +kernel
theorem dJ6_bitCount_0f7a4_27 : decode cJ6_bitCount_0f7a4 27 = .ok (.iushr, 1) := by decide +kernel
theorem dJ6_bitCount_0f7a4_28 : decode cJ6_bitCount_0f7a4 28 = .ok (.iadd, 1) := by decide +kernel
theorem dJ6_bitCount_0f7a4_29 : decode cJ6_bitCount_0f7a4 29 = .ok (.ldc_w 267, 3) := by decide +kernel
theorem dJ6_bitCount_0f7a4_32 : decode cJ6_bitCount_0f7a4 32 = .ok (.iand, 1) := by decide +kernel
theorem dJ6_bitCount_0f7a4_33 : decode cJ6_bitCount_0f7a4 33 = .ok (.istore_n 0, 1) := by decide +kernel
theorem dJ6_bitCount_0f7a4_34 : decode cJ6_bitCount_0f7a4 34 = .ok (.iload_n 0, 1) := by decide +kernel
theorem dJ6_bitCount_0f7a4_35 : decode cJ6_bitCount_0f7a4 35 = .ok (.iload_n 0, 1) := by decide +kernel
theorem dJ6_bitCount_0f7a4_36 : decode cJ6_bitCount_0f7a4 36 = .ok (.bipush 8, 2) := by decide +kernel
theorem dJ6_bitCount_0f7a4_38 : decode cJ6_bitCount_0f7a4 38 = .ok (.iushr, 1) := by decide +kernel
theorem dJ6_bitCount_0f7a4_39 : decode cJ6_bitCount_0f7a4 39 = .ok (.iadd, 1) := by decide +kernel
theorem dJ6_bitCount_0f7a4_40 : decode cJ6_bitCount_0f7a4 40 = .ok (.istore_n 0, 1) := by decide +kernel
theorem dJ6_bitCount_0f7a4_41 : decode cJ6_bitCount_0f7a4 41 = .ok (.iload_n 0, 1) := by decide +kernel
theorem dJ6_bitCount_0f7a4_42 : decode cJ6_bitCount_0f7a4 42 = .ok (.iload_n 0, 1) := by decide +kernel
theorem dJ6_bitCount_0f7a4_43 : decode cJ6_bitCount_0f7a4 43 = .ok (.bipush 16, 2) := by decide +kernel
theorem dJ6_bitCount_0f7a4_45 : decode cJ6_bitCount_0f7a4 45 = .ok (.iushr, 1) := by decide +kernel
theorem dJ6_bitCount_0f7a4_46 : decode cJ6_bitCount_0f7a4 46 = .ok (.iadd, 1) := by decide +kernel
theorem dJ6_bitCount_0f7a4_47 : decode cJ6_bitCount_0f7a4 47 = .ok (.istore_n 0, 1) := by decide +kernel
theorem dJ6_bitCount_0f7a4_48 : decode cJ6_bitCount_0f7a4 48 = .ok (.iload_n 0, 1) := by decide +kernel
theorem dJ6_bitCount_0f7a4_49 : decode cJ6_bitCount_0f7a4 49 = .ok (.bipush 63, 2) := by decide +kernel
theorem dJ6_bitCount_0f7a4_51 : decode cJ6_bitCount_0f7a4 51 = .ok (.iand, 1) := by decide +kernel
theorem dJ6_bitCount_0f7a4_52 : decode cJ6_bitCount_0f7a4 52 = .ok (.ireturn, 1) := by decide +kernel
theorem dJ9_floorMod_7cf53_0 : decode cJ9_floorMod_7cf53 0 = .ok (.iload_n 0, 1) := by decide +kernel
theorem dJ9_floorMod_7cf53_1 : decode cJ9_floorMod_7cf53 1 = .ok (.iload_n 1, 1) := by decide +kernel
theorem dJ9_floorMod_7cf53_2 : decode cJ9_floorMod_7cf53 2 = .ok (.irem, 1) := by decide +kernel
theorem dJ9_floorMod_7cf53_3 : decode cJ9_floorMod_7cf53 3 = .ok (.istore_n 2, 1) := by decide +kernel
theorem dJ9_floorMod_7cf53_4 : decode cJ9_floorMod_7cf53 4 = .ok (.iload_n 0, 1) := by decide +kernel
theorem dJ9_floorMod_7cf53_5 : decode cJ9_floorMod_7cf53 5 = .ok (.iload_n 1, 1) := by decide +kernel
theorem dJ9_floorMod_7cf53_6 : decode cJ9_floorMod_7cf53 6 = .ok (.ixor, 1) := by decide +kernel
theorem dJ9_floorMod_7cf53_7 : decode cJ9_floorMod_7cf53 7 = .ok (.ifCond .ge 11, 3) := by decide +kernel
theorem dJ9_floorMod_7cf53_10 : decode cJ9_floorMod_7cf53 10 = .ok (.iload_n 2, 1) := by decide +kernel
theorem dJ9_floorMod_7cf53_11 : decode cJ9_floorMod_7cf53 11 = .ok (.ifCond .eq 7, 3) := by decide +kernel
theorem dJ9_floorMod_7cf53_14 : decode cJ9_floorMod_7cf53 14 = .ok (.iload_n 2, 1) := by decide +kernel
theorem dJ9_floorMod_7cf53_15 : decode cJ9_floorMod_7cf53 15 = .ok (.iload_n 1, 1) := by decide +kernel
theorem dJ9_floorMod_7cf53_16 : decode cJ9_floorMod_7cf53 16 = .ok (.iadd, 1) := by decide +kernel
theorem dJ9_floorMod_7cf53_17 : decode cJ9_floorMod_7cf53 17 = .ok (.ireturn, 1) := by decide +kernel
theorem dJ9_floorMod_7cf53_18 : decode cJ9_floorMod_7cf53 18 = .ok (.iload_n 2, 1) := by decide +kernel
theorem dJ9_floorMod_7cf53_19 : decode cJ9_floorMod_7cf53 19 = .ok (.ireturn, 1) := by decide +kernel
theorem dJ9_abs_0f7a4_0 : decode cJ9_abs_0f7a4 0 = .ok (.iload_n 0, 1) := by decide +kernel
theorem dJ9_abs_0f7a4_1 : decode cJ9_abs_0f7a4 1 = .ok (.ifCond .ge 8, 3) := by decide +kernel
theorem dJ9_abs_0f7a4_4 : decode cJ9_abs_0f7a4 4 = .ok (.iload_n 0, 1) := by decide +kernel
theorem dJ9_abs_0f7a4_5 : decode cJ9_abs_0f7a4 5 = .ok (.ineg, 1) := by decide +kernel
theorem dJ9_abs_0f7a4_6 : decode cJ9_abs_0f7a4 6 = .ok (.goto 4, 3) := by decide +kernel
theorem dJ9_abs_0f7a4_9 : decode cJ9_abs_0f7a4 9 = .ok (.iload_n 0, 1) := by decide +kernel
theorem dJ9_abs_0f7a4_10 : decode cJ9_abs_0f7a4 10 = .ok (.ireturn, 1) := by decide +kernel
theorem dJ9_max_7cf53_0 : decode cJ9_max_7cf53 0 = .ok (.iload_n 0, 1) := by decide +kernel
theorem dJ9_max_7cf53_1 : decode cJ9_max_7cf53 1 = .ok (.iload_n 1, 1) := by decide +kernel
theorem dJ9_max_7cf53_2 : decode cJ9_max_7cf53 2 = .ok (.if_icmp .lt 7, 3) := by decide +kernel
theorem dJ9_max_7cf53_5 : decode cJ9_max_7cf53 5 = .ok (.iload_n 0, 1) := by decide +kernel
theorem dJ9_max_7cf53_6 : decode cJ9_max_7cf53 6 = .ok (.goto 4, 3) := by decide +kernel
theorem dJ9_max_7cf53_9 : decode cJ9_max_7cf53 9 = .ok (.iload_n 1, 1) := by decide +kernel
theorem dJ9_max_7cf53_10 : decode cJ9_max_7cf53 10 = .ok (.ireturn, 1) := by decide +kernel
theorem dJ9_max_f86c9_0 : decode cJ9_max_f86c9 0 = .ok (.lload_n 0, 1) := by decide +kernel
theorem dJ9_max_f86c9_1 : decode cJ9_max_f86c9 1 = .ok (.lload_n 2, 1) := by decide +kernel
theorem dJ9_max_f86c9_2 : decode cJ9_max_f86c9 2 = .ok (.lcmp, 1) := by decide +kernel
theorem dJ9_max_f86c9_3 : decode cJ9_max_f86c9 3 = .ok (.ifCond .lt 7, 3) := by decide +kernel
theorem dJ9_max_f86c9_6 : decode cJ9_max_f86c9 6 = .ok (.lload_n 0, 1) := by decide +kernel
theorem dJ9_max_f86c9_7 : decode cJ9_max_f86c9 7 = .ok (.goto 4, 3) := by decide +kernel
theorem dJ9_max_f86c9_10 : decode cJ9_max_f86c9 10 = .ok (.lload_n 2, 1) := by decide +kernel
theorem dJ9_max_f86c9_11 : decode cJ9_max_f86c9 11 = .ok (.lreturn, 1) := by decide +kernel
theorem dJ9_min_7cf53_0 : decode cJ9_min_7cf53 0 = .ok (.iload_n 0, 1) := by decide +kernel
theorem dJ9_min_7cf53_1 : decode cJ9_min_7cf53 1 = .ok (.iload_n 1, 1) := by decide +kernel
theorem dJ9_min_7cf53_2 : decode cJ9_min_7cf53 2 = .ok (.if_icmp .gt 7, 3) := by decide +kernel
theorem dJ9_min_7cf53_5 : decode cJ9_min_7cf53 5 = .ok (.iload_n 0, 1) := by decide +kernel
theorem dJ9_min_7cf53_6 : decode cJ9_min_7cf53 6 = .ok (.goto 4, 3) := by decide +kernel
theorem dJ9_min_7cf53_9 : decode cJ9_min_7cf53 9 = .ok (.iload_n 1, 1) := by decide +kernel
theorem dJ9_min_7cf53_10 : decode cJ9_min_7cf53 10 = .ok (.ireturn, 1) := by decide +kernel
theorem dJ9_min_f86c9_0 : decode cJ9_min_f86c9 0 = .ok (.lload_n 0, 1) := by decide +kernel
theorem dJ9_min_f86c9_1 : decode cJ9_min_f86c9 1 = .ok (.lload_n 2, 1) := by decide +kernel
theorem dJ9_min_f86c9_2 : decode cJ9_min_f86c9 2 = .ok (.lcmp, 1) := by decide +kernel
theorem dJ9_min_f86c9_3 : decode cJ9_min_f86c9 3 = .ok (.ifCond .gt 7, 3) := by decide +kernel
theorem dJ9_min_f86c9_6 : decode cJ9_min_f86c9 6 = .ok (.lload_n 0, 1) := by decide +kernel
theorem dJ9_min_f86c9_7 : decode cJ9_min_f86c9 7 = .ok (.goto 4, 3) := by decide +kernel
theorem dJ9_min_f86c9_10 : decode cJ9_min_f86c9 10 = .ok (.lload_n 2, 1) := by decide +kernel
theorem dJ9_min_f86c9_11 : decode cJ9_min_f86c9 11 = .ok (.lreturn, 1) := by decide +kernel
theorem dL_house_0 : decode cL_house 0 = .ok (.aload_n 3, 1) := by decide +kernel
theorem dL_house_1 : decode cL_house 1 = .ok (.iconst 0, 1) := by decide +kernel
theorem dL_house_2 : decode cL_house 2 = .ok (.aload_n 0, 1) := by decide +kernel
theorem dL_house_3 : decode cL_house 3 = .ok (.iload_n 1, 1) := by decide +kernel
theorem dL_house_4 : decode cL_house 4 = .ok (.iload_n 2, 1) := by decide +kernel
theorem dL_house_5 : decode cL_house 5 = .ok (.invokevirtual 7, 3) := by decide +kernel
theorem dL_house_8 : decode cL_house 8 = .ok (.i2l, 1) := by decide +kernel
theorem dL_house_9 : decode cL_house 9 = .ok (.lastore, 1) := by decide +kernel
theorem dL_house_10 : decode cL_house 10 = .ok (.goto 7, 3) := by decide +kernel
theorem dL_house_13 : decode cL_house 13 = .ok (.astore 4, 2) := by decide +kernel
theorem dL_house_15 : decode cL_house 15 = .ok (.iconst 1, 1) := by decide +kernel
theorem dL_house_16 : decode cL_house 16 = .ok (.ireturn, 1) := by decide +kernel
theorem dL_house_17 : decode cL_house 17 = .ok (.iconst 0, 1) := by decide +kernel
theorem dL_house_18 : decode cL_house 18 = .ok (.ireturn, 1) := by decide +kernel
theorem dL_law_0 : decode cL_law 0 = .ok (.new 8, 3) := by decide +kernel
theorem dL_law_3 : decode cL_law 3 = .ok (.dup, 1) := by decide +kernel
theorem dL_law_4 : decode cL_law 4 = .ok (.invokespecial 15, 3) := by decide +kernel
theorem dL_law_7 : decode cL_law 7 = .ok (.astore_n 1, 1) := by decide +kernel
theorem dL_law_8 : decode cL_law 8 = .ok (.new 16, 3) := by decide +kernel
theorem dL_law_11 : decode cL_law 11 = .ok (.dup, 1) := by decide +kernel
theorem dL_law_12 : decode cL_law 12 = .ok (.invokespecial 18, 3) := by decide +kernel
theorem dL_law_15 : decode cL_law 15 = .ok (.astore_n 2, 1) := by decide +kernel
theorem dL_law_16 : decode cL_law 16 = .ok (.iconst 1, 1) := by decide +kernel
theorem dL_law_17 : decode cL_law 17 = .ok (.newarray .long, 2) := by decide +kernel
theorem dL_law_19 : decode cL_law 19 = .ok (.astore_n 3, 1) := by decide +kernel
theorem dL_law_20 : decode cL_law 20 = .ok (.iconst 0, 1) := by decide +kernel
theorem dL_law_21 : decode cL_law 21 = .ok (.istore 4, 2) := by decide +kernel
theorem dL_law_23 : decode cL_law 23 = .ok (.iload 4, 2) := by decide +kernel
theorem dL_law_25 : decode cL_law 25 = .ok (.aload_n 0, 1) := by decide +kernel
theorem dL_law_26 : decode cL_law 26 = .ok (.arraylength, 1) := by decide +kernel
theorem dL_law_27 : decode cL_law 27 = .ok (.bipush 6, 2) := by decide +kernel
theorem dL_law_29 : decode cL_law 29 = .ok (.isub, 1) := by decide +kernel
theorem dL_law_30 : decode cL_law 30 = .ok (.if_icmp .gt 1557, 3) := by decide +kernel
theorem dL_law_33 : decode cL_law 33 = .ok (.aload_n 0, 1) := by decide +kernel
theorem dL_law_34 : decode cL_law 34 = .ok (.iload 4, 2) := by decide +kernel
theorem dL_law_36 : decode cL_law 36 = .ok (.iaload, 1) := by decide +kernel
theorem dL_law_37 : decode cL_law 37 = .ok (.bipush 63, 2) := by decide +kernel
theorem dL_law_39 : decode cL_law 39 = .ok (.iand, 1) := by decide +kernel
theorem dL_law_40 : decode cL_law 40 = .ok (.tableswitch 1541 0 41 #[184, 257, 282, 307, 332, 357, 425, 450, 475, 512, 537, 562, 575, 612, 637, 650, 675, 744, 769, 782, 819, 844, 869, 906, 931, 980, 1017, 1042, 1115, 1164, 1189, 1214, 1279, 1316, 1353, 1390, 1415, 1440, 1465, 1490, 1503, 1516], 184) := by decide +kernel
theorem dL_law_224 : decode cL_law 224 = .ok (.aload_n 1, 1) := by decide +kernel
theorem dL_law_225 : decode cL_law 225 = .ok (.aload_n 0, 1) := by decide +kernel
theorem dL_law_226 : decode cL_law 226 = .ok (.iload 4, 2) := by decide +kernel
theorem dL_law_228 : decode cL_law 228 = .ok (.iconst 1, 1) := by decide +kernel
theorem dL_law_229 : decode cL_law 229 = .ok (.iadd, 1) := by decide +kernel
theorem dL_law_230 : decode cL_law 230 = .ok (.iaload, 1) := by decide +kernel
theorem dL_law_231 : decode cL_law 231 = .ok (.aload_n 0, 1) := by decide +kernel
theorem dL_law_232 : decode cL_law 232 = .ok (.iload 4, 2) := by decide +kernel
theorem dL_law_234 : decode cL_law 234 = .ok (.iconst 2, 1) := by decide +kernel
theorem dL_law_235 : decode cL_law 235 = .ok (.iadd, 1) := by decide +kernel
theorem dL_law_236 : decode cL_law 236 = .ok (.iaload, 1) := by decide +kernel
theorem dL_law_237 : decode cL_law 237 = .ok (.aload_n 0, 1) := by decide +kernel
theorem dL_law_238 : decode cL_law 238 = .ok (.iload 4, 2) := by decide +kernel
theorem dL_law_240 : decode cL_law 240 = .ok (.iconst 3, 1) := by decide +kernel
theorem dL_law_241 : decode cL_law 241 = .ok (.iadd, 1) := by decide +kernel
theorem dL_law_242 : decode cL_law 242 = .ok (.iaload, 1) := by decide +kernel
theorem dL_law_243 : decode cL_law 243 = .ok (.aload_n 0, 1) := by decide +kernel
theorem dL_law_244 : decode cL_law 244 = .ok (.iload 4, 2) := by decide +kernel
theorem dL_law_246 : decode cL_law 246 = .ok (.iconst 4, 1) := by decide +kernel
theorem dL_law_247 : decode cL_law 247 = .ok (.iadd, 1) := by decide +kernel
theorem dL_law_248 : decode cL_law 248 = .ok (.iaload, 1) := by decide +kernel
theorem dL_law_249 : decode cL_law 249 = .ok (.aload_n 0, 1) := by decide +kernel
theorem dL_law_250 : decode cL_law 250 = .ok (.iload 4, 2) := by decide +kernel
theorem dL_law_252 : decode cL_law 252 = .ok (.iconst 5, 1) := by decide +kernel
theorem dL_law_253 : decode cL_law 253 = .ok (.iadd, 1) := by decide +kernel
theorem dL_law_254 : decode cL_law 254 = .ok (.iaload, 1) := by decide +kernel
theorem dL_law_255 : decode cL_law 255 = .ok (.invokevirtual 19, 3) := by decide +kernel
theorem dL_law_258 : decode cL_law 258 = .ok (.aload_n 2, 1) := by decide +kernel
theorem dL_law_259 : decode cL_law 259 = .ok (.aload_n 0, 1) := by decide +kernel
theorem dL_law_260 : decode cL_law 260 = .ok (.iload 4, 2) := by decide +kernel
theorem dL_law_262 : decode cL_law 262 = .ok (.iconst 1, 1) := by decide +kernel
theorem dL_law_263 : decode cL_law 263 = .ok (.iadd, 1) := by decide +kernel
theorem dL_law_264 : decode cL_law 264 = .ok (.iaload, 1) := by decide +kernel
theorem dL_law_265 : decode cL_law 265 = .ok (.aload_n 0, 1) := by decide +kernel
theorem dL_law_266 : decode cL_law 266 = .ok (.iload 4, 2) := by decide +kernel
theorem dL_law_268 : decode cL_law 268 = .ok (.iconst 2, 1) := by decide +kernel
theorem dL_law_269 : decode cL_law 269 = .ok (.iadd, 1) := by decide +kernel
theorem dL_law_270 : decode cL_law 270 = .ok (.iaload, 1) := by decide +kernel
theorem dL_law_271 : decode cL_law 271 = .ok (.aload_n 0, 1) := by decide +kernel
theorem dL_law_272 : decode cL_law 272 = .ok (.iload 4, 2) := by decide +kernel
theorem dL_law_274 : decode cL_law 274 = .ok (.iconst 3, 1) := by decide +kernel
theorem dL_law_275 : decode cL_law 275 = .ok (.iadd, 1) := by decide +kernel
theorem dL_law_276 : decode cL_law 276 = .ok (.iaload, 1) := by decide +kernel
theorem dL_law_277 : decode cL_law 277 = .ok (.aload_n 0, 1) := by decide +kernel
theorem dL_law_278 : decode cL_law 278 = .ok (.iload 4, 2) := by decide +kernel
theorem dL_law_280 : decode cL_law 280 = .ok (.iconst 4, 1) := by decide +kernel
theorem dL_law_281 : decode cL_law 281 = .ok (.iadd, 1) := by decide +kernel
theorem dL_law_282 : decode cL_law 282 = .ok (.iaload, 1) := by decide +kernel
theorem dL_law_283 : decode cL_law 283 = .ok (.aload_n 0, 1) := by decide +kernel
theorem dL_law_284 : decode cL_law 284 = .ok (.iload 4, 2) := by decide +kernel
theorem dL_law_286 : decode cL_law 286 = .ok (.iconst 5, 1) := by decide +kernel
theorem dL_law_287 : decode cL_law 287 = .ok (.iadd, 1) := by decide +kernel
theorem dL_law_288 : decode cL_law 288 = .ok (.iaload, 1) := by decide +kernel
theorem dL_law_289 : decode cL_law 289 = .ok (.invokevirtual 23, 3) := by decide +kernel
theorem dL_law_292 : decode cL_law 292 = .ok (.if_icmp .eq 1289, 3) := by decide +kernel
theorem dL_law_295 : decode cL_law 295 = .ok (.iconst 0, 1) := by decide +kernel
theorem dL_law_296 : decode cL_law 296 = .ok (.ireturn, 1) := by decide +kernel
theorem dL_law_297 : decode cL_law 297 = .ok (.aload_n 1, 1) := by decide +kernel
theorem dL_law_298 : decode cL_law 298 = .ok (.aload_n 0, 1) := by decide +kernel
theorem dL_law_299 : decode cL_law 299 = .ok (.iload 4, 2) := by decide +kernel
theorem dL_law_301 : decode cL_law 301 = .ok (.iconst 1, 1) := by decide +kernel
theorem dL_law_302 : decode cL_law 302 = .ok (.iadd, 1) := by decide +kernel
theorem dL_law_303 : decode cL_law 303 = .ok (.iaload, 1) := by decide +kernel
theorem dL_law_304 : decode cL_law 304 = .ok (.invokevirtual 24, 3) := by decide +kernel
theorem dL_law_307 : decode cL_law 307 = .ok (.aload_n 2, 1) := by decide +kernel
theorem dL_law_308 : decode cL_law 308 = .ok (.aload_n 0, 1) := by decide +kernel
theorem dL_law_309 : decode cL_law 309 = .ok (.iload 4, 2) := by decide +kernel
theorem dL_law_311 : decode cL_law 311 = .ok (.iconst 1, 1) := by decide +kernel
theorem dL_law_312 : decode cL_law 312 = .ok (.iadd, 1) := by decide +kernel
theorem dL_law_313 : decode cL_law 313 = .ok (.iaload, 1) := by decide +kernel
theorem dL_law_314 : decode cL_law 314 = .ok (.invokevirtual 28, 3) := by decide +kernel
theorem dL_law_317 : decode cL_law 317 = .ok (.if_icmp .eq 1264, 3) := by decide +kernel
theorem dL_law_320 : decode cL_law 320 = .ok (.iconst 0, 1) := by decide +kernel
theorem dL_law_321 : decode cL_law 321 = .ok (.ireturn, 1) := by decide +kernel
theorem dL_law_322 : decode cL_law 322 = .ok (.aload_n 1, 1) := by decide +kernel
theorem dL_law_323 : decode cL_law 323 = .ok (.aload_n 0, 1) := by decide +kernel
theorem dL_law_324 : decode cL_law 324 = .ok (.iload 4, 2) := by decide +kernel
theorem dL_law_326 : decode cL_law 326 = .ok (.iconst 1, 1) := by decide +kernel
theorem dL_law_327 : decode cL_law 327 = .ok (.iadd, 1) := by decide +kernel
theorem dL_law_328 : decode cL_law 328 = .ok (.iaload, 1) := by decide +kernel
theorem dL_law_329 : decode cL_law 329 = .ok (.invokevirtual 29, 3) := by decide +kernel
theorem dL_law_332 : decode cL_law 332 = .ok (.aload_n 2, 1) := by decide +kernel
theorem dL_law_333 : decode cL_law 333 = .ok (.aload_n 0, 1) := by decide +kernel
theorem dL_law_334 : decode cL_law 334 = .ok (.iload 4, 2) := by decide +kernel
theorem dL_law_336 : decode cL_law 336 = .ok (.iconst 1, 1) := by decide +kernel
theorem dL_law_337 : decode cL_law 337 = .ok (.iadd, 1) := by decide +kernel
theorem dL_law_338 : decode cL_law 338 = .ok (.iaload, 1) := by decide +kernel
theorem dL_law_339 : decode cL_law 339 = .ok (.invokevirtual 33, 3) := by decide +kernel
theorem dL_law_342 : decode cL_law 342 = .ok (.if_icmp .eq 1239, 3) := by decide +kernel
theorem dL_law_345 : decode cL_law 345 = .ok (.iconst 0, 1) := by decide +kernel
theorem dL_law_346 : decode cL_law 346 = .ok (.ireturn, 1) := by decide +kernel
theorem dL_law_347 : decode cL_law 347 = .ok (.aload_n 1, 1) := by decide +kernel
theorem dL_law_348 : decode cL_law 348 = .ok (.aload_n 0, 1) := by decide +kernel
theorem dL_law_349 : decode cL_law 349 = .ok (.iload 4, 2) := by decide +kernel
theorem dL_law_351 : decode cL_law 351 = .ok (.iconst 1, 1) := by decide +kernel
theorem dL_law_352 : decode cL_law 352 = .ok (.iadd, 1) := by decide +kernel
theorem dL_law_353 : decode cL_law 353 = .ok (.iaload, 1) := by decide +kernel
theorem dL_law_354 : decode cL_law 354 = .ok (.invokevirtual 34, 3) := by decide +kernel
theorem dL_law_357 : decode cL_law 357 = .ok (.aload_n 2, 1) := by decide +kernel
theorem dL_law_358 : decode cL_law 358 = .ok (.aload_n 0, 1) := by decide +kernel
theorem dL_law_359 : decode cL_law 359 = .ok (.iload 4, 2) := by decide +kernel
theorem dL_law_361 : decode cL_law 361 = .ok (.iconst 1, 1) := by decide +kernel
theorem dL_law_362 : decode cL_law 362 = .ok (.iadd, 1) := by decide +kernel
theorem dL_law_363 : decode cL_law 363 = .ok (.iaload, 1) := by decide +kernel
theorem dL_law_364 : decode cL_law 364 = .ok (.invokevirtual 37, 3) := by decide +kernel
theorem dL_law_367 : decode cL_law 367 = .ok (.if_icmp .eq 1214, 3) := by decide +kernel
theorem dL_law_370 : decode cL_law 370 = .ok (.iconst 0, 1) := by decide +kernel
theorem dL_law_371 : decode cL_law 371 = .ok (.ireturn, 1) := by decide +kernel
theorem dL_law_372 : decode cL_law 372 = .ok (.aload_n 1, 1) := by decide +kernel
theorem dL_law_373 : decode cL_law 373 = .ok (.aload_n 0, 1) := by decide +kernel
theorem dL_law_374 : decode cL_law 374 = .ok (.iload 4, 2) := by decide +kernel
theorem dL_law_376 : decode cL_law 376 = .ok (.iconst 1, 1) := by decide +kernel
theorem dL_law_377 : decode cL_law 377 = .ok (.iadd, 1) := by decide +kernel
theorem dL_law_378 : decode cL_law 378 = .ok (.iaload, 1) := by decide +kernel
theorem dL_law_379 : decode cL_law 379 = .ok (.invokevirtual 38, 3) := by decide +kernel
theorem dL_law_382 : decode cL_law 382 = .ok (.aload_n 2, 1) := by decide +kernel
theorem dL_law_383 : decode cL_law 383 = .ok (.aload_n 0, 1) := by decide +kernel
theorem dL_law_384 : decode cL_law 384 = .ok (.iload 4, 2) := by decide +kernel
theorem dL_law_386 : decode cL_law 386 = .ok (.iconst 1, 1) := by decide +kernel
theorem dL_law_387 : decode cL_law 387 = .ok (.iadd, 1) := by decide +kernel
theorem dL_law_388 : decode cL_law 388 = .ok (.iaload, 1) := by decide +kernel
theorem dL_law_389 : decode cL_law 389 = .ok (.invokevirtual 41, 3) := by decide +kernel
theorem dL_law_392 : decode cL_law 392 = .ok (.if_icmp .eq 1189, 3) := by decide +kernel
theorem dL_law_395 : decode cL_law 395 = .ok (.iconst 0, 1) := by decide +kernel
theorem dL_law_396 : decode cL_law 396 = .ok (.ireturn, 1) := by decide +kernel
theorem dL_law_397 : decode cL_law 397 = .ok (.aload_n 1, 1) := by decide +kernel
theorem dL_law_398 : decode cL_law 398 = .ok (.aload_n 0, 1) := by decide +kernel
theorem dL_law_399 : decode cL_law 399 = .ok (.iload 4, 2) := by decide +kernel
theorem dL_law_401 : decode cL_law 401 = .ok (.iconst 1, 1) := by decide +kernel
theorem dL_law_402 : decode cL_law 402 = .ok (.iadd, 1) := by decide +kernel
theorem dL_law_403 : decode cL_law 403 = .ok (.iaload, 1) := by decide +kernel
theorem dL_law_404 : decode cL_law 404 = .ok (.aload_n 0, 1) := by decide +kernel
theorem dL_law_405 : decode cL_law 405 = .ok (.iload 4, 2) := by decide +kernel
theorem dL_law_407 : decode cL_law 407 = .ok (.iconst 2, 1) := by decide +kernel
theorem dL_law_408 : decode cL_law 408 = .ok (.iadd, 1) := by decide +kernel
theorem dL_law_409 : decode cL_law 409 = .ok (.iaload, 1) := by decide +kernel
theorem dL_law_410 : decode cL_law 410 = .ok (.aload_n 3, 1) := by decide +kernel
theorem dL_law_411 : decode cL_law 411 = .ok (.invokestatic 42, 3) := by decide +kernel
theorem dL_law_414 : decode cL_law 414 = .ok (.istore 5, 2) := by decide +kernel
theorem dL_law_416 : decode cL_law 416 = .ok (.aload_n 2, 1) := by decide +kernel
theorem dL_law_417 : decode cL_law 417 = .ok (.aload_n 0, 1) := by decide +kernel
theorem dL_law_418 : decode cL_law 418 = .ok (.iload 4, 2) := by decide +kernel
theorem dL_law_420 : decode cL_law 420 = .ok (.iconst 1, 1) := by decide +kernel
theorem dL_law_421 : decode cL_law 421 = .ok (.iadd, 1) := by decide +kernel
theorem dL_law_422 : decode cL_law 422 = .ok (.iaload, 1) := by decide +kernel
theorem dL_law_423 : decode cL_law 423 = .ok (.aload_n 0, 1) := by decide +kernel
theorem dL_law_424 : decode cL_law 424 = .ok (.iload 4, 2) := by decide +kernel
theorem dL_law_426 : decode cL_law 426 = .ok (.iconst 2, 1) := by decide +kernel
theorem dL_law_427 : decode cL_law 427 = .ok (.iadd, 1) := by decide +kernel
theorem dL_law_428 : decode cL_law 428 = .ok (.iaload, 1) := by decide +kernel
theorem dL_law_429 : decode cL_law 429 = .ok (.invokevirtual 47, 3) := by decide +kernel
theorem dL_law_432 : decode cL_law 432 = .ok (.istore 6, 2) := by decide +kernel
theorem dL_law_434 : decode cL_law 434 = .ok (.aload_n 2, 1) := by decide +kernel
theorem dL_law_435 : decode cL_law 435 = .ok (.invokevirtual 48, 3) := by decide +kernel
theorem dL_law_438 : decode cL_law 438 = .ok (.iload 5, 2) := by decide +kernel
theorem dL_law_440 : decode cL_law 440 = .ok (.if_icmp .eq 5, 3) := by decide +kernel
theorem dL_law_443 : decode cL_law 443 = .ok (.iconst 0, 1) := by decide +kernel
theorem dL_law_444 : decode cL_law 444 = .ok (.ireturn, 1) := by decide +kernel
theorem dL_law_445 : decode cL_law 445 = .ok (.iload 5, 2) := by decide +kernel
theorem dL_law_447 : decode cL_law 447 = .ok (.ifCond .ne 15, 3) := by decide +kernel
theorem dL_law_450 : decode cL_law 450 = .ok (.aload_n 3, 1) := by decide +kernel
theorem dL_law_451 : decode cL_law 451 = .ok (.iconst 0, 1) := by decide +kernel
theorem dL_law_452 : decode cL_law 452 = .ok (.laload, 1) := by decide +kernel
theorem dL_law_453 : decode cL_law 453 = .ok (.iload 6, 2) := by decide +kernel
theorem dL_law_455 : decode cL_law 455 = .ok (.i2l, 1) := by decide +kernel
theorem dL_law_456 : decode cL_law 456 = .ok (.lcmp, 1) := by decide +kernel
theorem dL_law_457 : decode cL_law 457 = .ok (.ifCond .eq 5, 3) := by decide +kernel
theorem dL_law_460 : decode cL_law 460 = .ok (.iconst 0, 1) := by decide +kernel
theorem dL_law_461 : decode cL_law 461 = .ok (.ireturn, 1) := by decide +kernel
theorem dL_law_462 : decode cL_law 462 = .ok (.goto 1119, 3) := by decide +kernel
theorem dL_law_465 : decode cL_law 465 = .ok (.aload_n 1, 1) := by decide +kernel
theorem dL_law_466 : decode cL_law 466 = .ok (.aload_n 0, 1) := by decide +kernel
theorem dL_law_467 : decode cL_law 467 = .ok (.iload 4, 2) := by decide +kernel
theorem dL_law_469 : decode cL_law 469 = .ok (.iconst 1, 1) := by decide +kernel
theorem dL_law_470 : decode cL_law 470 = .ok (.iadd, 1) := by decide +kernel
theorem dL_law_471 : decode cL_law 471 = .ok (.iaload, 1) := by decide +kernel
theorem dL_law_472 : decode cL_law 472 = .ok (.invokevirtual 52, 3) := by decide +kernel
theorem dL_law_475 : decode cL_law 475 = .ok (.aload_n 2, 1) := by decide +kernel
theorem dL_law_476 : decode cL_law 476 = .ok (.aload_n 0, 1) := by decide +kernel
theorem dL_law_477 : decode cL_law 477 = .ok (.iload 4, 2) := by decide +kernel
theorem dL_law_479 : decode cL_law 479 = .ok (.iconst 1, 1) := by decide +kernel
theorem dL_law_480 : decode cL_law 480 = .ok (.iadd, 1) := by decide +kernel
theorem dL_law_481 : decode cL_law 481 = .ok (.iaload, 1) := by decide +kernel
theorem dL_law_482 : decode cL_law 482 = .ok (.invokevirtual 55, 3) := by decide +kernel
theorem dL_law_485 : decode cL_law 485 = .ok (.if_icmp .eq 1096, 3) := by decide +kernel
theorem dL_law_488 : decode cL_law 488 = .ok (.iconst 0, 1) := by decide +kernel
theorem dL_law_489 : decode cL_law 489 = .ok (.ireturn, 1) := by decide +kernel
theorem dL_law_490 : decode cL_law 490 = .ok (.aload_n 1, 1) := by decide +kernel
theorem dL_law_491 : decode cL_law 491 = .ok (.aload_n 0, 1) := by decide +kernel
theorem dL_law_492 : decode cL_law 492 = .ok (.iload 4, 2) := by decide +kernel
theorem dL_law_494 : decode cL_law 494 = .ok (.iconst 1, 1) := by decide +kernel
theorem dL_law_495 : decode cL_law 495 = .ok (.iadd, 1) := by decide +kernel
theorem dL_law_496 : decode cL_law 496 = .ok (.iaload, 1) := by decide +kernel
theorem dL_law_497 : decode cL_law 497 = .ok (.invokevirtual 56, 3) := by decide +kernel
theorem dL_law_500 : decode cL_law 500 = .ok (.aload_n 2, 1) := by decide +kernel
theorem dL_law_501 : decode cL_law 501 = .ok (.aload_n 0, 1) := by decide +kernel
theorem dL_law_502 : decode cL_law 502 = .ok (.iload 4, 2) := by decide +kernel
theorem dL_law_504 : decode cL_law 504 = .ok (.iconst 1, 1) := by decide +kernel
theorem dL_law_505 : decode cL_law 505 = .ok (.iadd, 1) := by decide +kernel
theorem dL_law_506 : decode cL_law 506 = .ok (.iaload, 1) := by decide +kernel
theorem dL_law_507 : decode cL_law 507 = .ok (.invokevirtual 59, 3) := by decide +kernel
theorem dL_law_510 : decode cL_law 510 = .ok (.if_icmp .eq 1071, 3) := by decide +kernel
theorem dL_law_513 : decode cL_law 513 = .ok (.iconst 0, 1) := by decide +kernel
theorem dL_law_514 : decode cL_law 514 = .ok (.ireturn, 1) := by decide +kernel
theorem dL_law_515 : decode cL_law 515 = .ok (.aload_n 1, 1) := by decide +kernel
theorem dL_law_516 : decode cL_law 516 = .ok (.aload_n 0, 1) := by decide +kernel
theorem dL_law_517 : decode cL_law 517 = .ok (.iload 4, 2) := by decide +kernel
theorem dL_law_519 : decode cL_law 519 = .ok (.iconst 1, 1) := by decide +kernel
theorem dL_law_520 : decode cL_law 520 = .ok (.iadd, 1) := by decide +kernel
theorem dL_law_521 : decode cL_law 521 = .ok (.iaload, 1) := by decide +kernel
theorem dL_law_522 : decode cL_law 522 = .ok (.aload_n 0, 1) := by decide +kernel
theorem dL_law_523 : decode cL_law 523 = .ok (.iload 4, 2) := by decide +kernel
theorem dL_law_525 : decode cL_law 525 = .ok (.iconst 2, 1) := by decide +kernel
theorem dL_law_526 : decode cL_law 526 = .ok (.iadd, 1) := by decide +kernel
theorem dL_law_527 : decode cL_law 527 = .ok (.iaload, 1) := by decide +kernel
theorem dL_law_528 : decode cL_law 528 = .ok (.invokevirtual 60, 3) := by decide +kernel
theorem dL_law_531 : decode cL_law 531 = .ok (.aload_n 2, 1) := by decide +kernel
theorem dL_law_532 : decode cL_law 532 = .ok (.aload_n 0, 1) := by decide +kernel
theorem dL_law_533 : decode cL_law 533 = .ok (.iload 4, 2) := by decide +kernel
theorem dL_law_535 : decode cL_law 535 = .ok (.iconst 1, 1) := by decide +kernel
theorem dL_law_536 : decode cL_law 536 = .ok (.iadd, 1) := by decide +kernel
theorem dL_law_537 : decode cL_law 537 = .ok (.iaload, 1) := by decide +kernel
theorem dL_law_538 : decode cL_law 538 = .ok (.aload_n 0, 1) := by decide +kernel
theorem dL_law_539 : decode cL_law 539 = .ok (.iload 4, 2) := by decide +kernel
theorem dL_law_541 : decode cL_law 541 = .ok (.iconst 2, 1) := by decide +kernel
theorem dL_law_542 : decode cL_law 542 = .ok (.iadd, 1) := by decide +kernel
theorem dL_law_543 : decode cL_law 543 = .ok (.iaload, 1) := by decide +kernel
theorem dL_law_544 : decode cL_law 544 = .ok (.invokevirtual 63, 3) := by decide +kernel
theorem dL_law_547 : decode cL_law 547 = .ok (.if_icmp .eq 1034, 3) := by decide +kernel
theorem dL_law_550 : decode cL_law 550 = .ok (.iconst 0, 1) := by decide +kernel
theorem dL_law_551 : decode cL_law 551 = .ok (.ireturn, 1) := by decide +kernel
theorem dL_law_552 : decode cL_law 552 = .ok (.aload_n 1, 1) := by decide +kernel
theorem dL_law_553 : decode cL_law 553 = .ok (.aload_n 0, 1) := by decide +kernel
theorem dL_law_554 : decode cL_law 554 = .ok (.iload 4, 2) := by decide +kernel
theorem dL_law_556 : decode cL_law 556 = .ok (.iconst 1, 1) := by decide +kernel
theorem dL_law_557 : decode cL_law 557 = .ok (.iadd, 1) := by decide +kernel
theorem dL_law_558 : decode cL_law 558 = .ok (.iaload, 1) := by decide +kernel
theorem dL_law_559 : decode cL_law 559 = .ok (.invokevirtual 64, 3) := by decide +kernel
theorem dL_law_562 : decode cL_law 562 = .ok (.aload_n 2, 1) := by decide +kernel
theorem dL_law_563 : decode cL_law 563 = .ok (.aload_n 0, 1) := by decide +kernel
theorem dL_law_564 : decode cL_law 564 = .ok (.iload 4, 2) := by decide +kernel
theorem dL_law_566 : decode cL_law 566 = .ok (.iconst 1, 1) := by decide +kernel
theorem dL_law_567 : decode cL_law 567 = .ok (.iadd, 1) := by decide +kernel
theorem dL_law_568 : decode cL_law 568 = .ok (.iaload, 1) := by decide +kernel
theorem dL_law_569 : decode cL_law 569 = .ok (.invokevirtual 67, 3) := by decide +kernel
theorem dL_law_572 : decode cL_law 572 = .ok (.if_icmp .eq 1009, 3) := by decide +kernel
theorem dL_law_575 : decode cL_law 575 = .ok (.iconst 0, 1) := by decide +kernel
theorem dL_law_576 : decode cL_law 576 = .ok (.ireturn, 1) := by decide +kernel
theorem dL_law_577 : decode cL_law 577 = .ok (.aload_n 1, 1) := by decide +kernel
theorem dL_law_578 : decode cL_law 578 = .ok (.aload_n 0, 1) := by decide +kernel
theorem dL_law_579 : decode cL_law 579 = .ok (.iload 4, 2) := by decide +kernel
theorem dL_law_581 : decode cL_law 581 = .ok (.iconst 1, 1) := by decide +kernel
theorem dL_law_582 : decode cL_law 582 = .ok (.iadd, 1) := by decide +kernel
theorem dL_law_583 : decode cL_law 583 = .ok (.iaload, 1) := by decide +kernel
theorem dL_law_584 : decode cL_law 584 = .ok (.invokevirtual 68, 3) := by decide +kernel
theorem dL_law_587 : decode cL_law 587 = .ok (.aload_n 2, 1) := by decide +kernel
theorem dL_law_588 : decode cL_law 588 = .ok (.aload_n 0, 1) := by decide +kernel
theorem dL_law_589 : decode cL_law 589 = .ok (.iload 4, 2) := by decide +kernel
theorem dL_law_591 : decode cL_law 591 = .ok (.iconst 1, 1) := by decide +kernel
theorem dL_law_592 : decode cL_law 592 = .ok (.iadd, 1) := by decide +kernel
theorem dL_law_593 : decode cL_law 593 = .ok (.iaload, 1) := by decide +kernel
theorem dL_law_594 : decode cL_law 594 = .ok (.invokevirtual 71, 3) := by decide +kernel
theorem dL_law_597 : decode cL_law 597 = .ok (.if_icmp .eq 984, 3) := by decide +kernel
theorem dL_law_600 : decode cL_law 600 = .ok (.iconst 0, 1) := by decide +kernel
theorem dL_law_601 : decode cL_law 601 = .ok (.ireturn, 1) := by decide +kernel
theorem dL_law_602 : decode cL_law 602 = .ok (.aload_n 1, 1) := by decide +kernel
theorem dL_law_603 : decode cL_law 603 = .ok (.invokevirtual 72, 3) := by decide +kernel
theorem dL_law_606 : decode cL_law 606 = .ok (.aload_n 2, 1) := by decide +kernel
theorem dL_law_607 : decode cL_law 607 = .ok (.invokevirtual 75, 3) := by decide +kernel
theorem dL_law_610 : decode cL_law 610 = .ok (.if_icmp .eq 971, 3) := by decide +kernel
theorem dL_law_613 : decode cL_law 613 = .ok (.iconst 0, 1) := by decide +kernel
theorem dL_law_614 : decode cL_law 614 = .ok (.ireturn, 1) := by decide +kernel
theorem dL_law_615 : decode cL_law 615 = .ok (.aload_n 1, 1) := by decide +kernel
theorem dL_law_616 : decode cL_law 616 = .ok (.aload_n 0, 1) := by decide +kernel
theorem dL_law_617 : decode cL_law 617 = .ok (.iload 4, 2) := by decide +kernel
theorem dL_law_619 : decode cL_law 619 = .ok (.iconst 1, 1) := by decide +kernel
theorem dL_law_620 : decode cL_law 620 = .ok (.iadd, 1) := by decide +kernel
theorem dL_law_621 : decode cL_law 621 = .ok (.iaload, 1) := by decide +kernel
theorem dL_law_622 : decode cL_law 622 = .ok (.aload_n 0, 1) := by decide +kernel
theorem dL_law_623 : decode cL_law 623 = .ok (.iload 4, 2) := by decide +kernel
theorem dL_law_625 : decode cL_law 625 = .ok (.iconst 2, 1) := by decide +kernel
theorem dL_law_626 : decode cL_law 626 = .ok (.iadd, 1) := by decide +kernel
theorem dL_law_627 : decode cL_law 627 = .ok (.iaload, 1) := by decide +kernel
theorem dL_law_628 : decode cL_law 628 = .ok (.invokevirtual 76, 3) := by decide +kernel
theorem dL_law_631 : decode cL_law 631 = .ok (.aload_n 2, 1) := by decide +kernel
theorem dL_law_632 : decode cL_law 632 = .ok (.aload_n 0, 1) := by decide +kernel
theorem dL_law_633 : decode cL_law 633 = .ok (.iload 4, 2) := by decide +kernel
theorem dL_law_635 : decode cL_law 635 = .ok (.iconst 1, 1) := by decide +kernel
theorem dL_law_636 : decode cL_law 636 = .ok (.iadd, 1) := by decide +kernel
theorem dL_law_637 : decode cL_law 637 = .ok (.iaload, 1) := by decide +kernel
theorem dL_law_638 : decode cL_law 638 = .ok (.aload_n 0, 1) := by decide +kernel
theorem dL_law_639 : decode cL_law 639 = .ok (.iload 4, 2) := by decide +kernel
theorem dL_law_641 : decode cL_law 641 = .ok (.iconst 2, 1) := by decide +kernel
theorem dL_law_642 : decode cL_law 642 = .ok (.iadd, 1) := by decide +kernel
theorem dL_law_643 : decode cL_law 643 = .ok (.iaload, 1) := by decide +kernel
theorem dL_law_644 : decode cL_law 644 = .ok (.invokevirtual 79, 3) := by decide +kernel
theorem dL_law_647 : decode cL_law 647 = .ok (.if_icmp .eq 934, 3) := by decide +kernel
theorem dL_law_650 : decode cL_law 650 = .ok (.iconst 0, 1) := by decide +kernel
theorem dL_law_651 : decode cL_law 651 = .ok (.ireturn, 1) := by decide +kernel
theorem dL_law_652 : decode cL_law 652 = .ok (.aload_n 1, 1) := by decide +kernel
theorem dL_law_653 : decode cL_law 653 = .ok (.aload_n 0, 1) := by decide +kernel
theorem dL_law_654 : decode cL_law 654 = .ok (.iload 4, 2) := by decide +kernel
theorem dL_law_656 : decode cL_law 656 = .ok (.iconst 1, 1) := by decide +kernel
theorem dL_law_657 : decode cL_law 657 = .ok (.iadd, 1) := by decide +kernel
theorem dL_law_658 : decode cL_law 658 = .ok (.iaload, 1) := by decide +kernel
theorem dL_law_659 : decode cL_law 659 = .ok (.invokevirtual 80, 3) := by decide +kernel
theorem dL_law_662 : decode cL_law 662 = .ok (.aload_n 2, 1) := by decide +kernel
theorem dL_law_663 : decode cL_law 663 = .ok (.aload_n 0, 1) := by decide +kernel
theorem dL_law_664 : decode cL_law 664 = .ok (.iload 4, 2) := by decide +kernel
theorem dL_law_666 : decode cL_law 666 = .ok (.iconst 1, 1) := by decide +kernel
theorem dL_law_667 : decode cL_law 667 = .ok (.iadd, 1) := by decide +kernel
theorem dL_law_668 : decode cL_law 668 = .ok (.iaload, 1) := by decide +kernel
theorem dL_law_669 : decode cL_law 669 = .ok (.invokevirtual 83, 3) := by decide +kernel
theorem dL_law_672 : decode cL_law 672 = .ok (.if_icmp .eq 909, 3) := by decide +kernel
theorem dL_law_675 : decode cL_law 675 = .ok (.iconst 0, 1) := by decide +kernel
theorem dL_law_676 : decode cL_law 676 = .ok (.ireturn, 1) := by decide +kernel
theorem dL_law_677 : decode cL_law 677 = .ok (.aload_n 1, 1) := by decide +kernel
theorem dL_law_678 : decode cL_law 678 = .ok (.invokevirtual 84, 3) := by decide +kernel
theorem dL_law_681 : decode cL_law 681 = .ok (.aload_n 2, 1) := by decide +kernel
theorem dL_law_682 : decode cL_law 682 = .ok (.invokevirtual 87, 3) := by decide +kernel
theorem dL_law_685 : decode cL_law 685 = .ok (.if_icmp .eq 896, 3) := by decide +kernel
theorem dL_law_688 : decode cL_law 688 = .ok (.iconst 0, 1) := by decide +kernel
theorem dL_law_689 : decode cL_law 689 = .ok (.ireturn, 1) := by decide +kernel
theorem dL_law_690 : decode cL_law 690 = .ok (.aload_n 1, 1) := by decide +kernel
theorem dL_law_691 : decode cL_law 691 = .ok (.aload_n 0, 1) := by decide +kernel
theorem dL_law_692 : decode cL_law 692 = .ok (.iload 4, 2) := by decide +kernel
theorem dL_law_694 : decode cL_law 694 = .ok (.iconst 1, 1) := by decide +kernel
theorem dL_law_695 : decode cL_law 695 = .ok (.iadd, 1) := by decide +kernel
theorem dL_law_696 : decode cL_law 696 = .ok (.iaload, 1) := by decide +kernel
theorem dL_law_697 : decode cL_law 697 = .ok (.invokevirtual 88, 3) := by decide +kernel
theorem dL_law_700 : decode cL_law 700 = .ok (.aload_n 2, 1) := by decide +kernel
theorem dL_law_701 : decode cL_law 701 = .ok (.aload_n 0, 1) := by decide +kernel
theorem dL_law_702 : decode cL_law 702 = .ok (.iload 4, 2) := by decide +kernel
theorem dL_law_704 : decode cL_law 704 = .ok (.iconst 1, 1) := by decide +kernel
theorem dL_law_705 : decode cL_law 705 = .ok (.iadd, 1) := by decide +kernel
theorem dL_law_706 : decode cL_law 706 = .ok (.iaload, 1) := by decide +kernel
theorem dL_law_707 : decode cL_law 707 = .ok (.invokevirtual 91, 3) := by decide +kernel
theorem dL_law_710 : decode cL_law 710 = .ok (.if_icmp .eq 871, 3) := by decide +kernel
theorem dL_law_713 : decode cL_law 713 = .ok (.iconst 0, 1) := by decide +kernel
theorem dL_law_714 : decode cL_law 714 = .ok (.ireturn, 1) := by decide +kernel
theorem dL_law_715 : decode cL_law 715 = .ok (.aload_n 1, 1) := by decide +kernel
theorem dL_law_716 : decode cL_law 716 = .ok (.aload_n 0, 1) := by decide +kernel
theorem dL_law_717 : decode cL_law 717 = .ok (.iload 4, 2) := by decide +kernel
theorem dL_law_719 : decode cL_law 719 = .ok (.iconst 1, 1) := by decide +kernel
theorem dL_law_720 : decode cL_law 720 = .ok (.iadd, 1) := by decide +kernel
theorem dL_law_721 : decode cL_law 721 = .ok (.iaload, 1) := by decide +kernel
theorem dL_law_722 : decode cL_law 722 = .ok (.aload_n 0, 1) := by decide +kernel
theorem dL_law_723 : decode cL_law 723 = .ok (.iload 4, 2) := by decide +kernel
theorem dL_law_725 : decode cL_law 725 = .ok (.iconst 2, 1) := by decide +kernel
theorem dL_law_726 : decode cL_law 726 = .ok (.iadd, 1) := by decide +kernel
theorem dL_law_727 : decode cL_law 727 = .ok (.iaload, 1) := by decide +kernel
theorem dL_law_728 : decode cL_law 728 = .ok (.i2l, 1) := by decide +kernel
theorem dL_law_729 : decode cL_law 729 = .ok (.bipush 32, 2) := by decide +kernel
theorem dL_law_731 : decode cL_law 731 = .ok (.lshl, 1) := by decide +kernel
theorem dL_law_732 : decode cL_law 732 = .ok (.aload_n 0, 1) := by decide +kernel
theorem dL_law_733 : decode cL_law 733 = .ok (.iload 4, 2) := by decide +kernel
theorem dL_law_735 : decode cL_law 735 = .ok (.iconst 3, 1) := by decide +kernel
theorem dL_law_736 : decode cL_law 736 = .ok (.iadd, 1) := by decide +kernel
theorem dL_law_737 : decode cL_law 737 = .ok (.iaload, 1) := by decide +kernel
theorem dL_law_738 : decode cL_law 738 = .ok (.i2l, 1) := by decide +kernel
theorem dL_law_739 : decode cL_law 739 = .ok (.ldc2_w 92, 3) := by decide +kernel
theorem dL_law_742 : decode cL_law 742 = .ok (.land, 1) := by decide +kernel
theorem dL_law_743 : decode cL_law 743 = .ok (.lor, 1) := by decide +kernel
theorem dL_law_744 : decode cL_law 744 = .ok (.invokevirtual 94, 3) := by decide +kernel
theorem dL_law_747 : decode cL_law 747 = .ok (.aload_n 2, 1) := by decide +kernel
theorem dL_law_748 : decode cL_law 748 = .ok (.aload_n 0, 1) := by decide +kernel
theorem dL_law_749 : decode cL_law 749 = .ok (.iload 4, 2) := by decide +kernel
theorem dL_law_751 : decode cL_law 751 = .ok (.iconst 1, 1) := by decide +kernel
theorem dL_law_752 : decode cL_law 752 = .ok (.iadd, 1) := by decide +kernel
theorem dL_law_753 : decode cL_law 753 = .ok (.iaload, 1) := by decide +kernel
theorem dL_law_754 : decode cL_law 754 = .ok (.aload_n 0, 1) := by decide +kernel
theorem dL_law_755 : decode cL_law 755 = .ok (.iload 4, 2) := by decide +kernel
theorem dL_law_757 : decode cL_law 757 = .ok (.iconst 2, 1) := by decide +kernel
theorem dL_law_758 : decode cL_law 758 = .ok (.iadd, 1) := by decide +kernel
theorem dL_law_759 : decode cL_law 759 = .ok (.iaload, 1) := by decide +kernel
theorem dL_law_760 : decode cL_law 760 = .ok (.i2l, 1) := by decide +kernel
theorem dL_law_761 : decode cL_law 761 = .ok (.bipush 32, 2) := by decide +kernel
theorem dL_law_763 : decode cL_law 763 = .ok (.lshl, 1) := by decide +kernel
theorem dL_law_764 : decode cL_law 764 = .ok (.aload_n 0, 1) := by decide +kernel
theorem dL_law_765 : decode cL_law 765 = .ok (.iload 4, 2) := by decide +kernel
theorem dL_law_767 : decode cL_law 767 = .ok (.iconst 3, 1) := by decide +kernel
theorem dL_law_768 : decode cL_law 768 = .ok (.iadd, 1) := by decide +kernel
theorem dL_law_769 : decode cL_law 769 = .ok (.iaload, 1) := by decide +kernel
theorem dL_law_770 : decode cL_law 770 = .ok (.i2l, 1) := by decide +kernel
theorem dL_law_771 : decode cL_law 771 = .ok (.ldc2_w 92, 3) := by decide +kernel
theorem dL_law_774 : decode cL_law 774 = .ok (.land, 1) := by decide +kernel
theorem dL_law_775 : decode cL_law 775 = .ok (.lor, 1) := by decide +kernel
theorem dL_law_776 : decode cL_law 776 = .ok (.invokevirtual 98, 3) := by decide +kernel
theorem dL_law_779 : decode cL_law 779 = .ok (.if_icmp .eq 802, 3) := by decide +kernel
theorem dL_law_782 : decode cL_law 782 = .ok (.iconst 0, 1) := by decide +kernel
theorem dL_law_783 : decode cL_law 783 = .ok (.ireturn, 1) := by decide +kernel
theorem dL_law_784 : decode cL_law 784 = .ok (.aload_n 1, 1) := by decide +kernel
theorem dL_law_785 : decode cL_law 785 = .ok (.aload_n 0, 1) := by decide +kernel
theorem dL_law_786 : decode cL_law 786 = .ok (.iload 4, 2) := by decide +kernel
theorem dL_law_788 : decode cL_law 788 = .ok (.iconst 1, 1) := by decide +kernel
theorem dL_law_789 : decode cL_law 789 = .ok (.iadd, 1) := by decide +kernel
theorem dL_law_790 : decode cL_law 790 = .ok (.iaload, 1) := by decide +kernel
theorem dL_law_791 : decode cL_law 791 = .ok (.invokevirtual 99, 3) := by decide +kernel
theorem dL_law_794 : decode cL_law 794 = .ok (.aload_n 2, 1) := by decide +kernel
theorem dL_law_795 : decode cL_law 795 = .ok (.aload_n 0, 1) := by decide +kernel
theorem dL_law_796 : decode cL_law 796 = .ok (.iload 4, 2) := by decide +kernel
theorem dL_law_798 : decode cL_law 798 = .ok (.iconst 1, 1) := by decide +kernel
theorem dL_law_799 : decode cL_law 799 = .ok (.iadd, 1) := by decide +kernel
theorem dL_law_800 : decode cL_law 800 = .ok (.iaload, 1) := by decide +kernel
theorem dL_law_801 : decode cL_law 801 = .ok (.invokevirtual 102, 3) := by decide +kernel
theorem dL_law_804 : decode cL_law 804 = .ok (.if_icmp .eq 777, 3) := by decide +kernel
theorem dL_law_807 : decode cL_law 807 = .ok (.iconst 0, 1) := by decide +kernel
theorem dL_law_808 : decode cL_law 808 = .ok (.ireturn, 1) := by decide +kernel
theorem dL_law_809 : decode cL_law 809 = .ok (.aload_n 1, 1) := by decide +kernel
theorem dL_law_810 : decode cL_law 810 = .ok (.invokevirtual 103, 3) := by decide +kernel
theorem dL_law_813 : decode cL_law 813 = .ok (.aload_n 2, 1) := by decide +kernel
theorem dL_law_814 : decode cL_law 814 = .ok (.invokevirtual 106, 3) := by decide +kernel
theorem dL_law_817 : decode cL_law 817 = .ok (.if_icmp .eq 764, 3) := by decide +kernel
theorem dL_law_820 : decode cL_law 820 = .ok (.iconst 0, 1) := by decide +kernel
theorem dL_law_821 : decode cL_law 821 = .ok (.ireturn, 1) := by decide +kernel
theorem dL_law_822 : decode cL_law 822 = .ok (.aload_n 1, 1) := by decide +kernel
theorem dL_law_823 : decode cL_law 823 = .ok (.aload_n 0, 1) := by decide +kernel
theorem dL_law_824 : decode cL_law 824 = .ok (.iload 4, 2) := by decide +kernel
theorem dL_law_826 : decode cL_law 826 = .ok (.iconst 1, 1) := by decide +kernel
theorem dL_law_827 : decode cL_law 827 = .ok (.iadd, 1) := by decide +kernel
theorem dL_law_828 : decode cL_law 828 = .ok (.iaload, 1) := by decide +kernel
theorem dL_law_829 : decode cL_law 829 = .ok (.aload_n 0, 1) := by decide +kernel
theorem dL_law_830 : decode cL_law 830 = .ok (.iload 4, 2) := by decide +kernel
theorem dL_law_832 : decode cL_law 832 = .ok (.iconst 2, 1) := by decide +kernel
theorem dL_law_833 : decode cL_law 833 = .ok (.iadd, 1) := by decide +kernel
theorem dL_law_834 : decode cL_law 834 = .ok (.iaload, 1) := by decide +kernel
theorem dL_law_835 : decode cL_law 835 = .ok (.invokevirtual 107, 3) := by decide +kernel
theorem dL_law_838 : decode cL_law 838 = .ok (.aload_n 2, 1) := by decide +kernel
theorem dL_law_839 : decode cL_law 839 = .ok (.aload_n 0, 1) := by decide +kernel
theorem dL_law_840 : decode cL_law 840 = .ok (.iload 4, 2) := by decide +kernel
theorem dL_law_842 : decode cL_law 842 = .ok (.iconst 1, 1) := by decide +kernel
theorem dL_law_843 : decode cL_law 843 = .ok (.iadd, 1) := by decide +kernel
theorem dL_law_844 : decode cL_law 844 = .ok (.iaload, 1) := by decide +kernel
theorem dL_law_845 : decode cL_law 845 = .ok (.aload_n 0, 1) := by decide +kernel
theorem dL_law_846 : decode cL_law 846 = .ok (.iload 4, 2) := by decide +kernel
theorem dL_law_848 : decode cL_law 848 = .ok (.iconst 2, 1) := by decide +kernel
theorem dL_law_849 : decode cL_law 849 = .ok (.iadd, 1) := by decide +kernel
theorem dL_law_850 : decode cL_law 850 = .ok (.iaload, 1) := by decide +kernel
theorem dL_law_851 : decode cL_law 851 = .ok (.invokevirtual 110, 3) := by decide +kernel
theorem dL_law_854 : decode cL_law 854 = .ok (.if_icmp .eq 727, 3) := by decide +kernel
theorem dL_law_857 : decode cL_law 857 = .ok (.iconst 0, 1) := by decide +kernel
theorem dL_law_858 : decode cL_law 858 = .ok (.ireturn, 1) := by decide +kernel
theorem dL_law_859 : decode cL_law 859 = .ok (.aload_n 1, 1) := by decide +kernel
theorem dL_law_860 : decode cL_law 860 = .ok (.aload_n 0, 1) := by decide +kernel
theorem dL_law_861 : decode cL_law 861 = .ok (.iload 4, 2) := by decide +kernel
theorem dL_law_863 : decode cL_law 863 = .ok (.iconst 1, 1) := by decide +kernel
theorem dL_law_864 : decode cL_law 864 = .ok (.iadd, 1) := by decide +kernel
theorem dL_law_865 : decode cL_law 865 = .ok (.iaload, 1) := by decide +kernel
theorem dL_law_866 : decode cL_law 866 = .ok (.invokevirtual 111, 3) := by decide +kernel
theorem dL_law_869 : decode cL_law 869 = .ok (.aload_n 2, 1) := by decide +kernel
theorem dL_law_870 : decode cL_law 870 = .ok (.aload_n 0, 1) := by decide +kernel
theorem dL_law_871 : decode cL_law 871 = .ok (.iload 4, 2) := by decide +kernel
theorem dL_law_873 : decode cL_law 873 = .ok (.iconst 1, 1) := by decide +kernel
theorem dL_law_874 : decode cL_law 874 = .ok (.iadd, 1) := by decide +kernel
theorem dL_law_875 : decode cL_law 875 = .ok (.iaload, 1) := by decide +kernel
theorem dL_law_876 : decode cL_law 876 = .ok (.invokevirtual 114, 3) := by decide +kernel
theorem dL_law_879 : decode cL_law 879 = .ok (.if_icmp .eq 702, 3) := by decide +kernel
theorem dL_law_882 : decode cL_law 882 = .ok (.iconst 0, 1) := by decide +kernel
theorem dL_law_883 : decode cL_law 883 = .ok (.ireturn, 1) := by decide +kernel
theorem dL_law_884 : decode cL_law 884 = .ok (.aload_n 1, 1) := by decide +kernel
theorem dL_law_885 : decode cL_law 885 = .ok (.aload_n 0, 1) := by decide +kernel
theorem dL_law_886 : decode cL_law 886 = .ok (.iload 4, 2) := by decide +kernel
theorem dL_law_888 : decode cL_law 888 = .ok (.iconst 1, 1) := by decide +kernel
theorem dL_law_889 : decode cL_law 889 = .ok (.iadd, 1) := by decide +kernel
theorem dL_law_890 : decode cL_law 890 = .ok (.iaload, 1) := by decide +kernel
theorem dL_law_891 : decode cL_law 891 = .ok (.invokevirtual 115, 3) := by decide +kernel
theorem dL_law_894 : decode cL_law 894 = .ok (.aload_n 2, 1) := by decide +kernel
theorem dL_law_895 : decode cL_law 895 = .ok (.aload_n 0, 1) := by decide +kernel
theorem dL_law_896 : decode cL_law 896 = .ok (.iload 4, 2) := by decide +kernel
theorem dL_law_898 : decode cL_law 898 = .ok (.iconst 1, 1) := by decide +kernel
theorem dL_law_899 : decode cL_law 899 = .ok (.iadd, 1) := by decide +kernel
theorem dL_law_900 : decode cL_law 900 = .ok (.iaload, 1) := by decide +kernel
theorem dL_law_901 : decode cL_law 901 = .ok (.invokevirtual 118, 3) := by decide +kernel
theorem dL_law_904 : decode cL_law 904 = .ok (.if_icmp .eq 677, 3) := by decide +kernel
theorem dL_law_907 : decode cL_law 907 = .ok (.iconst 0, 1) := by decide +kernel
theorem dL_law_908 : decode cL_law 908 = .ok (.ireturn, 1) := by decide +kernel
theorem dL_law_909 : decode cL_law 909 = .ok (.aload_n 1, 1) := by decide +kernel
theorem dL_law_910 : decode cL_law 910 = .ok (.aload_n 0, 1) := by decide +kernel
theorem dL_law_911 : decode cL_law 911 = .ok (.iload 4, 2) := by decide +kernel
theorem dL_law_913 : decode cL_law 913 = .ok (.iconst 1, 1) := by decide +kernel
theorem dL_law_914 : decode cL_law 914 = .ok (.iadd, 1) := by decide +kernel
theorem dL_law_915 : decode cL_law 915 = .ok (.iaload, 1) := by decide +kernel
theorem dL_law_916 : decode cL_law 916 = .ok (.aload_n 0, 1) := by decide +kernel
theorem dL_law_917 : decode cL_law 917 = .ok (.iload 4, 2) := by decide +kernel
theorem dL_law_919 : decode cL_law 919 = .ok (.iconst 2, 1) := by decide +kernel
theorem dL_law_920 : decode cL_law 920 = .ok (.iadd, 1) := by decide +kernel
theorem dL_law_921 : decode cL_law 921 = .ok (.iaload, 1) := by decide +kernel
theorem dL_law_922 : decode cL_law 922 = .ok (.invokevirtual 119, 3) := by decide +kernel
theorem dL_law_925 : decode cL_law 925 = .ok (.aload_n 2, 1) := by decide +kernel
theorem dL_law_926 : decode cL_law 926 = .ok (.aload_n 0, 1) := by decide +kernel
theorem dL_law_927 : decode cL_law 927 = .ok (.iload 4, 2) := by decide +kernel
theorem dL_law_929 : decode cL_law 929 = .ok (.iconst 1, 1) := by decide +kernel
theorem dL_law_930 : decode cL_law 930 = .ok (.iadd, 1) := by decide +kernel
theorem dL_law_931 : decode cL_law 931 = .ok (.iaload, 1) := by decide +kernel
theorem dL_law_932 : decode cL_law 932 = .ok (.aload_n 0, 1) := by decide +kernel
theorem dL_law_933 : decode cL_law 933 = .ok (.iload 4, 2) := by decide +kernel
theorem dL_law_935 : decode cL_law 935 = .ok (.iconst 2, 1) := by decide +kernel
theorem dL_law_936 : decode cL_law 936 = .ok (.iadd, 1) := by decide +kernel
theorem dL_law_937 : decode cL_law 937 = .ok (.iaload, 1) := by decide +kernel
theorem dL_law_938 : decode cL_law 938 = .ok (.invokevirtual 122, 3) := by decide +kernel
theorem dL_law_941 : decode cL_law 941 = .ok (.if_icmp .eq 640, 3) := by decide +kernel
theorem dL_law_944 : decode cL_law 944 = .ok (.iconst 0, 1) := by decide +kernel
theorem dL_law_945 : decode cL_law 945 = .ok (.ireturn, 1) := by decide +kernel
theorem dL_law_946 : decode cL_law 946 = .ok (.aload_n 1, 1) := by decide +kernel
theorem dL_law_947 : decode cL_law 947 = .ok (.aload_n 0, 1) := by decide +kernel
theorem dL_law_948 : decode cL_law 948 = .ok (.iload 4, 2) := by decide +kernel
theorem dL_law_950 : decode cL_law 950 = .ok (.iconst 1, 1) := by decide +kernel
theorem dL_law_951 : decode cL_law 951 = .ok (.iadd, 1) := by decide +kernel
theorem dL_law_952 : decode cL_law 952 = .ok (.iaload, 1) := by decide +kernel
theorem dL_law_953 : decode cL_law 953 = .ok (.invokevirtual 123, 3) := by decide +kernel
theorem dL_law_956 : decode cL_law 956 = .ok (.aload_n 2, 1) := by decide +kernel
theorem dL_law_957 : decode cL_law 957 = .ok (.aload_n 0, 1) := by decide +kernel
theorem dL_law_958 : decode cL_law 958 = .ok (.iload 4, 2) := by decide +kernel
theorem dL_law_960 : decode cL_law 960 = .ok (.iconst 1, 1) := by decide +kernel
theorem dL_law_961 : decode cL_law 961 = .ok (.iadd, 1) := by decide +kernel
theorem dL_law_962 : decode cL_law 962 = .ok (.iaload, 1) := by decide +kernel
theorem dL_law_963 : decode cL_law 963 = .ok (.invokevirtual 126, 3) := by decide +kernel
theorem dL_law_966 : decode cL_law 966 = .ok (.if_icmp .eq 615, 3) := by decide +kernel
theorem dL_law_969 : decode cL_law 969 = .ok (.iconst 0, 1) := by decide +kernel
theorem dL_law_970 : decode cL_law 970 = .ok (.ireturn, 1) := by decide +kernel
theorem dL_law_971 : decode cL_law 971 = .ok (.aload_n 1, 1) := by decide +kernel
theorem dL_law_972 : decode cL_law 972 = .ok (.aload_n 0, 1) := by decide +kernel
theorem dL_law_973 : decode cL_law 973 = .ok (.iload 4, 2) := by decide +kernel
theorem dL_law_975 : decode cL_law 975 = .ok (.iconst 1, 1) := by decide +kernel
theorem dL_law_976 : decode cL_law 976 = .ok (.iadd, 1) := by decide +kernel
theorem dL_law_977 : decode cL_law 977 = .ok (.iaload, 1) := by decide +kernel
theorem dL_law_978 : decode cL_law 978 = .ok (.aload_n 0, 1) := by decide +kernel
theorem dL_law_979 : decode cL_law 979 = .ok (.iload 4, 2) := by decide +kernel
theorem dL_law_981 : decode cL_law 981 = .ok (.iconst 2, 1) := by decide +kernel
theorem dL_law_982 : decode cL_law 982 = .ok (.iadd, 1) := by decide +kernel
theorem dL_law_983 : decode cL_law 983 = .ok (.iaload, 1) := by decide +kernel
theorem dL_law_984 : decode cL_law 984 = .ok (.aload_n 0, 1) := by decide +kernel
theorem dL_law_985 : decode cL_law 985 = .ok (.iload 4, 2) := by decide +kernel
theorem dL_law_987 : decode cL_law 987 = .ok (.iconst 3, 1) := by decide +kernel
theorem dL_law_988 : decode cL_law 988 = .ok (.iadd, 1) := by decide +kernel
theorem dL_law_989 : decode cL_law 989 = .ok (.iaload, 1) := by decide +kernel
theorem dL_law_990 : decode cL_law 990 = .ok (.invokevirtual 127, 3) := by decide +kernel
theorem dL_law_993 : decode cL_law 993 = .ok (.aload_n 2, 1) := by decide +kernel
theorem dL_law_994 : decode cL_law 994 = .ok (.aload_n 0, 1) := by decide +kernel
theorem dL_law_995 : decode cL_law 995 = .ok (.iload 4, 2) := by decide +kernel
theorem dL_law_997 : decode cL_law 997 = .ok (.iconst 1, 1) := by decide +kernel
theorem dL_law_998 : decode cL_law 998 = .ok (.iadd, 1) := by decide +kernel
theorem dL_law_999 : decode cL_law 999 = .ok (.iaload, 1) := by decide +kernel
theorem dL_law_1000 : decode cL_law 1000 = .ok (.aload_n 0, 1) := by decide +kernel
theorem dL_law_1001 : decode cL_law 1001 = .ok (.iload 4, 2) := by decide +kernel
theorem dL_law_1003 : decode cL_law 1003 = .ok (.iconst 2, 1) := by decide +kernel
theorem dL_law_1004 : decode cL_law 1004 = .ok (.iadd, 1) := by decide +kernel
theorem dL_law_1005 : decode cL_law 1005 = .ok (.iaload, 1) := by decide +kernel
theorem dL_law_1006 : decode cL_law 1006 = .ok (.aload_n 0, 1) := by decide +kernel
theorem dL_law_1007 : decode cL_law 1007 = .ok (.iload 4, 2) := by decide +kernel
theorem dL_law_1009 : decode cL_law 1009 = .ok (.iconst 3, 1) := by decide +kernel
theorem dL_law_1010 : decode cL_law 1010 = .ok (.iadd, 1) := by decide +kernel
theorem dL_law_1011 : decode cL_law 1011 = .ok (.iaload, 1) := by decide +kernel
theorem dL_law_1012 : decode cL_law 1012 = .ok (.invokevirtual 131, 3) := by decide +kernel
theorem dL_law_1015 : decode cL_law 1015 = .ok (.if_icmp .eq 566, 3) := by decide +kernel
theorem dL_law_1018 : decode cL_law 1018 = .ok (.iconst 0, 1) := by decide +kernel
theorem dL_law_1019 : decode cL_law 1019 = .ok (.ireturn, 1) := by decide +kernel
theorem dL_law_1020 : decode cL_law 1020 = .ok (.aload_n 1, 1) := by decide +kernel
theorem dL_law_1021 : decode cL_law 1021 = .ok (.aload_n 0, 1) := by decide +kernel
theorem dL_law_1022 : decode cL_law 1022 = .ok (.iload 4, 2) := by decide +kernel
theorem dL_law_1024 : decode cL_law 1024 = .ok (.iconst 1, 1) := by decide +kernel
theorem dL_law_1025 : decode cL_law 1025 = .ok (.iadd, 1) := by decide +kernel
theorem dL_law_1026 : decode cL_law 1026 = .ok (.iaload, 1) := by decide +kernel
theorem dL_law_1027 : decode cL_law 1027 = .ok (.aload_n 0, 1) := by decide +kernel
theorem dL_law_1028 : decode cL_law 1028 = .ok (.iload 4, 2) := by decide +kernel
theorem dL_law_1030 : decode cL_law 1030 = .ok (.iconst 2, 1) := by decide +kernel
theorem dL_law_1031 : decode cL_law 1031 = .ok (.iadd, 1) := by decide +kernel
theorem dL_law_1032 : decode cL_law 1032 = .ok (.iaload, 1) := by decide +kernel
theorem dL_law_1033 : decode cL_law 1033 = .ok (.invokevirtual 132, 3) := by decide +kernel
theorem dL_law_1036 : decode cL_law 1036 = .ok (.aload_n 2, 1) := by decide +kernel
theorem dL_law_1037 : decode cL_law 1037 = .ok (.aload_n 0, 1) := by decide +kernel
theorem dL_law_1038 : decode cL_law 1038 = .ok (.iload 4, 2) := by decide +kernel
theorem dL_law_1040 : decode cL_law 1040 = .ok (.iconst 1, 1) := by decide +kernel
theorem dL_law_1041 : decode cL_law 1041 = .ok (.iadd, 1) := by decide +kernel
theorem dL_law_1042 : decode cL_law 1042 = .ok (.iaload, 1) := by decide +kernel
theorem dL_law_1043 : decode cL_law 1043 = .ok (.aload_n 0, 1) := by decide +kernel
theorem dL_law_1044 : decode cL_law 1044 = .ok (.iload 4, 2) := by decide +kernel
theorem dL_law_1046 : decode cL_law 1046 = .ok (.iconst 2, 1) := by decide +kernel
theorem dL_law_1047 : decode cL_law 1047 = .ok (.iadd, 1) := by decide +kernel
theorem dL_law_1048 : decode cL_law 1048 = .ok (.iaload, 1) := by decide +kernel
theorem dL_law_1049 : decode cL_law 1049 = .ok (.invokevirtual 135, 3) := by decide +kernel
theorem dL_law_1052 : decode cL_law 1052 = .ok (.if_icmp .eq 529, 3) := by decide +kernel
theorem dL_law_1055 : decode cL_law 1055 = .ok (.iconst 0, 1) := by decide +kernel
theorem dL_law_1056 : decode cL_law 1056 = .ok (.ireturn, 1) := by decide +kernel
theorem dL_law_1057 : decode cL_law 1057 = .ok (.aload_n 1, 1) := by decide +kernel
theorem dL_law_1058 : decode cL_law 1058 = .ok (.aload_n 0, 1) := by decide +kernel
theorem dL_law_1059 : decode cL_law 1059 = .ok (.iload 4, 2) := by decide +kernel
theorem dL_law_1061 : decode cL_law 1061 = .ok (.iconst 1, 1) := by decide +kernel
theorem dL_law_1062 : decode cL_law 1062 = .ok (.iadd, 1) := by decide +kernel
theorem dL_law_1063 : decode cL_law 1063 = .ok (.iaload, 1) := by decide +kernel
theorem dL_law_1064 : decode cL_law 1064 = .ok (.invokevirtual 136, 3) := by decide +kernel
theorem dL_law_1067 : decode cL_law 1067 = .ok (.aload_n 2, 1) := by decide +kernel
theorem dL_law_1068 : decode cL_law 1068 = .ok (.aload_n 0, 1) := by decide +kernel
theorem dL_law_1069 : decode cL_law 1069 = .ok (.iload 4, 2) := by decide +kernel
theorem dL_law_1071 : decode cL_law 1071 = .ok (.iconst 1, 1) := by decide +kernel
theorem dL_law_1072 : decode cL_law 1072 = .ok (.iadd, 1) := by decide +kernel
theorem dL_law_1073 : decode cL_law 1073 = .ok (.iaload, 1) := by decide +kernel
theorem dL_law_1074 : decode cL_law 1074 = .ok (.invokevirtual 139, 3) := by decide +kernel
theorem dL_law_1077 : decode cL_law 1077 = .ok (.if_icmp .eq 504, 3) := by decide +kernel
theorem dL_law_1080 : decode cL_law 1080 = .ok (.iconst 0, 1) := by decide +kernel
theorem dL_law_1081 : decode cL_law 1081 = .ok (.ireturn, 1) := by decide +kernel
theorem dL_law_1082 : decode cL_law 1082 = .ok (.aload_n 1, 1) := by decide +kernel
theorem dL_law_1083 : decode cL_law 1083 = .ok (.aload_n 0, 1) := by decide +kernel
theorem dL_law_1084 : decode cL_law 1084 = .ok (.iload 4, 2) := by decide +kernel
theorem dL_law_1086 : decode cL_law 1086 = .ok (.iconst 1, 1) := by decide +kernel
theorem dL_law_1087 : decode cL_law 1087 = .ok (.iadd, 1) := by decide +kernel
theorem dL_law_1088 : decode cL_law 1088 = .ok (.iaload, 1) := by decide +kernel
theorem dL_law_1089 : decode cL_law 1089 = .ok (.aload_n 0, 1) := by decide +kernel
theorem dL_law_1090 : decode cL_law 1090 = .ok (.iload 4, 2) := by decide +kernel
theorem dL_law_1092 : decode cL_law 1092 = .ok (.iconst 2, 1) := by decide +kernel
theorem dL_law_1093 : decode cL_law 1093 = .ok (.iadd, 1) := by decide +kernel
theorem dL_law_1094 : decode cL_law 1094 = .ok (.iaload, 1) := by decide +kernel
theorem dL_law_1095 : decode cL_law 1095 = .ok (.aload_n 0, 1) := by decide +kernel
theorem dL_law_1096 : decode cL_law 1096 = .ok (.iload 4, 2) := by decide +kernel
theorem dL_law_1098 : decode cL_law 1098 = .ok (.iconst 3, 1) := by decide +kernel
theorem dL_law_1099 : decode cL_law 1099 = .ok (.iadd, 1) := by decide +kernel
theorem dL_law_1100 : decode cL_law 1100 = .ok (.iaload, 1) := by decide +kernel
theorem dL_law_1101 : decode cL_law 1101 = .ok (.aload_n 0, 1) := by decide +kernel
theorem dL_law_1102 : decode cL_law 1102 = .ok (.iload 4, 2) := by decide +kernel
theorem dL_law_1104 : decode cL_law 1104 = .ok (.iconst 4, 1) := by decide +kernel
theorem dL_law_1105 : decode cL_law 1105 = .ok (.iadd, 1) := by decide +kernel
theorem dL_law_1106 : decode cL_law 1106 = .ok (.iaload, 1) := by decide +kernel
theorem dL_law_1107 : decode cL_law 1107 = .ok (.aload_n 0, 1) := by decide +kernel
theorem dL_law_1108 : decode cL_law 1108 = .ok (.iload 4, 2) := by decide +kernel
theorem dL_law_1110 : decode cL_law 1110 = .ok (.iconst 5, 1) := by decide +kernel
theorem dL_law_1111 : decode cL_law 1111 = .ok (.iadd, 1) := by decide +kernel
theorem dL_law_1112 : decode cL_law 1112 = .ok (.iaload, 1) := by decide +kernel
theorem dL_law_1113 : decode cL_law 1113 = .ok (.invokevirtual 140, 3) := by decide +kernel
theorem dL_law_1116 : decode cL_law 1116 = .ok (.aload_n 2, 1) := by decide +kernel
theorem dL_law_1117 : decode cL_law 1117 = .ok (.aload_n 0, 1) := by decide +kernel
theorem dL_law_1118 : decode cL_law 1118 = .ok (.iload 4, 2) := by decide +kernel
theorem dL_law_1120 : decode cL_law 1120 = .ok (.iconst 1, 1) := by decide +kernel
theorem dL_law_1121 : decode cL_law 1121 = .ok (.iadd, 1) := by decide +kernel
theorem dL_law_1122 : decode cL_law 1122 = .ok (.iaload, 1) := by decide +kernel
theorem dL_law_1123 : decode cL_law 1123 = .ok (.aload_n 0, 1) := by decide +kernel
theorem dL_law_1124 : decode cL_law 1124 = .ok (.iload 4, 2) := by decide +kernel
theorem dL_law_1126 : decode cL_law 1126 = .ok (.iconst 2, 1) := by decide +kernel
theorem dL_law_1127 : decode cL_law 1127 = .ok (.iadd, 1) := by decide +kernel
theorem dL_law_1128 : decode cL_law 1128 = .ok (.iaload, 1) := by decide +kernel
theorem dL_law_1129 : decode cL_law 1129 = .ok (.aload_n 0, 1) := by decide +kernel
theorem dL_law_1130 : decode cL_law 1130 = .ok (.iload 4, 2) := by decide +kernel
theorem dL_law_1132 : decode cL_law 1132 = .ok (.iconst 3, 1) := by decide +kernel
theorem dL_law_1133 : decode cL_law 1133 = .ok (.iadd, 1) := by decide +kernel
theorem dL_law_1134 : decode cL_law 1134 = .ok (.iaload, 1) := by decide +kernel
theorem dL_law_1135 : decode cL_law 1135 = .ok (.aload_n 0, 1) := by decide +kernel
theorem dL_law_1136 : decode cL_law 1136 = .ok (.iload 4, 2) := by decide +kernel
theorem dL_law_1138 : decode cL_law 1138 = .ok (.iconst 4, 1) := by decide +kernel
theorem dL_law_1139 : decode cL_law 1139 = .ok (.iadd, 1) := by decide +kernel
theorem dL_law_1140 : decode cL_law 1140 = .ok (.iaload, 1) := by decide +kernel
theorem dL_law_1141 : decode cL_law 1141 = .ok (.aload_n 0, 1) := by decide +kernel
theorem dL_law_1142 : decode cL_law 1142 = .ok (.iload 4, 2) := by decide +kernel
theorem dL_law_1144 : decode cL_law 1144 = .ok (.iconst 5, 1) := by decide +kernel
theorem dL_law_1145 : decode cL_law 1145 = .ok (.iadd, 1) := by decide +kernel
theorem dL_law_1146 : decode cL_law 1146 = .ok (.iaload, 1) := by decide +kernel
theorem dL_law_1147 : decode cL_law 1147 = .ok (.invokevirtual 143, 3) := by decide +kernel
theorem dL_law_1150 : decode cL_law 1150 = .ok (.if_icmp .eq 431, 3) := by decide +kernel
theorem dL_law_1153 : decode cL_law 1153 = .ok (.iconst 0, 1) := by decide +kernel
theorem dL_law_1154 : decode cL_law 1154 = .ok (.ireturn, 1) := by decide +kernel
theorem dL_law_1155 : decode cL_law 1155 = .ok (.aload_n 1, 1) := by decide +kernel
theorem dL_law_1156 : decode cL_law 1156 = .ok (.aload_n 0, 1) := by decide +kernel
theorem dL_law_1157 : decode cL_law 1157 = .ok (.iload 4, 2) := by decide +kernel
theorem dL_law_1159 : decode cL_law 1159 = .ok (.iconst 1, 1) := by decide +kernel
theorem dL_law_1160 : decode cL_law 1160 = .ok (.iadd, 1) := by decide +kernel
theorem dL_law_1161 : decode cL_law 1161 = .ok (.iaload, 1) := by decide +kernel
theorem dL_law_1162 : decode cL_law 1162 = .ok (.aload_n 0, 1) := by decide +kernel
theorem dL_law_1163 : decode cL_law 1163 = .ok (.iload 4, 2) := by decide +kernel
theorem dL_law_1165 : decode cL_law 1165 = .ok (.iconst 2, 1) := by decide +kernel
theorem dL_law_1166 : decode cL_law 1166 = .ok (.iadd, 1) := by decide +kernel
theorem dL_law_1167 : decode cL_law 1167 = .ok (.iaload, 1) := by decide +kernel
theorem dL_law_1168 : decode cL_law 1168 = .ok (.aload_n 0, 1) := by decide +kernel
theorem dL_law_1169 : decode cL_law 1169 = .ok (.iload 4, 2) := by decide +kernel
theorem dL_law_1171 : decode cL_law 1171 = .ok (.iconst 3, 1) := by decide +kernel
theorem dL_law_1172 : decode cL_law 1172 = .ok (.iadd, 1) := by decide +kernel
theorem dL_law_1173 : decode cL_law 1173 = .ok (.iaload, 1) := by decide +kernel
theorem dL_law_1174 : decode cL_law 1174 = .ok (.invokevirtual 144, 3) := by decide +kernel
theorem dL_law_1177 : decode cL_law 1177 = .ok (.aload_n 2, 1) := by decide +kernel
theorem dL_law_1178 : decode cL_law 1178 = .ok (.aload_n 0, 1) := by decide +kernel
theorem dL_law_1179 : decode cL_law 1179 = .ok (.iload 4, 2) := by decide +kernel
theorem dL_law_1181 : decode cL_law 1181 = .ok (.iconst 1, 1) := by decide +kernel
theorem dL_law_1182 : decode cL_law 1182 = .ok (.iadd, 1) := by decide +kernel
theorem dL_law_1183 : decode cL_law 1183 = .ok (.iaload, 1) := by decide +kernel
theorem dL_law_1184 : decode cL_law 1184 = .ok (.aload_n 0, 1) := by decide +kernel
theorem dL_law_1185 : decode cL_law 1185 = .ok (.iload 4, 2) := by decide +kernel
theorem dL_law_1187 : decode cL_law 1187 = .ok (.iconst 2, 1) := by decide +kernel
theorem dL_law_1188 : decode cL_law 1188 = .ok (.iadd, 1) := by decide +kernel
theorem dL_law_1189 : decode cL_law 1189 = .ok (.iaload, 1) := by decide +kernel
theorem dL_law_1190 : decode cL_law 1190 = .ok (.aload_n 0, 1) := by decide +kernel
theorem dL_law_1191 : decode cL_law 1191 = .ok (.iload 4, 2) := by decide +kernel
theorem dL_law_1193 : decode cL_law 1193 = .ok (.iconst 3, 1) := by decide +kernel
theorem dL_law_1194 : decode cL_law 1194 = .ok (.iadd, 1) := by decide +kernel
theorem dL_law_1195 : decode cL_law 1195 = .ok (.iaload, 1) := by decide +kernel
theorem dL_law_1196 : decode cL_law 1196 = .ok (.invokevirtual 147, 3) := by decide +kernel
theorem dL_law_1199 : decode cL_law 1199 = .ok (.if_icmp .eq 382, 3) := by decide +kernel
theorem dL_law_1202 : decode cL_law 1202 = .ok (.iconst 0, 1) := by decide +kernel
theorem dL_law_1203 : decode cL_law 1203 = .ok (.ireturn, 1) := by decide +kernel
theorem dL_law_1204 : decode cL_law 1204 = .ok (.aload_n 1, 1) := by decide +kernel
theorem dL_law_1205 : decode cL_law 1205 = .ok (.aload_n 0, 1) := by decide +kernel
theorem dL_law_1206 : decode cL_law 1206 = .ok (.iload 4, 2) := by decide +kernel
theorem dL_law_1208 : decode cL_law 1208 = .ok (.iconst 1, 1) := by decide +kernel
theorem dL_law_1209 : decode cL_law 1209 = .ok (.iadd, 1) := by decide +kernel
theorem dL_law_1210 : decode cL_law 1210 = .ok (.iaload, 1) := by decide +kernel
theorem dL_law_1211 : decode cL_law 1211 = .ok (.invokevirtual 148, 3) := by decide +kernel
theorem dL_law_1214 : decode cL_law 1214 = .ok (.aload_n 2, 1) := by decide +kernel
theorem dL_law_1215 : decode cL_law 1215 = .ok (.aload_n 0, 1) := by decide +kernel
theorem dL_law_1216 : decode cL_law 1216 = .ok (.iload 4, 2) := by decide +kernel
theorem dL_law_1218 : decode cL_law 1218 = .ok (.iconst 1, 1) := by decide +kernel
theorem dL_law_1219 : decode cL_law 1219 = .ok (.iadd, 1) := by decide +kernel
theorem dL_law_1220 : decode cL_law 1220 = .ok (.iaload, 1) := by decide +kernel
theorem dL_law_1221 : decode cL_law 1221 = .ok (.invokevirtual 151, 3) := by decide +kernel
theorem dL_law_1224 : decode cL_law 1224 = .ok (.if_icmp .eq 357, 3) := by decide +kernel
theorem dL_law_1227 : decode cL_law 1227 = .ok (.iconst 0, 1) := by decide +kernel
theorem dL_law_1228 : decode cL_law 1228 = .ok (.ireturn, 1) := by decide +kernel
theorem dL_law_1229 : decode cL_law 1229 = .ok (.aload_n 1, 1) := by decide +kernel
theorem dL_law_1230 : decode cL_law 1230 = .ok (.aload_n 0, 1) := by decide +kernel
theorem dL_law_1231 : decode cL_law 1231 = .ok (.iload 4, 2) := by decide +kernel
theorem dL_law_1233 : decode cL_law 1233 = .ok (.iconst 1, 1) := by decide +kernel
theorem dL_law_1234 : decode cL_law 1234 = .ok (.iadd, 1) := by decide +kernel
theorem dL_law_1235 : decode cL_law 1235 = .ok (.iaload, 1) := by decide +kernel
theorem dL_law_1236 : decode cL_law 1236 = .ok (.invokevirtual 152, 3) := by decide +kernel
theorem dL_law_1239 : decode cL_law 1239 = .ok (.aload_n 2, 1) := by decide +kernel
theorem dL_law_1240 : decode cL_law 1240 = .ok (.aload_n 0, 1) := by decide +kernel
theorem dL_law_1241 : decode cL_law 1241 = .ok (.iload 4, 2) := by decide +kernel
theorem dL_law_1243 : decode cL_law 1243 = .ok (.iconst 1, 1) := by decide +kernel
theorem dL_law_1244 : decode cL_law 1244 = .ok (.iadd, 1) := by decide +kernel
theorem dL_law_1245 : decode cL_law 1245 = .ok (.iaload, 1) := by decide +kernel
theorem dL_law_1246 : decode cL_law 1246 = .ok (.invokevirtual 155, 3) := by decide +kernel
theorem dL_law_1249 : decode cL_law 1249 = .ok (.if_icmp .eq 332, 3) := by decide +kernel
theorem dL_law_1252 : decode cL_law 1252 = .ok (.iconst 0, 1) := by decide +kernel
theorem dL_law_1253 : decode cL_law 1253 = .ok (.ireturn, 1) := by decide +kernel
theorem dL_law_1254 : decode cL_law 1254 = .ok (.aload_n 1, 1) := by decide +kernel
theorem dL_law_1255 : decode cL_law 1255 = .ok (.aload_n 0, 1) := by decide +kernel
theorem dL_law_1256 : decode cL_law 1256 = .ok (.iload 4, 2) := by decide +kernel
theorem dL_law_1258 : decode cL_law 1258 = .ok (.iconst 1, 1) := by decide +kernel
theorem dL_law_1259 : decode cL_law 1259 = .ok (.iadd, 1) := by decide +kernel
theorem dL_law_1260 : decode cL_law 1260 = .ok (.iaload, 1) := by decide +kernel
theorem dL_law_1261 : decode cL_law 1261 = .ok (.aload_n 0, 1) := by decide +kernel
theorem dL_law_1262 : decode cL_law 1262 = .ok (.iload 4, 2) := by decide +kernel
theorem dL_law_1264 : decode cL_law 1264 = .ok (.iconst 2, 1) := by decide +kernel
theorem dL_law_1265 : decode cL_law 1265 = .ok (.iadd, 1) := by decide +kernel
theorem dL_law_1266 : decode cL_law 1266 = .ok (.iaload, 1) := by decide +kernel
theorem dL_law_1267 : decode cL_law 1267 = .ok (.aload_n 0, 1) := by decide +kernel
theorem dL_law_1268 : decode cL_law 1268 = .ok (.iload 4, 2) := by decide +kernel
theorem dL_law_1270 : decode cL_law 1270 = .ok (.iconst 3, 1) := by decide +kernel
theorem dL_law_1271 : decode cL_law 1271 = .ok (.iadd, 1) := by decide +kernel
theorem dL_law_1272 : decode cL_law 1272 = .ok (.iaload, 1) := by decide +kernel
theorem dL_law_1273 : decode cL_law 1273 = .ok (.ifCond .eq 7, 3) := by decide +kernel
theorem dL_law_1276 : decode cL_law 1276 = .ok (.iconst 1, 1) := by decide +kernel
theorem dL_law_1277 : decode cL_law 1277 = .ok (.goto 4, 3) := by decide +kernel
theorem dL_law_1280 : decode cL_law 1280 = .ok (.iconst 0, 1) := by decide +kernel
theorem dL_law_1281 : decode cL_law 1281 = .ok (.invokevirtual 156, 3) := by decide +kernel
theorem dL_law_1284 : decode cL_law 1284 = .ok (.aload_n 2, 1) := by decide +kernel
theorem dL_law_1285 : decode cL_law 1285 = .ok (.aload_n 0, 1) := by decide +kernel
theorem dL_law_1286 : decode cL_law 1286 = .ok (.iload 4, 2) := by decide +kernel
theorem dL_law_1288 : decode cL_law 1288 = .ok (.iconst 1, 1) := by decide +kernel
theorem dL_law_1289 : decode cL_law 1289 = .ok (.iadd, 1) := by decide +kernel
theorem dL_law_1290 : decode cL_law 1290 = .ok (.iaload, 1) := by decide +kernel
theorem dL_law_1291 : decode cL_law 1291 = .ok (.aload_n 0, 1) := by decide +kernel
theorem dL_law_1292 : decode cL_law 1292 = .ok (.iload 4, 2) := by decide +kernel
theorem dL_law_1294 : decode cL_law 1294 = .ok (.iconst 2, 1) := by decide +kernel
theorem dL_law_1295 : decode cL_law 1295 = .ok (.iadd, 1) := by decide +kernel
theorem dL_law_1296 : decode cL_law 1296 = .ok (.iaload, 1) := by decide +kernel
theorem dL_law_1297 : decode cL_law 1297 = .ok (.aload_n 0, 1) := by decide +kernel
theorem dL_law_1298 : decode cL_law 1298 = .ok (.iload 4, 2) := by decide +kernel
theorem dL_law_1300 : decode cL_law 1300 = .ok (.iconst 3, 1) := by decide +kernel
theorem dL_law_1301 : decode cL_law 1301 = .ok (.iadd, 1) := by decide +kernel
theorem dL_law_1302 : decode cL_law 1302 = .ok (.iaload, 1) := by decide +kernel
theorem dL_law_1303 : decode cL_law 1303 = .ok (.ifCond .eq 7, 3) := by decide +kernel
theorem dL_law_1306 : decode cL_law 1306 = .ok (.iconst 1, 1) := by decide +kernel
theorem dL_law_1307 : decode cL_law 1307 = .ok (.goto 4, 3) := by decide +kernel
theorem dL_law_1310 : decode cL_law 1310 = .ok (.iconst 0, 1) := by decide +kernel
theorem dL_law_1311 : decode cL_law 1311 = .ok (.invokevirtual 160, 3) := by decide +kernel
theorem dL_law_1314 : decode cL_law 1314 = .ok (.if_icmp .eq 267, 3) := by decide +kernel
theorem dL_law_1317 : decode cL_law 1317 = .ok (.iconst 0, 1) := by decide +kernel
theorem dL_law_1318 : decode cL_law 1318 = .ok (.ireturn, 1) := by decide +kernel
theorem dL_law_1319 : decode cL_law 1319 = .ok (.aload_n 1, 1) := by decide +kernel
theorem dL_law_1320 : decode cL_law 1320 = .ok (.aload_n 0, 1) := by decide +kernel
theorem dL_law_1321 : decode cL_law 1321 = .ok (.iload 4, 2) := by decide +kernel
theorem dL_law_1323 : decode cL_law 1323 = .ok (.iconst 1, 1) := by decide +kernel
theorem dL_law_1324 : decode cL_law 1324 = .ok (.iadd, 1) := by decide +kernel
theorem dL_law_1325 : decode cL_law 1325 = .ok (.iaload, 1) := by decide +kernel
theorem dL_law_1326 : decode cL_law 1326 = .ok (.aload_n 0, 1) := by decide +kernel
theorem dL_law_1327 : decode cL_law 1327 = .ok (.iload 4, 2) := by decide +kernel
theorem dL_law_1329 : decode cL_law 1329 = .ok (.iconst 2, 1) := by decide +kernel
theorem dL_law_1330 : decode cL_law 1330 = .ok (.iadd, 1) := by decide +kernel
theorem dL_law_1331 : decode cL_law 1331 = .ok (.iaload, 1) := by decide +kernel
theorem dL_law_1332 : decode cL_law 1332 = .ok (.invokevirtual 161, 3) := by decide +kernel
theorem dL_law_1335 : decode cL_law 1335 = .ok (.aload_n 2, 1) := by decide +kernel
theorem dL_law_1336 : decode cL_law 1336 = .ok (.aload_n 0, 1) := by decide +kernel
theorem dL_law_1337 : decode cL_law 1337 = .ok (.iload 4, 2) := by decide +kernel
theorem dL_law_1339 : decode cL_law 1339 = .ok (.iconst 1, 1) := by decide +kernel
theorem dL_law_1340 : decode cL_law 1340 = .ok (.iadd, 1) := by decide +kernel
theorem dL_law_1341 : decode cL_law 1341 = .ok (.iaload, 1) := by decide +kernel
theorem dL_law_1342 : decode cL_law 1342 = .ok (.aload_n 0, 1) := by decide +kernel
theorem dL_law_1343 : decode cL_law 1343 = .ok (.iload 4, 2) := by decide +kernel
theorem dL_law_1345 : decode cL_law 1345 = .ok (.iconst 2, 1) := by decide +kernel
theorem dL_law_1346 : decode cL_law 1346 = .ok (.iadd, 1) := by decide +kernel
theorem dL_law_1347 : decode cL_law 1347 = .ok (.iaload, 1) := by decide +kernel
theorem dL_law_1348 : decode cL_law 1348 = .ok (.invokevirtual 164, 3) := by decide +kernel
theorem dL_law_1351 : decode cL_law 1351 = .ok (.if_icmp .eq 230, 3) := by decide +kernel
theorem dL_law_1354 : decode cL_law 1354 = .ok (.iconst 0, 1) := by decide +kernel
theorem dL_law_1355 : decode cL_law 1355 = .ok (.ireturn, 1) := by decide +kernel
theorem dL_law_1356 : decode cL_law 1356 = .ok (.aload_n 1, 1) := by decide +kernel
theorem dL_law_1357 : decode cL_law 1357 = .ok (.aload_n 0, 1) := by decide +kernel
theorem dL_law_1358 : decode cL_law 1358 = .ok (.iload 4, 2) := by decide +kernel
theorem dL_law_1360 : decode cL_law 1360 = .ok (.iconst 1, 1) := by decide +kernel
theorem dL_law_1361 : decode cL_law 1361 = .ok (.iadd, 1) := by decide +kernel
theorem dL_law_1362 : decode cL_law 1362 = .ok (.iaload, 1) := by decide +kernel
theorem dL_law_1363 : decode cL_law 1363 = .ok (.aload_n 0, 1) := by decide +kernel
theorem dL_law_1364 : decode cL_law 1364 = .ok (.iload 4, 2) := by decide +kernel
theorem dL_law_1366 : decode cL_law 1366 = .ok (.iconst 2, 1) := by decide +kernel
theorem dL_law_1367 : decode cL_law 1367 = .ok (.iadd, 1) := by decide +kernel
theorem dL_law_1368 : decode cL_law 1368 = .ok (.iaload, 1) := by decide +kernel
theorem dL_law_1369 : decode cL_law 1369 = .ok (.invokevirtual 165, 3) := by decide +kernel
theorem dL_law_1372 : decode cL_law 1372 = .ok (.aload_n 2, 1) := by decide +kernel
theorem dL_law_1373 : decode cL_law 1373 = .ok (.aload_n 0, 1) := by decide +kernel
theorem dL_law_1374 : decode cL_law 1374 = .ok (.iload 4, 2) := by decide +kernel
theorem dL_law_1376 : decode cL_law 1376 = .ok (.iconst 1, 1) := by decide +kernel
theorem dL_law_1377 : decode cL_law 1377 = .ok (.iadd, 1) := by decide +kernel
theorem dL_law_1378 : decode cL_law 1378 = .ok (.iaload, 1) := by decide +kernel
theorem dL_law_1379 : decode cL_law 1379 = .ok (.aload_n 0, 1) := by decide +kernel
theorem dL_law_1380 : decode cL_law 1380 = .ok (.iload 4, 2) := by decide +kernel
theorem dL_law_1382 : decode cL_law 1382 = .ok (.iconst 2, 1) := by decide +kernel
theorem dL_law_1383 : decode cL_law 1383 = .ok (.iadd, 1) := by decide +kernel
theorem dL_law_1384 : decode cL_law 1384 = .ok (.iaload, 1) := by decide +kernel
theorem dL_law_1385 : decode cL_law 1385 = .ok (.invokevirtual 168, 3) := by decide +kernel
theorem dL_law_1388 : decode cL_law 1388 = .ok (.if_icmp .eq 193, 3) := by decide +kernel
theorem dL_law_1391 : decode cL_law 1391 = .ok (.iconst 0, 1) := by decide +kernel
theorem dL_law_1392 : decode cL_law 1392 = .ok (.ireturn, 1) := by decide +kernel
theorem dL_law_1393 : decode cL_law 1393 = .ok (.aload_n 1, 1) := by decide +kernel
theorem dL_law_1394 : decode cL_law 1394 = .ok (.aload_n 0, 1) := by decide +kernel
theorem dL_law_1395 : decode cL_law 1395 = .ok (.iload 4, 2) := by decide +kernel
theorem dL_law_1397 : decode cL_law 1397 = .ok (.iconst 1, 1) := by decide +kernel
theorem dL_law_1398 : decode cL_law 1398 = .ok (.iadd, 1) := by decide +kernel
theorem dL_law_1399 : decode cL_law 1399 = .ok (.iaload, 1) := by decide +kernel
theorem dL_law_1400 : decode cL_law 1400 = .ok (.aload_n 0, 1) := by decide +kernel
theorem dL_law_1401 : decode cL_law 1401 = .ok (.iload 4, 2) := by decide +kernel
theorem dL_law_1403 : decode cL_law 1403 = .ok (.iconst 2, 1) := by decide +kernel
theorem dL_law_1404 : decode cL_law 1404 = .ok (.iadd, 1) := by decide +kernel
theorem dL_law_1405 : decode cL_law 1405 = .ok (.iaload, 1) := by decide +kernel
theorem dL_law_1406 : decode cL_law 1406 = .ok (.invokevirtual 169, 3) := by decide +kernel
theorem dL_law_1409 : decode cL_law 1409 = .ok (.aload_n 2, 1) := by decide +kernel
theorem dL_law_1410 : decode cL_law 1410 = .ok (.aload_n 0, 1) := by decide +kernel
theorem dL_law_1411 : decode cL_law 1411 = .ok (.iload 4, 2) := by decide +kernel
theorem dL_law_1413 : decode cL_law 1413 = .ok (.iconst 1, 1) := by decide +kernel
theorem dL_law_1414 : decode cL_law 1414 = .ok (.iadd, 1) := by decide +kernel
theorem dL_law_1415 : decode cL_law 1415 = .ok (.iaload, 1) := by decide +kernel
theorem dL_law_1416 : decode cL_law 1416 = .ok (.aload_n 0, 1) := by decide +kernel
theorem dL_law_1417 : decode cL_law 1417 = .ok (.iload 4, 2) := by decide +kernel
theorem dL_law_1419 : decode cL_law 1419 = .ok (.iconst 2, 1) := by decide +kernel
theorem dL_law_1420 : decode cL_law 1420 = .ok (.iadd, 1) := by decide +kernel
theorem dL_law_1421 : decode cL_law 1421 = .ok (.iaload, 1) := by decide +kernel
theorem dL_law_1422 : decode cL_law 1422 = .ok (.invokevirtual 172, 3) := by decide +kernel
theorem dL_law_1425 : decode cL_law 1425 = .ok (.if_icmp .eq 156, 3) := by decide +kernel
theorem dL_law_1428 : decode cL_law 1428 = .ok (.iconst 0, 1) := by decide +kernel
theorem dL_law_1429 : decode cL_law 1429 = .ok (.ireturn, 1) := by decide +kernel
theorem dL_law_1430 : decode cL_law 1430 = .ok (.aload_n 1, 1) := by decide +kernel
theorem dL_law_1431 : decode cL_law 1431 = .ok (.aload_n 0, 1) := by decide +kernel
theorem dL_law_1432 : decode cL_law 1432 = .ok (.iload 4, 2) := by decide +kernel
theorem dL_law_1434 : decode cL_law 1434 = .ok (.iconst 1, 1) := by decide +kernel
theorem dL_law_1435 : decode cL_law 1435 = .ok (.iadd, 1) := by decide +kernel
theorem dL_law_1436 : decode cL_law 1436 = .ok (.iaload, 1) := by decide +kernel
theorem dL_law_1437 : decode cL_law 1437 = .ok (.invokevirtual 173, 3) := by decide +kernel
theorem dL_law_1440 : decode cL_law 1440 = .ok (.aload_n 2, 1) := by decide +kernel
theorem dL_law_1441 : decode cL_law 1441 = .ok (.aload_n 0, 1) := by decide +kernel
theorem dL_law_1442 : decode cL_law 1442 = .ok (.iload 4, 2) := by decide +kernel
theorem dL_law_1444 : decode cL_law 1444 = .ok (.iconst 1, 1) := by decide +kernel
theorem dL_law_1445 : decode cL_law 1445 = .ok (.iadd, 1) := by decide +kernel
theorem dL_law_1446 : decode cL_law 1446 = .ok (.iaload, 1) := by decide +kernel
theorem dL_law_1447 : decode cL_law 1447 = .ok (.invokevirtual 176, 3) := by decide +kernel
theorem dL_law_1450 : decode cL_law 1450 = .ok (.if_icmp .eq 131, 3) := by decide +kernel
theorem dL_law_1453 : decode cL_law 1453 = .ok (.iconst 0, 1) := by decide +kernel
theorem dL_law_1454 : decode cL_law 1454 = .ok (.ireturn, 1) := by decide +kernel
theorem dL_law_1455 : decode cL_law 1455 = .ok (.aload_n 1, 1) := by decide +kernel
theorem dL_law_1456 : decode cL_law 1456 = .ok (.aload_n 0, 1) := by decide +kernel
theorem dL_law_1457 : decode cL_law 1457 = .ok (.iload 4, 2) := by decide +kernel
theorem dL_law_1459 : decode cL_law 1459 = .ok (.iconst 1, 1) := by decide +kernel
theorem dL_law_1460 : decode cL_law 1460 = .ok (.iadd, 1) := by decide +kernel
theorem dL_law_1461 : decode cL_law 1461 = .ok (.iaload, 1) := by decide +kernel
theorem dL_law_1462 : decode cL_law 1462 = .ok (.invokevirtual 177, 3) := by decide +kernel
theorem dL_law_1465 : decode cL_law 1465 = .ok (.aload_n 2, 1) := by decide +kernel
theorem dL_law_1466 : decode cL_law 1466 = .ok (.aload_n 0, 1) := by decide +kernel
theorem dL_law_1467 : decode cL_law 1467 = .ok (.iload 4, 2) := by decide +kernel
theorem dL_law_1469 : decode cL_law 1469 = .ok (.iconst 1, 1) := by decide +kernel
theorem dL_law_1470 : decode cL_law 1470 = .ok (.iadd, 1) := by decide +kernel
theorem dL_law_1471 : decode cL_law 1471 = .ok (.iaload, 1) := by decide +kernel
theorem dL_law_1472 : decode cL_law 1472 = .ok (.invokevirtual 180, 3) := by decide +kernel
theorem dL_law_1475 : decode cL_law 1475 = .ok (.if_icmp .eq 106, 3) := by decide +kernel
theorem dL_law_1478 : decode cL_law 1478 = .ok (.iconst 0, 1) := by decide +kernel
theorem dL_law_1479 : decode cL_law 1479 = .ok (.ireturn, 1) := by decide +kernel
theorem dL_law_1480 : decode cL_law 1480 = .ok (.aload_n 1, 1) := by decide +kernel
theorem dL_law_1481 : decode cL_law 1481 = .ok (.aload_n 0, 1) := by decide +kernel
theorem dL_law_1482 : decode cL_law 1482 = .ok (.iload 4, 2) := by decide +kernel
theorem dL_law_1484 : decode cL_law 1484 = .ok (.iconst 1, 1) := by decide +kernel
theorem dL_law_1485 : decode cL_law 1485 = .ok (.iadd, 1) := by decide +kernel
theorem dL_law_1486 : decode cL_law 1486 = .ok (.iaload, 1) := by decide +kernel
theorem dL_law_1487 : decode cL_law 1487 = .ok (.invokevirtual 181, 3) := by decide +kernel
theorem dL_law_1490 : decode cL_law 1490 = .ok (.aload_n 2, 1) := by decide +kernel
theorem dL_law_1491 : decode cL_law 1491 = .ok (.aload_n 0, 1) := by decide +kernel
theorem dL_law_1492 : decode cL_law 1492 = .ok (.iload 4, 2) := by decide +kernel
theorem dL_law_1494 : decode cL_law 1494 = .ok (.iconst 1, 1) := by decide +kernel
theorem dL_law_1495 : decode cL_law 1495 = .ok (.iadd, 1) := by decide +kernel
theorem dL_law_1496 : decode cL_law 1496 = .ok (.iaload, 1) := by decide +kernel
theorem dL_law_1497 : decode cL_law 1497 = .ok (.invokevirtual 184, 3) := by decide +kernel
theorem dL_law_1500 : decode cL_law 1500 = .ok (.if_icmp .eq 81, 3) := by decide +kernel
theorem dL_law_1503 : decode cL_law 1503 = .ok (.iconst 0, 1) := by decide +kernel
theorem dL_law_1504 : decode cL_law 1504 = .ok (.ireturn, 1) := by decide +kernel
theorem dL_law_1505 : decode cL_law 1505 = .ok (.aload_n 1, 1) := by decide +kernel
theorem dL_law_1506 : decode cL_law 1506 = .ok (.aload_n 0, 1) := by decide +kernel
theorem dL_law_1507 : decode cL_law 1507 = .ok (.iload 4, 2) := by decide +kernel
theorem dL_law_1509 : decode cL_law 1509 = .ok (.iconst 1, 1) := by decide +kernel
theorem dL_law_1510 : decode cL_law 1510 = .ok (.iadd, 1) := by decide +kernel
theorem dL_law_1511 : decode cL_law 1511 = .ok (.iaload, 1) := by decide +kernel
theorem dL_law_1512 : decode cL_law 1512 = .ok (.invokevirtual 185, 3) := by decide +kernel
theorem dL_law_1515 : decode cL_law 1515 = .ok (.aload_n 2, 1) := by decide +kernel
theorem dL_law_1516 : decode cL_law 1516 = .ok (.aload_n 0, 1) := by decide +kernel
theorem dL_law_1517 : decode cL_law 1517 = .ok (.iload 4, 2) := by decide +kernel
theorem dL_law_1519 : decode cL_law 1519 = .ok (.iconst 1, 1) := by decide +kernel
theorem dL_law_1520 : decode cL_law 1520 = .ok (.iadd, 1) := by decide +kernel
theorem dL_law_1521 : decode cL_law 1521 = .ok (.iaload, 1) := by decide +kernel
theorem dL_law_1522 : decode cL_law 1522 = .ok (.invokevirtual 188, 3) := by decide +kernel
theorem dL_law_1525 : decode cL_law 1525 = .ok (.if_icmp .eq 56, 3) := by decide +kernel
theorem dL_law_1528 : decode cL_law 1528 = .ok (.iconst 0, 1) := by decide +kernel
theorem dL_law_1529 : decode cL_law 1529 = .ok (.ireturn, 1) := by decide +kernel
theorem dL_law_1530 : decode cL_law 1530 = .ok (.aload_n 1, 1) := by decide +kernel
theorem dL_law_1531 : decode cL_law 1531 = .ok (.invokevirtual 189, 3) := by decide +kernel
theorem dL_law_1534 : decode cL_law 1534 = .ok (.aload_n 2, 1) := by decide +kernel
theorem dL_law_1535 : decode cL_law 1535 = .ok (.invokevirtual 192, 3) := by decide +kernel
theorem dL_law_1538 : decode cL_law 1538 = .ok (.if_icmp .eq 43, 3) := by decide +kernel
theorem dL_law_1541 : decode cL_law 1541 = .ok (.iconst 0, 1) := by decide +kernel
theorem dL_law_1542 : decode cL_law 1542 = .ok (.ireturn, 1) := by decide +kernel
theorem dL_law_1543 : decode cL_law 1543 = .ok (.aload_n 1, 1) := by decide +kernel
theorem dL_law_1544 : decode cL_law 1544 = .ok (.invokevirtual 193, 3) := by decide +kernel
theorem dL_law_1547 : decode cL_law 1547 = .ok (.aload_n 2, 1) := by decide +kernel
theorem dL_law_1548 : decode cL_law 1548 = .ok (.invokevirtual 196, 3) := by decide +kernel
theorem dL_law_1551 : decode cL_law 1551 = .ok (.if_icmp .eq 30, 3) := by decide +kernel
theorem dL_law_1554 : decode cL_law 1554 = .ok (.iconst 0, 1) := by decide +kernel
theorem dL_law_1555 : decode cL_law 1555 = .ok (.ireturn, 1) := by decide +kernel
theorem dL_law_1556 : decode cL_law 1556 = .ok (.aload_n 1, 1) := by decide +kernel
theorem dL_law_1557 : decode cL_law 1557 = .ok (.aload_n 0, 1) := by decide +kernel
theorem dL_law_1558 : decode cL_law 1558 = .ok (.iload 4, 2) := by decide +kernel
theorem dL_law_1560 : decode cL_law 1560 = .ok (.iconst 1, 1) := by decide +kernel
theorem dL_law_1561 : decode cL_law 1561 = .ok (.iadd, 1) := by decide +kernel
theorem dL_law_1562 : decode cL_law 1562 = .ok (.iaload, 1) := by decide +kernel
theorem dL_law_1563 : decode cL_law 1563 = .ok (.invokevirtual 197, 3) := by decide +kernel
theorem dL_law_1566 : decode cL_law 1566 = .ok (.aload_n 2, 1) := by decide +kernel
theorem dL_law_1567 : decode cL_law 1567 = .ok (.aload_n 0, 1) := by decide +kernel
theorem dL_law_1568 : decode cL_law 1568 = .ok (.iload 4, 2) := by decide +kernel
theorem dL_law_1570 : decode cL_law 1570 = .ok (.iconst 1, 1) := by decide +kernel
theorem dL_law_1571 : decode cL_law 1571 = .ok (.iadd, 1) := by decide +kernel
theorem dL_law_1572 : decode cL_law 1572 = .ok (.iaload, 1) := by decide +kernel
theorem dL_law_1573 : decode cL_law 1573 = .ok (.invokevirtual 200, 3) := by decide +kernel
theorem dL_law_1576 : decode cL_law 1576 = .ok (.if_icmp .eq 5, 3) := by decide +kernel
theorem dL_law_1579 : decode cL_law 1579 = .ok (.iconst 0, 1) := by decide +kernel
theorem dL_law_1580 : decode cL_law 1580 = .ok (.ireturn, 1) := by decide +kernel
theorem dL_law_1581 : decode cL_law 1581 = .ok (.iinc 4 6, 3) := by decide +kernel
theorem dL_law_1584 : decode cL_law 1584 = .ok (.goto (-1561), 3) := by decide +kernel
theorem dL_law_1587 : decode cL_law 1587 = .ok (.iconst 1, 1) := by decide +kernel
theorem dL_law_1588 : decode cL_law 1588 = .ok (.ireturn, 1) := by decide +kernel
