theorem dX11_roster_27 : decode cX11_roster 27 = .ok (.istore_n 3, 1) := by decide +kernel
theorem dX11_roster_28 : decode cX11_roster 28 = .ok (.iload_n 3, 1) := by decide +kernel
theorem dX11_roster_29 : decode cX11_roster 29 = .ok (.iconst 1, 1) := by decide +kernel
theorem dX11_roster_30 : decode cX11_roster 30 = .ok (.aload_n 0, 1) := by decide +kernel
theorem dX11_roster_31 : decode cX11_roster 31 = .ok (.getfield 35, 3) := by decide +kernel
theorem dX11_roster_34 : decode cX11_roster 34 = .ok (.invokevirtual 191, 3) := by decide +kernel
theorem dX11_roster_37 : decode cX11_roster 37 = .ok (.ishl, 1) := by decide +kernel
theorem dX11_roster_38 : decode cX11_roster 38 = .ok (.if_icmp .ge 36, 3) := by decide +kernel
theorem dX11_roster_41 : decode cX11_roster 41 = .ok (.aload_n 0, 1) := by decide +kernel
theorem dX11_roster_42 : decode cX11_roster 42 = .ok (.iload_n 3, 1) := by decide +kernel
theorem dX11_roster_43 : decode cX11_roster 43 = .ok (.invokevirtual 342, 3) := by decide +kernel
theorem dX11_roster_46 : decode cX11_roster 46 = .ok (.iload_n 1, 1) := by decide +kernel
theorem dX11_roster_47 : decode cX11_roster 47 = .ok (.if_icmp .lt 21, 3) := by decide +kernel
theorem dX11_roster_50 : decode cX11_roster 50 = .ok (.iload_n 2, 1) := by decide +kernel
theorem dX11_roster_51 : decode cX11_roster 51 = .ok (.iconst (-1), 1) := by decide +kernel
theorem dX11_roster_52 : decode cX11_roster 52 = .ok (.if_icmp .eq 14, 3) := by decide +kernel
theorem dX11_roster_55 : decode cX11_roster 55 = .ok (.iload_n 3, 1) := by decide +kernel
theorem dX11_roster_56 : decode cX11_roster 56 = .ok (.invokestatic 345, 3) := by decide +kernel
theorem dX11_roster_59 : decode cX11_roster 59 = .ok (.iload_n 2, 1) := by decide +kernel
theorem dX11_roster_60 : decode cX11_roster 60 = .ok (.invokestatic 345, 3) := by decide +kernel
theorem dX11_roster_63 : decode cX11_roster 63 = .ok (.if_icmp .ge 5, 3) := by decide +kernel
theorem dX11_roster_66 : decode cX11_roster 66 = .ok (.iload_n 3, 1) := by decide +kernel
theorem dX11_roster_67 : decode cX11_roster 67 = .ok (.istore_n 2, 1) := by decide +kernel
theorem dX11_roster_68 : decode cX11_roster 68 = .ok (.iinc 3 1, 3) := by decide +kernel
theorem dX11_roster_71 : decode cX11_roster 71 = .ok (.goto (-43), 3) := by decide +kernel
theorem dX11_roster_74 : decode cX11_roster 74 = .ok (.iload_n 2, 1) := by decide +kernel
theorem dX11_roster_75 : decode cX11_roster 75 = .ok (.ireturn, 1) := by decide +kernel
theorem dX11_strengthOfAll_0 : decode cX11_strengthOfAll 0 = .ok (.iconst 0, 1) := by decide +kernel
theorem dX11_strengthOfAll_1 : decode cX11_strengthOfAll 1 = .ok (.istore_n 2, 1) := by decide +kernel
theorem dX11_strengthOfAll_2 : decode cX11_strengthOfAll 2 = .ok (.iconst 0, 1) := by decide +kernel
theorem dX11_strengthOfAll_3 : decode cX11_strengthOfAll 3 = .ok (.istore_n 3, 1) := by decide +kernel
theorem dX11_strengthOfAll_4 : decode cX11_strengthOfAll 4 = .ok (.iload_n 3, 1) := by decide +kernel
theorem dX11_strengthOfAll_5 : decode cX11_strengthOfAll 5 = .ok (.aload_n 0, 1) := by decide +kernel
theorem dX11_strengthOfAll_6 : decode cX11_strengthOfAll 6 = .ok (.getfield 35, 3) := by decide +kernel
theorem dX11_strengthOfAll_9 : decode cX11_strengthOfAll 9 = .ok (.invokevirtual 191, 3) := by decide +kernel
theorem dX11_strengthOfAll_12 : decode cX11_strengthOfAll 12 = .ok (.if_icmp .ge 28, 3) := by decide +kernel
theorem dX11_strengthOfAll_15 : decode cX11_strengthOfAll 15 = .ok (.iload_n 1, 1) := by decide +kernel
theorem dX11_strengthOfAll_16 : decode cX11_strengthOfAll 16 = .ok (.iload_n 3, 1) := by decide +kernel
theorem dX11_strengthOfAll_17 : decode cX11_strengthOfAll 17 = .ok (.invokestatic 350, 3) := by decide +kernel
theorem dX11_strengthOfAll_20 : decode cX11_strengthOfAll 20 = .ok (.ifCond .eq 14, 3) := by decide +kernel
theorem dX11_strengthOfAll_23 : decode cX11_strengthOfAll 23 = .ok (.iload_n 2, 1) := by decide +kernel
theorem dX11_strengthOfAll_24 : decode cX11_strengthOfAll 24 = .ok (.aload_n 0, 1) := by decide +kernel
theorem dX11_strengthOfAll_25 : decode cX11_strengthOfAll 25 = .ok (.getfield 35, 3) := by decide +kernel
theorem dX11_strengthOfAll_28 : decode cX11_strengthOfAll 28 = .ok (.iload_n 3, 1) := by decide +kernel
theorem dX11_strengthOfAll_29 : decode cX11_strengthOfAll 29 = .ok (.invokevirtual 194, 3) := by decide +kernel
theorem dX11_strengthOfAll_32 : decode cX11_strengthOfAll 32 = .ok (.iadd, 1) := by decide +kernel
theorem dX11_strengthOfAll_33 : decode cX11_strengthOfAll 33 = .ok (.istore_n 2, 1) := by decide +kernel
theorem dX11_strengthOfAll_34 : decode cX11_strengthOfAll 34 = .ok (.iinc 3 1, 3) := by decide +kernel
theorem dX11_strengthOfAll_37 : decode cX11_strengthOfAll 37 = .ok (.goto (-33), 3) := by decide +kernel
theorem dX11_strengthOfAll_40 : decode cX11_strengthOfAll 40 = .ok (.iload_n 2, 1) := by decide +kernel
theorem dX11_strengthOfAll_41 : decode cX11_strengthOfAll 41 = .ok (.ireturn, 1) := by decide +kernel
theorem dX11_stood_0 : decode cX11_stood 0 = .ok (.aload_n 0, 1) := by decide +kernel
theorem dX11_stood_1 : decode cX11_stood 1 = .ok (.getfield 35, 3) := by decide +kernel
theorem dX11_stood_4 : decode cX11_stood 4 = .ok (.iload_n 1, 1) := by decide +kernel
theorem dX11_stood_5 : decode cX11_stood 5 = .ok (.invokevirtual 169, 3) := by decide +kernel
theorem dX11_stood_8 : decode cX11_stood 8 = .ok (.ifCond .eq 23, 3) := by decide +kernel
theorem dX11_stood_11 : decode cX11_stood 11 = .ok (.iload_n 2, 1) := by decide +kernel
theorem dX11_stood_12 : decode cX11_stood 12 = .ok (.ifCond .lt 19, 3) := by decide +kernel
theorem dX11_stood_15 : decode cX11_stood 15 = .ok (.iload_n 2, 1) := by decide +kernel
theorem dX11_stood_16 : decode cX11_stood 16 = .ok (.bipush 99, 2) := by decide +kernel
theorem dX11_stood_18 : decode cX11_stood 18 = .ok (.if_icmp .gt 13, 3) := by decide +kernel
theorem dX11_stood_21 : decode cX11_stood 21 = .ok (.iload_n 3, 1) := by decide +kernel
theorem dX11_stood_22 : decode cX11_stood 22 = .ok (.ifCond .lt 9, 3) := by decide +kernel
theorem dX11_stood_25 : decode cX11_stood 25 = .ok (.iload_n 3, 1) := by decide +kernel
theorem dX11_stood_26 : decode cX11_stood 26 = .ok (.bipush 60, 2) := by decide +kernel
theorem dX11_stood_28 : decode cX11_stood 28 = .ok (.if_icmp .le 5, 3) := by decide +kernel
theorem dX11_stood_31 : decode cX11_stood 31 = .ok (.iconst (-1), 1) := by decide +kernel
theorem dX11_stood_32 : decode cX11_stood 32 = .ok (.ireturn, 1) := by decide +kernel
theorem dX11_stood_33 : decode cX11_stood 33 = .ok (.aload_n 0, 1) := by decide +kernel
theorem dX11_stood_34 : decode cX11_stood 34 = .ok (.getfield 72, 3) := by decide +kernel
theorem dX11_stood_37 : decode cX11_stood 37 = .ok (.iload_n 1, 1) := by decide +kernel
theorem dX11_stood_38 : decode cX11_stood 38 = .ok (.iload_n 2, 1) := by decide +kernel
theorem dX11_stood_39 : decode cX11_stood 39 = .ok (.iload_n 3, 1) := by decide +kernel
theorem dX11_stood_40 : decode cX11_stood 40 = .ok (.invokevirtual 354, 3) := by decide +kernel
theorem dX11_stood_43 : decode cX11_stood 43 = .ok (.ireturn, 1) := by decide +kernel
theorem dX11_fits_0 : decode cX11_fits 0 = .ok (.aload_n 0, 1) := by decide +kernel
theorem dX11_fits_1 : decode cX11_fits 1 = .ok (.getfield 35, 3) := by decide +kernel
theorem dX11_fits_4 : decode cX11_fits 4 = .ok (.iload_n 1, 1) := by decide +kernel
theorem dX11_fits_5 : decode cX11_fits 5 = .ok (.invokevirtual 169, 3) := by decide +kernel
theorem dX11_fits_8 : decode cX11_fits 8 = .ok (.ifCond .ne 5, 3) := by decide +kernel
theorem dX11_fits_11 : decode cX11_fits 11 = .ok (.iconst (-1), 1) := by decide +kernel
theorem dX11_fits_12 : decode cX11_fits 12 = .ok (.ireturn, 1) := by decide +kernel
theorem dX11_fits_13 : decode cX11_fits 13 = .ok (.iconst 0, 1) := by decide +kernel
theorem dX11_fits_14 : decode cX11_fits 14 = .ok (.istore_n 3, 1) := by decide +kernel
theorem dX11_fits_15 : decode cX11_fits 15 = .ok (.iconst 0, 1) := by decide +kernel
theorem dX11_fits_16 : decode cX11_fits 16 = .ok (.istore 4, 2) := by decide +kernel
theorem dX11_fits_18 : decode cX11_fits 18 = .ok (.iload 4, 2) := by decide +kernel
theorem dX11_fits_20 : decode cX11_fits 20 = .ok (.bipush 30, 2) := by decide +kernel
theorem dX11_fits_22 : decode cX11_fits 22 = .ok (.if_icmp .gt 30, 3) := by decide +kernel
theorem dX11_fits_25 : decode cX11_fits 25 = .ok (.aload_n 0, 1) := by decide +kernel
theorem dX11_fits_26 : decode cX11_fits 26 = .ok (.iload_n 1, 1) := by decide +kernel
theorem dX11_fits_27 : decode cX11_fits 27 = .ok (.iload 4, 2) := by decide +kernel
theorem dX11_fits_29 : decode cX11_fits 29 = .ok (.invokevirtual 358, 3) := by decide +kernel
theorem dX11_fits_32 : decode cX11_fits 32 = .ok (.ifCond .eq 14, 3) := by decide +kernel
theorem dX11_fits_35 : decode cX11_fits 35 = .ok (.iload_n 3, 1) := by decide +kernel
theorem dX11_fits_36 : decode cX11_fits 36 = .ok (.iload_n 2, 1) := by decide +kernel
theorem dX11_fits_37 : decode cX11_fits 37 = .ok (.if_icmp .ne 6, 3) := by decide +kernel
theorem dX11_fits_40 : decode cX11_fits 40 = .ok (.iload 4, 2) := by decide +kernel
theorem dX11_fits_42 : decode cX11_fits 42 = .ok (.ireturn, 1) := by decide +kernel
theorem dX11_fits_43 : decode cX11_fits 43 = .ok (.iinc 3 1, 3) := by decide +kernel
theorem dX11_fits_46 : decode cX11_fits 46 = .ok (.iinc 4 1, 3) := by decide +kernel
theorem dX11_fits_49 : decode cX11_fits 49 = .ok (.goto (-31), 3) := by decide +kernel
theorem dX11_fits_52 : decode cX11_fits 52 = .ok (.iload_n 2, 1) := by decide +kernel
theorem dX11_fits_53 : decode cX11_fits 53 = .ok (.iconst (-1), 1) := by decide +kernel
theorem dX11_fits_54 : decode cX11_fits 54 = .ok (.if_icmp .ne 7, 3) := by decide +kernel
theorem dX11_fits_57 : decode cX11_fits 57 = .ok (.iload_n 3, 1) := by decide +kernel
theorem dX11_fits_58 : decode cX11_fits 58 = .ok (.goto 4, 3) := by decide +kernel
theorem dX11_fits_61 : decode cX11_fits 61 = .ok (.iconst (-1), 1) := by decide +kernel
theorem dX11_fits_62 : decode cX11_fits 62 = .ok (.ireturn, 1) := by decide +kernel
theorem dX11_isFitting_0 : decode cX11_isFitting 0 = .ok (.iconst 0, 1) := by decide +kernel
theorem dX11_isFitting_1 : decode cX11_isFitting 1 = .ok (.istore_n 3, 1) := by decide +kernel
theorem dX11_isFitting_2 : decode cX11_isFitting 2 = .ok (.iload_n 3, 1) := by decide +kernel
theorem dX11_isFitting_3 : decode cX11_isFitting 3 = .ok (.aload_n 0, 1) := by decide +kernel
theorem dX11_isFitting_4 : decode cX11_isFitting 4 = .ok (.getfield 72, 3) := by decide +kernel
theorem dX11_isFitting_7 : decode cX11_isFitting 7 = .ok (.invokevirtual 361, 3) := by decide +kernel
theorem dX11_isFitting_10 : decode cX11_isFitting 10 = .ok (.if_icmp .ge 48, 3) := by decide +kernel
theorem dX11_isFitting_13 : decode cX11_isFitting 13 = .ok (.aload_n 0, 1) := by decide +kernel
theorem dX11_isFitting_14 : decode cX11_isFitting 14 = .ok (.getfield 72, 3) := by decide +kernel
theorem dX11_isFitting_17 : decode cX11_isFitting 17 = .ok (.iload_n 3, 1) := by decide +kernel
theorem dX11_isFitting_18 : decode cX11_isFitting 18 = .ok (.invokevirtual 364, 3) := by decide +kernel
theorem dX11_isFitting_21 : decode cX11_isFitting 21 = .ok (.iload_n 1, 1) := by decide +kernel
theorem dX11_isFitting_22 : decode cX11_isFitting 22 = .ok (.if_icmp .ne 30, 3) := by decide +kernel
theorem dX11_isFitting_25 : decode cX11_isFitting 25 = .ok (.aload_n 0, 1) := by decide +kernel
theorem dX11_isFitting_26 : decode cX11_isFitting 26 = .ok (.iload_n 1, 1) := by decide +kernel
theorem dX11_isFitting_27 : decode cX11_isFitting 27 = .ok (.iload_n 2, 1) := by decide +kernel
theorem dX11_isFitting_28 : decode cX11_isFitting 28 = .ok (.aload_n 0, 1) := by decide +kernel
theorem dX11_isFitting_29 : decode cX11_isFitting 29 = .ok (.getfield 72, 3) := by decide +kernel
theorem dX11_isFitting_32 : decode cX11_isFitting 32 = .ok (.iload_n 3, 1) := by decide +kernel
theorem dX11_isFitting_33 : decode cX11_isFitting 33 = .ok (.invokevirtual 367, 3) := by decide +kernel
theorem dX11_isFitting_36 : decode cX11_isFitting 36 = .ok (.invokevirtual 370, 3) := by decide +kernel
theorem dX11_isFitting_39 : decode cX11_isFitting 39 = .ok (.aload_n 0, 1) := by decide +kernel
theorem dX11_isFitting_40 : decode cX11_isFitting 40 = .ok (.getfield 72, 3) := by decide +kernel
theorem dX11_isFitting_43 : decode cX11_isFitting 43 = .ok (.iload_n 3, 1) := by decide +kernel
theorem dX11_isFitting_44 : decode cX11_isFitting 44 = .ok (.invokevirtual 373, 3) := by decide +kernel
theorem dX11_isFitting_47 : decode cX11_isFitting 47 = .ok (.if_icmp .eq 5, 3) := by decide +kernel
theorem dX11_isFitting_50 : decode cX11_isFitting 50 = .ok (.iconst 0, 1) := by decide +kernel
theorem dX11_isFitting_51 : decode cX11_isFitting 51 = .ok (.ireturn, 1) := by decide +kernel
theorem dX11_isFitting_52 : decode cX11_isFitting 52 = .ok (.iinc 3 1, 3) := by decide +kernel
theorem dX11_isFitting_55 : decode cX11_isFitting 55 = .ok (.goto (-53), 3) := by decide +kernel
theorem dX11_isFitting_58 : decode cX11_isFitting 58 = .ok (.iconst 1, 1) := by decide +kernel
theorem dX11_isFitting_59 : decode cX11_isFitting 59 = .ok (.ireturn, 1) := by decide +kernel
theorem dX11_standsFirst_0 : decode cX11_standsFirst 0 = .ok (.aload_n 0, 1) := by decide +kernel
theorem dX11_standsFirst_1 : decode cX11_standsFirst 1 = .ok (.getfield 42, 3) := by decide +kernel
theorem dX11_standsFirst_4 : decode cX11_standsFirst 4 = .ok (.iload_n 2, 1) := by decide +kernel
theorem dX11_standsFirst_5 : decode cX11_standsFirst 5 = .ok (.aload_n 0, 1) := by decide +kernel
theorem dX11_standsFirst_6 : decode cX11_standsFirst 6 = .ok (.getfield 35, 3) := by decide +kernel
theorem dX11_standsFirst_9 : decode cX11_standsFirst 9 = .ok (.iload_n 1, 1) := by decide +kernel
theorem dX11_standsFirst_10 : decode cX11_standsFirst 10 = .ok (.invokevirtual 185, 3) := by decide +kernel
theorem dX11_standsFirst_13 : decode cX11_standsFirst 13 = .ok (.iload_n 3, 1) := by decide +kernel
theorem dX11_standsFirst_14 : decode cX11_standsFirst 14 = .ok (.iconst 0, 1) := by decide +kernel
theorem dX11_standsFirst_15 : decode cX11_standsFirst 15 = .ok (.aload_n 0, 1) := by decide +kernel
theorem dX11_standsFirst_16 : decode cX11_standsFirst 16 = .ok (.getfield 35, 3) := by decide +kernel
theorem dX11_standsFirst_19 : decode cX11_standsFirst 19 = .ok (.iconst (-1), 1) := by decide +kernel
theorem dX11_standsFirst_20 : decode cX11_standsFirst 20 = .ok (.iload_n 1, 1) := by decide +kernel
theorem dX11_standsFirst_21 : decode cX11_standsFirst 21 = .ok (.invokevirtual 203, 3) := by decide +kernel
theorem dX11_standsFirst_24 : decode cX11_standsFirst 24 = .ok (.aload_n 0, 1) := by decide +kernel
theorem dX11_standsFirst_25 : decode cX11_standsFirst 25 = .ok (.getfield 49, 3) := by decide +kernel
theorem dX11_standsFirst_28 : decode cX11_standsFirst 28 = .ok (.getfield 219, 3) := by decide +kernel
theorem dX11_standsFirst_31 : decode cX11_standsFirst 31 = .ok (.invokevirtual 222, 3) := by decide +kernel
theorem dX11_standsFirst_34 : decode cX11_standsFirst 34 = .ok (.ireturn, 1) := by decide +kernel
theorem dX11_ask_0 : decode cX11_ask 0 = .ok (.aload_n 0, 1) := by decide +kernel
theorem dX11_ask_1 : decode cX11_ask 1 = .ok (.getfield 35, 3) := by decide +kernel
theorem dX11_ask_4 : decode cX11_ask 4 = .ok (.invokevirtual 154, 3) := by decide +kernel
theorem dX11_ask_7 : decode cX11_ask 7 = .ok (.ifCond .eq 13, 3) := by decide +kernel
theorem dX11_ask_10 : decode cX11_ask 10 = .ok (.iload_n 1, 1) := by decide +kernel
theorem dX11_ask_11 : decode cX11_ask 11 = .ok (.ifCond .lt 9, 3) := by decide +kernel
theorem dX11_ask_14 : decode cX11_ask 14 = .ok (.iload_n 1, 1) := by decide +kernel
theorem dX11_ask_15 : decode cX11_ask 15 = .ok (.bipush 99, 2) := by decide +kernel
theorem dX11_ask_17 : decode cX11_ask 17 = .ok (.if_icmp .le 5, 3) := by decide +kernel
theorem dX11_ask_20 : decode cX11_ask 20 = .ok (.iconst (-1), 1) := by decide +kernel
theorem dX11_ask_21 : decode cX11_ask 21 = .ok (.ireturn, 1) := by decide +kernel
theorem dX11_ask_22 : decode cX11_ask 22 = .ok (.iconst (-1), 1) := by decide +kernel
theorem dX11_ask_23 : decode cX11_ask 23 = .ok (.istore_n 2, 1) := by decide +kernel
theorem dX11_ask_24 : decode cX11_ask 24 = .ok (.iconst 0, 1) := by decide +kernel
theorem dX11_ask_25 : decode cX11_ask 25 = .ok (.istore_n 3, 1) := by decide +kernel
theorem dX11_ask_26 : decode cX11_ask 26 = .ok (.iconst 0, 1) := by decide +kernel
theorem dX11_ask_27 : decode cX11_ask 27 = .ok (.istore 4, 2) := by decide +kernel
theorem dX11_ask_29 : decode cX11_ask 29 = .ok (.iload 4, 2) := by decide +kernel
theorem dX11_ask_31 : decode cX11_ask 31 = .ok (.aload_n 0, 1) := by decide +kernel
theorem dX11_ask_32 : decode cX11_ask 32 = .ok (.getfield 35, 3) := by decide +kernel
theorem dX11_ask_35 : decode cX11_ask 35 = .ok (.invokevirtual 151, 3) := by decide +kernel
theorem dX11_ask_38 : decode cX11_ask 38 = .ok (.if_icmp .ge 40, 3) := by decide +kernel
theorem dX11_ask_41 : decode cX11_ask 41 = .ok (.aload_n 0, 1) := by decide +kernel
theorem dX11_ask_42 : decode cX11_ask 42 = .ok (.iload 4, 2) := by decide +kernel
theorem dX11_ask_44 : decode cX11_ask 44 = .ok (.iload_n 1, 1) := by decide +kernel
theorem dX11_ask_45 : decode cX11_ask 45 = .ok (.invokevirtual 376, 3) := by decide +kernel
theorem dX11_ask_48 : decode cX11_ask 48 = .ok (.istore 5, 2) := by decide +kernel
theorem dX11_ask_50 : decode cX11_ask 50 = .ok (.iload 5, 2) := by decide +kernel
theorem dX11_ask_52 : decode cX11_ask 52 = .ok (.ifCond .le 20, 3) := by decide +kernel
theorem dX11_ask_55 : decode cX11_ask 55 = .ok (.iload_n 2, 1) := by decide +kernel
theorem dX11_ask_56 : decode cX11_ask 56 = .ok (.iconst (-1), 1) := by decide +kernel
theorem dX11_ask_57 : decode cX11_ask 57 = .ok (.if_icmp .eq 9, 3) := by decide +kernel
theorem dX11_ask_60 : decode cX11_ask 60 = .ok (.iload 5, 2) := by decide +kernel
theorem dX11_ask_62 : decode cX11_ask 62 = .ok (.iload_n 3, 1) := by decide +kernel
theorem dX11_ask_63 : decode cX11_ask 63 = .ok (.if_icmp .ge 9, 3) := by decide +kernel
theorem dX11_ask_66 : decode cX11_ask 66 = .ok (.iload 4, 2) := by decide +kernel
theorem dX11_ask_68 : decode cX11_ask 68 = .ok (.istore_n 2, 1) := by decide +kernel
theorem dX11_ask_69 : decode cX11_ask 69 = .ok (.iload 5, 2) := by decide +kernel
theorem dX11_ask_71 : decode cX11_ask 71 = .ok (.istore_n 3, 1) := by decide +kernel
theorem dX11_ask_72 : decode cX11_ask 72 = .ok (.iinc 4 1, 3) := by decide +kernel
theorem dX11_ask_75 : decode cX11_ask 75 = .ok (.goto (-46), 3) := by decide +kernel
theorem dX11_ask_78 : decode cX11_ask 78 = .ok (.iload_n 2, 1) := by decide +kernel
theorem dX11_ask_79 : decode cX11_ask 79 = .ok (.ireturn, 1) := by decide +kernel
theorem dX11_mostAlike_0 : decode cX11_mostAlike 0 = .ok (.iconst 0, 1) := by decide +kernel
theorem dX11_mostAlike_1 : decode cX11_mostAlike 1 = .ok (.istore_n 3, 1) := by decide +kernel
theorem dX11_mostAlike_2 : decode cX11_mostAlike 2 = .ok (.iload_n 3, 1) := by decide +kernel
theorem dX11_mostAlike_3 : decode cX11_mostAlike 3 = .ok (.aload_n 0, 1) := by decide +kernel
theorem dX11_mostAlike_4 : decode cX11_mostAlike 4 = .ok (.getfield 87, 3) := by decide +kernel
theorem dX11_mostAlike_7 : decode cX11_mostAlike 7 = .ok (.arraylength, 1) := by decide +kernel
theorem dX11_mostAlike_8 : decode cX11_mostAlike 8 = .ok (.if_icmp .ge 16, 3) := by decide +kernel
theorem dX11_mostAlike_11 : decode cX11_mostAlike 11 = .ok (.aload_n 0, 1) := by decide +kernel
theorem dX11_mostAlike_12 : decode cX11_mostAlike 12 = .ok (.getfield 87, 3) := by decide +kernel
theorem dX11_mostAlike_15 : decode cX11_mostAlike 15 = .ok (.iload_n 3, 1) := by decide +kernel
theorem dX11_mostAlike_16 : decode cX11_mostAlike 16 = .ok (.iconst 0, 1) := by decide +kernel
theorem dX11_mostAlike_17 : decode cX11_mostAlike 17 = .ok (.iastore, 1) := by decide +kernel
theorem dX11_mostAlike_18 : decode cX11_mostAlike 18 = .ok (.iinc 3 1, 3) := by decide +kernel
theorem dX11_mostAlike_21 : decode cX11_mostAlike 21 = .ok (.goto (-19), 3) := by decide +kernel
theorem dX11_mostAlike_24 : decode cX11_mostAlike 24 = .ok (.iconst 0, 1) := by decide +kernel
theorem dX11_mostAlike_25 : decode cX11_mostAlike 25 = .ok (.istore_n 3, 1) := by decide +kernel
theorem dX11_mostAlike_26 : decode cX11_mostAlike 26 = .ok (.iconst 0, 1) := by decide +kernel
theorem dX11_mostAlike_27 : decode cX11_mostAlike 27 = .ok (.istore 4, 2) := by decide +kernel
theorem dX11_mostAlike_29 : decode cX11_mostAlike 29 = .ok (.iload 4, 2) := by decide +kernel
theorem dX11_mostAlike_31 : decode cX11_mostAlike 31 = .ok (.bipush 30, 2) := by decide +kernel
theorem dX11_mostAlike_33 : decode cX11_mostAlike 33 = .ok (.if_icmp .gt 36, 3) := by decide +kernel
theorem dX11_mostAlike_36 : decode cX11_mostAlike 36 = .ok (.aload_n 0, 1) := by decide +kernel
theorem dX11_mostAlike_37 : decode cX11_mostAlike 37 = .ok (.iload_n 1, 1) := by decide +kernel
theorem dX11_mostAlike_38 : decode cX11_mostAlike 38 = .ok (.iload 4, 2) := by decide +kernel
theorem dX11_mostAlike_40 : decode cX11_mostAlike 40 = .ok (.invokevirtual 358, 3) := by decide +kernel
theorem dX11_mostAlike_43 : decode cX11_mostAlike 43 = .ok (.ifCond .eq 20, 3) := by decide +kernel
theorem dX11_mostAlike_46 : decode cX11_mostAlike 46 = .ok (.iload_n 3, 1) := by decide +kernel
theorem dX11_mostAlike_47 : decode cX11_mostAlike 47 = .ok (.aload_n 0, 1) := by decide +kernel
theorem dX11_mostAlike_48 : decode cX11_mostAlike 48 = .ok (.aload_n 0, 1) := by decide +kernel
theorem dX11_mostAlike_49 : decode cX11_mostAlike 49 = .ok (.iload_n 1, 1) := by decide +kernel
theorem dX11_mostAlike_50 : decode cX11_mostAlike 50 = .ok (.iload 4, 2) := by decide +kernel
theorem dX11_mostAlike_52 : decode cX11_mostAlike 52 = .ok (.iload_n 2, 1) := by decide +kernel
theorem dX11_mostAlike_53 : decode cX11_mostAlike 53 = .ok (.invokevirtual 370, 3) := by decide +kernel
theorem dX11_mostAlike_56 : decode cX11_mostAlike 56 = .ok (.invokevirtual 379, 3) := by decide +kernel
theorem dX11_mostAlike_59 : decode cX11_mostAlike 59 = .ok (.invokestatic 269, 3) := by decide +kernel
theorem dX11_mostAlike_62 : decode cX11_mostAlike 62 = .ok (.istore_n 3, 1) := by decide +kernel
theorem dX11_mostAlike_63 : decode cX11_mostAlike 63 = .ok (.iinc 4 1, 3) := by decide +kernel
theorem dX11_mostAlike_66 : decode cX11_mostAlike 66 = .ok (.goto (-37), 3) := by decide +kernel
theorem dX11_mostAlike_69 : decode cX11_mostAlike 69 = .ok (.iload_n 3, 1) := by decide +kernel
theorem dX11_mostAlike_70 : decode cX11_mostAlike 70 = .ok (.ireturn, 1) := by decide +kernel
theorem dX11_tallied_0 : decode cX11_tallied 0 = .ok (.iload_n 1, 1) := by decide +kernel
theorem dX11_tallied_1 : decode cX11_tallied 1 = .ok (.ifCond .lt 12, 3) := by decide +kernel
theorem dX11_tallied_4 : decode cX11_tallied 4 = .ok (.iload_n 1, 1) := by decide +kernel
theorem dX11_tallied_5 : decode cX11_tallied 5 = .ok (.aload_n 0, 1) := by decide +kernel
theorem dX11_tallied_6 : decode cX11_tallied 6 = .ok (.getfield 87, 3) := by decide +kernel
theorem dX11_tallied_9 : decode cX11_tallied 9 = .ok (.arraylength, 1) := by decide +kernel
theorem dX11_tallied_10 : decode cX11_tallied 10 = .ok (.if_icmp .lt 5, 3) := by decide +kernel
theorem dX11_tallied_13 : decode cX11_tallied 13 = .ok (.iconst 0, 1) := by decide +kernel
theorem dX11_tallied_14 : decode cX11_tallied 14 = .ok (.ireturn, 1) := by decide +kernel
theorem dX11_tallied_15 : decode cX11_tallied 15 = .ok (.aload_n 0, 1) := by decide +kernel
theorem dX11_tallied_16 : decode cX11_tallied 16 = .ok (.getfield 87, 3) := by decide +kernel
theorem dX11_tallied_19 : decode cX11_tallied 19 = .ok (.iload_n 1, 1) := by decide +kernel
theorem dX11_tallied_20 : decode cX11_tallied 20 = .ok (.dup2, 1) := by decide +kernel
theorem dX11_tallied_21 : decode cX11_tallied 21 = .ok (.iaload, 1) := by decide +kernel
theorem dX11_tallied_22 : decode cX11_tallied 22 = .ok (.iconst 1, 1) := by decide +kernel
theorem dX11_tallied_23 : decode cX11_tallied 23 = .ok (.iadd, 1) := by decide +kernel
theorem dX11_tallied_24 : decode cX11_tallied 24 = .ok (.iastore, 1) := by decide +kernel
theorem dX11_tallied_25 : decode cX11_tallied 25 = .ok (.aload_n 0, 1) := by decide +kernel
theorem dX11_tallied_26 : decode cX11_tallied 26 = .ok (.getfield 87, 3) := by decide +kernel
theorem dX11_tallied_29 : decode cX11_tallied 29 = .ok (.iload_n 1, 1) := by decide +kernel
theorem dX11_tallied_30 : decode cX11_tallied 30 = .ok (.iaload, 1) := by decide +kernel
theorem dX11_tallied_31 : decode cX11_tallied 31 = .ok (.ireturn, 1) := by decide +kernel
theorem dX11_game_0 : decode cX11_game 0 = .ok (.aload_n 0, 1) := by decide +kernel
theorem dX11_game_1 : decode cX11_game 1 = .ok (.iload_n 1, 1) := by decide +kernel
theorem dX11_game_2 : decode cX11_game 2 = .ok (.iload_n 2, 1) := by decide +kernel
theorem dX11_game_3 : decode cX11_game 3 = .ok (.invokevirtual 382, 3) := by decide +kernel
theorem dX11_game_6 : decode cX11_game 6 = .ok (.ifCond .eq 29, 3) := by decide +kernel
theorem dX11_game_9 : decode cX11_game 9 = .ok (.iload_n 3, 1) := by decide +kernel
theorem dX11_game_10 : decode cX11_game 10 = .ok (.invokestatic 385, 3) := by decide +kernel
theorem dX11_game_13 : decode cX11_game 13 = .ok (.ifCond .eq 22, 3) := by decide +kernel
theorem dX11_game_16 : decode cX11_game 16 = .ok (.iload 4, 2) := by decide +kernel
theorem dX11_game_18 : decode cX11_game 18 = .ok (.invokestatic 385, 3) := by decide +kernel
theorem dX11_game_21 : decode cX11_game 21 = .ok (.ifCond .eq 14, 3) := by decide +kernel
theorem dX11_game_24 : decode cX11_game 24 = .ok (.iload 5, 2) := by decide +kernel
theorem dX11_game_26 : decode cX11_game 26 = .ok (.ifCond .lt 9, 3) := by decide +kernel
theorem dX11_game_29 : decode cX11_game 29 = .ok (.iload 5, 2) := by decide +kernel
theorem dX11_game_31 : decode cX11_game 31 = .ok (.iconst 1, 1) := by decide +kernel
theorem dX11_game_32 : decode cX11_game 32 = .ok (.if_icmp .le 7, 3) := by decide +kernel
theorem dX11_game_35 : decode cX11_game 35 = .ok (.ldc_w 388, 3) := by decide +kernel
theorem dX11_game_38 : decode cX11_game 38 = .ok (.ireturn, 1) := by decide +kernel
theorem dX11_game_39 : decode cX11_game 39 = .ok (.iload 5, 2) := by decide +kernel
theorem dX11_game_41 : decode cX11_game 41 = .ok (.ifCond .ne 18, 3) := by decide +kernel
theorem dX11_game_44 : decode cX11_game 44 = .ok (.aload_n 0, 1) := by decide +kernel
theorem dX11_game_45 : decode cX11_game 45 = .ok (.iload_n 1, 1) := by decide +kernel
theorem dX11_game_46 : decode cX11_game 46 = .ok (.iload_n 3, 1) := by decide +kernel
theorem dX11_game_47 : decode cX11_game 47 = .ok (.invokevirtual 389, 3) := by decide +kernel
theorem dX11_game_50 : decode cX11_game 50 = .ok (.iload_n 3, 1) := by decide +kernel
theorem dX11_game_51 : decode cX11_game 51 = .ok (.iload 4, 2) := by decide +kernel
theorem dX11_game_53 : decode cX11_game 53 = .ok (.invokestatic 392, 3) := by decide +kernel
theorem dX11_game_56 : decode cX11_game 56 = .ok (.goto 16, 3) := by decide +kernel
theorem dX11_game_59 : decode cX11_game 59 = .ok (.aload_n 0, 1) := by decide +kernel
theorem dX11_game_60 : decode cX11_game 60 = .ok (.iload_n 2, 1) := by decide +kernel
theorem dX11_game_61 : decode cX11_game 61 = .ok (.iload 4, 2) := by decide +kernel
theorem dX11_game_63 : decode cX11_game 63 = .ok (.invokevirtual 389, 3) := by decide +kernel
theorem dX11_game_66 : decode cX11_game 66 = .ok (.iload 4, 2) := by decide +kernel
theorem dX11_game_68 : decode cX11_game 68 = .ok (.iload_n 3, 1) := by decide +kernel
theorem dX11_game_69 : decode cX11_game 69 = .ok (.invokestatic 392, 3) := by decide +kernel
theorem dX11_game_72 : decode cX11_game 72 = .ok (.ireturn, 1) := by decide +kernel
theorem dX11_rests_0 : decode cX11_rests 0 = .ok (.aload_n 0, 1) := by decide +kernel
theorem dX11_rests_1 : decode cX11_rests 1 = .ok (.iload_n 1, 1) := by decide +kernel
theorem dX11_rests_2 : decode cX11_rests 2 = .ok (.iload_n 2, 1) := by decide +kernel
theorem dX11_rests_3 : decode cX11_rests 3 = .ok (.invokevirtual 382, 3) := by decide +kernel
theorem dX11_rests_6 : decode cX11_rests 6 = .ok (.ifCond .ne 5, 3) := by decide +kernel
theorem dX11_rests_9 : decode cX11_rests 9 = .ok (.iconst (-1), 1) := by decide +kernel
theorem dX11_rests_10 : decode cX11_rests 10 = .ok (.ireturn, 1) := by decide +kernel
theorem dX11_rests_11 : decode cX11_rests 11 = .ok (.iconst 0, 1) := by decide +kernel
theorem dX11_rests_12 : decode cX11_rests 12 = .ok (.istore 4, 2) := by decide +kernel
theorem dX11_rests_14 : decode cX11_rests 14 = .ok (.iload 4, 2) := by decide +kernel
theorem dX11_rests_16 : decode cX11_rests 16 = .ok (.bipush 10, 2) := by decide +kernel
theorem dX11_rests_18 : decode cX11_rests 18 = .ok (.if_icmp .ge 41, 3) := by decide +kernel
theorem dX11_rests_21 : decode cX11_rests 21 = .ok (.aload_n 0, 1) := by decide +kernel
theorem dX11_rests_22 : decode cX11_rests 22 = .ok (.getfield 90, 3) := by decide +kernel
theorem dX11_rests_25 : decode cX11_rests 25 = .ok (.iload 4, 2) := by decide +kernel
theorem dX11_rests_27 : decode cX11_rests 27 = .ok (.aload_n 0, 1) := by decide +kernel
theorem dX11_rests_28 : decode cX11_rests 28 = .ok (.iload_n 1, 1) := by decide +kernel
theorem dX11_rests_29 : decode cX11_rests 29 = .ok (.iload 4, 2) := by decide +kernel
theorem dX11_rests_31 : decode cX11_rests 31 = .ok (.invokevirtual 389, 3) := by decide +kernel
theorem dX11_rests_34 : decode cX11_rests 34 = .ok (.invokestatic 395, 3) := by decide +kernel
theorem dX11_rests_37 : decode cX11_rests 37 = .ok (.aload_n 0, 1) := by decide +kernel
theorem dX11_rests_38 : decode cX11_rests 38 = .ok (.getfield 93, 3) := by decide +kernel
theorem dX11_rests_41 : decode cX11_rests 41 = .ok (.iload 4, 2) := by decide +kernel
theorem dX11_rests_43 : decode cX11_rests 43 = .ok (.aload_n 0, 1) := by decide +kernel
theorem dX11_rests_44 : decode cX11_rests 44 = .ok (.iload_n 2, 1) := by decide +kernel
theorem dX11_rests_45 : decode cX11_rests 45 = .ok (.iload 4, 2) := by decide +kernel
theorem dX11_rests_47 : decode cX11_rests 47 = .ok (.invokevirtual 389, 3) := by decide +kernel
theorem dX11_rests_50 : decode cX11_rests 50 = .ok (.invokestatic 395, 3) := by decide +kernel
theorem dX11_rests_53 : decode cX11_rests 53 = .ok (.iinc 4 1, 3) := by decide +kernel
theorem dX11_rests_56 : decode cX11_rests 56 = .ok (.goto (-42), 3) := by decide +kernel
theorem dX11_rests_59 : decode cX11_rests 59 = .ok (.iconst 0, 1) := by decide +kernel
theorem dX11_rests_60 : decode cX11_rests 60 = .ok (.istore 4, 2) := by decide +kernel
theorem dX11_rests_62 : decode cX11_rests 62 = .ok (.iconst 0, 1) := by decide +kernel
theorem dX11_rests_63 : decode cX11_rests 63 = .ok (.istore 5, 2) := by decide +kernel
theorem dX11_rests_65 : decode cX11_rests 65 = .ok (.iload 5, 2) := by decide +kernel
theorem dX11_rests_67 : decode cX11_rests 67 = .ok (.bipush 100, 2) := by decide +kernel
theorem dX11_rests_69 : decode cX11_rests 69 = .ok (.if_icmp .ge 61, 3) := by decide +kernel
theorem dX11_rests_72 : decode cX11_rests 72 = .ok (.aload_n 0, 1) := by decide +kernel
theorem dX11_rests_73 : decode cX11_rests 73 = .ok (.getfield 90, 3) := by decide +kernel
theorem dX11_rests_76 : decode cX11_rests 76 = .ok (.iload 5, 2) := by decide +kernel
theorem dX11_rests_78 : decode cX11_rests 78 = .ok (.bipush 10, 2) := by decide +kernel
theorem dX11_rests_80 : decode cX11_rests 80 = .ok (.idiv, 1) := by decide +kernel
theorem dX11_rests_81 : decode cX11_rests 81 = .ok (.iload 5, 2) := by decide +kernel
theorem dX11_rests_83 : decode cX11_rests 83 = .ok (.bipush 10, 2) := by decide +kernel
theorem dX11_rests_85 : decode cX11_rests 85 = .ok (.irem, 1) := by decide +kernel
theorem dX11_rests_86 : decode cX11_rests 86 = .ok (.invokestatic 399, 3) := by decide +kernel
theorem dX11_rests_89 : decode cX11_rests 89 = .ok (.ifCond .eq 35, 3) := by decide +kernel
theorem dX11_rests_92 : decode cX11_rests 92 = .ok (.aload_n 0, 1) := by decide +kernel
theorem dX11_rests_93 : decode cX11_rests 93 = .ok (.getfield 93, 3) := by decide +kernel
theorem dX11_rests_96 : decode cX11_rests 96 = .ok (.iload 5, 2) := by decide +kernel
theorem dX11_rests_98 : decode cX11_rests 98 = .ok (.bipush 10, 2) := by decide +kernel
theorem dX11_rests_100 : decode cX11_rests 100 = .ok (.irem, 1) := by decide +kernel
theorem dX11_rests_101 : decode cX11_rests 101 = .ok (.iload 5, 2) := by decide +kernel
theorem dX11_rests_103 : decode cX11_rests 103 = .ok (.bipush 10, 2) := by decide +kernel
theorem dX11_rests_105 : decode cX11_rests 105 = .ok (.idiv, 1) := by decide +kernel
theorem dX11_rests_106 : decode cX11_rests 106 = .ok (.invokestatic 399, 3) := by decide +kernel
theorem dX11_rests_109 : decode cX11_rests 109 = .ok (.ifCond .eq 15, 3) := by decide +kernel
theorem dX11_rests_112 : decode cX11_rests 112 = .ok (.iload 4, 2) := by decide +kernel
theorem dX11_rests_114 : decode cX11_rests 114 = .ok (.iload_n 3, 1) := by decide +kernel
theorem dX11_rests_115 : decode cX11_rests 115 = .ok (.if_icmp .ne 6, 3) := by decide +kernel
theorem dX11_rests_118 : decode cX11_rests 118 = .ok (.iload 5, 2) := by decide +kernel
theorem dX11_rests_120 : decode cX11_rests 120 = .ok (.ireturn, 1) := by decide +kernel
theorem dX11_rests_121 : decode cX11_rests 121 = .ok (.iinc 4 1, 3) := by decide +kernel
theorem dX11_rests_124 : decode cX11_rests 124 = .ok (.iinc 5 1, 3) := by decide +kernel
theorem dX11_rests_127 : decode cX11_rests 127 = .ok (.goto (-62), 3) := by decide +kernel
theorem dX11_rests_130 : decode cX11_rests 130 = .ok (.iload_n 3, 1) := by decide +kernel
theorem dX11_rests_131 : decode cX11_rests 131 = .ok (.iconst (-1), 1) := by decide +kernel
theorem dX11_rests_132 : decode cX11_rests 132 = .ok (.if_icmp .ne 8, 3) := by decide +kernel
theorem dX11_rests_135 : decode cX11_rests 135 = .ok (.iload 4, 2) := by decide +kernel
theorem dX11_rests_137 : decode cX11_rests 137 = .ok (.goto 4, 3) := by decide +kernel
theorem dX11_rests_140 : decode cX11_rests 140 = .ok (.iconst (-1), 1) := by decide +kernel
theorem dX11_rests_141 : decode cX11_rests 141 = .ok (.ireturn, 1) := by decide +kernel
theorem dX11_arePlaying_0 : decode cX11_arePlaying 0 = .ok (.aload_n 0, 1) := by decide +kernel
theorem dX11_arePlaying_1 : decode cX11_arePlaying 1 = .ok (.getfield 35, 3) := by decide +kernel
theorem dX11_arePlaying_4 : decode cX11_arePlaying 4 = .ok (.iload_n 1, 1) := by decide +kernel
theorem dX11_arePlaying_5 : decode cX11_arePlaying 5 = .ok (.invokevirtual 169, 3) := by decide +kernel
theorem dX11_arePlaying_8 : decode cX11_arePlaying 8 = .ok (.ifCond .eq 23, 3) := by decide +kernel
theorem dX11_arePlaying_11 : decode cX11_arePlaying 11 = .ok (.aload_n 0, 1) := by decide +kernel
theorem dX11_arePlaying_12 : decode cX11_arePlaying 12 = .ok (.getfield 35, 3) := by decide +kernel
theorem dX11_arePlaying_15 : decode cX11_arePlaying 15 = .ok (.iload_n 2, 1) := by decide +kernel
theorem dX11_arePlaying_16 : decode cX11_arePlaying 16 = .ok (.invokevirtual 169, 3) := by decide +kernel
theorem dX11_arePlaying_19 : decode cX11_arePlaying 19 = .ok (.ifCond .eq 12, 3) := by decide +kernel
theorem dX11_arePlaying_22 : decode cX11_arePlaying 22 = .ok (.iload_n 1, 1) := by decide +kernel
theorem dX11_arePlaying_23 : decode cX11_arePlaying 23 = .ok (.iload_n 2, 1) := by decide +kernel
theorem dX11_arePlaying_24 : decode cX11_arePlaying 24 = .ok (.if_icmp .eq 7, 3) := by decide +kernel
theorem dX11_arePlaying_27 : decode cX11_arePlaying 27 = .ok (.iconst 1, 1) := by decide +kernel
theorem dX11_arePlaying_28 : decode cX11_arePlaying 28 = .ok (.goto 4, 3) := by decide +kernel
theorem dX11_arePlaying_31 : decode cX11_arePlaying 31 = .ok (.iconst 0, 1) := by decide +kernel
theorem dX11_arePlaying_32 : decode cX11_arePlaying 32 = .ok (.ireturn, 1) := by decide +kernel
theorem dX11_standsClaimed_0 : decode cX11_standsClaimed 0 = .ok (.aload_n 0, 1) := by decide +kernel
theorem dX11_standsClaimed_1 : decode cX11_standsClaimed 1 = .ok (.iload_n 1, 1) := by decide +kernel
theorem dX11_standsClaimed_2 : decode cX11_standsClaimed 2 = .ok (.bipush 30, 2) := by decide +kernel
theorem dX11_standsClaimed_4 : decode cX11_standsClaimed 4 = .ok (.aload_n 0, 1) := by decide +kernel
theorem dX11_standsClaimed_5 : decode cX11_standsClaimed 5 = .ok (.getfield 49, 3) := by decide +kernel
theorem dX11_standsClaimed_8 : decode cX11_standsClaimed 8 = .ok (.iload_n 1, 1) := by decide +kernel
theorem dX11_standsClaimed_9 : decode cX11_standsClaimed 9 = .ok (.invokevirtual 182, 3) := by decide +kernel
theorem dX11_standsClaimed_12 : decode cX11_standsClaimed 12 = .ok (.iload_n 2, 1) := by decide +kernel
theorem dX11_standsClaimed_13 : decode cX11_standsClaimed 13 = .ok (.iadd, 1) := by decide +kernel
theorem dX11_standsClaimed_14 : decode cX11_standsClaimed 14 = .ok (.invokestatic 283, 3) := by decide +kernel
theorem dX11_standsClaimed_17 : decode cX11_standsClaimed 17 = .ok (.invokevirtual 207, 3) := by decide +kernel
theorem dX11_standsClaimed_20 : decode cX11_standsClaimed 20 = .ok (.ireturn, 1) := by decide +kernel
theorem dX11_isClaim_0 : decode cX11_isClaim 0 = .ok (.iload_n 0, 1) := by decide +kernel
theorem dX11_isClaim_1 : decode cX11_isClaim 1 = .ok (.ifCond .lt 13, 3) := by decide +kernel
theorem dX11_isClaim_4 : decode cX11_isClaim 4 = .ok (.iload_n 0, 1) := by decide +kernel
theorem dX11_isClaim_5 : decode cX11_isClaim 5 = .ok (.bipush 10, 2) := by decide +kernel
theorem dX11_isClaim_7 : decode cX11_isClaim 7 = .ok (.if_icmp .ge 7, 3) := by decide +kernel
theorem dX11_isClaim_10 : decode cX11_isClaim 10 = .ok (.iconst 1, 1) := by decide +kernel
theorem dX11_isClaim_11 : decode cX11_isClaim 11 = .ok (.goto 4, 3) := by decide +kernel
theorem dX11_isClaim_14 : decode cX11_isClaim 14 = .ok (.iconst 0, 1) := by decide +kernel
theorem dX11_isClaim_15 : decode cX11_isClaim 15 = .ok (.ireturn, 1) := by decide +kernel
theorem dX11_gain_0 : decode cX11_gain 0 = .ok (.iload_n 0, 1) := by decide +kernel
theorem dX11_gain_1 : decode cX11_gain 1 = .ok (.iload_n 2, 1) := by decide +kernel
theorem dX11_gain_2 : decode cX11_gain 2 = .ok (.iload_n 1, 1) := by decide +kernel
theorem dX11_gain_3 : decode cX11_gain 3 = .ok (.if_icmp .le 7, 3) := by decide +kernel
theorem dX11_gain_6 : decode cX11_gain 6 = .ok (.iconst 4, 1) := by decide +kernel
theorem dX11_gain_7 : decode cX11_gain 7 = .ok (.goto 4, 3) := by decide +kernel
theorem dX11_gain_10 : decode cX11_gain 10 = .ok (.iconst 0, 1) := by decide +kernel
theorem dX11_gain_11 : decode cX11_gain 11 = .ok (.isub, 1) := by decide +kernel
theorem dX11_gain_12 : decode cX11_gain 12 = .ok (.iload_n 1, 1) := by decide +kernel
theorem dX11_gain_13 : decode cX11_gain 13 = .ok (.iconst 2, 1) := by decide +kernel
theorem dX11_gain_14 : decode cX11_gain 14 = .ok (.idiv, 1) := by decide +kernel
theorem dX11_gain_15 : decode cX11_gain 15 = .ok (.isub, 1) := by decide +kernel
theorem dX11_gain_16 : decode cX11_gain 16 = .ok (.ireturn, 1) := by decide +kernel
theorem dX11_isBest_0 : decode cX11_isBest 0 = .ok (.aload_n 0, 1) := by decide +kernel
theorem dX11_isBest_1 : decode cX11_isBest 1 = .ok (.iload_n 1, 1) := by decide +kernel
theorem dX11_isBest_2 : decode cX11_isBest 2 = .ok (.invokestatic 403, 3) := by decide +kernel
theorem dX11_isBest_5 : decode cX11_isBest 5 = .ok (.iload_n 1, 1) := by decide +kernel
theorem dX11_isBest_6 : decode cX11_isBest 6 = .ok (.iload_n 2, 1) := by decide +kernel
theorem dX11_isBest_7 : decode cX11_isBest 7 = .ok (.invokestatic 392, 3) := by decide +kernel
theorem dX11_isBest_10 : decode cX11_isBest 10 = .ok (.istore_n 3, 1) := by decide +kernel
theorem dX11_isBest_11 : decode cX11_isBest 11 = .ok (.iconst 0, 1) := by decide +kernel
theorem dX11_isBest_12 : decode cX11_isBest 12 = .ok (.istore 4, 2) := by decide +kernel
theorem dX11_isBest_14 : decode cX11_isBest 14 = .ok (.iload 4, 2) := by decide +kernel
theorem dX11_isBest_16 : decode cX11_isBest 16 = .ok (.bipush 10, 2) := by decide +kernel
theorem dX11_isBest_18 : decode cX11_isBest 18 = .ok (.if_icmp .ge 27, 3) := by decide +kernel
theorem dX11_isBest_21 : decode cX11_isBest 21 = .ok (.aload_n 0, 1) := by decide +kernel
theorem dX11_isBest_22 : decode cX11_isBest 22 = .ok (.iload 4, 2) := by decide +kernel
theorem dX11_isBest_24 : decode cX11_isBest 24 = .ok (.invokestatic 403, 3) := by decide +kernel
theorem dX11_isBest_27 : decode cX11_isBest 27 = .ok (.iload 4, 2) := by decide +kernel
theorem dX11_isBest_29 : decode cX11_isBest 29 = .ok (.iload_n 2, 1) := by decide +kernel
theorem dX11_isBest_30 : decode cX11_isBest 30 = .ok (.invokestatic 392, 3) := by decide +kernel
theorem dX11_isBest_33 : decode cX11_isBest 33 = .ok (.iload_n 3, 1) := by decide +kernel
theorem dX11_isBest_34 : decode cX11_isBest 34 = .ok (.if_icmp .le 5, 3) := by decide +kernel
theorem dX11_isBest_37 : decode cX11_isBest 37 = .ok (.iconst 0, 1) := by decide +kernel
theorem dX11_isBest_38 : decode cX11_isBest 38 = .ok (.ireturn, 1) := by decide +kernel
theorem dX11_isBest_39 : decode cX11_isBest 39 = .ok (.iinc 4 1, 3) := by decide +kernel
theorem dX11_isBest_42 : decode cX11_isBest 42 = .ok (.goto (-28), 3) := by decide +kernel
theorem dX11_isBest_45 : decode cX11_isBest 45 = .ok (.iconst 1, 1) := by decide +kernel
theorem dX11_isBest_46 : decode cX11_isBest 46 = .ok (.ireturn, 1) := by decide +kernel
theorem dX11_rival_0 : decode cX11_rival 0 = .ok (.aload_n 0, 1) := by decide +kernel
theorem dX11_rival_1 : decode cX11_rival 1 = .ok (.getfield 35, 3) := by decide +kernel
theorem dX11_rival_4 : decode cX11_rival 4 = .ok (.iload_n 1, 1) := by decide +kernel
theorem dX11_rival_5 : decode cX11_rival 5 = .ok (.invokevirtual 169, 3) := by decide +kernel
theorem dX11_rival_8 : decode cX11_rival 8 = .ok (.ifCond .eq 11, 3) := by decide +kernel
theorem dX11_rival_11 : decode cX11_rival 11 = .ok (.aload_n 0, 1) := by decide +kernel
theorem dX11_rival_12 : decode cX11_rival 12 = .ok (.iload_n 1, 1) := by decide +kernel
theorem dX11_rival_13 : decode cX11_rival 13 = .ok (.invokevirtual 407, 3) := by decide +kernel
theorem dX11_rival_16 : decode cX11_rival 16 = .ok (.goto 4, 3) := by decide +kernel
theorem dX11_rival_19 : decode cX11_rival 19 = .ok (.iconst (-1), 1) := by decide +kernel
theorem dX11_rival_20 : decode cX11_rival 20 = .ok (.ireturn, 1) := by decide +kernel
theorem dX11_meets_0 : decode cX11_meets 0 = .ok (.aload_n 0, 1) := by decide +kernel
theorem dX11_meets_1 : decode cX11_meets 1 = .ok (.getfield 35, 3) := by decide +kernel
theorem dX11_meets_4 : decode cX11_meets 4 = .ok (.iload_n 1, 1) := by decide +kernel
theorem dX11_meets_5 : decode cX11_meets 5 = .ok (.invokevirtual 169, 3) := by decide +kernel
theorem dX11_meets_8 : decode cX11_meets 8 = .ok (.ifCond .ne 5, 3) := by decide +kernel
theorem dX11_meets_11 : decode cX11_meets 11 = .ok (.iconst (-1), 1) := by decide +kernel
theorem dX11_meets_12 : decode cX11_meets 12 = .ok (.ireturn, 1) := by decide +kernel
theorem dX11_meets_13 : decode cX11_meets 13 = .ok (.aload_n 0, 1) := by decide +kernel
theorem dX11_meets_14 : decode cX11_meets 14 = .ok (.iload_n 1, 1) := by decide +kernel
theorem dX11_meets_15 : decode cX11_meets 15 = .ok (.invokevirtual 407, 3) := by decide +kernel
theorem dX11_meets_18 : decode cX11_meets 18 = .ok (.istore_n 2, 1) := by decide +kernel
theorem dX11_meets_19 : decode cX11_meets 19 = .ok (.iload_n 2, 1) := by decide +kernel
theorem dX11_meets_20 : decode cX11_meets 20 = .ok (.iconst (-1), 1) := by decide +kernel
theorem dX11_meets_21 : decode cX11_meets 21 = .ok (.if_icmp .ne 5, 3) := by decide +kernel
theorem dX11_meets_24 : decode cX11_meets 24 = .ok (.iconst 0, 1) := by decide +kernel
theorem dX11_meets_25 : decode cX11_meets 25 = .ok (.ireturn, 1) := by decide +kernel
theorem dX11_meets_26 : decode cX11_meets 26 = .ok (.aload_n 0, 1) := by decide +kernel
theorem dX11_meets_27 : decode cX11_meets 27 = .ok (.getfield 49, 3) := by decide +kernel
theorem dX11_meets_30 : decode cX11_meets 30 = .ok (.getfield 213, 3) := by decide +kernel
theorem dX11_meets_33 : decode cX11_meets 33 = .ok (.aload_n 0, 1) := by decide +kernel
theorem dX11_meets_34 : decode cX11_meets 34 = .ok (.iload_n 1, 1) := by decide +kernel
theorem dX11_meets_35 : decode cX11_meets 35 = .ok (.invokevirtual 200, 3) := by decide +kernel
theorem dX11_meets_38 : decode cX11_meets 38 = .ok (.iadd, 1) := by decide +kernel
theorem dX11_meets_39 : decode cX11_meets 39 = .ok (.istore_n 3, 1) := by decide +kernel
theorem dX11_meets_40 : decode cX11_meets 40 = .ok (.iconst 1, 1) := by decide +kernel
theorem dX11_meets_41 : decode cX11_meets 41 = .ok (.aload_n 0, 1) := by decide +kernel
theorem dX11_meets_42 : decode cX11_meets 42 = .ok (.iload_n 1, 1) := by decide +kernel
theorem dX11_meets_43 : decode cX11_meets 43 = .ok (.aload_n 0, 1) := by decide +kernel
theorem dX11_meets_44 : decode cX11_meets 44 = .ok (.getfield 49, 3) := by decide +kernel
theorem dX11_meets_47 : decode cX11_meets 47 = .ok (.iload_n 1, 1) := by decide +kernel
theorem dX11_meets_48 : decode cX11_meets 48 = .ok (.invokevirtual 182, 3) := by decide +kernel
theorem dX11_meets_51 : decode cX11_meets 51 = .ok (.invokevirtual 207, 3) := by decide +kernel
theorem dX11_meets_54 : decode cX11_meets 54 = .ok (.invokestatic 269, 3) := by decide +kernel
theorem dX11_meets_57 : decode cX11_meets 57 = .ok (.istore 4, 2) := by decide +kernel
theorem dX11_meets_59 : decode cX11_meets 59 = .ok (.iload_n 2, 1) := by decide +kernel
theorem dX11_meets_60 : decode cX11_meets 60 = .ok (.iload_n 3, 1) := by decide +kernel
theorem dX11_meets_61 : decode cX11_meets 61 = .ok (.iload 4, 2) := by decide +kernel
theorem dX11_meets_63 : decode cX11_meets 63 = .ok (.iadd, 1) := by decide +kernel
theorem dX11_meets_64 : decode cX11_meets 64 = .ok (.if_icmp .ge 14, 3) := by decide +kernel
theorem dX11_meets_67 : decode cX11_meets 67 = .ok (.iload_n 3, 1) := by decide +kernel
theorem dX11_meets_68 : decode cX11_meets 68 = .ok (.iload_n 2, 1) := by decide +kernel
theorem dX11_meets_69 : decode cX11_meets 69 = .ok (.iconst 2, 1) := by decide +kernel
theorem dX11_meets_70 : decode cX11_meets 70 = .ok (.iadd, 1) := by decide +kernel
theorem dX11_meets_71 : decode cX11_meets 71 = .ok (.if_icmp .ge 7, 3) := by decide +kernel
theorem dX11_meets_74 : decode cX11_meets 74 = .ok (.iconst 1, 1) := by decide +kernel
theorem dX11_meets_75 : decode cX11_meets 75 = .ok (.goto 4, 3) := by decide +kernel
theorem dX11_meets_78 : decode cX11_meets 78 = .ok (.iconst 0, 1) := by decide +kernel
theorem dX11_meets_79 : decode cX11_meets 79 = .ok (.ireturn, 1) := by decide +kernel
theorem dX11_rivalComes_0 : decode cX11_rivalComes 0 = .ok (.iconst 0, 1) := by decide +kernel
theorem dX11_rivalComes_1 : decode cX11_rivalComes 1 = .ok (.istore_n 2, 1) := by decide +kernel
theorem dX11_rivalComes_2 : decode cX11_rivalComes 2 = .ok (.iconst (-1), 1) := by decide +kernel
theorem dX11_rivalComes_3 : decode cX11_rivalComes 3 = .ok (.istore_n 3, 1) := by decide +kernel
theorem dX11_rivalComes_4 : decode cX11_rivalComes 4 = .ok (.iconst 0, 1) := by decide +kernel
theorem dX11_rivalComes_5 : decode cX11_rivalComes 5 = .ok (.istore 4, 2) := by decide +kernel
theorem dX11_rivalComes_7 : decode cX11_rivalComes 7 = .ok (.iload 4, 2) := by decide +kernel
theorem dX11_rivalComes_9 : decode cX11_rivalComes 9 = .ok (.aload_n 0, 1) := by decide +kernel
theorem dX11_rivalComes_10 : decode cX11_rivalComes 10 = .ok (.getfield 35, 3) := by decide +kernel
theorem dX11_rivalComes_13 : decode cX11_rivalComes 13 = .ok (.invokevirtual 151, 3) := by decide +kernel
theorem dX11_rivalComes_16 : decode cX11_rivalComes 16 = .ok (.if_icmp .ge 48, 3) := by decide +kernel
theorem dX11_rivalComes_19 : decode cX11_rivalComes 19 = .ok (.aload_n 0, 1) := by decide +kernel
theorem dX11_rivalComes_20 : decode cX11_rivalComes 20 = .ok (.getfield 49, 3) := by decide +kernel
theorem dX11_rivalComes_23 : decode cX11_rivalComes 23 = .ok (.iload 4, 2) := by decide +kernel
theorem dX11_rivalComes_25 : decode cX11_rivalComes 25 = .ok (.invokevirtual 182, 3) := by decide +kernel
theorem dX11_rivalComes_28 : decode cX11_rivalComes 28 = .ok (.ifCond .ne 30, 3) := by decide +kernel
theorem dX11_rivalComes_31 : decode cX11_rivalComes 31 = .ok (.iload_n 2, 1) := by decide +kernel
theorem dX11_rivalComes_32 : decode cX11_rivalComes 32 = .ok (.aload_n 0, 1) := by decide +kernel
theorem dX11_rivalComes_33 : decode cX11_rivalComes 33 = .ok (.getfield 35, 3) := by decide +kernel
theorem dX11_rivalComes_36 : decode cX11_rivalComes 36 = .ok (.iload_n 3, 1) := by decide +kernel
theorem dX11_rivalComes_37 : decode cX11_rivalComes 37 = .ok (.iload 4, 2) := by decide +kernel
theorem dX11_rivalComes_39 : decode cX11_rivalComes 39 = .ok (.invokevirtual 203, 3) := by decide +kernel
theorem dX11_rivalComes_42 : decode cX11_rivalComes 42 = .ok (.iadd, 1) := by decide +kernel
theorem dX11_rivalComes_43 : decode cX11_rivalComes 43 = .ok (.istore_n 2, 1) := by decide +kernel
theorem dX11_rivalComes_44 : decode cX11_rivalComes 44 = .ok (.iload 4, 2) := by decide +kernel
theorem dX11_rivalComes_46 : decode cX11_rivalComes 46 = .ok (.iload_n 1, 1) := by decide +kernel
theorem dX11_rivalComes_47 : decode cX11_rivalComes 47 = .ok (.if_icmp .ne 5, 3) := by decide +kernel
theorem dX11_rivalComes_50 : decode cX11_rivalComes 50 = .ok (.iload_n 2, 1) := by decide +kernel
theorem dX11_rivalComes_51 : decode cX11_rivalComes 51 = .ok (.ireturn, 1) := by decide +kernel
theorem dX11_rivalComes_52 : decode cX11_rivalComes 52 = .ok (.iinc 2 2, 3) := by decide +kernel
theorem dX11_rivalComes_55 : decode cX11_rivalComes 55 = .ok (.iload 4, 2) := by decide +kernel
theorem dX11_rivalComes_57 : decode cX11_rivalComes 57 = .ok (.istore_n 3, 1) := by decide +kernel
theorem dX11_rivalComes_58 : decode cX11_rivalComes 58 = .ok (.iinc 4 1, 3) := by decide +kernel
theorem dX11_rivalComes_61 : decode cX11_rivalComes 61 = .ok (.goto (-54), 3) := by decide +kernel
theorem dX11_rivalComes_64 : decode cX11_rivalComes 64 = .ok (.iconst (-1), 1) := by decide +kernel
theorem dX11_rivalComes_65 : decode cX11_rivalComes 65 = .ok (.ireturn, 1) := by decide +kernel
theorem dX11_seen_0 : decode cX11_seen 0 = .ok (.aload_n 0, 1) := by decide +kernel
theorem dX11_seen_1 : decode cX11_seen 1 = .ok (.getfield 35, 3) := by decide +kernel
theorem dX11_seen_4 : decode cX11_seen 4 = .ok (.iload_n 2, 1) := by decide +kernel
theorem dX11_seen_5 : decode cX11_seen 5 = .ok (.invokevirtual 169, 3) := by decide +kernel
theorem dX11_seen_8 : decode cX11_seen 8 = .ok (.ifCond .eq 13, 3) := by decide +kernel
theorem dX11_seen_11 : decode cX11_seen 11 = .ok (.iload_n 1, 1) := by decide +kernel
theorem dX11_seen_12 : decode cX11_seen 12 = .ok (.ifCond .lt 9, 3) := by decide +kernel
theorem dX11_seen_15 : decode cX11_seen 15 = .ok (.iload_n 1, 1) := by decide +kernel
theorem dX11_seen_16 : decode cX11_seen 16 = .ok (.bipush 7, 2) := by decide +kernel
theorem dX11_seen_18 : decode cX11_seen 18 = .ok (.if_icmp .lt 5, 3) := by decide +kernel
theorem dX11_seen_21 : decode cX11_seen 21 = .ok (.iconst (-1), 1) := by decide +kernel
theorem dX11_seen_22 : decode cX11_seen 22 = .ok (.ireturn, 1) := by decide +kernel
theorem dX11_seen_23 : decode cX11_seen 23 = .ok (.aload_n 0, 1) := by decide +kernel
theorem dX11_seen_24 : decode cX11_seen 24 = .ok (.getfield 72, 3) := by decide +kernel
theorem dX11_seen_27 : decode cX11_seen 27 = .ok (.iload_n 1, 1) := by decide +kernel
theorem dX11_seen_28 : decode cX11_seen 28 = .ok (.iload_n 2, 1) := by decide +kernel
theorem dX11_seen_29 : decode cX11_seen 29 = .ok (.iload_n 3, 1) := by decide +kernel
theorem dX11_seen_30 : decode cX11_seen 30 = .ok (.invokevirtual 410, 3) := by decide +kernel
theorem dX11_seen_33 : decode cX11_seen 33 = .ok (.ireturn, 1) := by decide +kernel
theorem dX11_who_0 : decode cX11_who 0 = .ok (.aload_n 0, 1) := by decide +kernel
theorem dX11_who_1 : decode cX11_who 1 = .ok (.getfield 35, 3) := by decide +kernel
theorem dX11_who_4 : decode cX11_who 4 = .ok (.invokevirtual 154, 3) := by decide +kernel
theorem dX11_who_7 : decode cX11_who 7 = .ok (.ifCond .eq 14, 3) := by decide +kernel
theorem dX11_who_10 : decode cX11_who 10 = .ok (.iload_n 1, 1) := by decide +kernel
theorem dX11_who_11 : decode cX11_who 11 = .ok (.iconst 1, 1) := by decide +kernel
theorem dX11_who_12 : decode cX11_who 12 = .ok (.if_icmp .lt 9, 3) := by decide +kernel
theorem dX11_who_15 : decode cX11_who 15 = .ok (.iload_n 1, 1) := by decide +kernel
theorem dX11_who_16 : decode cX11_who 16 = .ok (.bipush 9, 2) := by decide +kernel
theorem dX11_who_18 : decode cX11_who 18 = .ok (.if_icmp .le 5, 3) := by decide +kernel
theorem dX11_who_21 : decode cX11_who 21 = .ok (.iconst (-1), 1) := by decide +kernel
theorem dX11_who_22 : decode cX11_who 22 = .ok (.ireturn, 1) := by decide +kernel
theorem dX11_who_23 : decode cX11_who 23 = .ok (.iconst 0, 1) := by decide +kernel
theorem dX11_who_24 : decode cX11_who 24 = .ok (.istore_n 3, 1) := by decide +kernel
theorem dX11_who_25 : decode cX11_who 25 = .ok (.iconst 0, 1) := by decide +kernel
theorem dX11_who_26 : decode cX11_who 26 = .ok (.istore 4, 2) := by decide +kernel
theorem dX11_who_28 : decode cX11_who 28 = .ok (.iload 4, 2) := by decide +kernel
theorem dX11_who_30 : decode cX11_who 30 = .ok (.bipush 9, 2) := by decide +kernel
theorem dX11_who_32 : decode cX11_who 32 = .ok (.if_icmp .gt 49, 3) := by decide +kernel
theorem dX11_who_35 : decode cX11_who 35 = .ok (.iload 4, 2) := by decide +kernel
theorem dX11_who_37 : decode cX11_who 37 = .ok (.aload_n 0, 1) := by decide +kernel
theorem dX11_who_38 : decode cX11_who 38 = .ok (.getfield 35, 3) := by decide +kernel
theorem dX11_who_41 : decode cX11_who 41 = .ok (.invokevirtual 151, 3) := by decide +kernel
theorem dX11_who_44 : decode cX11_who 44 = .ok (.if_icmp .lt 10, 3) := by decide +kernel
theorem dX11_who_47 : decode cX11_who 47 = .ok (.iload 4, 2) := by decide +kernel
theorem dX11_who_49 : decode cX11_who 49 = .ok (.bipush 9, 2) := by decide +kernel
theorem dX11_who_51 : decode cX11_who 51 = .ok (.if_icmp .ne 24, 3) := by decide +kernel
theorem dX11_who_54 : decode cX11_who 54 = .ok (.aload_n 0, 1) := by decide +kernel
theorem dX11_who_55 : decode cX11_who 55 = .ok (.iload 4, 2) := by decide +kernel
theorem dX11_who_57 : decode cX11_who 57 = .ok (.iload_n 1, 1) := by decide +kernel
theorem dX11_who_58 : decode cX11_who 58 = .ok (.invokevirtual 414, 3) := by decide +kernel
theorem dX11_who_61 : decode cX11_who 61 = .ok (.ifCond .eq 14, 3) := by decide +kernel
theorem dX11_who_64 : decode cX11_who 64 = .ok (.iload_n 3, 1) := by decide +kernel
theorem dX11_who_65 : decode cX11_who 65 = .ok (.iload_n 2, 1) := by decide +kernel
theorem dX11_who_66 : decode cX11_who 66 = .ok (.if_icmp .ne 6, 3) := by decide +kernel
theorem dX11_who_69 : decode cX11_who 69 = .ok (.iload 4, 2) := by decide +kernel
theorem dX11_who_71 : decode cX11_who 71 = .ok (.ireturn, 1) := by decide +kernel
theorem dX11_who_72 : decode cX11_who 72 = .ok (.iinc 3 1, 3) := by decide +kernel
theorem dX11_who_75 : decode cX11_who 75 = .ok (.iinc 4 1, 3) := by decide +kernel
theorem dX11_who_78 : decode cX11_who 78 = .ok (.goto (-50), 3) := by decide +kernel
theorem dX11_who_81 : decode cX11_who 81 = .ok (.iload_n 2, 1) := by decide +kernel
theorem dX11_who_82 : decode cX11_who 82 = .ok (.iconst (-1), 1) := by decide +kernel
theorem dX11_who_83 : decode cX11_who 83 = .ok (.if_icmp .ne 7, 3) := by decide +kernel
theorem dX11_who_86 : decode cX11_who 86 = .ok (.iload_n 3, 1) := by decide +kernel
theorem dX11_who_87 : decode cX11_who 87 = .ok (.goto 4, 3) := by decide +kernel
theorem dX11_who_90 : decode cX11_who 90 = .ok (.iconst (-1), 1) := by decide +kernel
theorem dX11_who_91 : decode cX11_who 91 = .ok (.ireturn, 1) := by decide +kernel
theorem dX11_isSeenSo_0 : decode cX11_isSeenSo 0 = .ok (.aload_n 0, 1) := by decide +kernel
theorem dX11_isSeenSo_1 : decode cX11_isSeenSo 1 = .ok (.iload_n 1, 1) := by decide +kernel
theorem dX11_isSeenSo_2 : decode cX11_isSeenSo 2 = .ok (.iload_n 2, 1) := by decide +kernel
theorem dX11_isSeenSo_3 : decode cX11_isSeenSo 3 = .ok (.invokevirtual 417, 3) := by decide +kernel
theorem dX11_isSeenSo_6 : decode cX11_isSeenSo 6 = .ok (.iconst 0, 1) := by decide +kernel
theorem dX11_isSeenSo_7 : decode cX11_isSeenSo 7 = .ok (.istore_n 3, 1) := by decide +kernel
theorem dX11_isSeenSo_8 : decode cX11_isSeenSo 8 = .ok (.iload_n 3, 1) := by decide +kernel
theorem dX11_isSeenSo_9 : decode cX11_isSeenSo 9 = .ok (.aload_n 0, 1) := by decide +kernel
theorem dX11_isSeenSo_10 : decode cX11_isSeenSo 10 = .ok (.getfield 72, 3) := by decide +kernel
theorem dX11_isSeenSo_13 : decode cX11_isSeenSo 13 = .ok (.invokevirtual 420, 3) := by decide +kernel
theorem dX11_isSeenSo_16 : decode cX11_isSeenSo 16 = .ok (.if_icmp .ge 57, 3) := by decide +kernel
theorem dX11_isSeenSo_19 : decode cX11_isSeenSo 19 = .ok (.aload_n 0, 1) := by decide +kernel
theorem dX11_isSeenSo_20 : decode cX11_isSeenSo 20 = .ok (.getfield 79, 3) := by decide +kernel
theorem dX11_isSeenSo_23 : decode cX11_isSeenSo 23 = .ok (.aload_n 0, 1) := by decide +kernel
theorem dX11_isSeenSo_24 : decode cX11_isSeenSo 24 = .ok (.getfield 72, 3) := by decide +kernel
theorem dX11_isSeenSo_27 : decode cX11_isSeenSo 27 = .ok (.iload_n 3, 1) := by decide +kernel
theorem dX11_isSeenSo_28 : decode cX11_isSeenSo 28 = .ok (.invokevirtual 423, 3) := by decide +kernel
theorem dX11_isSeenSo_31 : decode cX11_isSeenSo 31 = .ok (.invokevirtual 333, 3) := by decide +kernel
theorem dX11_isSeenSo_34 : decode cX11_isSeenSo 34 = .ok (.aload_n 0, 1) := by decide +kernel
theorem dX11_isSeenSo_35 : decode cX11_isSeenSo 35 = .ok (.getfield 72, 3) := by decide +kernel
theorem dX11_isSeenSo_38 : decode cX11_isSeenSo 38 = .ok (.iload_n 3, 1) := by decide +kernel
theorem dX11_isSeenSo_39 : decode cX11_isSeenSo 39 = .ok (.invokevirtual 426, 3) := by decide +kernel
theorem dX11_isSeenSo_42 : decode cX11_isSeenSo 42 = .ok (.if_icmp .ne 7, 3) := by decide +kernel
theorem dX11_isSeenSo_45 : decode cX11_isSeenSo 45 = .ok (.iconst 1, 1) := by decide +kernel
theorem dX11_isSeenSo_46 : decode cX11_isSeenSo 46 = .ok (.goto 4, 3) := by decide +kernel
theorem dX11_isSeenSo_49 : decode cX11_isSeenSo 49 = .ok (.iconst 0, 1) := by decide +kernel
theorem dX11_isSeenSo_50 : decode cX11_isSeenSo 50 = .ok (.istore 4, 2) := by decide +kernel
theorem dX11_isSeenSo_52 : decode cX11_isSeenSo 52 = .ok (.iload 4, 2) := by decide +kernel
theorem dX11_isSeenSo_54 : decode cX11_isSeenSo 54 = .ok (.aload_n 0, 1) := by decide +kernel
theorem dX11_isSeenSo_55 : decode cX11_isSeenSo 55 = .ok (.getfield 72, 3) := by decide +kernel
theorem dX11_isSeenSo_58 : decode cX11_isSeenSo 58 = .ok (.iload_n 3, 1) := by decide +kernel
theorem dX11_isSeenSo_59 : decode cX11_isSeenSo 59 = .ok (.invokevirtual 429, 3) := by decide +kernel
theorem dX11_isSeenSo_62 : decode cX11_isSeenSo 62 = .ok (.if_icmp .eq 5, 3) := by decide +kernel
theorem dX11_isSeenSo_65 : decode cX11_isSeenSo 65 = .ok (.iconst 0, 1) := by decide +kernel
theorem dX11_isSeenSo_66 : decode cX11_isSeenSo 66 = .ok (.ireturn, 1) := by decide +kernel
theorem dX11_isSeenSo_67 : decode cX11_isSeenSo 67 = .ok (.iinc 3 1, 3) := by decide +kernel
theorem dX11_isSeenSo_70 : decode cX11_isSeenSo 70 = .ok (.goto (-62), 3) := by decide +kernel
theorem dX11_isSeenSo_73 : decode cX11_isSeenSo 73 = .ok (.iconst 1, 1) := by decide +kernel
theorem dX11_isSeenSo_74 : decode cX11_isSeenSo 74 = .ok (.ireturn, 1) := by decide +kernel
theorem dX11_orderTold_0 : decode cX11_orderTold 0 = .ok (.aload_n 0, 1) := by decide +kernel
theorem dX11_orderTold_1 : decode cX11_orderTold 1 = .ok (.getfield 79, 3) := by decide +kernel
theorem dX11_orderTold_4 : decode cX11_orderTold 4 = .ok (.invokevirtual 336, 3) := by decide +kernel
theorem dX11_orderTold_7 : decode cX11_orderTold 7 = .ok (.iconst 0, 1) := by decide +kernel
theorem dX11_orderTold_8 : decode cX11_orderTold 8 = .ok (.istore_n 3, 1) := by decide +kernel
theorem dX11_orderTold_9 : decode cX11_orderTold 9 = .ok (.iload_n 3, 1) := by decide +kernel
theorem dX11_orderTold_10 : decode cX11_orderTold 10 = .ok (.aload_n 0, 1) := by decide +kernel
theorem dX11_orderTold_11 : decode cX11_orderTold 11 = .ok (.getfield 35, 3) := by decide +kernel
theorem dX11_orderTold_14 : decode cX11_orderTold 14 = .ok (.invokevirtual 151, 3) := by decide +kernel
theorem dX11_orderTold_17 : decode cX11_orderTold 17 = .ok (.if_icmp .ge 45, 3) := by decide +kernel
theorem dX11_orderTold_20 : decode cX11_orderTold 20 = .ok (.aload_n 0, 1) := by decide +kernel
theorem dX11_orderTold_21 : decode cX11_orderTold 21 = .ok (.getfield 35, 3) := by decide +kernel
theorem dX11_orderTold_24 : decode cX11_orderTold 24 = .ok (.iload_n 3, 1) := by decide +kernel
theorem dX11_orderTold_25 : decode cX11_orderTold 25 = .ok (.invokevirtual 432, 3) := by decide +kernel
theorem dX11_orderTold_28 : decode cX11_orderTold 28 = .ok (.iload_n 3, 1) := by decide +kernel
theorem dX11_orderTold_29 : decode cX11_orderTold 29 = .ok (.iload_n 1, 1) := by decide +kernel
theorem dX11_orderTold_30 : decode cX11_orderTold 30 = .ok (.if_icmp .ne 7, 3) := by decide +kernel
theorem dX11_orderTold_33 : decode cX11_orderTold 33 = .ok (.iload_n 2, 1) := by decide +kernel
theorem dX11_orderTold_34 : decode cX11_orderTold 34 = .ok (.goto 4, 3) := by decide +kernel
theorem dX11_orderTold_37 : decode cX11_orderTold 37 = .ok (.iconst 0, 1) := by decide +kernel
theorem dX11_orderTold_38 : decode cX11_orderTold 38 = .ok (.iadd, 1) := by decide +kernel
theorem dX11_orderTold_39 : decode cX11_orderTold 39 = .ok (.istore 4, 2) := by decide +kernel
theorem dX11_orderTold_41 : decode cX11_orderTold 41 = .ok (.aload_n 0, 1) := by decide +kernel
theorem dX11_orderTold_42 : decode cX11_orderTold 42 = .ok (.getfield 79, 3) := by decide +kernel
theorem dX11_orderTold_45 : decode cX11_orderTold 45 = .ok (.iload_n 3, 1) := by decide +kernel
theorem dX11_orderTold_46 : decode cX11_orderTold 46 = .ok (.bipush 30, 2) := by decide +kernel
theorem dX11_orderTold_48 : decode cX11_orderTold 48 = .ok (.iload 4, 2) := by decide +kernel
theorem dX11_orderTold_50 : decode cX11_orderTold 50 = .ok (.invokestatic 283, 3) := by decide +kernel
theorem dX11_orderTold_53 : decode cX11_orderTold 53 = .ok (.invokevirtual 339, 3) := by decide +kernel
theorem dX11_orderTold_56 : decode cX11_orderTold 56 = .ok (.iinc 3 1, 3) := by decide +kernel
theorem dX11_orderTold_59 : decode cX11_orderTold 59 = .ok (.goto (-50), 3) := by decide +kernel
theorem dX11_orderTold_62 : decode cX11_orderTold 62 = .ok (.return_, 1) := by decide +kernel
theorem dX11_odds_0 : decode cX11_odds 0 = .ok (.aload_n 0, 1) := by decide +kernel
theorem dX11_odds_1 : decode cX11_odds 1 = .ok (.getfield 35, 3) := by decide +kernel
theorem dX11_odds_4 : decode cX11_odds 4 = .ok (.invokevirtual 154, 3) := by decide +kernel
theorem dX11_odds_7 : decode cX11_odds 7 = .ok (.ifCond .eq 23, 3) := by decide +kernel
theorem dX11_odds_10 : decode cX11_odds 10 = .ok (.iload_n 1, 1) := by decide +kernel
theorem dX11_odds_11 : decode cX11_odds 11 = .ok (.ifCond .lt 19, 3) := by decide +kernel
theorem dX11_odds_14 : decode cX11_odds 14 = .ok (.iload_n 1, 1) := by decide +kernel
theorem dX11_odds_15 : decode cX11_odds 15 = .ok (.bipush 7, 2) := by decide +kernel
theorem dX11_odds_17 : decode cX11_odds 17 = .ok (.if_icmp .gt 13, 3) := by decide +kernel
theorem dX11_odds_20 : decode cX11_odds 20 = .ok (.iload_n 2, 1) := by decide +kernel
theorem dX11_odds_21 : decode cX11_odds 21 = .ok (.ifCond .lt 9, 3) := by decide +kernel
theorem dX11_odds_24 : decode cX11_odds 24 = .ok (.iload_n 2, 1) := by decide +kernel
theorem dX11_odds_25 : decode cX11_odds 25 = .ok (.bipush 100, 2) := by decide +kernel
theorem dX11_odds_27 : decode cX11_odds 27 = .ok (.if_icmp .le 5, 3) := by decide +kernel
theorem dX11_odds_30 : decode cX11_odds 30 = .ok (.iconst (-1), 1) := by decide +kernel
theorem dX11_odds_31 : decode cX11_odds 31 = .ok (.ireturn, 1) := by decide +kernel
theorem dX11_odds_32 : decode cX11_odds 32 = .ok (.aload_n 0, 1) := by decide +kernel
theorem dX11_odds_33 : decode cX11_odds 33 = .ok (.invokevirtual 326, 3) := by decide +kernel
theorem dX11_odds_36 : decode cX11_odds 36 = .ok (.iload_n 1, 1) := by decide +kernel
theorem dX11_odds_37 : decode cX11_odds 37 = .ok (.aload_n 0, 1) := by decide +kernel
theorem dX11_odds_38 : decode cX11_odds 38 = .ok (.getfield 79, 3) := by decide +kernel
theorem dX11_odds_41 : decode cX11_odds 41 = .ok (.invokevirtual 329, 3) := by decide +kernel
theorem dX11_odds_44 : decode cX11_odds 44 = .ok (.if_icmp .le 7, 3) := by decide +kernel
theorem dX11_odds_47 : decode cX11_odds 47 = .ok (.iconst 0, 1) := by decide +kernel
theorem dX11_odds_48 : decode cX11_odds 48 = .ok (.goto 21, 3) := by decide +kernel
theorem dX11_odds_51 : decode cX11_odds 51 = .ok (.aload_n 0, 1) := by decide +kernel
theorem dX11_odds_52 : decode cX11_odds 52 = .ok (.iconst 0, 1) := by decide +kernel
theorem dX11_odds_53 : decode cX11_odds 53 = .ok (.iload_n 1, 1) := by decide +kernel
theorem dX11_odds_54 : decode cX11_odds 54 = .ok (.iload_n 2, 1) := by decide +kernel
theorem dX11_odds_55 : decode cX11_odds 55 = .ok (.aload_n 0, 1) := by decide +kernel
theorem dX11_odds_56 : decode cX11_odds 56 = .ok (.getfield 49, 3) := by decide +kernel
theorem dX11_odds_59 : decode cX11_odds 59 = .ok (.getfield 213, 3) := by decide +kernel
theorem dX11_odds_62 : decode cX11_odds 62 = .ok (.ldc2_w 435, 3) := by decide +kernel
theorem dX11_odds_65 : decode cX11_odds 65 = .ok (.invokevirtual 437, 3) := by decide +kernel
theorem dX11_odds_68 : decode cX11_odds 68 = .ok (.l2i, 1) := by decide +kernel
theorem dX11_odds_69 : decode cX11_odds 69 = .ok (.ireturn, 1) := by decide +kernel
theorem dX11_partsThrough_0 : decode cX11_partsThrough 0 = .ok (.iload_n 1, 1) := by decide +kernel
theorem dX11_partsThrough_1 : decode cX11_partsThrough 1 = .ok (.iload_n 2, 1) := by decide +kernel
theorem dX11_partsThrough_2 : decode cX11_partsThrough 2 = .ok (.if_icmp .ge 16, 3) := by decide +kernel
theorem dX11_partsThrough_5 : decode cX11_partsThrough 5 = .ok (.iload_n 1, 1) := by decide +kernel
theorem dX11_partsThrough_6 : decode cX11_partsThrough 6 = .ok (.bipush 7, 2) := by decide +kernel
theorem dX11_partsThrough_8 : decode cX11_partsThrough 8 = .ok (.if_icmp .ge 10, 3) := by decide +kernel
theorem dX11_partsThrough_11 : decode cX11_partsThrough 11 = .ok (.lload 5, 2) := by decide +kernel
theorem dX11_partsThrough_13 : decode cX11_partsThrough 13 = .ok (.lconst 0, 1) := by decide +kernel
theorem dX11_partsThrough_14 : decode cX11_partsThrough 14 = .ok (.lcmp, 1) := by decide +kernel
theorem dX11_partsThrough_15 : decode cX11_partsThrough 15 = .ok (.ifCond .ne 6, 3) := by decide +kernel
theorem dX11_partsThrough_18 : decode cX11_partsThrough 18 = .ok (.lload 5, 2) := by decide +kernel
theorem dX11_partsThrough_20 : decode cX11_partsThrough 20 = .ok (.lreturn, 1) := by decide +kernel
theorem dX11_partsThrough_21 : decode cX11_partsThrough 21 = .ok (.iload_n 1, 1) := by decide +kernel
theorem dX11_partsThrough_22 : decode cX11_partsThrough 22 = .ok (.ifCond .ne 13, 3) := by decide +kernel
theorem dX11_partsThrough_25 : decode cX11_partsThrough 25 = .ok (.aload_n 0, 1) := by decide +kernel
theorem dX11_partsThrough_26 : decode cX11_partsThrough 26 = .ok (.getfield 49, 3) := by decide +kernel
theorem dX11_partsThrough_29 : decode cX11_partsThrough 29 = .ok (.getfield 210, 3) := by decide +kernel
theorem dX11_partsThrough_32 : decode cX11_partsThrough 32 = .ok (.goto 13, 3) := by decide +kernel
theorem dX11_partsThrough_35 : decode cX11_partsThrough 35 = .ok (.aload_n 0, 1) := by decide +kernel
theorem dX11_partsThrough_36 : decode cX11_partsThrough 36 = .ok (.getfield 79, 3) := by decide +kernel
theorem dX11_partsThrough_39 : decode cX11_partsThrough 39 = .ok (.iload_n 1, 1) := by decide +kernel
theorem dX11_partsThrough_40 : decode cX11_partsThrough 40 = .ok (.iconst 1, 1) := by decide +kernel
theorem dX11_partsThrough_41 : decode cX11_partsThrough 41 = .ok (.isub, 1) := by decide +kernel
theorem dX11_partsThrough_42 : decode cX11_partsThrough 42 = .ok (.invokevirtual 333, 3) := by decide +kernel
theorem dX11_partsThrough_45 : decode cX11_partsThrough 45 = .ok (.istore 7, 2) := by decide +kernel
theorem dX11_partsThrough_47 : decode cX11_partsThrough 47 = .ok (.aload_n 0, 1) := by decide +kernel
theorem dX11_partsThrough_48 : decode cX11_partsThrough 48 = .ok (.getfield 35, 3) := by decide +kernel
theorem dX11_partsThrough_51 : decode cX11_partsThrough 51 = .ok (.iload 7, 2) := by decide +kernel
theorem dX11_partsThrough_53 : decode cX11_partsThrough 53 = .ok (.aload_n 0, 1) := by decide +kernel
theorem dX11_partsThrough_54 : decode cX11_partsThrough 54 = .ok (.getfield 79, 3) := by decide +kernel
theorem dX11_partsThrough_57 : decode cX11_partsThrough 57 = .ok (.iload_n 1, 1) := by decide +kernel
theorem dX11_partsThrough_58 : decode cX11_partsThrough 58 = .ok (.invokevirtual 333, 3) := by decide +kernel
theorem dX11_partsThrough_61 : decode cX11_partsThrough 61 = .ok (.invokevirtual 203, 3) := by decide +kernel
theorem dX11_partsThrough_64 : decode cX11_partsThrough 64 = .ok (.istore 8, 2) := by decide +kernel
theorem dX11_partsThrough_66 : decode cX11_partsThrough 66 = .ok (.lload 5, 2) := by decide +kernel
theorem dX11_partsThrough_68 : decode cX11_partsThrough 68 = .ok (.iload_n 3, 1) := by decide +kernel
theorem dX11_partsThrough_69 : decode cX11_partsThrough 69 = .ok (.i2l, 1) := by decide +kernel
theorem dX11_partsThrough_70 : decode cX11_partsThrough 70 = .ok (.lmul, 1) := by decide +kernel
theorem dX11_partsThrough_71 : decode cX11_partsThrough 71 = .ok (.ldc2_w 441, 3) := by decide +kernel
theorem dX11_partsThrough_74 : decode cX11_partsThrough 74 = .ok (.ldiv, 1) := by decide +kernel
theorem dX11_partsThrough_75 : decode cX11_partsThrough 75 = .ok (.lstore 9, 2) := by decide +kernel
theorem dX11_partsThrough_77 : decode cX11_partsThrough 77 = .ok (.aload_n 0, 1) := by decide +kernel
theorem dX11_partsThrough_78 : decode cX11_partsThrough 78 = .ok (.iload_n 1, 1) := by decide +kernel
theorem dX11_partsThrough_79 : decode cX11_partsThrough 79 = .ok (.iload_n 2, 1) := by decide +kernel
theorem dX11_partsThrough_80 : decode cX11_partsThrough 80 = .ok (.iload_n 3, 1) := by decide +kernel
theorem dX11_partsThrough_81 : decode cX11_partsThrough 81 = .ok (.iload 4, 2) := by decide +kernel
theorem dX11_partsThrough_83 : decode cX11_partsThrough 83 = .ok (.iload 8, 2) := by decide +kernel
theorem dX11_partsThrough_85 : decode cX11_partsThrough 85 = .ok (.iadd, 1) := by decide +kernel
theorem dX11_partsThrough_86 : decode cX11_partsThrough 86 = .ok (.iload 8, 2) := by decide +kernel
theorem dX11_partsThrough_88 : decode cX11_partsThrough 88 = .ok (.iconst 2, 1) := by decide +kernel
theorem dX11_partsThrough_89 : decode cX11_partsThrough 89 = .ok (.idiv, 1) := by decide +kernel
theorem dX11_partsThrough_90 : decode cX11_partsThrough 90 = .ok (.iadd, 1) := by decide +kernel
theorem dX11_partsThrough_91 : decode cX11_partsThrough 91 = .ok (.lload 9, 2) := by decide +kernel
theorem dX11_partsThrough_93 : decode cX11_partsThrough 93 = .ok (.invokevirtual 443, 3) := by decide +kernel
theorem dX11_partsThrough_96 : decode cX11_partsThrough 96 = .ok (.aload_n 0, 1) := by decide +kernel
theorem dX11_partsThrough_97 : decode cX11_partsThrough 97 = .ok (.iload_n 1, 1) := by decide +kernel
theorem dX11_partsThrough_98 : decode cX11_partsThrough 98 = .ok (.iload_n 2, 1) := by decide +kernel
theorem dX11_partsThrough_99 : decode cX11_partsThrough 99 = .ok (.iload_n 3, 1) := by decide +kernel
theorem dX11_partsThrough_100 : decode cX11_partsThrough 100 = .ok (.iload 4, 2) := by decide +kernel
theorem dX11_partsThrough_102 : decode cX11_partsThrough 102 = .ok (.iload 8, 2) := by decide +kernel
theorem dX11_partsThrough_104 : decode cX11_partsThrough 104 = .ok (.iadd, 1) := by decide +kernel
theorem dX11_partsThrough_105 : decode cX11_partsThrough 105 = .ok (.lload 5, 2) := by decide +kernel
theorem dX11_partsThrough_107 : decode cX11_partsThrough 107 = .ok (.lload 9, 2) := by decide +kernel
theorem dX11_partsThrough_109 : decode cX11_partsThrough 109 = .ok (.lsub, 1) := by decide +kernel
theorem dX11_partsThrough_110 : decode cX11_partsThrough 110 = .ok (.invokevirtual 443, 3) := by decide +kernel
theorem dX11_partsThrough_113 : decode cX11_partsThrough 113 = .ok (.ladd, 1) := by decide +kernel
theorem dX11_partsThrough_114 : decode cX11_partsThrough 114 = .ok (.lreturn, 1) := by decide +kernel
theorem dX11_partsBehind_0 : decode cX11_partsBehind 0 = .ok (.aload_n 0, 1) := by decide +kernel
theorem dX11_partsBehind_1 : decode cX11_partsBehind 1 = .ok (.getfield 79, 3) := by decide +kernel
theorem dX11_partsBehind_4 : decode cX11_partsBehind 4 = .ok (.iload_n 1, 1) := by decide +kernel
theorem dX11_partsBehind_5 : decode cX11_partsBehind 5 = .ok (.invokevirtual 333, 3) := by decide +kernel
theorem dX11_partsBehind_8 : decode cX11_partsBehind 8 = .ok (.istore 7, 2) := by decide +kernel
theorem dX11_partsBehind_10 : decode cX11_partsBehind 10 = .ok (.aload_n 0, 1) := by decide +kernel
theorem dX11_partsBehind_11 : decode cX11_partsBehind 11 = .ok (.getfield 35, 3) := by decide +kernel
theorem dX11_partsBehind_14 : decode cX11_partsBehind 14 = .ok (.iload_n 1, 1) := by decide +kernel
theorem dX11_partsBehind_15 : decode cX11_partsBehind 15 = .ok (.ifCond .ne 13, 3) := by decide +kernel
theorem dX11_partsBehind_18 : decode cX11_partsBehind 18 = .ok (.aload_n 0, 1) := by decide +kernel
theorem dX11_partsBehind_19 : decode cX11_partsBehind 19 = .ok (.getfield 49, 3) := by decide +kernel
theorem dX11_partsBehind_22 : decode cX11_partsBehind 22 = .ok (.getfield 210, 3) := by decide +kernel
theorem dX11_partsBehind_25 : decode cX11_partsBehind 25 = .ok (.goto 13, 3) := by decide +kernel
theorem dX11_partsBehind_28 : decode cX11_partsBehind 28 = .ok (.aload_n 0, 1) := by decide +kernel
theorem dX11_partsBehind_29 : decode cX11_partsBehind 29 = .ok (.getfield 79, 3) := by decide +kernel
theorem dX11_partsBehind_32 : decode cX11_partsBehind 32 = .ok (.iload_n 1, 1) := by decide +kernel
theorem dX11_partsBehind_33 : decode cX11_partsBehind 33 = .ok (.iconst 1, 1) := by decide +kernel
theorem dX11_partsBehind_34 : decode cX11_partsBehind 34 = .ok (.isub, 1) := by decide +kernel
theorem dX11_partsBehind_35 : decode cX11_partsBehind 35 = .ok (.invokevirtual 333, 3) := by decide +kernel
theorem dX11_partsBehind_38 : decode cX11_partsBehind 38 = .ok (.iload 7, 2) := by decide +kernel
theorem dX11_partsBehind_40 : decode cX11_partsBehind 40 = .ok (.invokevirtual 203, 3) := by decide +kernel
theorem dX11_partsBehind_43 : decode cX11_partsBehind 43 = .ok (.istore 8, 2) := by decide +kernel
theorem dX11_partsBehind_45 : decode cX11_partsBehind 45 = .ok (.aload_n 0, 1) := by decide +kernel
theorem dX11_partsBehind_46 : decode cX11_partsBehind 46 = .ok (.getfield 49, 3) := by decide +kernel
theorem dX11_partsBehind_49 : decode cX11_partsBehind 49 = .ok (.iload 7, 2) := by decide +kernel
theorem dX11_partsBehind_51 : decode cX11_partsBehind 51 = .ok (.invokevirtual 182, 3) := by decide +kernel
theorem dX11_partsBehind_54 : decode cX11_partsBehind 54 = .ok (.istore 9, 2) := by decide +kernel
theorem dX11_partsBehind_56 : decode cX11_partsBehind 56 = .ok (.aload_n 0, 1) := by decide +kernel
theorem dX11_partsBehind_57 : decode cX11_partsBehind 57 = .ok (.getfield 42, 3) := by decide +kernel
theorem dX11_partsBehind_60 : decode cX11_partsBehind 60 = .ok (.iload 9, 2) := by decide +kernel
theorem dX11_partsBehind_62 : decode cX11_partsBehind 62 = .ok (.aload_n 0, 1) := by decide +kernel
theorem dX11_partsBehind_63 : decode cX11_partsBehind 63 = .ok (.getfield 35, 3) := by decide +kernel
theorem dX11_partsBehind_66 : decode cX11_partsBehind 66 = .ok (.iload 7, 2) := by decide +kernel
theorem dX11_partsBehind_68 : decode cX11_partsBehind 68 = .ok (.invokevirtual 185, 3) := by decide +kernel
theorem dX11_partsBehind_71 : decode cX11_partsBehind 71 = .ok (.iload 4, 2) := by decide +kernel
theorem dX11_partsBehind_73 : decode cX11_partsBehind 73 = .ok (.aload_n 0, 1) := by decide +kernel
theorem dX11_partsBehind_74 : decode cX11_partsBehind 74 = .ok (.getfield 49, 3) := by decide +kernel
theorem dX11_partsBehind_77 : decode cX11_partsBehind 77 = .ok (.invokevirtual 216, 3) := by decide +kernel
theorem dX11_partsBehind_80 : decode cX11_partsBehind 80 = .ok (.iload_n 1, 1) := by decide +kernel
theorem dX11_partsBehind_81 : decode cX11_partsBehind 81 = .ok (.iadd, 1) := by decide +kernel
theorem dX11_partsBehind_82 : decode cX11_partsBehind 82 = .ok (.iload 8, 2) := by decide +kernel
theorem dX11_partsBehind_84 : decode cX11_partsBehind 84 = .ok (.aload_n 0, 1) := by decide +kernel
theorem dX11_partsBehind_85 : decode cX11_partsBehind 85 = .ok (.getfield 49, 3) := by decide +kernel
theorem dX11_partsBehind_88 : decode cX11_partsBehind 88 = .ok (.getfield 219, 3) := by decide +kernel
theorem dX11_partsBehind_91 : decode cX11_partsBehind 91 = .ok (.invokevirtual 222, 3) := by decide +kernel
theorem dX11_partsBehind_94 : decode cX11_partsBehind 94 = .ok (.istore 10, 2) := by decide +kernel
theorem dX11_partsBehind_96 : decode cX11_partsBehind 96 = .ok (.iload 4, 2) := by decide +kernel
theorem dX11_partsBehind_98 : decode cX11_partsBehind 98 = .ok (.iload 10, 2) := by decide +kernel
theorem dX11_partsBehind_100 : decode cX11_partsBehind 100 = .ok (.iadd, 1) := by decide +kernel
theorem dX11_partsBehind_101 : decode cX11_partsBehind 101 = .ok (.aload_n 0, 1) := by decide +kernel
theorem dX11_partsBehind_102 : decode cX11_partsBehind 102 = .ok (.getfield 35, 3) := by decide +kernel
theorem dX11_partsBehind_105 : decode cX11_partsBehind 105 = .ok (.invokevirtual 157, 3) := by decide +kernel
theorem dX11_partsBehind_108 : decode cX11_partsBehind 108 = .ok (.if_icmp .le 5, 3) := by decide +kernel
theorem dX11_partsBehind_111 : decode cX11_partsBehind 111 = .ok (.lconst 0, 1) := by decide +kernel
theorem dX11_partsBehind_112 : decode cX11_partsBehind 112 = .ok (.lreturn, 1) := by decide +kernel
theorem dX11_partsBehind_113 : decode cX11_partsBehind 113 = .ok (.aload_n 0, 1) := by decide +kernel
theorem dX11_partsBehind_114 : decode cX11_partsBehind 114 = .ok (.iload_n 1, 1) := by decide +kernel
theorem dX11_partsBehind_115 : decode cX11_partsBehind 115 = .ok (.iconst 1, 1) := by decide +kernel
theorem dX11_partsBehind_116 : decode cX11_partsBehind 116 = .ok (.iadd, 1) := by decide +kernel
theorem dX11_partsBehind_117 : decode cX11_partsBehind 117 = .ok (.iload_n 2, 1) := by decide +kernel
theorem dX11_partsBehind_118 : decode cX11_partsBehind 118 = .ok (.iload_n 3, 1) := by decide +kernel
theorem dX11_partsBehind_119 : decode cX11_partsBehind 119 = .ok (.iload 4, 2) := by decide +kernel
theorem dX11_partsBehind_121 : decode cX11_partsBehind 121 = .ok (.iload 10, 2) := by decide +kernel
theorem dX11_partsBehind_123 : decode cX11_partsBehind 123 = .ok (.iadd, 1) := by decide +kernel
theorem dX11_partsBehind_124 : decode cX11_partsBehind 124 = .ok (.lload 5, 2) := by decide +kernel
theorem dX11_partsBehind_126 : decode cX11_partsBehind 126 = .ok (.invokevirtual 437, 3) := by decide +kernel
theorem dX11_partsBehind_129 : decode cX11_partsBehind 129 = .ok (.lreturn, 1) := by decide +kernel
theorem dX11_shares_0 : decode cX11_shares 0 = .ok (.aload_n 0, 1) := by decide +kernel
theorem dX11_shares_1 : decode cX11_shares 1 = .ok (.getfield 35, 3) := by decide +kernel
theorem dX11_shares_4 : decode cX11_shares 4 = .ok (.iload_n 1, 1) := by decide +kernel
theorem dX11_shares_5 : decode cX11_shares 5 = .ok (.invokevirtual 169, 3) := by decide +kernel
theorem dX11_shares_8 : decode cX11_shares 8 = .ok (.ifCond .eq 14, 3) := by decide +kernel
theorem dX11_shares_11 : decode cX11_shares 11 = .ok (.iload_n 2, 1) := by decide +kernel
theorem dX11_shares_12 : decode cX11_shares 12 = .ok (.ifCond .lt 10, 3) := by decide +kernel
theorem dX11_shares_15 : decode cX11_shares 15 = .ok (.iload_n 2, 1) := by decide +kernel
theorem dX11_shares_16 : decode cX11_shares 16 = .ok (.sipush 999, 3) := by decide +kernel
theorem dX11_shares_19 : decode cX11_shares 19 = .ok (.if_icmp .le 5, 3) := by decide +kernel
theorem dX11_shares_22 : decode cX11_shares 22 = .ok (.iconst (-1), 1) := by decide +kernel
theorem dX11_shares_23 : decode cX11_shares 23 = .ok (.ireturn, 1) := by decide +kernel
theorem dX11_shares_24 : decode cX11_shares 24 = .ok (.aload_n 0, 1) := by decide +kernel
theorem dX11_shares_25 : decode cX11_shares 25 = .ok (.iconst 0, 1) := by decide +kernel
theorem dX11_shares_26 : decode cX11_shares 26 = .ok (.invokevirtual 446, 3) := by decide +kernel
theorem dX11_shares_29 : decode cX11_shares 29 = .ok (.istore_n 3, 1) := by decide +kernel
theorem dX11_shares_30 : decode cX11_shares 30 = .ok (.iload_n 3, 1) := by decide +kernel
theorem dX11_shares_31 : decode cX11_shares 31 = .ok (.ifCond .gt 7, 3) := by decide +kernel
theorem dX11_shares_34 : decode cX11_shares 34 = .ok (.iconst 0, 1) := by decide +kernel
theorem dX11_shares_35 : decode cX11_shares 35 = .ok (.goto 15, 3) := by decide +kernel
theorem dX11_shares_38 : decode cX11_shares 38 = .ok (.iload_n 2, 1) := by decide +kernel
theorem dX11_shares_39 : decode cX11_shares 39 = .ok (.aload_n 0, 1) := by decide +kernel
theorem dX11_shares_40 : decode cX11_shares 40 = .ok (.getfield 49, 3) := by decide +kernel
theorem dX11_shares_43 : decode cX11_shares 43 = .ok (.iload_n 1, 1) := by decide +kernel
theorem dX11_shares_44 : decode cX11_shares 44 = .ok (.invokevirtual 182, 3) := by decide +kernel
theorem dX11_shares_47 : decode cX11_shares 47 = .ok (.imul, 1) := by decide +kernel
theorem dX11_shares_48 : decode cX11_shares 48 = .ok (.iload_n 3, 1) := by decide +kernel
theorem dX11_shares_49 : decode cX11_shares 49 = .ok (.idiv, 1) := by decide +kernel
theorem dX11_shares_50 : decode cX11_shares 50 = .ok (.ireturn, 1) := by decide +kernel
theorem dX11_grievancesIn_0 : decode cX11_grievancesIn 0 = .ok (.iconst 0, 1) := by decide +kernel
theorem dX11_grievancesIn_1 : decode cX11_grievancesIn 1 = .ok (.istore_n 2, 1) := by decide +kernel
theorem dX11_grievancesIn_2 : decode cX11_grievancesIn 2 = .ok (.iconst 0, 1) := by decide +kernel
theorem dX11_grievancesIn_3 : decode cX11_grievancesIn 3 = .ok (.istore_n 3, 1) := by decide +kernel
theorem dX11_grievancesIn_4 : decode cX11_grievancesIn 4 = .ok (.iload_n 3, 1) := by decide +kernel
theorem dX11_grievancesIn_5 : decode cX11_grievancesIn 5 = .ok (.aload_n 0, 1) := by decide +kernel
theorem dX11_grievancesIn_6 : decode cX11_grievancesIn 6 = .ok (.getfield 35, 3) := by decide +kernel
theorem dX11_grievancesIn_9 : decode cX11_grievancesIn 9 = .ok (.invokevirtual 151, 3) := by decide +kernel
theorem dX11_grievancesIn_12 : decode cX11_grievancesIn 12 = .ok (.if_icmp .ge 18, 3) := by decide +kernel
theorem dX11_grievancesIn_15 : decode cX11_grievancesIn 15 = .ok (.iload_n 2, 1) := by decide +kernel
theorem dX11_grievancesIn_16 : decode cX11_grievancesIn 16 = .ok (.aload_n 0, 1) := by decide +kernel
theorem dX11_grievancesIn_17 : decode cX11_grievancesIn 17 = .ok (.iload_n 3, 1) := by decide +kernel
theorem dX11_grievancesIn_18 : decode cX11_grievancesIn 18 = .ok (.iload_n 1, 1) := by decide +kernel
theorem dX11_grievancesIn_19 : decode cX11_grievancesIn 19 = .ok (.invokevirtual 280, 3) := by decide +kernel
theorem dX11_grievancesIn_22 : decode cX11_grievancesIn 22 = .ok (.iadd, 1) := by decide +kernel
theorem dX11_grievancesIn_23 : decode cX11_grievancesIn 23 = .ok (.istore_n 2, 1) := by decide +kernel
theorem dX11_grievancesIn_24 : decode cX11_grievancesIn 24 = .ok (.iinc 3 1, 3) := by decide +kernel
theorem dX11_grievancesIn_27 : decode cX11_grievancesIn 27 = .ok (.goto (-23), 3) := by decide +kernel
theorem dX11_grievancesIn_30 : decode cX11_grievancesIn 30 = .ok (.iload_n 2, 1) := by decide +kernel
theorem dX11_grievancesIn_31 : decode cX11_grievancesIn 31 = .ok (.ireturn, 1) := by decide +kernel
theorem dX11_most_0 : decode cX11_most 0 = .ok (.aload_n 0, 1) := by decide +kernel
theorem dX11_most_1 : decode cX11_most 1 = .ok (.getfield 35, 3) := by decide +kernel
theorem dX11_most_4 : decode cX11_most 4 = .ok (.invokevirtual 154, 3) := by decide +kernel
theorem dX11_most_7 : decode cX11_most 7 = .ok (.ifCond .ne 5, 3) := by decide +kernel
theorem dX11_most_10 : decode cX11_most 10 = .ok (.iconst (-1), 1) := by decide +kernel
theorem dX11_most_11 : decode cX11_most 11 = .ok (.ireturn, 1) := by decide +kernel
theorem dX11_most_12 : decode cX11_most 12 = .ok (.iload_n 1, 1) := by decide +kernel
theorem dX11_most_13 : decode cX11_most 13 = .ok (.tableswitch 123 0 7 #[47, 52, 57, 62, 67, 83, 99, 107], 47) := by decide +kernel
theorem dX11_most_60 : decode cX11_most 60 = .ok (.aload_n 0, 1) := by decide +kernel
theorem dX11_most_61 : decode cX11_most 61 = .ok (.invokevirtual 449, 3) := by decide +kernel
theorem dX11_most_64 : decode cX11_most 64 = .ok (.ireturn, 1) := by decide +kernel
theorem dX11_most_65 : decode cX11_most 65 = .ok (.aload_n 0, 1) := by decide +kernel
theorem dX11_most_66 : decode cX11_most 66 = .ok (.invokevirtual 452, 3) := by decide +kernel
theorem dX11_most_69 : decode cX11_most 69 = .ok (.ireturn, 1) := by decide +kernel
theorem dX11_most_70 : decode cX11_most 70 = .ok (.aload_n 0, 1) := by decide +kernel
theorem dX11_most_71 : decode cX11_most 71 = .ok (.invokevirtual 455, 3) := by decide +kernel
theorem dX11_most_74 : decode cX11_most 74 = .ok (.ireturn, 1) := by decide +kernel
theorem dX11_most_75 : decode cX11_most 75 = .ok (.aload_n 0, 1) := by decide +kernel
theorem dX11_most_76 : decode cX11_most 76 = .ok (.invokevirtual 458, 3) := by decide +kernel
theorem dX11_most_79 : decode cX11_most 79 = .ok (.ireturn, 1) := by decide +kernel
theorem dX11_most_80 : decode cX11_most 80 = .ok (.aload_n 0, 1) := by decide +kernel
theorem dX11_most_81 : decode cX11_most 81 = .ok (.getfield 35, 3) := by decide +kernel
theorem dX11_most_84 : decode cX11_most 84 = .ok (.invokevirtual 157, 3) := by decide +kernel
theorem dX11_most_87 : decode cX11_most 87 = .ok (.aload_n 0, 1) := by decide +kernel
theorem dX11_most_88 : decode cX11_most 88 = .ok (.getfield 49, 3) := by decide +kernel
theorem dX11_most_91 : decode cX11_most 91 = .ok (.getfield 213, 3) := by decide +kernel
theorem dX11_most_94 : decode cX11_most 94 = .ok (.isub, 1) := by decide +kernel
theorem dX11_most_95 : decode cX11_most 95 = .ok (.ireturn, 1) := by decide +kernel
theorem dX11_most_96 : decode cX11_most 96 = .ok (.aload_n 0, 1) := by decide +kernel
theorem dX11_most_97 : decode cX11_most 97 = .ok (.getfield 35, 3) := by decide +kernel
theorem dX11_most_100 : decode cX11_most 100 = .ok (.invokevirtual 166, 3) := by decide +kernel
theorem dX11_most_103 : decode cX11_most 103 = .ok (.aload_n 0, 1) := by decide +kernel
theorem dX11_most_104 : decode cX11_most 104 = .ok (.getfield 49, 3) := by decide +kernel
theorem dX11_most_107 : decode cX11_most 107 = .ok (.getfield 249, 3) := by decide +kernel
theorem dX11_most_110 : decode cX11_most 110 = .ok (.isub, 1) := by decide +kernel
theorem dX11_most_111 : decode cX11_most 111 = .ok (.ireturn, 1) := by decide +kernel
theorem dX11_most_112 : decode cX11_most 112 = .ok (.aload_n 0, 1) := by decide +kernel
theorem dX11_most_113 : decode cX11_most 113 = .ok (.getfield 49, 3) := by decide +kernel
theorem dX11_most_116 : decode cX11_most 116 = .ok (.getfield 254, 3) := by decide +kernel
theorem dX11_most_119 : decode cX11_most 119 = .ok (.ireturn, 1) := by decide +kernel
theorem dX11_most_120 : decode cX11_most 120 = .ok (.aload_n 0, 1) := by decide +kernel
theorem dX11_most_121 : decode cX11_most 121 = .ok (.getfield 35, 3) := by decide +kernel
theorem dX11_most_124 : decode cX11_most 124 = .ok (.aload_n 0, 1) := by decide +kernel
theorem dX11_most_125 : decode cX11_most 125 = .ok (.getfield 49, 3) := by decide +kernel
theorem dX11_most_128 : decode cX11_most 128 = .ok (.getfield 210, 3) := by decide +kernel
theorem dX11_most_131 : decode cX11_most 131 = .ok (.iconst (-1), 1) := by decide +kernel
theorem dX11_most_132 : decode cX11_most 132 = .ok (.invokevirtual 203, 3) := by decide +kernel
theorem dX11_most_135 : decode cX11_most 135 = .ok (.ireturn, 1) := by decide +kernel
theorem dX11_most_136 : decode cX11_most 136 = .ok (.iconst (-1), 1) := by decide +kernel
theorem dX11_most_137 : decode cX11_most 137 = .ok (.ireturn, 1) := by decide +kernel
theorem dX11_hardest_0 : decode cX11_hardest 0 = .ok (.iconst 0, 1) := by decide +kernel
theorem dX11_hardest_1 : decode cX11_hardest 1 = .ok (.istore_n 1, 1) := by decide +kernel
theorem dX11_hardest_2 : decode cX11_hardest 2 = .ok (.iconst 1, 1) := by decide +kernel
theorem dX11_hardest_3 : decode cX11_hardest 3 = .ok (.istore_n 2, 1) := by decide +kernel
theorem dX11_hardest_4 : decode cX11_hardest 4 = .ok (.iload_n 2, 1) := by decide +kernel
theorem dX11_hardest_5 : decode cX11_hardest 5 = .ok (.aload_n 0, 1) := by decide +kernel
theorem dX11_hardest_6 : decode cX11_hardest 6 = .ok (.getfield 35, 3) := by decide +kernel
theorem dX11_hardest_9 : decode cX11_hardest 9 = .ok (.invokevirtual 151, 3) := by decide +kernel
theorem dX11_hardest_12 : decode cX11_hardest 12 = .ok (.if_icmp .ge 30, 3) := by decide +kernel
theorem dX11_hardest_15 : decode cX11_hardest 15 = .ok (.aload_n 0, 1) := by decide +kernel
theorem dX11_hardest_16 : decode cX11_hardest 16 = .ok (.getfield 49, 3) := by decide +kernel
theorem dX11_hardest_19 : decode cX11_hardest 19 = .ok (.iload_n 2, 1) := by decide +kernel
theorem dX11_hardest_20 : decode cX11_hardest 20 = .ok (.invokevirtual 182, 3) := by decide +kernel
theorem dX11_hardest_23 : decode cX11_hardest 23 = .ok (.aload_n 0, 1) := by decide +kernel
theorem dX11_hardest_24 : decode cX11_hardest 24 = .ok (.getfield 49, 3) := by decide +kernel
theorem dX11_hardest_27 : decode cX11_hardest 27 = .ok (.iload_n 1, 1) := by decide +kernel
theorem dX11_hardest_28 : decode cX11_hardest 28 = .ok (.invokevirtual 182, 3) := by decide +kernel
theorem dX11_hardest_31 : decode cX11_hardest 31 = .ok (.if_icmp .le 5, 3) := by decide +kernel
theorem dX11_hardest_34 : decode cX11_hardest 34 = .ok (.iload_n 2, 1) := by decide +kernel
theorem dX11_hardest_35 : decode cX11_hardest 35 = .ok (.istore_n 1, 1) := by decide +kernel
theorem dX11_hardest_36 : decode cX11_hardest 36 = .ok (.iinc 2 1, 3) := by decide +kernel
theorem dX11_hardest_39 : decode cX11_hardest 39 = .ok (.goto (-35), 3) := by decide +kernel
theorem dX11_hardest_42 : decode cX11_hardest 42 = .ok (.iload_n 1, 1) := by decide +kernel
theorem dX11_hardest_43 : decode cX11_hardest 43 = .ok (.ireturn, 1) := by decide +kernel
theorem dX11_nearest_0 : decode cX11_nearest 0 = .ok (.iconst (-1), 1) := by decide +kernel
theorem dX11_nearest_1 : decode cX11_nearest 1 = .ok (.istore_n 1, 1) := by decide +kernel
theorem dX11_nearest_2 : decode cX11_nearest 2 = .ok (.iconst 0, 1) := by decide +kernel
theorem dX11_nearest_3 : decode cX11_nearest 3 = .ok (.istore_n 2, 1) := by decide +kernel
theorem dX11_nearest_4 : decode cX11_nearest 4 = .ok (.iload_n 2, 1) := by decide +kernel
theorem dX11_nearest_5 : decode cX11_nearest 5 = .ok (.aload_n 0, 1) := by decide +kernel
theorem dX11_nearest_6 : decode cX11_nearest 6 = .ok (.getfield 35, 3) := by decide +kernel
theorem dX11_nearest_9 : decode cX11_nearest 9 = .ok (.invokevirtual 151, 3) := by decide +kernel
theorem dX11_nearest_12 : decode cX11_nearest 12 = .ok (.if_icmp .ge 40, 3) := by decide +kernel
theorem dX11_nearest_15 : decode cX11_nearest 15 = .ok (.iload_n 2, 1) := by decide +kernel
theorem dX11_nearest_16 : decode cX11_nearest 16 = .ok (.aload_n 0, 1) := by decide +kernel
theorem dX11_nearest_17 : decode cX11_nearest 17 = .ok (.getfield 49, 3) := by decide +kernel
theorem dX11_nearest_20 : decode cX11_nearest 20 = .ok (.getfield 210, 3) := by decide +kernel
theorem dX11_nearest_23 : decode cX11_nearest 23 = .ok (.if_icmp .eq 23, 3) := by decide +kernel
theorem dX11_nearest_26 : decode cX11_nearest 26 = .ok (.iload_n 1, 1) := by decide +kernel
theorem dX11_nearest_27 : decode cX11_nearest 27 = .ok (.iconst (-1), 1) := by decide +kernel
theorem dX11_nearest_28 : decode cX11_nearest 28 = .ok (.if_icmp .eq 16, 3) := by decide +kernel
theorem dX11_nearest_31 : decode cX11_nearest 31 = .ok (.aload_n 0, 1) := by decide +kernel
theorem dX11_nearest_32 : decode cX11_nearest 32 = .ok (.iload_n 2, 1) := by decide +kernel
theorem dX11_nearest_33 : decode cX11_nearest 33 = .ok (.invokevirtual 200, 3) := by decide +kernel
theorem dX11_nearest_36 : decode cX11_nearest 36 = .ok (.aload_n 0, 1) := by decide +kernel
theorem dX11_nearest_37 : decode cX11_nearest 37 = .ok (.iload_n 1, 1) := by decide +kernel
theorem dX11_nearest_38 : decode cX11_nearest 38 = .ok (.invokevirtual 200, 3) := by decide +kernel
theorem dX11_nearest_41 : decode cX11_nearest 41 = .ok (.if_icmp .ge 5, 3) := by decide +kernel
theorem dX11_nearest_44 : decode cX11_nearest 44 = .ok (.iload_n 2, 1) := by decide +kernel
theorem dX11_nearest_45 : decode cX11_nearest 45 = .ok (.istore_n 1, 1) := by decide +kernel
theorem dX11_nearest_46 : decode cX11_nearest 46 = .ok (.iinc 2 1, 3) := by decide +kernel
theorem dX11_nearest_49 : decode cX11_nearest 49 = .ok (.goto (-45), 3) := by decide +kernel
theorem dX11_nearest_52 : decode cX11_nearest 52 = .ok (.iload_n 1, 1) := by decide +kernel
theorem dX11_nearest_53 : decode cX11_nearest 53 = .ok (.ireturn, 1) := by decide +kernel
theorem dX11_farthest_0 : decode cX11_farthest 0 = .ok (.iconst 0, 1) := by decide +kernel
theorem dX11_farthest_1 : decode cX11_farthest 1 = .ok (.istore_n 1, 1) := by decide +kernel
theorem dX11_farthest_2 : decode cX11_farthest 2 = .ok (.iconst 1, 1) := by decide +kernel
theorem dX11_farthest_3 : decode cX11_farthest 3 = .ok (.istore_n 2, 1) := by decide +kernel
theorem dX11_farthest_4 : decode cX11_farthest 4 = .ok (.iload_n 2, 1) := by decide +kernel
theorem dX11_farthest_5 : decode cX11_farthest 5 = .ok (.aload_n 0, 1) := by decide +kernel
theorem dX11_farthest_6 : decode cX11_farthest 6 = .ok (.getfield 35, 3) := by decide +kernel
theorem dX11_farthest_9 : decode cX11_farthest 9 = .ok (.invokevirtual 151, 3) := by decide +kernel
theorem dX11_farthest_12 : decode cX11_farthest 12 = .ok (.if_icmp .ge 32, 3) := by decide +kernel
theorem dX11_farthest_15 : decode cX11_farthest 15 = .ok (.aload_n 0, 1) := by decide +kernel
theorem dX11_farthest_16 : decode cX11_farthest 16 = .ok (.getfield 35, 3) := by decide +kernel
theorem dX11_farthest_19 : decode cX11_farthest 19 = .ok (.iconst (-1), 1) := by decide +kernel
theorem dX11_farthest_20 : decode cX11_farthest 20 = .ok (.iload_n 2, 1) := by decide +kernel
theorem dX11_farthest_21 : decode cX11_farthest 21 = .ok (.invokevirtual 203, 3) := by decide +kernel
theorem dX11_farthest_24 : decode cX11_farthest 24 = .ok (.aload_n 0, 1) := by decide +kernel
theorem dX11_farthest_25 : decode cX11_farthest 25 = .ok (.getfield 35, 3) := by decide +kernel
theorem dX11_farthest_28 : decode cX11_farthest 28 = .ok (.iconst (-1), 1) := by decide +kernel
theorem dX11_farthest_29 : decode cX11_farthest 29 = .ok (.iload_n 1, 1) := by decide +kernel
theorem dX11_farthest_30 : decode cX11_farthest 30 = .ok (.invokevirtual 203, 3) := by decide +kernel
theorem dX11_farthest_33 : decode cX11_farthest 33 = .ok (.if_icmp .le 5, 3) := by decide +kernel
theorem dX11_farthest_36 : decode cX11_farthest 36 = .ok (.iload_n 2, 1) := by decide +kernel
theorem dX11_farthest_37 : decode cX11_farthest 37 = .ok (.istore_n 1, 1) := by decide +kernel
theorem dX11_farthest_38 : decode cX11_farthest 38 = .ok (.iinc 2 1, 3) := by decide +kernel
theorem dX11_farthest_41 : decode cX11_farthest 41 = .ok (.goto (-37), 3) := by decide +kernel
theorem dX11_farthest_44 : decode cX11_farthest 44 = .ok (.iload_n 1, 1) := by decide +kernel
theorem dX11_farthest_45 : decode cX11_farthest 45 = .ok (.ireturn, 1) := by decide +kernel
theorem dX11_content_0 : decode cX11_content 0 = .ok (.iconst 0, 1) := by decide +kernel
theorem dX11_content_1 : decode cX11_content 1 = .ok (.istore_n 1, 1) := by decide +kernel
theorem dX11_content_2 : decode cX11_content 2 = .ok (.iconst 0, 1) := by decide +kernel
theorem dX11_content_3 : decode cX11_content 3 = .ok (.istore_n 2, 1) := by decide +kernel
theorem dX11_content_4 : decode cX11_content 4 = .ok (.iload_n 2, 1) := by decide +kernel
theorem dX11_content_5 : decode cX11_content 5 = .ok (.aload_n 0, 1) := by decide +kernel
theorem dX11_content_6 : decode cX11_content 6 = .ok (.getfield 35, 3) := by decide +kernel
theorem dX11_content_9 : decode cX11_content 9 = .ok (.invokevirtual 151, 3) := by decide +kernel
theorem dX11_content_12 : decode cX11_content 12 = .ok (.if_icmp .ge 26, 3) := by decide +kernel
theorem dX11_content_15 : decode cX11_content 15 = .ok (.aload_n 0, 1) := by decide +kernel
theorem dX11_content_16 : decode cX11_content 16 = .ok (.getfield 49, 3) := by decide +kernel
theorem dX11_content_19 : decode cX11_content 19 = .ok (.iload_n 2, 1) := by decide +kernel
theorem dX11_content_20 : decode cX11_content 20 = .ok (.invokevirtual 182, 3) := by decide +kernel
theorem dX11_content_23 : decode cX11_content 23 = .ok (.ifCond .ne 9, 3) := by decide +kernel
theorem dX11_content_26 : decode cX11_content 26 = .ok (.iload_n 1, 1) := by decide +kernel
theorem dX11_content_27 : decode cX11_content 27 = .ok (.iconst 1, 1) := by decide +kernel
theorem dX11_content_28 : decode cX11_content 28 = .ok (.iload_n 2, 1) := by decide +kernel
theorem dX11_content_29 : decode cX11_content 29 = .ok (.ishl, 1) := by decide +kernel
theorem dX11_content_30 : decode cX11_content 30 = .ok (.ior, 1) := by decide +kernel
theorem dX11_content_31 : decode cX11_content 31 = .ok (.istore_n 1, 1) := by decide +kernel
theorem dX11_content_32 : decode cX11_content 32 = .ok (.iinc 2 1, 3) := by decide +kernel
theorem dX11_content_35 : decode cX11_content 35 = .ok (.goto (-31), 3) := by decide +kernel
theorem dX11_content_38 : decode cX11_content 38 = .ok (.iload_n 1, 1) := by decide +kernel
theorem dX11_content_39 : decode cX11_content 39 = .ok (.ireturn, 1) := by decide +kernel
theorem dX11_years_0 : decode cX11_years 0 = .ok (.aload_n 0, 1) := by decide +kernel
theorem dX11_years_1 : decode cX11_years 1 = .ok (.getfield 35, 3) := by decide +kernel
theorem dX11_years_4 : decode cX11_years 4 = .ok (.invokevirtual 154, 3) := by decide +kernel
theorem dX11_years_7 : decode cX11_years 7 = .ok (.ifCond .eq 15, 3) := by decide +kernel
theorem dX11_years_10 : decode cX11_years 10 = .ok (.iload_n 1, 1) := by decide +kernel
theorem dX11_years_11 : decode cX11_years 11 = .ok (.iconst 1, 1) := by decide +kernel
theorem dX11_years_12 : decode cX11_years 12 = .ok (.if_icmp .lt 10, 3) := by decide +kernel
theorem dX11_years_15 : decode cX11_years 15 = .ok (.iload_n 1, 1) := by decide +kernel
theorem dX11_years_16 : decode cX11_years 16 = .ok (.sipush 200, 3) := by decide +kernel
theorem dX11_years_19 : decode cX11_years 19 = .ok (.if_icmp .le 5, 3) := by decide +kernel
theorem dX11_years_22 : decode cX11_years 22 = .ok (.iconst (-1), 1) := by decide +kernel
theorem dX11_years_23 : decode cX11_years 23 = .ok (.ireturn, 1) := by decide +kernel
theorem dX11_years_24 : decode cX11_years 24 = .ok (.iconst 0, 1) := by decide +kernel
theorem dX11_years_25 : decode cX11_years 25 = .ok (.istore_n 2, 1) := by decide +kernel
theorem dX11_years_26 : decode cX11_years 26 = .ok (.iload_n 2, 1) := by decide +kernel
theorem dX11_years_27 : decode cX11_years 27 = .ok (.bipush 60, 2) := by decide +kernel
theorem dX11_years_29 : decode cX11_years 29 = .ok (.if_icmp .gt 20, 3) := by decide +kernel
theorem dX11_years_32 : decode cX11_years 32 = .ok (.aload_n 0, 1) := by decide +kernel
theorem dX11_years_33 : decode cX11_years 33 = .ok (.iload_n 2, 1) := by decide +kernel
theorem dX11_years_34 : decode cX11_years 34 = .ok (.invokevirtual 446, 3) := by decide +kernel
theorem dX11_years_37 : decode cX11_years 37 = .ok (.iload_n 1, 1) := by decide +kernel
theorem dX11_years_38 : decode cX11_years 38 = .ok (.if_icmp .lt 5, 3) := by decide +kernel
theorem dX11_years_41 : decode cX11_years 41 = .ok (.iload_n 2, 1) := by decide +kernel
theorem dX11_years_42 : decode cX11_years 42 = .ok (.ireturn, 1) := by decide +kernel
theorem dX11_years_43 : decode cX11_years 43 = .ok (.iinc 2 1, 3) := by decide +kernel
theorem dX11_years_46 : decode cX11_years 46 = .ok (.goto (-20), 3) := by decide +kernel
theorem dX11_years_49 : decode cX11_years 49 = .ok (.iconst (-1), 1) := by decide +kernel
theorem dX11_years_50 : decode cX11_years 50 = .ok (.ireturn, 1) := by decide +kernel
theorem dX11_waits_0 : decode cX11_waits 0 = .ok (.aload_n 0, 1) := by decide +kernel
theorem dX11_waits_1 : decode cX11_waits 1 = .ok (.getfield 35, 3) := by decide +kernel
theorem dX11_waits_4 : decode cX11_waits 4 = .ok (.invokevirtual 154, 3) := by decide +kernel
theorem dX11_waits_7 : decode cX11_waits 7 = .ok (.ifCond .eq 13, 3) := by decide +kernel
theorem dX11_waits_10 : decode cX11_waits 10 = .ok (.iload_n 1, 1) := by decide +kernel
theorem dX11_waits_11 : decode cX11_waits 11 = .ok (.ifCond .lt 9, 3) := by decide +kernel
theorem dX11_waits_14 : decode cX11_waits 14 = .ok (.iload_n 1, 1) := by decide +kernel
theorem dX11_waits_15 : decode cX11_waits 15 = .ok (.bipush 60, 2) := by decide +kernel
theorem dX11_waits_17 : decode cX11_waits 17 = .ok (.if_icmp .le 5, 3) := by decide +kernel
theorem dX11_waits_20 : decode cX11_waits 20 = .ok (.iconst (-1), 1) := by decide +kernel
theorem dX11_waits_21 : decode cX11_waits 21 = .ok (.ireturn, 1) := by decide +kernel
theorem dX11_waits_22 : decode cX11_waits 22 = .ok (.iconst 0, 1) := by decide +kernel
theorem dX11_waits_23 : decode cX11_waits 23 = .ok (.istore_n 2, 1) := by decide +kernel
theorem dX11_waits_24 : decode cX11_waits 24 = .ok (.iconst 0, 1) := by decide +kernel
theorem dX11_waits_25 : decode cX11_waits 25 = .ok (.istore_n 3, 1) := by decide +kernel
theorem dX11_waits_26 : decode cX11_waits 26 = .ok (.iload_n 3, 1) := by decide +kernel
theorem dX11_waits_27 : decode cX11_waits 27 = .ok (.aload_n 0, 1) := by decide +kernel
theorem dX11_waits_28 : decode cX11_waits 28 = .ok (.getfield 35, 3) := by decide +kernel
theorem dX11_waits_31 : decode cX11_waits 31 = .ok (.invokevirtual 151, 3) := by decide +kernel
theorem dX11_waits_34 : decode cX11_waits 34 = .ok (.if_icmp .ge 43, 3) := by decide +kernel
theorem dX11_waits_37 : decode cX11_waits 37 = .ok (.aload_n 0, 1) := by decide +kernel
theorem dX11_waits_38 : decode cX11_waits 38 = .ok (.getfield 49, 3) := by decide +kernel
theorem dX11_waits_41 : decode cX11_waits 41 = .ok (.iload_n 3, 1) := by decide +kernel
theorem dX11_waits_42 : decode cX11_waits 42 = .ok (.invokevirtual 188, 3) := by decide +kernel
theorem dX11_waits_45 : decode cX11_waits 45 = .ok (.ifCond .ne 26, 3) := by decide +kernel
theorem dX11_waits_48 : decode cX11_waits 48 = .ok (.aload_n 0, 1) := by decide +kernel
theorem dX11_waits_49 : decode cX11_waits 49 = .ok (.iload_n 3, 1) := by decide +kernel
theorem dX11_waits_50 : decode cX11_waits 50 = .ok (.aload_n 0, 1) := by decide +kernel
theorem dX11_waits_51 : decode cX11_waits 51 = .ok (.getfield 49, 3) := by decide +kernel
theorem dX11_waits_54 : decode cX11_waits 54 = .ok (.iload_n 3, 1) := by decide +kernel
theorem dX11_waits_55 : decode cX11_waits 55 = .ok (.invokevirtual 182, 3) := by decide +kernel
theorem dX11_waits_58 : decode cX11_waits 58 = .ok (.invokevirtual 207, 3) := by decide +kernel
theorem dX11_waits_61 : decode cX11_waits 61 = .ok (.iload_n 1, 1) := by decide +kernel
theorem dX11_waits_62 : decode cX11_waits 62 = .ok (.if_icmp .lt 9, 3) := by decide +kernel
theorem dX11_waits_65 : decode cX11_waits 65 = .ok (.iload_n 2, 1) := by decide +kernel
theorem dX11_waits_66 : decode cX11_waits 66 = .ok (.iconst 1, 1) := by decide +kernel
theorem dX11_waits_67 : decode cX11_waits 67 = .ok (.iload_n 3, 1) := by decide +kernel
theorem dX11_waits_68 : decode cX11_waits 68 = .ok (.ishl, 1) := by decide +kernel
theorem dX11_waits_69 : decode cX11_waits 69 = .ok (.ior, 1) := by decide +kernel
theorem dX11_waits_70 : decode cX11_waits 70 = .ok (.istore_n 2, 1) := by decide +kernel
theorem dX11_waits_71 : decode cX11_waits 71 = .ok (.iinc 3 1, 3) := by decide +kernel
theorem dX11_waits_74 : decode cX11_waits 74 = .ok (.goto (-48), 3) := by decide +kernel
theorem dX11_waits_77 : decode cX11_waits 77 = .ok (.iload_n 2, 1) := by decide +kernel
theorem dX11_waits_78 : decode cX11_waits 78 = .ok (.ireturn, 1) := by decide +kernel
theorem dX11_remains_0 : decode cX11_remains 0 = .ok (.aload_n 0, 1) := by decide +kernel
theorem dX11_remains_1 : decode cX11_remains 1 = .ok (.getfield 35, 3) := by decide +kernel
theorem dX11_remains_4 : decode cX11_remains 4 = .ok (.iload_n 1, 1) := by decide +kernel
theorem dX11_remains_5 : decode cX11_remains 5 = .ok (.invokevirtual 169, 3) := by decide +kernel
theorem dX11_remains_8 : decode cX11_remains 8 = .ok (.ifCond .ne 7, 3) := by decide +kernel
theorem dX11_remains_11 : decode cX11_remains 11 = .ok (.ldc_w 388, 3) := by decide +kernel
theorem dX11_remains_14 : decode cX11_remains 14 = .ok (.ireturn, 1) := by decide +kernel
theorem dX11_remains_15 : decode cX11_remains 15 = .ok (.aload_n 0, 1) := by decide +kernel
theorem dX11_remains_16 : decode cX11_remains 16 = .ok (.getfield 35, 3) := by decide +kernel
theorem dX11_remains_19 : decode cX11_remains 19 = .ok (.invokevirtual 157, 3) := by decide +kernel
theorem dX11_remains_22 : decode cX11_remains 22 = .ok (.aload_n 0, 1) := by decide +kernel
theorem dX11_remains_23 : decode cX11_remains 23 = .ok (.getfield 49, 3) := by decide +kernel
theorem dX11_remains_26 : decode cX11_remains 26 = .ok (.getfield 213, 3) := by decide +kernel
theorem dX11_remains_29 : decode cX11_remains 29 = .ok (.isub, 1) := by decide +kernel
theorem dX11_remains_30 : decode cX11_remains 30 = .ok (.aload_n 0, 1) := by decide +kernel
theorem dX11_remains_31 : decode cX11_remains 31 = .ok (.iload_n 1, 1) := by decide +kernel
theorem dX11_remains_32 : decode cX11_remains 32 = .ok (.invokevirtual 200, 3) := by decide +kernel
theorem dX11_remains_35 : decode cX11_remains 35 = .ok (.isub, 1) := by decide +kernel
theorem dX11_remains_36 : decode cX11_remains 36 = .ok (.aload_n 0, 1) := by decide +kernel
theorem dX11_remains_37 : decode cX11_remains 37 = .ok (.iload_n 1, 1) := by decide +kernel
theorem dX11_remains_38 : decode cX11_remains 38 = .ok (.aload_n 0, 1) := by decide +kernel
theorem dX11_remains_39 : decode cX11_remains 39 = .ok (.getfield 49, 3) := by decide +kernel
theorem dX11_remains_42 : decode cX11_remains 42 = .ok (.iload_n 1, 1) := by decide +kernel
theorem dX11_remains_43 : decode cX11_remains 43 = .ok (.invokevirtual 182, 3) := by decide +kernel
theorem dX11_remains_46 : decode cX11_remains 46 = .ok (.invokevirtual 207, 3) := by decide +kernel
theorem dX11_remains_49 : decode cX11_remains 49 = .ok (.isub, 1) := by decide +kernel
theorem dX11_remains_50 : decode cX11_remains 50 = .ok (.ireturn, 1) := by decide +kernel
theorem dX11_image_0 : decode cX11_image 0 = .ok (.aload_n 0, 1) := by decide +kernel
theorem dX11_image_1 : decode cX11_image 1 = .ok (.getfield 35, 3) := by decide +kernel
theorem dX11_image_4 : decode cX11_image 4 = .ok (.invokevirtual 154, 3) := by decide +kernel
theorem dX11_image_7 : decode cX11_image 7 = .ok (.ifCond .ne 5, 3) := by decide +kernel
theorem dX11_image_10 : decode cX11_image 10 = .ok (.iconst (-1), 1) := by decide +kernel
theorem dX11_image_11 : decode cX11_image 11 = .ok (.ireturn, 1) := by decide +kernel
theorem dX11_image_12 : decode cX11_image 12 = .ok (.aload_n 0, 1) := by decide +kernel
theorem dX11_image_13 : decode cX11_image 13 = .ok (.getfield 56, 3) := by decide +kernel
theorem dX11_image_16 : decode cX11_image 16 = .ok (.aload_n 0, 1) := by decide +kernel
theorem dX11_image_17 : decode cX11_image 17 = .ok (.getfield 49, 3) := by decide +kernel
theorem dX11_image_20 : decode cX11_image 20 = .ok (.invokevirtual 461, 3) := by decide +kernel
theorem dX11_image_23 : decode cX11_image 23 = .ok (.aload_n 0, 1) := by decide +kernel
theorem dX11_image_24 : decode cX11_image 24 = .ok (.getfield 49, 3) := by decide +kernel
theorem dX11_image_27 : decode cX11_image 27 = .ok (.getfield 219, 3) := by decide +kernel
theorem dX11_image_30 : decode cX11_image 30 = .ok (.ireturn, 1) := by decide +kernel
theorem dX11_back_0 : decode cX11_back 0 = .ok (.aload_n 0, 1) := by decide +kernel
theorem dX11_back_1 : decode cX11_back 1 = .ok (.getfield 56, 3) := by decide +kernel
theorem dX11_back_4 : decode cX11_back 4 = .ok (.aload_n 0, 1) := by decide +kernel
theorem dX11_back_5 : decode cX11_back 5 = .ok (.getfield 49, 3) := by decide +kernel
theorem dX11_back_8 : decode cX11_back 8 = .ok (.invokevirtual 463, 3) := by decide +kernel
theorem dX11_back_11 : decode cX11_back 11 = .ok (.ifCond .eq 13, 3) := by decide +kernel
theorem dX11_back_14 : decode cX11_back 14 = .ok (.aload_n 0, 1) := by decide +kernel
theorem dX11_back_15 : decode cX11_back 15 = .ok (.getfield 49, 3) := by decide +kernel
theorem dX11_back_18 : decode cX11_back 18 = .ok (.getfield 219, 3) := by decide +kernel
theorem dX11_back_21 : decode cX11_back 21 = .ok (.goto 4, 3) := by decide +kernel
theorem dX11_back_24 : decode cX11_back 24 = .ok (.iconst (-1), 1) := by decide +kernel
theorem dX11_back_25 : decode cX11_back 25 = .ok (.ireturn, 1) := by decide +kernel
theorem dX11_count_0 : decode cX11_count 0 = .ok (.iload_n 1, 1) := by decide +kernel
theorem dX11_count_1 : decode cX11_count 1 = .ok (.tableswitch 148 0 15 #[79, 87, 95, 103, 111, 148, 148, 148, 148, 148, 148, 119, 124, 132, 148, 140], 79) := by decide +kernel
theorem dX11_count_80 : decode cX11_count 80 = .ok (.aload_n 0, 1) := by decide +kernel
theorem dX11_count_81 : decode cX11_count 81 = .ok (.getfield 35, 3) := by decide +kernel
theorem dX11_count_84 : decode cX11_count 84 = .ok (.invokevirtual 151, 3) := by decide +kernel
theorem dX11_count_87 : decode cX11_count 87 = .ok (.ireturn, 1) := by decide +kernel
theorem dX11_count_88 : decode cX11_count 88 = .ok (.aload_n 0, 1) := by decide +kernel
theorem dX11_count_89 : decode cX11_count 89 = .ok (.getfield 35, 3) := by decide +kernel
theorem dX11_count_92 : decode cX11_count 92 = .ok (.invokevirtual 191, 3) := by decide +kernel
theorem dX11_count_95 : decode cX11_count 95 = .ok (.ireturn, 1) := by decide +kernel
theorem dX11_count_96 : decode cX11_count 96 = .ok (.aload_n 0, 1) := by decide +kernel
theorem dX11_count_97 : decode cX11_count 97 = .ok (.getfield 42, 3) := by decide +kernel
theorem dX11_count_100 : decode cX11_count 100 = .ok (.invokevirtual 126, 3) := by decide +kernel
theorem dX11_count_103 : decode cX11_count 103 = .ok (.ireturn, 1) := by decide +kernel
theorem dX11_count_104 : decode cX11_count 104 = .ok (.aload_n 0, 1) := by decide +kernel
theorem dX11_count_105 : decode cX11_count 105 = .ok (.getfield 12, 3) := by decide +kernel
theorem dX11_count_108 : decode cX11_count 108 = .ok (.invokevirtual 104, 3) := by decide +kernel
theorem dX11_count_111 : decode cX11_count 111 = .ok (.ireturn, 1) := by decide +kernel
theorem dX11_count_112 : decode cX11_count 112 = .ok (.aload_n 0, 1) := by decide +kernel
theorem dX11_count_113 : decode cX11_count 113 = .ok (.getfield 42, 3) := by decide +kernel
theorem dX11_count_116 : decode cX11_count 116 = .ok (.invokevirtual 466, 3) := by decide +kernel
theorem dX11_count_119 : decode cX11_count 119 = .ok (.ireturn, 1) := by decide +kernel
theorem dX11_count_120 : decode cX11_count 120 = .ok (.aload_n 0, 1) := by decide +kernel
theorem dX11_count_121 : decode cX11_count 121 = .ok (.getfield 96, 3) := by decide +kernel
theorem dX11_count_124 : decode cX11_count 124 = .ok (.ireturn, 1) := by decide +kernel
theorem dX11_count_125 : decode cX11_count 125 = .ok (.aload_n 0, 1) := by decide +kernel
theorem dX11_count_126 : decode cX11_count 126 = .ok (.getfield 72, 3) := by decide +kernel
theorem dX11_count_129 : decode cX11_count 129 = .ok (.invokevirtual 361, 3) := by decide +kernel
theorem dX11_count_132 : decode cX11_count 132 = .ok (.ireturn, 1) := by decide +kernel
theorem dX11_count_133 : decode cX11_count 133 = .ok (.aload_n 0, 1) := by decide +kernel
theorem dX11_count_134 : decode cX11_count 134 = .ok (.getfield 72, 3) := by decide +kernel
theorem dX11_count_137 : decode cX11_count 137 = .ok (.invokevirtual 420, 3) := by decide +kernel
theorem dX11_count_140 : decode cX11_count 140 = .ok (.ireturn, 1) := by decide +kernel
theorem dX11_count_141 : decode cX11_count 141 = .ok (.aload_n 0, 1) := by decide +kernel
theorem dX11_count_142 : decode cX11_count 142 = .ok (.getfield 56, 3) := by decide +kernel
theorem dX11_count_145 : decode cX11_count 145 = .ok (.invokevirtual 304, 3) := by decide +kernel
theorem dX11_count_148 : decode cX11_count 148 = .ok (.ireturn, 1) := by decide +kernel
theorem dX11_count_149 : decode cX11_count 149 = .ok (.aload_n 0, 1) := by decide +kernel
theorem dX11_count_150 : decode cX11_count 150 = .ok (.iload_n 1, 1) := by decide +kernel
theorem dX11_count_151 : decode cX11_count 151 = .ok (.invokevirtual 469, 3) := by decide +kernel
theorem dX11_count_154 : decode cX11_count 154 = .ok (.ireturn, 1) := by decide +kernel
theorem dX11_countNow_0 : decode cX11_countNow 0 = .ok (.iload_n 1, 1) := by decide +kernel
theorem dX11_countNow_1 : decode cX11_countNow 1 = .ok (.tableswitch 111 5 14 #[55, 63, 71, 79, 87, 95, 111, 111, 111, 103], 55) := by decide +kernel
theorem dX11_countNow_56 : decode cX11_countNow 56 = .ok (.aload_n 0, 1) := by decide +kernel
theorem dX11_countNow_57 : decode cX11_countNow 57 = .ok (.getfield 49, 3) := by decide +kernel
theorem dX11_countNow_60 : decode cX11_countNow 60 = .ok (.getfield 219, 3) := by decide +kernel
theorem dX11_countNow_63 : decode cX11_countNow 63 = .ok (.ireturn, 1) := by decide +kernel
theorem dX11_countNow_64 : decode cX11_countNow 64 = .ok (.aload_n 0, 1) := by decide +kernel
theorem dX11_countNow_65 : decode cX11_countNow 65 = .ok (.getfield 49, 3) := by decide +kernel
theorem dX11_countNow_68 : decode cX11_countNow 68 = .ok (.getfield 213, 3) := by decide +kernel
theorem dX11_countNow_71 : decode cX11_countNow 71 = .ok (.ireturn, 1) := by decide +kernel
theorem dX11_countNow_72 : decode cX11_countNow 72 = .ok (.aload_n 0, 1) := by decide +kernel
theorem dX11_countNow_73 : decode cX11_countNow 73 = .ok (.getfield 49, 3) := by decide +kernel
theorem dX11_countNow_76 : decode cX11_countNow 76 = .ok (.getfield 210, 3) := by decide +kernel
theorem dX11_countNow_79 : decode cX11_countNow 79 = .ok (.ireturn, 1) := by decide +kernel
theorem dX11_countNow_80 : decode cX11_countNow 80 = .ok (.aload_n 0, 1) := by decide +kernel
theorem dX11_countNow_81 : decode cX11_countNow 81 = .ok (.getfield 49, 3) := by decide +kernel
theorem dX11_countNow_84 : decode cX11_countNow 84 = .ok (.invokevirtual 216, 3) := by decide +kernel
theorem dX11_countNow_87 : decode cX11_countNow 87 = .ok (.ireturn, 1) := by decide +kernel
theorem dX11_countNow_88 : decode cX11_countNow 88 = .ok (.aload_n 0, 1) := by decide +kernel
theorem dX11_countNow_89 : decode cX11_countNow 89 = .ok (.getfield 49, 3) := by decide +kernel
theorem dX11_countNow_92 : decode cX11_countNow 92 = .ok (.getfield 249, 3) := by decide +kernel
theorem dX11_countNow_95 : decode cX11_countNow 95 = .ok (.ireturn, 1) := by decide +kernel
theorem dX11_countNow_96 : decode cX11_countNow 96 = .ok (.aload_n 0, 1) := by decide +kernel
theorem dX11_countNow_97 : decode cX11_countNow 97 = .ok (.getfield 49, 3) := by decide +kernel
theorem dX11_countNow_100 : decode cX11_countNow 100 = .ok (.getfield 259, 3) := by decide +kernel
theorem dX11_countNow_103 : decode cX11_countNow 103 = .ok (.ireturn, 1) := by decide +kernel
theorem dX11_countNow_104 : decode cX11_countNow 104 = .ok (.aload_n 0, 1) := by decide +kernel
theorem dX11_countNow_105 : decode cX11_countNow 105 = .ok (.getfield 49, 3) := by decide +kernel
theorem dX11_countNow_108 : decode cX11_countNow 108 = .ok (.invokevirtual 472, 3) := by decide +kernel
theorem dX11_countNow_111 : decode cX11_countNow 111 = .ok (.ireturn, 1) := by decide +kernel
theorem dX11_countNow_112 : decode cX11_countNow 112 = .ok (.ldc_w 388, 3) := by decide +kernel
theorem dX11_countNow_115 : decode cX11_countNow 115 = .ok (.ireturn, 1) := by decide +kernel
theorem dX11_cell_0 : decode cX11_cell 0 = .ok (.iload_n 1, 1) := by decide +kernel
theorem dX11_cell_1 : decode cX11_cell 1 = .ok (.ifCond .lt 15, 3) := by decide +kernel
theorem dX11_cell_4 : decode cX11_cell 4 = .ok (.iload_n 1, 1) := by decide +kernel
theorem dX11_cell_5 : decode cX11_cell 5 = .ok (.aload_n 0, 1) := by decide +kernel
theorem dX11_cell_6 : decode cX11_cell 6 = .ok (.arraylength, 1) := by decide +kernel
theorem dX11_cell_7 : decode cX11_cell 7 = .ok (.if_icmp .ge 9, 3) := by decide +kernel
theorem dX11_cell_10 : decode cX11_cell 10 = .ok (.aload_n 0, 1) := by decide +kernel
theorem dX11_cell_11 : decode cX11_cell 11 = .ok (.iload_n 1, 1) := by decide +kernel
theorem dX11_cell_12 : decode cX11_cell 12 = .ok (.iaload, 1) := by decide +kernel
theorem dX11_cell_13 : decode cX11_cell 13 = .ok (.goto 4, 3) := by decide +kernel
theorem dX11_cell_16 : decode cX11_cell 16 = .ok (.iconst 0, 1) := by decide +kernel
theorem dX11_cell_17 : decode cX11_cell 17 = .ok (.ireturn, 1) := by decide +kernel
theorem dX11_setCell_0 : decode cX11_setCell 0 = .ok (.iload_n 1, 1) := by decide +kernel
theorem dX11_setCell_1 : decode cX11_setCell 1 = .ok (.ifCond .lt 13, 3) := by decide +kernel
theorem dX11_setCell_4 : decode cX11_setCell 4 = .ok (.iload_n 1, 1) := by decide +kernel
theorem dX11_setCell_5 : decode cX11_setCell 5 = .ok (.aload_n 0, 1) := by decide +kernel
theorem dX11_setCell_6 : decode cX11_setCell 6 = .ok (.arraylength, 1) := by decide +kernel
theorem dX11_setCell_7 : decode cX11_setCell 7 = .ok (.if_icmp .ge 7, 3) := by decide +kernel
theorem dX11_setCell_10 : decode cX11_setCell 10 = .ok (.aload_n 0, 1) := by decide +kernel
theorem dX11_setCell_11 : decode cX11_setCell 11 = .ok (.iload_n 1, 1) := by decide +kernel
theorem dX11_setCell_12 : decode cX11_setCell 12 = .ok (.iload_n 2, 1) := by decide +kernel
theorem dX11_setCell_13 : decode cX11_setCell 13 = .ok (.iastore, 1) := by decide +kernel
theorem dX11_setCell_14 : decode cX11_setCell 14 = .ok (.return_, 1) := by decide +kernel
theorem dX11_hasBit_0 : decode cX11_hasBit 0 = .ok (.iload_n 1, 1) := by decide +kernel
theorem dX11_hasBit_1 : decode cX11_hasBit 1 = .ok (.ifCond .lt 22, 3) := by decide +kernel
theorem dX11_hasBit_4 : decode cX11_hasBit 4 = .ok (.iload_n 1, 1) := by decide +kernel
theorem dX11_hasBit_5 : decode cX11_hasBit 5 = .ok (.bipush 31, 2) := by decide +kernel
theorem dX11_hasBit_7 : decode cX11_hasBit 7 = .ok (.if_icmp .ge 16, 3) := by decide +kernel
theorem dX11_hasBit_10 : decode cX11_hasBit 10 = .ok (.iload_n 0, 1) := by decide +kernel
theorem dX11_hasBit_11 : decode cX11_hasBit 11 = .ok (.iload_n 1, 1) := by decide +kernel
theorem dX11_hasBit_12 : decode cX11_hasBit 12 = .ok (.ishr, 1) := by decide +kernel
theorem dX11_hasBit_13 : decode cX11_hasBit 13 = .ok (.iconst 1, 1) := by decide +kernel
theorem dX11_hasBit_14 : decode cX11_hasBit 14 = .ok (.iand, 1) := by decide +kernel
theorem dX11_hasBit_15 : decode cX11_hasBit 15 = .ok (.iconst 1, 1) := by decide +kernel
theorem dX11_hasBit_16 : decode cX11_hasBit 16 = .ok (.if_icmp .ne 7, 3) := by decide +kernel
theorem dX11_hasBit_19 : decode cX11_hasBit 19 = .ok (.iconst 1, 1) := by decide +kernel
theorem dX11_hasBit_20 : decode cX11_hasBit 20 = .ok (.goto 4, 3) := by decide +kernel
theorem dX11_hasBit_23 : decode cX11_hasBit 23 = .ok (.iconst 0, 1) := by decide +kernel
theorem dX11_hasBit_24 : decode cX11_hasBit 24 = .ok (.ireturn, 1) := by decide +kernel
theorem dX11_indexOf_0 : decode cX11_indexOf 0 = .ok (.iconst 0, 1) := by decide +kernel
theorem dX11_indexOf_1 : decode cX11_indexOf 1 = .ok (.istore_n 2, 1) := by decide +kernel
theorem dX11_indexOf_2 : decode cX11_indexOf 2 = .ok (.iload_n 2, 1) := by decide +kernel
theorem dX11_indexOf_3 : decode cX11_indexOf 3 = .ok (.aload_n 0, 1) := by decide +kernel
theorem dX11_indexOf_4 : decode cX11_indexOf 4 = .ok (.arraylength, 1) := by decide +kernel
theorem dX11_indexOf_5 : decode cX11_indexOf 5 = .ok (.if_icmp .ge 18, 3) := by decide +kernel
theorem dX11_indexOf_8 : decode cX11_indexOf 8 = .ok (.aload_n 0, 1) := by decide +kernel
theorem dX11_indexOf_9 : decode cX11_indexOf 9 = .ok (.iload_n 2, 1) := by decide +kernel
theorem dX11_indexOf_10 : decode cX11_indexOf 10 = .ok (.iaload, 1) := by decide +kernel
theorem dX11_indexOf_11 : decode cX11_indexOf 11 = .ok (.iload_n 1, 1) := by decide +kernel
theorem dX11_indexOf_12 : decode cX11_indexOf 12 = .ok (.if_icmp .ne 5, 3) := by decide +kernel
theorem dX11_indexOf_15 : decode cX11_indexOf 15 = .ok (.iload_n 2, 1) := by decide +kernel
theorem dX11_indexOf_16 : decode cX11_indexOf 16 = .ok (.ireturn, 1) := by decide +kernel
theorem dX11_indexOf_17 : decode cX11_indexOf 17 = .ok (.iinc 2 1, 3) := by decide +kernel
theorem dX11_indexOf_20 : decode cX11_indexOf 20 = .ok (.goto (-18), 3) := by decide +kernel
theorem dX11_indexOf_23 : decode cX11_indexOf 23 = .ok (.iconst (-1), 1) := by decide +kernel
theorem dX11_indexOf_24 : decode cX11_indexOf 24 = .ok (.ireturn, 1) := by decide +kernel
theorem dX11_signsIn_0 : decode cX11_signsIn 0 = .ok (.iconst 0, 1) := by decide +kernel
theorem dX11_signsIn_1 : decode cX11_signsIn 1 = .ok (.istore_n 1, 1) := by decide +kernel
theorem dX11_signsIn_2 : decode cX11_signsIn 2 = .ok (.bipush 24, 2) := by decide +kernel
theorem dX11_signsIn_4 : decode cX11_signsIn 4 = .ok (.istore_n 2, 1) := by decide +kernel
theorem dX11_signsIn_5 : decode cX11_signsIn 5 = .ok (.iload_n 2, 1) := by decide +kernel
theorem dX11_signsIn_6 : decode cX11_signsIn 6 = .ok (.ifCond .lt 22, 3) := by decide +kernel
theorem dX11_signsIn_9 : decode cX11_signsIn 9 = .ok (.iload_n 0, 1) := by decide +kernel
theorem dX11_signsIn_10 : decode cX11_signsIn 10 = .ok (.iload_n 2, 1) := by decide +kernel
theorem dX11_signsIn_11 : decode cX11_signsIn 11 = .ok (.iushr, 1) := by decide +kernel
theorem dX11_signsIn_12 : decode cX11_signsIn 12 = .ok (.sipush 255, 3) := by decide +kernel
theorem dX11_signsIn_15 : decode cX11_signsIn 15 = .ok (.iand, 1) := by decide +kernel
theorem dX11_signsIn_16 : decode cX11_signsIn 16 = .ok (.ifCond .eq 6, 3) := by decide +kernel
theorem dX11_signsIn_19 : decode cX11_signsIn 19 = .ok (.iinc 1 1, 3) := by decide +kernel
theorem dX11_signsIn_22 : decode cX11_signsIn 22 = .ok (.iinc 2 (-8), 3) := by decide +kernel
theorem dX11_signsIn_25 : decode cX11_signsIn 25 = .ok (.goto (-20), 3) := by decide +kernel
theorem dX11_signsIn_28 : decode cX11_signsIn 28 = .ok (.iload_n 1, 1) := by decide +kernel
theorem dX11_signsIn_29 : decode cX11_signsIn 29 = .ok (.ireturn, 1) := by decide +kernel
theorem dX11_isDigit_0 : decode cX11_isDigit 0 = .ok (.iload_n 0, 1) := by decide +kernel
theorem dX11_isDigit_1 : decode cX11_isDigit 1 = .ok (.bipush 48, 2) := by decide +kernel
theorem dX11_isDigit_3 : decode cX11_isDigit 3 = .ok (.if_icmp .lt 13, 3) := by decide +kernel
theorem dX11_isDigit_6 : decode cX11_isDigit 6 = .ok (.iload_n 0, 1) := by decide +kernel
theorem dX11_isDigit_7 : decode cX11_isDigit 7 = .ok (.bipush 57, 2) := by decide +kernel
theorem dX11_isDigit_9 : decode cX11_isDigit 9 = .ok (.if_icmp .gt 7, 3) := by decide +kernel
theorem dX11_isDigit_12 : decode cX11_isDigit 12 = .ok (.iconst 1, 1) := by decide +kernel
theorem dX11_isDigit_13 : decode cX11_isDigit 13 = .ok (.goto 4, 3) := by decide +kernel
theorem dX11_isDigit_16 : decode cX11_isDigit 16 = .ok (.iconst 0, 1) := by decide +kernel
theorem dX11_isDigit_17 : decode cX11_isDigit 17 = .ok (.ireturn, 1) := by decide +kernel
theorem dX11_within_0 : decode cX11_within 0 = .ok (.lload_n 0, 1) := by decide +kernel
theorem dX11_within_1 : decode cX11_within 1 = .ok (.iload_n 2, 1) := by decide +kernel
theorem dX11_within_2 : decode cX11_within 2 = .ok (.i2l, 1) := by decide +kernel
theorem dX11_within_3 : decode cX11_within 3 = .ok (.lcmp, 1) := by decide +kernel
theorem dX11_within_4 : decode cX11_within 4 = .ok (.ifCond .ge 7, 3) := by decide +kernel
theorem dX11_within_7 : decode cX11_within 7 = .ok (.iload_n 2, 1) := by decide +kernel
theorem dX11_within_8 : decode cX11_within 8 = .ok (.goto 16, 3) := by decide +kernel
theorem dX11_within_11 : decode cX11_within 11 = .ok (.lload_n 0, 1) := by decide +kernel
theorem dX11_within_12 : decode cX11_within 12 = .ok (.iload_n 3, 1) := by decide +kernel
theorem dX11_within_13 : decode cX11_within 13 = .ok (.i2l, 1) := by decide +kernel
theorem dX11_within_14 : decode cX11_within 14 = .ok (.lcmp, 1) := by decide +kernel
theorem dX11_within_15 : decode cX11_within 15 = .ok (.ifCond .le 7, 3) := by decide +kernel
theorem dX11_within_18 : decode cX11_within 18 = .ok (.iload_n 3, 1) := by decide +kernel
theorem dX11_within_19 : decode cX11_within 19 = .ok (.goto 5, 3) := by decide +kernel
theorem dX11_within_22 : decode cX11_within 22 = .ok (.lload_n 0, 1) := by decide +kernel
theorem dX11_within_23 : decode cX11_within 23 = .ok (.l2i, 1) := by decide +kernel
theorem dX11_within_24 : decode cX11_within 24 = .ok (.ireturn, 1) := by decide +kernel
theorem dX12_in_0 : decode cX12_in 0 = .ok (.iload_n 0, 1) := by decide +kernel
theorem dX12_in_1 : decode cX12_in 1 = .ok (.iload_n 1, 1) := by decide +kernel
theorem dX12_in_2 : decode cX12_in 2 = .ok (.if_icmp .lt 12, 3) := by decide +kernel
theorem dX12_in_5 : decode cX12_in 5 = .ok (.iload_n 0, 1) := by decide +kernel
theorem dX12_in_6 : decode cX12_in 6 = .ok (.iload_n 2, 1) := by decide +kernel
theorem dX12_in_7 : decode cX12_in 7 = .ok (.if_icmp .gt 7, 3) := by decide +kernel
theorem dX12_in_10 : decode cX12_in 10 = .ok (.iconst 1, 1) := by decide +kernel
theorem dX12_in_11 : decode cX12_in 11 = .ok (.goto 4, 3) := by decide +kernel
theorem dX12_in_14 : decode cX12_in 14 = .ok (.iconst 0, 1) := by decide +kernel
theorem dX12_in_15 : decode cX12_in 15 = .ok (.ireturn, 1) := by decide +kernel
theorem dX12_has_0 : decode cX12_has 0 = .ok (.iload_n 0, 1) := by decide +kernel
theorem dX12_has_1 : decode cX12_has 1 = .ok (.iload_n 1, 1) := by decide +kernel
theorem dX12_has_2 : decode cX12_has 2 = .ok (.ishr, 1) := by decide +kernel
theorem dX12_has_3 : decode cX12_has 3 = .ok (.iconst 1, 1) := by decide +kernel
theorem dX12_has_4 : decode cX12_has 4 = .ok (.iand, 1) := by decide +kernel
theorem dX12_has_5 : decode cX12_has 5 = .ok (.iconst 1, 1) := by decide +kernel
theorem dX12_has_6 : decode cX12_has 6 = .ok (.if_icmp .ne 7, 3) := by decide +kernel
theorem dX12_has_9 : decode cX12_has 9 = .ok (.iconst 1, 1) := by decide +kernel
theorem dX12_has_10 : decode cX12_has 10 = .ok (.goto 4, 3) := by decide +kernel
theorem dX12_has_13 : decode cX12_has 13 = .ok (.iconst 0, 1) := by decide +kernel
theorem dX12_has_14 : decode cX12_has 14 = .ok (.ireturn, 1) := by decide +kernel
theorem dX12_init_0 : decode cX12_init 0 = .ok (.aload_n 0, 1) := by decide +kernel
theorem dX12_init_1 : decode cX12_init 1 = .ok (.invokespecial 3, 3) := by decide +kernel
theorem dX12_init_4 : decode cX12_init 4 = .ok (.aload_n 0, 1) := by decide +kernel
theorem dX12_init_5 : decode cX12_init 5 = .ok (.sipush 240, 3) := by decide +kernel
theorem dX12_init_8 : decode cX12_init 8 = .ok (.newarray .int, 2) := by decide +kernel
theorem dX12_init_10 : decode cX12_init 10 = .ok (.putfield 9, 3) := by decide +kernel
theorem dX12_init_13 : decode cX12_init 13 = .ok (.aload_n 0, 1) := by decide +kernel
theorem dX12_init_14 : decode cX12_init 14 = .ok (.sipush 2600, 3) := by decide +kernel
theorem dX12_init_17 : decode cX12_init 17 = .ok (.newarray .int, 2) := by decide +kernel
theorem dX12_init_19 : decode cX12_init 19 = .ok (.putfield 13, 3) := by decide +kernel
theorem dX12_init_22 : decode cX12_init 22 = .ok (.aload_n 0, 1) := by decide +kernel
theorem dX12_init_23 : decode cX12_init 23 = .ok (.sipush 2600, 3) := by decide +kernel
theorem dX12_init_26 : decode cX12_init 26 = .ok (.newarray .int, 2) := by decide +kernel
theorem dX12_init_28 : decode cX12_init 28 = .ok (.putfield 16, 3) := by decide +kernel
theorem dX12_init_31 : decode cX12_init 31 = .ok (.aload_n 0, 1) := by decide +kernel
theorem dX12_init_32 : decode cX12_init 32 = .ok (.iconst 5, 1) := by decide +kernel
theorem dX12_init_33 : decode cX12_init 33 = .ok (.newarray .int, 2) := by decide +kernel
theorem dX12_init_35 : decode cX12_init 35 = .ok (.putfield 19, 3) := by decide +kernel
theorem dX12_init_38 : decode cX12_init 38 = .ok (.aload_n 0, 1) := by decide +kernel
theorem dX12_init_39 : decode cX12_init 39 = .ok (.iconst 5, 1) := by decide +kernel
theorem dX12_init_40 : decode cX12_init 40 = .ok (.newarray .int, 2) := by decide +kernel
theorem dX12_init_42 : decode cX12_init 42 = .ok (.putfield 22, 3) := by decide +kernel
theorem dX12_init_45 : decode cX12_init 45 = .ok (.aload_n 0, 1) := by decide +kernel
theorem dX12_init_46 : decode cX12_init 46 = .ok (.sipush 700, 3) := by decide +kernel
theorem dX12_init_49 : decode cX12_init 49 = .ok (.newarray .int, 2) := by decide +kernel
theorem dX12_init_51 : decode cX12_init 51 = .ok (.putfield 25, 3) := by decide +kernel
theorem dX12_init_54 : decode cX12_init 54 = .ok (.aload_n 0, 1) := by decide +kernel
theorem dX12_init_55 : decode cX12_init 55 = .ok (.sipush 700, 3) := by decide +kernel
theorem dX12_init_58 : decode cX12_init 58 = .ok (.newarray .int, 2) := by decide +kernel
theorem dX12_init_60 : decode cX12_init 60 = .ok (.putfield 28, 3) := by decide +kernel
theorem dX12_init_63 : decode cX12_init 63 = .ok (.aload_n 0, 1) := by decide +kernel
theorem dX12_init_64 : decode cX12_init 64 = .ok (.sipush 700, 3) := by decide +kernel
theorem dX12_init_67 : decode cX12_init 67 = .ok (.newarray .int, 2) := by decide +kernel
theorem dX12_init_69 : decode cX12_init 69 = .ok (.putfield 31, 3) := by decide +kernel
theorem dX12_init_72 : decode cX12_init 72 = .ok (.aload_n 0, 1) := by decide +kernel
theorem dX12_init_73 : decode cX12_init 73 = .ok (.bipush 6, 2) := by decide +kernel
theorem dX12_init_75 : decode cX12_init 75 = .ok (.newarray .int, 2) := by decide +kernel
theorem dX12_init_77 : decode cX12_init 77 = .ok (.putfield 34, 3) := by decide +kernel
theorem dX12_init_80 : decode cX12_init 80 = .ok (.aload_n 0, 1) := by decide +kernel
theorem dX12_init_81 : decode cX12_init 81 = .ok (.bipush 80, 2) := by decide +kernel
theorem dX12_init_83 : decode cX12_init 83 = .ok (.newarray .int, 2) := by decide +kernel
theorem dX12_init_85 : decode cX12_init 85 = .ok (.putfield 37, 3) := by decide +kernel
theorem dX12_init_88 : decode cX12_init 88 = .ok (.aload_n 0, 1) := by decide +kernel
theorem dX12_init_89 : decode cX12_init 89 = .ok (.iconst 3, 1) := by decide +kernel
theorem dX12_init_90 : decode cX12_init 90 = .ok (.newarray .int, 2) := by decide +kernel
theorem dX12_init_92 : decode cX12_init 92 = .ok (.putfield 40, 3) := by decide +kernel
theorem dX12_init_95 : decode cX12_init 95 = .ok (.aload_n 0, 1) := by decide +kernel
theorem dX12_init_96 : decode cX12_init 96 = .ok (.bipush 28, 2) := by decide +kernel
theorem dX12_init_98 : decode cX12_init 98 = .ok (.newarray .int, 2) := by decide +kernel
theorem dX12_init_100 : decode cX12_init 100 = .ok (.putfield 43, 3) := by decide +kernel
theorem dX12_init_103 : decode cX12_init 103 = .ok (.aload_n 0, 1) := by decide +kernel
theorem dX12_init_104 : decode cX12_init 104 = .ok (.iconst 5, 1) := by decide +kernel
theorem dX12_init_105 : decode cX12_init 105 = .ok (.newarray .int, 2) := by decide +kernel
theorem dX12_init_107 : decode cX12_init 107 = .ok (.putfield 46, 3) := by decide +kernel
theorem dX12_init_110 : decode cX12_init 110 = .ok (.aload_n 0, 1) := by decide +kernel
theorem dX12_init_111 : decode cX12_init 111 = .ok (.iconst 3, 1) := by decide +kernel
theorem dX12_init_112 : decode cX12_init 112 = .ok (.newarray .int, 2) := by decide +kernel
theorem dX12_init_114 : decode cX12_init 114 = .ok (.putfield 49, 3) := by decide +kernel
theorem dX12_init_117 : decode cX12_init 117 = .ok (.aload_n 0, 1) := by decide +kernel
theorem dX12_init_118 : decode cX12_init 118 = .ok (.bipush 28, 2) := by decide +kernel
theorem dX12_init_120 : decode cX12_init 120 = .ok (.newarray .int, 2) := by decide +kernel
theorem dX12_init_122 : decode cX12_init 122 = .ok (.putfield 52, 3) := by decide +kernel
theorem dX12_init_125 : decode cX12_init 125 = .ok (.aload_n 0, 1) := by decide +kernel
theorem dX12_init_126 : decode cX12_init 126 = .ok (.iconst 5, 1) := by decide +kernel
theorem dX12_init_127 : decode cX12_init 127 = .ok (.newarray .int, 2) := by decide +kernel
theorem dX12_init_129 : decode cX12_init 129 = .ok (.putfield 55, 3) := by decide +kernel
theorem dX12_init_132 : decode cX12_init 132 = .ok (.aload_n 0, 1) := by decide +kernel
theorem dX12_init_133 : decode cX12_init 133 = .ok (.sipush 255, 3) := by decide +kernel
theorem dX12_init_136 : decode cX12_init 136 = .ok (.newarray .int, 2) := by decide +kernel
theorem dX12_init_138 : decode cX12_init 138 = .ok (.putfield 58, 3) := by decide +kernel
theorem dX12_init_141 : decode cX12_init 141 = .ok (.aload_n 0, 1) := by decide +kernel
theorem dX12_init_142 : decode cX12_init 142 = .ok (.iconst 5, 1) := by decide +kernel
theorem dX12_init_143 : decode cX12_init 143 = .ok (.newarray .int, 2) := by decide +kernel
theorem dX12_init_145 : decode cX12_init 145 = .ok (.putfield 61, 3) := by decide +kernel
theorem dX12_init_148 : decode cX12_init 148 = .ok (.aload_n 0, 1) := by decide +kernel
theorem dX12_init_149 : decode cX12_init 149 = .ok (.iconst (-1), 1) := by decide +kernel
theorem dX12_init_150 : decode cX12_init 150 = .ok (.putfield 64, 3) := by decide +kernel
theorem dX12_init_153 : decode cX12_init 153 = .ok (.aload_n 0, 1) := by decide +kernel
theorem dX12_init_154 : decode cX12_init 154 = .ok (.bipush 7, 2) := by decide +kernel
theorem dX12_init_156 : decode cX12_init 156 = .ok (.putfield 68, 3) := by decide +kernel
theorem dX12_init_159 : decode cX12_init 159 = .ok (.aload_n 0, 1) := by decide +kernel
theorem dX12_init_160 : decode cX12_init 160 = .ok (.sipush 10200, 3) := by decide +kernel
theorem dX12_init_163 : decode cX12_init 163 = .ok (.newarray .int, 2) := by decide +kernel
theorem dX12_init_165 : decode cX12_init 165 = .ok (.putfield 71, 3) := by decide +kernel
theorem dX12_init_168 : decode cX12_init 168 = .ok (.aload_n 0, 1) := by decide +kernel
theorem dX12_init_169 : decode cX12_init 169 = .ok (.bipush 126, 2) := by decide +kernel
theorem dX12_init_171 : decode cX12_init 171 = .ok (.newarray .int, 2) := by decide +kernel
theorem dX12_init_173 : decode cX12_init 173 = .ok (.putfield 74, 3) := by decide +kernel
theorem dX12_init_176 : decode cX12_init 176 = .ok (.aload_n 0, 1) := by decide +kernel
theorem dX12_init_177 : decode cX12_init 177 = .ok (.bipush 7, 2) := by decide +kernel
theorem dX12_init_179 : decode cX12_init 179 = .ok (.newarray .int, 2) := by decide +kernel
theorem dX12_init_181 : decode cX12_init 181 = .ok (.putfield 77, 3) := by decide +kernel
theorem dX12_init_184 : decode cX12_init 184 = .ok (.aload_n 0, 1) := by decide +kernel
theorem dX12_init_185 : decode cX12_init 185 = .ok (.bipush 10, 2) := by decide +kernel
theorem dX12_init_187 : decode cX12_init 187 = .ok (.newarray .int, 2) := by decide +kernel
theorem dX12_init_189 : decode cX12_init 189 = .ok (.putfield 80, 3) := by decide +kernel
theorem dX12_init_192 : decode cX12_init 192 = .ok (.aload_n 0, 1) := by decide +kernel
theorem dX12_init_193 : decode cX12_init 193 = .ok (.bipush 10, 2) := by decide +kernel
theorem dX12_init_195 : decode cX12_init 195 = .ok (.newarray .int, 2) := by decide +kernel
theorem dX12_init_197 : decode cX12_init 197 = .ok (.putfield 83, 3) := by decide +kernel
theorem dX12_init_200 : decode cX12_init 200 = .ok (.aload_n 0, 1) := by decide +kernel
theorem dX12_init_201 : decode cX12_init 201 = .ok (.bipush 10, 2) := by decide +kernel
theorem dX12_init_203 : decode cX12_init 203 = .ok (.newarray .int, 2) := by decide +kernel
theorem dX12_init_205 : decode cX12_init 205 = .ok (.putfield 86, 3) := by decide +kernel
theorem dX12_init_208 : decode cX12_init 208 = .ok (.aload_n 0, 1) := by decide +kernel
theorem dX12_init_209 : decode cX12_init 209 = .ok (.bipush 61, 2) := by decide +kernel
theorem dX12_init_211 : decode cX12_init 211 = .ok (.newarray .int, 2) := by decide +kernel
theorem dX12_init_213 : decode cX12_init 213 = .ok (.putfield 89, 3) := by decide +kernel
theorem dX12_init_216 : decode cX12_init 216 = .ok (.aload_n 0, 1) := by decide +kernel
theorem dX12_init_217 : decode cX12_init 217 = .ok (.bipush 10, 2) := by decide +kernel
theorem dX12_init_219 : decode cX12_init 219 = .ok (.newarray .int, 2) := by decide +kernel
theorem dX12_init_221 : decode cX12_init 221 = .ok (.putfield 92, 3) := by decide +kernel
theorem dX12_init_224 : decode cX12_init 224 = .ok (.aload_n 0, 1) := by decide +kernel
theorem dX12_init_225 : decode cX12_init 225 = .ok (.bipush 10, 2) := by decide +kernel
theorem dX12_init_227 : decode cX12_init 227 = .ok (.newarray .int, 2) := by decide +kernel
theorem dX12_init_229 : decode cX12_init 229 = .ok (.putfield 95, 3) := by decide +kernel
theorem dX12_init_232 : decode cX12_init 232 = .ok (.aload_n 0, 1) := by decide +kernel
theorem dX12_init_233 : decode cX12_init 233 = .ok (.bipush 10, 2) := by decide +kernel
theorem dX12_init_235 : decode cX12_init 235 = .ok (.newarray .boolean, 2) := by decide +kernel
theorem dX12_init_237 : decode cX12_init 237 = .ok (.putfield 98, 3) := by decide +kernel
theorem dX12_init_240 : decode cX12_init 240 = .ok (.aload_n 0, 1) := by decide +kernel
theorem dX12_init_241 : decode cX12_init 241 = .ok (.sipush 255, 3) := by decide +kernel
theorem dX12_init_244 : decode cX12_init 244 = .ok (.newarray .int, 2) := by decide +kernel
theorem dX12_init_246 : decode cX12_init 246 = .ok (.putfield 102, 3) := by decide +kernel
theorem dX12_init_249 : decode cX12_init 249 = .ok (.return_, 1) := by decide +kernel
theorem dX12_thrown_0 : decode cX12_thrown 0 = .ok (.aload_n 0, 1) := by decide +kernel
theorem dX12_thrown_1 : decode cX12_thrown 1 = .ok (.getfield 105, 3) := by decide +kernel
theorem dX12_thrown_4 : decode cX12_thrown 4 = .ok (.ireturn, 1) := by decide +kernel
theorem dX12_byteOf_0 : decode cX12_byteOf 0 = .ok (.iload 5, 2) := by decide +kernel
theorem dX12_byteOf_2 : decode cX12_byteOf 2 = .ok (.iconst 4, 1) := by decide +kernel
theorem dX12_byteOf_3 : decode cX12_byteOf 3 = .ok (.if_icmp .ge 7, 3) := by decide +kernel
theorem dX12_byteOf_6 : decode cX12_byteOf 6 = .ok (.iload_n 0, 1) := by decide +kernel
theorem dX12_byteOf_7 : decode cX12_byteOf 7 = .ok (.goto 38, 3) := by decide +kernel
theorem dX12_byteOf_10 : decode cX12_byteOf 10 = .ok (.iload 5, 2) := by decide +kernel
theorem dX12_byteOf_12 : decode cX12_byteOf 12 = .ok (.bipush 8, 2) := by decide +kernel
theorem dX12_byteOf_14 : decode cX12_byteOf 14 = .ok (.if_icmp .ge 7, 3) := by decide +kernel
theorem dX12_byteOf_17 : decode cX12_byteOf 17 = .ok (.iload_n 1, 1) := by decide +kernel
theorem dX12_byteOf_18 : decode cX12_byteOf 18 = .ok (.goto 27, 3) := by decide +kernel
theorem dX12_byteOf_21 : decode cX12_byteOf 21 = .ok (.iload 5, 2) := by decide +kernel
theorem dX12_byteOf_23 : decode cX12_byteOf 23 = .ok (.bipush 12, 2) := by decide +kernel
theorem dX12_byteOf_25 : decode cX12_byteOf 25 = .ok (.if_icmp .ge 7, 3) := by decide +kernel
theorem dX12_byteOf_28 : decode cX12_byteOf 28 = .ok (.iload_n 2, 1) := by decide +kernel
theorem dX12_byteOf_29 : decode cX12_byteOf 29 = .ok (.goto 16, 3) := by decide +kernel
theorem dX12_byteOf_32 : decode cX12_byteOf 32 = .ok (.iload 5, 2) := by decide +kernel
theorem dX12_byteOf_34 : decode cX12_byteOf 34 = .ok (.bipush 16, 2) := by decide +kernel
theorem dX12_byteOf_36 : decode cX12_byteOf 36 = .ok (.if_icmp .ge 7, 3) := by decide +kernel
theorem dX12_byteOf_39 : decode cX12_byteOf 39 = .ok (.iload_n 3, 1) := by decide +kernel
theorem dX12_byteOf_40 : decode cX12_byteOf 40 = .ok (.goto 5, 3) := by decide +kernel
theorem dX12_byteOf_43 : decode cX12_byteOf 43 = .ok (.iload 4, 2) := by decide +kernel
theorem dX12_byteOf_45 : decode cX12_byteOf 45 = .ok (.istore 6, 2) := by decide +kernel
theorem dX12_byteOf_47 : decode cX12_byteOf 47 = .ok (.iload 6, 2) := by decide +kernel
theorem dX12_byteOf_49 : decode cX12_byteOf 49 = .ok (.bipush 24, 2) := by decide +kernel
theorem dX12_byteOf_51 : decode cX12_byteOf 51 = .ok (.bipush 8, 2) := by decide +kernel
theorem dX12_byteOf_53 : decode cX12_byteOf 53 = .ok (.iload 5, 2) := by decide +kernel
theorem dX12_byteOf_55 : decode cX12_byteOf 55 = .ok (.iconst 4, 1) := by decide +kernel
theorem dX12_byteOf_56 : decode cX12_byteOf 56 = .ok (.irem, 1) := by decide +kernel
theorem dX12_byteOf_57 : decode cX12_byteOf 57 = .ok (.imul, 1) := by decide +kernel
theorem dX12_byteOf_58 : decode cX12_byteOf 58 = .ok (.isub, 1) := by decide +kernel
theorem dX12_byteOf_59 : decode cX12_byteOf 59 = .ok (.ishr, 1) := by decide +kernel
theorem dX12_byteOf_60 : decode cX12_byteOf 60 = .ok (.sipush 255, 3) := by decide +kernel
theorem dX12_byteOf_63 : decode cX12_byteOf 63 = .ok (.iand, 1) := by decide +kernel
theorem dX12_byteOf_64 : decode cX12_byteOf 64 = .ok (.ireturn, 1) := by decide +kernel
theorem dX12_feed_0 : decode cX12_feed 0 = .ok (.iconst 0, 1) := by decide +kernel
theorem dX12_feed_1 : decode cX12_feed 1 = .ok (.istore 6, 2) := by decide +kernel
theorem dX12_feed_3 : decode cX12_feed 3 = .ok (.iconst 0, 1) := by decide +kernel
theorem dX12_feed_4 : decode cX12_feed 4 = .ok (.istore 7, 2) := by decide +kernel
theorem dX12_feed_6 : decode cX12_feed 6 = .ok (.iload 7, 2) := by decide +kernel
theorem dX12_feed_8 : decode cX12_feed 8 = .ok (.bipush 20, 2) := by decide +kernel
theorem dX12_feed_10 : decode cX12_feed 10 = .ok (.if_icmp .ge 34, 3) := by decide +kernel
theorem dX12_feed_13 : decode cX12_feed 13 = .ok (.iload 6, 2) := by decide +kernel
theorem dX12_feed_15 : decode cX12_feed 15 = .ok (.iload_n 1, 1) := by decide +kernel
theorem dX12_feed_16 : decode cX12_feed 16 = .ok (.iload_n 2, 1) := by decide +kernel
theorem dX12_feed_17 : decode cX12_feed 17 = .ok (.iload_n 3, 1) := by decide +kernel
theorem dX12_feed_18 : decode cX12_feed 18 = .ok (.iload 4, 2) := by decide +kernel
theorem dX12_feed_20 : decode cX12_feed 20 = .ok (.iload 5, 2) := by decide +kernel
theorem dX12_feed_22 : decode cX12_feed 22 = .ok (.iload 7, 2) := by decide +kernel
theorem dX12_feed_24 : decode cX12_feed 24 = .ok (.invokestatic 108, 3) := by decide +kernel
theorem dX12_feed_27 : decode cX12_feed 27 = .ok (.ifCond .eq 7, 3) := by decide +kernel
theorem dX12_feed_30 : decode cX12_feed 30 = .ok (.iconst 1, 1) := by decide +kernel
theorem dX12_feed_31 : decode cX12_feed 31 = .ok (.goto 4, 3) := by decide +kernel
theorem dX12_feed_34 : decode cX12_feed 34 = .ok (.iconst 0, 1) := by decide +kernel
theorem dX12_feed_35 : decode cX12_feed 35 = .ok (.iadd, 1) := by decide +kernel
theorem dX12_feed_36 : decode cX12_feed 36 = .ok (.istore 6, 2) := by decide +kernel
theorem dX12_feed_38 : decode cX12_feed 38 = .ok (.iinc 7 1, 3) := by decide +kernel
theorem dX12_feed_41 : decode cX12_feed 41 = .ok (.goto (-35), 3) := by decide +kernel
theorem dX12_feed_44 : decode cX12_feed 44 = .ok (.aload_n 0, 1) := by decide +kernel
theorem dX12_feed_45 : decode cX12_feed 45 = .ok (.getfield 112, 3) := by decide +kernel
theorem dX12_feed_48 : decode cX12_feed 48 = .ok (.iload 6, 2) := by decide +kernel
theorem dX12_feed_50 : decode cX12_feed 50 = .ok (.iadd, 1) := by decide +kernel
theorem dX12_feed_51 : decode cX12_feed 51 = .ok (.sipush 240, 3) := by decide +kernel
theorem dX12_feed_54 : decode cX12_feed 54 = .ok (.if_icmp .le 5, 3) := by decide +kernel
theorem dX12_feed_57 : decode cX12_feed 57 = .ok (.iconst (-1), 1) := by decide +kernel
theorem dX12_feed_58 : decode cX12_feed 58 = .ok (.ireturn, 1) := by decide +kernel
theorem dX12_feed_59 : decode cX12_feed 59 = .ok (.iconst 0, 1) := by decide +kernel
theorem dX12_feed_60 : decode cX12_feed 60 = .ok (.istore 7, 2) := by decide +kernel
theorem dX12_feed_62 : decode cX12_feed 62 = .ok (.iload 7, 2) := by decide +kernel
theorem dX12_feed_64 : decode cX12_feed 64 = .ok (.bipush 20, 2) := by decide +kernel
theorem dX12_feed_66 : decode cX12_feed 66 = .ok (.if_icmp .ge 49, 3) := by decide +kernel
theorem dX12_feed_69 : decode cX12_feed 69 = .ok (.iload_n 1, 1) := by decide +kernel
theorem dX12_feed_70 : decode cX12_feed 70 = .ok (.iload_n 2, 1) := by decide +kernel
theorem dX12_feed_71 : decode cX12_feed 71 = .ok (.iload_n 3, 1) := by decide +kernel
theorem dX12_feed_72 : decode cX12_feed 72 = .ok (.iload 4, 2) := by decide +kernel
theorem dX12_feed_74 : decode cX12_feed 74 = .ok (.iload 5, 2) := by decide +kernel
theorem dX12_feed_76 : decode cX12_feed 76 = .ok (.iload 7, 2) := by decide +kernel
theorem dX12_feed_78 : decode cX12_feed 78 = .ok (.invokestatic 108, 3) := by decide +kernel
theorem dX12_feed_81 : decode cX12_feed 81 = .ok (.istore 8, 2) := by decide +kernel
theorem dX12_feed_83 : decode cX12_feed 83 = .ok (.iload 8, 2) := by decide +kernel
theorem dX12_feed_85 : decode cX12_feed 85 = .ok (.ifCond .eq 24, 3) := by decide +kernel
theorem dX12_feed_88 : decode cX12_feed 88 = .ok (.aload_n 0, 1) := by decide +kernel
theorem dX12_feed_89 : decode cX12_feed 89 = .ok (.getfield 9, 3) := by decide +kernel
theorem dX12_feed_92 : decode cX12_feed 92 = .ok (.aload_n 0, 1) := by decide +kernel
theorem dX12_feed_93 : decode cX12_feed 93 = .ok (.getfield 112, 3) := by decide +kernel
theorem dX12_feed_96 : decode cX12_feed 96 = .ok (.iload 8, 2) := by decide +kernel
theorem dX12_feed_98 : decode cX12_feed 98 = .ok (.iastore, 1) := by decide +kernel
theorem dX12_feed_99 : decode cX12_feed 99 = .ok (.aload_n 0, 1) := by decide +kernel
theorem dX12_feed_100 : decode cX12_feed 100 = .ok (.dup, 1) := by decide +kernel
theorem dX12_feed_101 : decode cX12_feed 101 = .ok (.getfield 112, 3) := by decide +kernel
theorem dX12_feed_104 : decode cX12_feed 104 = .ok (.iconst 1, 1) := by decide +kernel
theorem dX12_feed_105 : decode cX12_feed 105 = .ok (.iadd, 1) := by decide +kernel
theorem dX12_feed_106 : decode cX12_feed 106 = .ok (.putfield 112, 3) := by decide +kernel
theorem dX12_feed_109 : decode cX12_feed 109 = .ok (.iinc 7 1, 3) := by decide +kernel
theorem dX12_feed_112 : decode cX12_feed 112 = .ok (.goto (-50), 3) := by decide +kernel
theorem dX12_feed_115 : decode cX12_feed 115 = .ok (.aload_n 0, 1) := by decide +kernel
theorem dX12_feed_116 : decode cX12_feed 116 = .ok (.getfield 112, 3) := by decide +kernel
theorem dX12_feed_119 : decode cX12_feed 119 = .ok (.ireturn, 1) := by decide +kernel
theorem dX12_end_0 : decode cX12_end 0 = .ok (.iload_n 1, 1) := by decide +kernel
theorem dX12_end_1 : decode cX12_end 1 = .ok (.ifCond .lt 11, 3) := by decide +kernel
theorem dX12_end_4 : decode cX12_end 4 = .ok (.iload_n 1, 1) := by decide +kernel
theorem dX12_end_5 : decode cX12_end 5 = .ok (.aload_n 0, 1) := by decide +kernel
theorem dX12_end_6 : decode cX12_end 6 = .ok (.getfield 112, 3) := by decide +kernel
theorem dX12_end_9 : decode cX12_end 9 = .ok (.if_icmp .le 5, 3) := by decide +kernel
theorem dX12_end_12 : decode cX12_end 12 = .ok (.iconst 0, 1) := by decide +kernel
theorem dX12_end_13 : decode cX12_end 13 = .ok (.ireturn, 1) := by decide +kernel
theorem dX12_end_14 : decode cX12_end 14 = .ok (.aload_n 0, 1) := by decide +kernel
theorem dX12_end_15 : decode cX12_end 15 = .ok (.iload_n 1, 1) := by decide +kernel
theorem dX12_end_16 : decode cX12_end 16 = .ok (.putfield 112, 3) := by decide +kernel
theorem dX12_end_19 : decode cX12_end 19 = .ok (.iconst 1, 1) := by decide +kernel
theorem dX12_end_20 : decode cX12_end 20 = .ok (.ireturn, 1) := by decide +kernel
theorem dX12_here_0 : decode cX12_here 0 = .ok (.aload_n 0, 1) := by decide +kernel
theorem dX12_here_1 : decode cX12_here 1 = .ok (.getfield 115, 3) := by decide +kernel
theorem dX12_here_4 : decode cX12_here 4 = .ok (.aload_n 0, 1) := by decide +kernel
theorem dX12_here_5 : decode cX12_here 5 = .ok (.getfield 112, 3) := by decide +kernel
theorem dX12_here_8 : decode cX12_here 8 = .ok (.if_icmp .ge 15, 3) := by decide +kernel
theorem dX12_here_11 : decode cX12_here 11 = .ok (.aload_n 0, 1) := by decide +kernel
theorem dX12_here_12 : decode cX12_here 12 = .ok (.getfield 9, 3) := by decide +kernel
theorem dX12_here_15 : decode cX12_here 15 = .ok (.aload_n 0, 1) := by decide +kernel
theorem dX12_here_16 : decode cX12_here 16 = .ok (.getfield 115, 3) := by decide +kernel
theorem dX12_here_19 : decode cX12_here 19 = .ok (.iaload, 1) := by decide +kernel
theorem dX12_here_20 : decode cX12_here 20 = .ok (.goto 4, 3) := by decide +kernel
theorem dX12_here_23 : decode cX12_here 23 = .ok (.iconst (-1), 1) := by decide +kernel
theorem dX12_here_24 : decode cX12_here 24 = .ok (.ireturn, 1) := by decide +kernel
theorem dX12_look_0 : decode cX12_look 0 = .ok (.aload_n 0, 1) := by decide +kernel
theorem dX12_look_1 : decode cX12_look 1 = .ok (.invokevirtual 118, 3) := by decide +kernel
theorem dX12_look_4 : decode cX12_look 4 = .ok (.bipush 32, 2) := by decide +kernel
theorem dX12_look_6 : decode cX12_look 6 = .ok (.if_icmp .ne 16, 3) := by decide +kernel
theorem dX12_look_9 : decode cX12_look 9 = .ok (.aload_n 0, 1) := by decide +kernel
theorem dX12_look_10 : decode cX12_look 10 = .ok (.dup, 1) := by decide +kernel
theorem dX12_look_11 : decode cX12_look 11 = .ok (.getfield 115, 3) := by decide +kernel
theorem dX12_look_14 : decode cX12_look 14 = .ok (.iconst 1, 1) := by decide +kernel
theorem dX12_look_15 : decode cX12_look 15 = .ok (.iadd, 1) := by decide +kernel
theorem dX12_look_16 : decode cX12_look 16 = .ok (.putfield 115, 3) := by decide +kernel
theorem dX12_look_19 : decode cX12_look 19 = .ok (.goto (-19), 3) := by decide +kernel
theorem dX12_look_22 : decode cX12_look 22 = .ok (.aload_n 0, 1) := by decide +kernel
theorem dX12_look_23 : decode cX12_look 23 = .ok (.invokevirtual 118, 3) := by decide +kernel
theorem dX12_look_26 : decode cX12_look 26 = .ok (.ireturn, 1) := by decide +kernel
theorem dX12_bad_0 : decode cX12_bad 0 = .ok (.aload_n 0, 1) := by decide +kernel
theorem dX12_bad_1 : decode cX12_bad 1 = .ok (.aload_n 0, 1) := by decide +kernel
theorem dX12_bad_2 : decode cX12_bad 2 = .ok (.getfield 122, 3) := by decide +kernel
theorem dX12_bad_5 : decode cX12_bad 5 = .ok (.iconst (-1), 1) := by decide +kernel
theorem dX12_bad_6 : decode cX12_bad 6 = .ok (.if_icmp .ne 10, 3) := by decide +kernel
theorem dX12_bad_9 : decode cX12_bad 9 = .ok (.aload_n 0, 1) := by decide +kernel
theorem dX12_bad_10 : decode cX12_bad 10 = .ok (.getfield 115, 3) := by decide +kernel
theorem dX12_bad_13 : decode cX12_bad 13 = .ok (.goto 7, 3) := by decide +kernel
theorem dX12_bad_16 : decode cX12_bad 16 = .ok (.aload_n 0, 1) := by decide +kernel
theorem dX12_bad_17 : decode cX12_bad 17 = .ok (.getfield 122, 3) := by decide +kernel
theorem dX12_bad_20 : decode cX12_bad 20 = .ok (.putfield 122, 3) := by decide +kernel
theorem dX12_bad_23 : decode cX12_bad 23 = .ok (.return_, 1) := by decide +kernel
theorem dX12_isDigit_0 : decode cX12_isDigit 0 = .ok (.iload_n 0, 1) := by decide +kernel
theorem dX12_isDigit_1 : decode cX12_isDigit 1 = .ok (.bipush 48, 2) := by decide +kernel
theorem dX12_isDigit_3 : decode cX12_isDigit 3 = .ok (.if_icmp .lt 13, 3) := by decide +kernel
theorem dX12_isDigit_6 : decode cX12_isDigit 6 = .ok (.iload_n 0, 1) := by decide +kernel
theorem dX12_isDigit_7 : decode cX12_isDigit 7 = .ok (.bipush 57, 2) := by decide +kernel
theorem dX12_isDigit_9 : decode cX12_isDigit 9 = .ok (.if_icmp .gt 7, 3) := by decide +kernel
theorem dX12_isDigit_12 : decode cX12_isDigit 12 = .ok (.iconst 1, 1) := by decide +kernel
theorem dX12_isDigit_13 : decode cX12_isDigit 13 = .ok (.goto 4, 3) := by decide +kernel
theorem dX12_isDigit_16 : decode cX12_isDigit 16 = .ok (.iconst 0, 1) := by decide +kernel
theorem dX12_isDigit_17 : decode cX12_isDigit 17 = .ok (.ireturn, 1) := by decide +kernel
theorem dX12_put_0 : decode cX12_put 0 = .ok (.aload_n 0, 1) := by decide +kernel
theorem dX12_put_1 : decode cX12_put 1 = .ok (.getfield 13, 3) := by decide +kernel
theorem dX12_put_4 : decode cX12_put 4 = .ok (.sipush 520, 3) := by decide +kernel
theorem dX12_put_7 : decode cX12_put 7 = .ok (.aload_n 0, 1) := by decide +kernel
theorem dX12_put_8 : decode cX12_put 8 = .ok (.getfield 125, 3) := by decide +kernel
theorem dX12_put_11 : decode cX12_put 11 = .ok (.imul, 1) := by decide +kernel
theorem dX12_put_12 : decode cX12_put 12 = .ok (.aload_n 0, 1) := by decide +kernel
theorem dX12_put_13 : decode cX12_put 13 = .ok (.getfield 19, 3) := by decide +kernel
theorem dX12_put_16 : decode cX12_put 16 = .ok (.aload_n 0, 1) := by decide +kernel
theorem dX12_put_17 : decode cX12_put 17 = .ok (.getfield 125, 3) := by decide +kernel
theorem dX12_put_20 : decode cX12_put 20 = .ok (.iaload, 1) := by decide +kernel
theorem dX12_put_21 : decode cX12_put 21 = .ok (.iadd, 1) := by decide +kernel
theorem dX12_put_22 : decode cX12_put 22 = .ok (.iload_n 1, 1) := by decide +kernel
theorem dX12_put_23 : decode cX12_put 23 = .ok (.iastore, 1) := by decide +kernel
theorem dX12_put_24 : decode cX12_put 24 = .ok (.aload_n 0, 1) := by decide +kernel
theorem dX12_put_25 : decode cX12_put 25 = .ok (.getfield 16, 3) := by decide +kernel
theorem dX12_put_28 : decode cX12_put 28 = .ok (.sipush 520, 3) := by decide +kernel
theorem dX12_put_31 : decode cX12_put 31 = .ok (.aload_n 0, 1) := by decide +kernel
theorem dX12_put_32 : decode cX12_put 32 = .ok (.getfield 125, 3) := by decide +kernel
theorem dX12_put_35 : decode cX12_put 35 = .ok (.imul, 1) := by decide +kernel
theorem dX12_put_36 : decode cX12_put 36 = .ok (.aload_n 0, 1) := by decide +kernel
theorem dX12_put_37 : decode cX12_put 37 = .ok (.getfield 19, 3) := by decide +kernel
theorem dX12_put_40 : decode cX12_put 40 = .ok (.aload_n 0, 1) := by decide +kernel
theorem dX12_put_41 : decode cX12_put 41 = .ok (.getfield 125, 3) := by decide +kernel
theorem dX12_put_44 : decode cX12_put 44 = .ok (.iaload, 1) := by decide +kernel
theorem dX12_put_45 : decode cX12_put 45 = .ok (.iadd, 1) := by decide +kernel
theorem dX12_put_46 : decode cX12_put 46 = .ok (.iload_n 2, 1) := by decide +kernel
theorem dX12_put_47 : decode cX12_put 47 = .ok (.iastore, 1) := by decide +kernel
theorem dX12_put_48 : decode cX12_put 48 = .ok (.aload_n 0, 1) := by decide +kernel
theorem dX12_put_49 : decode cX12_put 49 = .ok (.getfield 19, 3) := by decide +kernel
theorem dX12_put_52 : decode cX12_put 52 = .ok (.aload_n 0, 1) := by decide +kernel
theorem dX12_put_53 : decode cX12_put 53 = .ok (.getfield 125, 3) := by decide +kernel
theorem dX12_put_56 : decode cX12_put 56 = .ok (.dup2, 1) := by decide +kernel
theorem dX12_put_57 : decode cX12_put 57 = .ok (.iaload, 1) := by decide +kernel
theorem dX12_put_58 : decode cX12_put 58 = .ok (.iconst 1, 1) := by decide +kernel
theorem dX12_put_59 : decode cX12_put 59 = .ok (.iadd, 1) := by decide +kernel
theorem dX12_put_60 : decode cX12_put 60 = .ok (.iastore, 1) := by decide +kernel
theorem dX12_put_61 : decode cX12_put 61 = .ok (.return_, 1) := by decide +kernel
theorem dX12_letterOf_0 : decode cX12_letterOf 0 = .ok (.iload_n 0, 1) := by decide +kernel
theorem dX12_letterOf_1 : decode cX12_letterOf 1 = .ok (.bipush 103, 2) := by decide +kernel
theorem dX12_letterOf_3 : decode cX12_letterOf 3 = .ok (.if_icmp .ne 7, 3) := by decide +kernel
theorem dX12_letterOf_6 : decode cX12_letterOf 6 = .ok (.iconst 0, 1) := by decide +kernel
theorem dX12_letterOf_7 : decode cX12_letterOf 7 = .ok (.goto 54, 3) := by decide +kernel
theorem dX12_letterOf_10 : decode cX12_letterOf 10 = .ok (.iload_n 0, 1) := by decide +kernel
theorem dX12_letterOf_11 : decode cX12_letterOf 11 = .ok (.bipush 113, 2) := by decide +kernel
theorem dX12_letterOf_13 : decode cX12_letterOf 13 = .ok (.if_icmp .ne 7, 3) := by decide +kernel
theorem dX12_letterOf_16 : decode cX12_letterOf 16 = .ok (.iconst 1, 1) := by decide +kernel
theorem dX12_letterOf_17 : decode cX12_letterOf 17 = .ok (.goto 44, 3) := by decide +kernel
theorem dX12_letterOf_20 : decode cX12_letterOf 20 = .ok (.iload_n 0, 1) := by decide +kernel
theorem dX12_letterOf_21 : decode cX12_letterOf 21 = .ok (.bipush 116, 2) := by decide +kernel
theorem dX12_letterOf_23 : decode cX12_letterOf 23 = .ok (.if_icmp .ne 7, 3) := by decide +kernel
theorem dX12_letterOf_26 : decode cX12_letterOf 26 = .ok (.iconst 2, 1) := by decide +kernel
theorem dX12_letterOf_27 : decode cX12_letterOf 27 = .ok (.goto 34, 3) := by decide +kernel
theorem dX12_letterOf_30 : decode cX12_letterOf 30 = .ok (.iload_n 0, 1) := by decide +kernel
theorem dX12_letterOf_31 : decode cX12_letterOf 31 = .ok (.bipush 110, 2) := by decide +kernel
theorem dX12_letterOf_33 : decode cX12_letterOf 33 = .ok (.if_icmp .ne 7, 3) := by decide +kernel
theorem dX12_letterOf_36 : decode cX12_letterOf 36 = .ok (.iconst 3, 1) := by decide +kernel
theorem dX12_letterOf_37 : decode cX12_letterOf 37 = .ok (.goto 24, 3) := by decide +kernel
theorem dX12_letterOf_40 : decode cX12_letterOf 40 = .ok (.iload_n 0, 1) := by decide +kernel
theorem dX12_letterOf_41 : decode cX12_letterOf 41 = .ok (.bipush 100, 2) := by decide +kernel
theorem dX12_letterOf_43 : decode cX12_letterOf 43 = .ok (.if_icmp .ne 7, 3) := by decide +kernel
theorem dX12_letterOf_46 : decode cX12_letterOf 46 = .ok (.iconst 4, 1) := by decide +kernel
theorem dX12_letterOf_47 : decode cX12_letterOf 47 = .ok (.goto 14, 3) := by decide +kernel
theorem dX12_letterOf_50 : decode cX12_letterOf 50 = .ok (.iload_n 0, 1) := by decide +kernel
theorem dX12_letterOf_51 : decode cX12_letterOf 51 = .ok (.bipush 121, 2) := by decide +kernel
theorem dX12_letterOf_53 : decode cX12_letterOf 53 = .ok (.if_icmp .ne 7, 3) := by decide +kernel
theorem dX12_letterOf_56 : decode cX12_letterOf 56 = .ok (.iconst 5, 1) := by decide +kernel
theorem dX12_letterOf_57 : decode cX12_letterOf 57 = .ok (.goto 4, 3) := by decide +kernel
theorem dX12_letterOf_60 : decode cX12_letterOf 60 = .ok (.iconst (-1), 1) := by decide +kernel
theorem dX12_letterOf_61 : decode cX12_letterOf 61 = .ok (.ireturn, 1) := by decide +kernel
theorem dX12_opens_0 : decode cX12_opens 0 = .ok (.aload_n 0, 1) := by decide +kernel
theorem dX12_opens_1 : decode cX12_opens 1 = .ok (.getfield 128, 3) := by decide +kernel
theorem dX12_opens_4 : decode cX12_opens 4 = .ok (.bipush 6, 2) := by decide +kernel
theorem dX12_opens_6 : decode cX12_opens 6 = .ok (.if_icmp .ne 7, 3) := by decide +kernel
theorem dX12_opens_9 : decode cX12_opens 9 = .ok (.aload_n 0, 1) := by decide +kernel
theorem dX12_opens_10 : decode cX12_opens 10 = .ok (.invokevirtual 131, 3) := by decide +kernel
theorem dX12_opens_13 : decode cX12_opens 13 = .ok (.aload_n 0, 1) := by decide +kernel
theorem dX12_opens_14 : decode cX12_opens 14 = .ok (.dup, 1) := by decide +kernel
theorem dX12_opens_15 : decode cX12_opens 15 = .ok (.getfield 128, 3) := by decide +kernel
theorem dX12_opens_18 : decode cX12_opens 18 = .ok (.iconst 1, 1) := by decide +kernel
theorem dX12_opens_19 : decode cX12_opens 19 = .ok (.iadd, 1) := by decide +kernel
theorem dX12_opens_20 : decode cX12_opens 20 = .ok (.putfield 128, 3) := by decide +kernel
theorem dX12_opens_23 : decode cX12_opens 23 = .ok (.aload_n 0, 1) := by decide +kernel
theorem dX12_opens_24 : decode cX12_opens 24 = .ok (.dup, 1) := by decide +kernel
theorem dX12_opens_25 : decode cX12_opens 25 = .ok (.getfield 115, 3) := by decide +kernel
theorem dX12_opens_28 : decode cX12_opens 28 = .ok (.iconst 1, 1) := by decide +kernel
theorem dX12_opens_29 : decode cX12_opens 29 = .ok (.iadd, 1) := by decide +kernel
theorem dX12_opens_30 : decode cX12_opens 30 = .ok (.putfield 115, 3) := by decide +kernel
theorem dX12_opens_33 : decode cX12_opens 33 = .ok (.return_, 1) := by decide +kernel
theorem dX12_closes_0 : decode cX12_closes 0 = .ok (.aload_n 0, 1) := by decide +kernel
theorem dX12_closes_1 : decode cX12_closes 1 = .ok (.getfield 122, 3) := by decide +kernel
theorem dX12_closes_4 : decode cX12_closes 4 = .ok (.iconst (-1), 1) := by decide +kernel
theorem dX12_closes_5 : decode cX12_closes 5 = .ok (.if_icmp .ne 15, 3) := by decide +kernel
theorem dX12_closes_8 : decode cX12_closes 8 = .ok (.aload_n 0, 1) := by decide +kernel
theorem dX12_closes_9 : decode cX12_closes 9 = .ok (.invokevirtual 134, 3) := by decide +kernel
theorem dX12_closes_12 : decode cX12_closes 12 = .ok (.iload_n 1, 1) := by decide +kernel
theorem dX12_closes_13 : decode cX12_closes 13 = .ok (.if_icmp .eq 7, 3) := by decide +kernel
theorem dX12_closes_16 : decode cX12_closes 16 = .ok (.aload_n 0, 1) := by decide +kernel
theorem dX12_closes_17 : decode cX12_closes 17 = .ok (.invokevirtual 131, 3) := by decide +kernel
theorem dX12_closes_20 : decode cX12_closes 20 = .ok (.aload_n 0, 1) := by decide +kernel
theorem dX12_closes_21 : decode cX12_closes 21 = .ok (.dup, 1) := by decide +kernel
theorem dX12_closes_22 : decode cX12_closes 22 = .ok (.getfield 115, 3) := by decide +kernel
theorem dX12_closes_25 : decode cX12_closes 25 = .ok (.iconst 1, 1) := by decide +kernel
theorem dX12_closes_26 : decode cX12_closes 26 = .ok (.iadd, 1) := by decide +kernel
theorem dX12_closes_27 : decode cX12_closes 27 = .ok (.putfield 115, 3) := by decide +kernel
theorem dX12_closes_30 : decode cX12_closes 30 = .ok (.aload_n 0, 1) := by decide +kernel
theorem dX12_closes_31 : decode cX12_closes 31 = .ok (.dup, 1) := by decide +kernel
theorem dX12_closes_32 : decode cX12_closes 32 = .ok (.getfield 128, 3) := by decide +kernel
theorem dX12_closes_35 : decode cX12_closes 35 = .ok (.iconst 1, 1) := by decide +kernel
theorem dX12_closes_36 : decode cX12_closes 36 = .ok (.isub, 1) := by decide +kernel
theorem dX12_closes_37 : decode cX12_closes 37 = .ok (.putfield 128, 3) := by decide +kernel
theorem dX12_closes_40 : decode cX12_closes 40 = .ok (.return_, 1) := by decide +kernel
theorem dX12_plainNumber_0 : decode cX12_plainNumber 0 = .ok (.iconst 0, 1) := by decide +kernel
theorem dX12_plainNumber_1 : decode cX12_plainNumber 1 = .ok (.istore_n 1, 1) := by decide +kernel
theorem dX12_plainNumber_2 : decode cX12_plainNumber 2 = .ok (.iconst 0, 1) := by decide +kernel
theorem dX12_plainNumber_3 : decode cX12_plainNumber 3 = .ok (.istore_n 2, 1) := by decide +kernel
theorem dX12_plainNumber_4 : decode cX12_plainNumber 4 = .ok (.iload_n 2, 1) := by decide +kernel
theorem dX12_plainNumber_5 : decode cX12_plainNumber 5 = .ok (.iconst 4, 1) := by decide +kernel
theorem dX12_plainNumber_6 : decode cX12_plainNumber 6 = .ok (.if_icmp .ge 42, 3) := by decide +kernel
theorem dX12_plainNumber_9 : decode cX12_plainNumber 9 = .ok (.aload_n 0, 1) := by decide +kernel
theorem dX12_plainNumber_10 : decode cX12_plainNumber 10 = .ok (.invokevirtual 118, 3) := by decide +kernel
theorem dX12_plainNumber_13 : decode cX12_plainNumber 13 = .ok (.invokestatic 137, 3) := by decide +kernel
theorem dX12_plainNumber_16 : decode cX12_plainNumber 16 = .ok (.ifCond .eq 32, 3) := by decide +kernel
theorem dX12_plainNumber_19 : decode cX12_plainNumber 19 = .ok (.bipush 10, 2) := by decide +kernel
theorem dX12_plainNumber_21 : decode cX12_plainNumber 21 = .ok (.iload_n 1, 1) := by decide +kernel
theorem dX12_plainNumber_22 : decode cX12_plainNumber 22 = .ok (.imul, 1) := by decide +kernel
theorem dX12_plainNumber_23 : decode cX12_plainNumber 23 = .ok (.aload_n 0, 1) := by decide +kernel
theorem dX12_plainNumber_24 : decode cX12_plainNumber 24 = .ok (.invokevirtual 118, 3) := by decide +kernel
theorem dX12_plainNumber_27 : decode cX12_plainNumber 27 = .ok (.iadd, 1) := by decide +kernel
theorem dX12_plainNumber_28 : decode cX12_plainNumber 28 = .ok (.bipush 48, 2) := by decide +kernel
theorem dX12_plainNumber_30 : decode cX12_plainNumber 30 = .ok (.isub, 1) := by decide +kernel
theorem dX12_plainNumber_31 : decode cX12_plainNumber 31 = .ok (.istore_n 1, 1) := by decide +kernel
theorem dX12_plainNumber_32 : decode cX12_plainNumber 32 = .ok (.aload_n 0, 1) := by decide +kernel
theorem dX12_plainNumber_33 : decode cX12_plainNumber 33 = .ok (.dup, 1) := by decide +kernel
theorem dX12_plainNumber_34 : decode cX12_plainNumber 34 = .ok (.getfield 115, 3) := by decide +kernel
theorem dX12_plainNumber_37 : decode cX12_plainNumber 37 = .ok (.iconst 1, 1) := by decide +kernel
theorem dX12_plainNumber_38 : decode cX12_plainNumber 38 = .ok (.iadd, 1) := by decide +kernel
theorem dX12_plainNumber_39 : decode cX12_plainNumber 39 = .ok (.putfield 115, 3) := by decide +kernel
theorem dX12_plainNumber_42 : decode cX12_plainNumber 42 = .ok (.iinc 2 1, 3) := by decide +kernel
theorem dX12_plainNumber_45 : decode cX12_plainNumber 45 = .ok (.goto (-41), 3) := by decide +kernel
theorem dX12_plainNumber_48 : decode cX12_plainNumber 48 = .ok (.aload_n 0, 1) := by decide +kernel
theorem dX12_plainNumber_49 : decode cX12_plainNumber 49 = .ok (.invokevirtual 118, 3) := by decide +kernel
theorem dX12_plainNumber_52 : decode cX12_plainNumber 52 = .ok (.invokestatic 137, 3) := by decide +kernel
theorem dX12_plainNumber_55 : decode cX12_plainNumber 55 = .ok (.ifCond .eq 7, 3) := by decide +kernel
theorem dX12_plainNumber_58 : decode cX12_plainNumber 58 = .ok (.aload_n 0, 1) := by decide +kernel
theorem dX12_plainNumber_59 : decode cX12_plainNumber 59 = .ok (.invokevirtual 131, 3) := by decide +kernel
theorem dX12_plainNumber_62 : decode cX12_plainNumber 62 = .ok (.iload_n 1, 1) := by decide +kernel
theorem dX12_plainNumber_63 : decode cX12_plainNumber 63 = .ok (.ireturn, 1) := by decide +kernel
theorem dX12_atom_0 : decode cX12_atom 0 = .ok (.aload_n 0, 1) := by decide +kernel
theorem dX12_atom_1 : decode cX12_atom 1 = .ok (.invokevirtual 134, 3) := by decide +kernel
theorem dX12_atom_4 : decode cX12_atom 4 = .ok (.istore_n 1, 1) := by decide +kernel
theorem dX12_atom_5 : decode cX12_atom 5 = .ok (.iload_n 1, 1) := by decide +kernel
theorem dX12_atom_6 : decode cX12_atom 6 = .ok (.invokestatic 137, 3) := by decide +kernel
theorem dX12_atom_9 : decode cX12_atom 9 = .ok (.ifCond .eq 15, 3) := by decide +kernel
theorem dX12_atom_12 : decode cX12_atom 12 = .ok (.aload_n 0, 1) := by decide +kernel
theorem dX12_atom_13 : decode cX12_atom 13 = .ok (.iconst 0, 1) := by decide +kernel
theorem dX12_atom_14 : decode cX12_atom 14 = .ok (.aload_n 0, 1) := by decide +kernel
theorem dX12_atom_15 : decode cX12_atom 15 = .ok (.invokevirtual 141, 3) := by decide +kernel
theorem dX12_atom_18 : decode cX12_atom 18 = .ok (.invokevirtual 144, 3) := by decide +kernel
theorem dX12_atom_21 : decode cX12_atom 21 = .ok (.goto 68, 3) := by decide +kernel
theorem dX12_atom_24 : decode cX12_atom 24 = .ok (.iload_n 1, 1) := by decide +kernel
theorem dX12_atom_25 : decode cX12_atom 25 = .ok (.invokestatic 148, 3) := by decide +kernel
theorem dX12_atom_28 : decode cX12_atom 28 = .ok (.iconst (-1), 1) := by decide +kernel
theorem dX12_atom_29 : decode cX12_atom 29 = .ok (.if_icmp .eq 25, 3) := by decide +kernel
theorem dX12_atom_32 : decode cX12_atom 32 = .ok (.aload_n 0, 1) := by decide +kernel
theorem dX12_atom_33 : decode cX12_atom 33 = .ok (.dup, 1) := by decide +kernel
theorem dX12_atom_34 : decode cX12_atom 34 = .ok (.getfield 115, 3) := by decide +kernel
theorem dX12_atom_37 : decode cX12_atom 37 = .ok (.iconst 1, 1) := by decide +kernel
theorem dX12_atom_38 : decode cX12_atom 38 = .ok (.iadd, 1) := by decide +kernel
theorem dX12_atom_39 : decode cX12_atom 39 = .ok (.putfield 115, 3) := by decide +kernel
theorem dX12_atom_42 : decode cX12_atom 42 = .ok (.aload_n 0, 1) := by decide +kernel
theorem dX12_atom_43 : decode cX12_atom 43 = .ok (.iconst 1, 1) := by decide +kernel
theorem dX12_atom_44 : decode cX12_atom 44 = .ok (.iload_n 1, 1) := by decide +kernel
theorem dX12_atom_45 : decode cX12_atom 45 = .ok (.invokestatic 148, 3) := by decide +kernel
theorem dX12_atom_48 : decode cX12_atom 48 = .ok (.invokevirtual 144, 3) := by decide +kernel
theorem dX12_atom_51 : decode cX12_atom 51 = .ok (.goto 38, 3) := by decide +kernel
theorem dX12_atom_54 : decode cX12_atom 54 = .ok (.iload_n 1, 1) := by decide +kernel
theorem dX12_atom_55 : decode cX12_atom 55 = .ok (.bipush 91, 2) := by decide +kernel
theorem dX12_atom_57 : decode cX12_atom 57 = .ok (.if_icmp .ne 28, 3) := by decide +kernel
theorem dX12_atom_60 : decode cX12_atom 60 = .ok (.aload_n 0, 1) := by decide +kernel
theorem dX12_atom_61 : decode cX12_atom 61 = .ok (.invokevirtual 152, 3) := by decide +kernel
theorem dX12_atom_64 : decode cX12_atom 64 = .ok (.aload_n 0, 1) := by decide +kernel
theorem dX12_atom_65 : decode cX12_atom 65 = .ok (.getfield 122, 3) := by decide +kernel
theorem dX12_atom_68 : decode cX12_atom 68 = .ok (.iconst (-1), 1) := by decide +kernel
theorem dX12_atom_69 : decode cX12_atom 69 = .ok (.if_icmp .ne 20, 3) := by decide +kernel
theorem dX12_atom_72 : decode cX12_atom 72 = .ok (.aload_n 0, 1) := by decide +kernel
theorem dX12_atom_73 : decode cX12_atom 73 = .ok (.invokevirtual 155, 3) := by decide +kernel
theorem dX12_atom_76 : decode cX12_atom 76 = .ok (.aload_n 0, 1) := by decide +kernel
theorem dX12_atom_77 : decode cX12_atom 77 = .ok (.bipush 93, 2) := by decide +kernel
theorem dX12_atom_79 : decode cX12_atom 79 = .ok (.invokevirtual 158, 3) := by decide +kernel
theorem dX12_atom_82 : decode cX12_atom 82 = .ok (.goto 7, 3) := by decide +kernel
theorem dX12_atom_85 : decode cX12_atom 85 = .ok (.aload_n 0, 1) := by decide +kernel
theorem dX12_atom_86 : decode cX12_atom 86 = .ok (.invokevirtual 131, 3) := by decide +kernel
theorem dX12_atom_89 : decode cX12_atom 89 = .ok (.return_, 1) := by decide +kernel
theorem dX12_term_0 : decode cX12_term 0 = .ok (.aload_n 0, 1) := by decide +kernel
theorem dX12_term_1 : decode cX12_term 1 = .ok (.invokevirtual 162, 3) := by decide +kernel
theorem dX12_term_4 : decode cX12_term 4 = .ok (.aload_n 0, 1) := by decide +kernel
theorem dX12_term_5 : decode cX12_term 5 = .ok (.getfield 122, 3) := by decide +kernel
theorem dX12_term_8 : decode cX12_term 8 = .ok (.iconst (-1), 1) := by decide +kernel
theorem dX12_term_9 : decode cX12_term 9 = .ok (.if_icmp .ne 10, 3) := by decide +kernel
theorem dX12_term_12 : decode cX12_term 12 = .ok (.aload_n 0, 1) := by decide +kernel
theorem dX12_term_13 : decode cX12_term 13 = .ok (.invokevirtual 134, 3) := by decide +kernel
theorem dX12_term_16 : decode cX12_term 16 = .ok (.goto 4, 3) := by decide +kernel
theorem dX12_term_19 : decode cX12_term 19 = .ok (.iconst (-1), 1) := by decide +kernel
theorem dX12_term_20 : decode cX12_term 20 = .ok (.istore_n 1, 1) := by decide +kernel
theorem dX12_term_21 : decode cX12_term 21 = .ok (.iload_n 1, 1) := by decide +kernel
theorem dX12_term_22 : decode cX12_term 22 = .ok (.bipush 42, 2) := by decide +kernel
theorem dX12_term_24 : decode cX12_term 24 = .ok (.if_icmp .eq 9, 3) := by decide +kernel
theorem dX12_term_27 : decode cX12_term 27 = .ok (.iload_n 1, 1) := by decide +kernel
theorem dX12_term_28 : decode cX12_term 28 = .ok (.bipush 47, 2) := by decide +kernel
theorem dX12_term_30 : decode cX12_term 30 = .ok (.if_icmp .ne 53, 3) := by decide +kernel
theorem dX12_term_33 : decode cX12_term 33 = .ok (.aload_n 0, 1) := by decide +kernel
theorem dX12_term_34 : decode cX12_term 34 = .ok (.dup, 1) := by decide +kernel
theorem dX12_term_35 : decode cX12_term 35 = .ok (.getfield 115, 3) := by decide +kernel
theorem dX12_term_38 : decode cX12_term 38 = .ok (.iconst 1, 1) := by decide +kernel
theorem dX12_term_39 : decode cX12_term 39 = .ok (.iadd, 1) := by decide +kernel
theorem dX12_term_40 : decode cX12_term 40 = .ok (.putfield 115, 3) := by decide +kernel
theorem dX12_term_43 : decode cX12_term 43 = .ok (.aload_n 0, 1) := by decide +kernel
theorem dX12_term_44 : decode cX12_term 44 = .ok (.invokevirtual 162, 3) := by decide +kernel
theorem dX12_term_47 : decode cX12_term 47 = .ok (.aload_n 0, 1) := by decide +kernel
theorem dX12_term_48 : decode cX12_term 48 = .ok (.iload_n 1, 1) := by decide +kernel
theorem dX12_term_49 : decode cX12_term 49 = .ok (.bipush 42, 2) := by decide +kernel
theorem dX12_term_51 : decode cX12_term 51 = .ok (.if_icmp .ne 7, 3) := by decide +kernel
theorem dX12_term_54 : decode cX12_term 54 = .ok (.iconst 4, 1) := by decide +kernel
theorem dX12_term_55 : decode cX12_term 55 = .ok (.goto 4, 3) := by decide +kernel
theorem dX12_term_58 : decode cX12_term 58 = .ok (.iconst 5, 1) := by decide +kernel
theorem dX12_term_59 : decode cX12_term 59 = .ok (.iconst 0, 1) := by decide +kernel
theorem dX12_term_60 : decode cX12_term 60 = .ok (.invokevirtual 144, 3) := by decide +kernel
theorem dX12_term_63 : decode cX12_term 63 = .ok (.aload_n 0, 1) := by decide +kernel
theorem dX12_term_64 : decode cX12_term 64 = .ok (.getfield 122, 3) := by decide +kernel
theorem dX12_term_67 : decode cX12_term 67 = .ok (.iconst (-1), 1) := by decide +kernel
theorem dX12_term_68 : decode cX12_term 68 = .ok (.if_icmp .ne 10, 3) := by decide +kernel
theorem dX12_term_71 : decode cX12_term 71 = .ok (.aload_n 0, 1) := by decide +kernel
theorem dX12_term_72 : decode cX12_term 72 = .ok (.invokevirtual 134, 3) := by decide +kernel
theorem dX12_term_75 : decode cX12_term 75 = .ok (.goto 4, 3) := by decide +kernel
theorem dX12_term_78 : decode cX12_term 78 = .ok (.iconst (-1), 1) := by decide +kernel
theorem dX12_term_79 : decode cX12_term 79 = .ok (.istore_n 1, 1) := by decide +kernel
theorem dX12_term_80 : decode cX12_term 80 = .ok (.goto (-59), 3) := by decide +kernel
theorem dX12_term_83 : decode cX12_term 83 = .ok (.return_, 1) := by decide +kernel
theorem dX12_sum_0 : decode cX12_sum 0 = .ok (.aload_n 0, 1) := by decide +kernel
theorem dX12_sum_1 : decode cX12_sum 1 = .ok (.invokevirtual 165, 3) := by decide +kernel
theorem dX12_sum_4 : decode cX12_sum 4 = .ok (.aload_n 0, 1) := by decide +kernel
theorem dX12_sum_5 : decode cX12_sum 5 = .ok (.getfield 122, 3) := by decide +kernel
theorem dX12_sum_8 : decode cX12_sum 8 = .ok (.iconst (-1), 1) := by decide +kernel
theorem dX12_sum_9 : decode cX12_sum 9 = .ok (.if_icmp .ne 10, 3) := by decide +kernel
theorem dX12_sum_12 : decode cX12_sum 12 = .ok (.aload_n 0, 1) := by decide +kernel
theorem dX12_sum_13 : decode cX12_sum 13 = .ok (.invokevirtual 134, 3) := by decide +kernel
theorem dX12_sum_16 : decode cX12_sum 16 = .ok (.goto 4, 3) := by decide +kernel
theorem dX12_sum_19 : decode cX12_sum 19 = .ok (.iconst (-1), 1) := by decide +kernel
theorem dX12_sum_20 : decode cX12_sum 20 = .ok (.istore_n 1, 1) := by decide +kernel
theorem dX12_sum_21 : decode cX12_sum 21 = .ok (.iload_n 1, 1) := by decide +kernel
theorem dX12_sum_22 : decode cX12_sum 22 = .ok (.bipush 43, 2) := by decide +kernel
theorem dX12_sum_24 : decode cX12_sum 24 = .ok (.if_icmp .eq 9, 3) := by decide +kernel
theorem dX12_sum_27 : decode cX12_sum 27 = .ok (.iload_n 1, 1) := by decide +kernel
theorem dX12_sum_28 : decode cX12_sum 28 = .ok (.bipush 45, 2) := by decide +kernel
theorem dX12_sum_30 : decode cX12_sum 30 = .ok (.if_icmp .ne 53, 3) := by decide +kernel
theorem dX12_sum_33 : decode cX12_sum 33 = .ok (.aload_n 0, 1) := by decide +kernel
theorem dX12_sum_34 : decode cX12_sum 34 = .ok (.dup, 1) := by decide +kernel
theorem dX12_sum_35 : decode cX12_sum 35 = .ok (.getfield 115, 3) := by decide +kernel
theorem dX12_sum_38 : decode cX12_sum 38 = .ok (.iconst 1, 1) := by decide +kernel
theorem dX12_sum_39 : decode cX12_sum 39 = .ok (.iadd, 1) := by decide +kernel
theorem dX12_sum_40 : decode cX12_sum 40 = .ok (.putfield 115, 3) := by decide +kernel
theorem dX12_sum_43 : decode cX12_sum 43 = .ok (.aload_n 0, 1) := by decide +kernel
theorem dX12_sum_44 : decode cX12_sum 44 = .ok (.invokevirtual 165, 3) := by decide +kernel
theorem dX12_sum_47 : decode cX12_sum 47 = .ok (.aload_n 0, 1) := by decide +kernel
theorem dX12_sum_48 : decode cX12_sum 48 = .ok (.iload_n 1, 1) := by decide +kernel
theorem dX12_sum_49 : decode cX12_sum 49 = .ok (.bipush 43, 2) := by decide +kernel
theorem dX12_sum_51 : decode cX12_sum 51 = .ok (.if_icmp .ne 7, 3) := by decide +kernel
theorem dX12_sum_54 : decode cX12_sum 54 = .ok (.iconst 2, 1) := by decide +kernel
theorem dX12_sum_55 : decode cX12_sum 55 = .ok (.goto 4, 3) := by decide +kernel
theorem dX12_sum_58 : decode cX12_sum 58 = .ok (.iconst 3, 1) := by decide +kernel
theorem dX12_sum_59 : decode cX12_sum 59 = .ok (.iconst 0, 1) := by decide +kernel
theorem dX12_sum_60 : decode cX12_sum 60 = .ok (.invokevirtual 144, 3) := by decide +kernel
theorem dX12_sum_63 : decode cX12_sum 63 = .ok (.aload_n 0, 1) := by decide +kernel
theorem dX12_sum_64 : decode cX12_sum 64 = .ok (.getfield 122, 3) := by decide +kernel
theorem dX12_sum_67 : decode cX12_sum 67 = .ok (.iconst (-1), 1) := by decide +kernel
theorem dX12_sum_68 : decode cX12_sum 68 = .ok (.if_icmp .ne 10, 3) := by decide +kernel
theorem dX12_sum_71 : decode cX12_sum 71 = .ok (.aload_n 0, 1) := by decide +kernel
theorem dX12_sum_72 : decode cX12_sum 72 = .ok (.invokevirtual 134, 3) := by decide +kernel
theorem dX12_sum_75 : decode cX12_sum 75 = .ok (.goto 4, 3) := by decide +kernel
theorem dX12_sum_78 : decode cX12_sum 78 = .ok (.iconst (-1), 1) := by decide +kernel
theorem dX12_sum_79 : decode cX12_sum 79 = .ok (.istore_n 1, 1) := by decide +kernel
theorem dX12_sum_80 : decode cX12_sum 80 = .ok (.goto (-59), 3) := by decide +kernel
theorem dX12_sum_83 : decode cX12_sum 83 = .ok (.return_, 1) := by decide +kernel
theorem dX12_isSign_0 : decode cX12_isSign 0 = .ok (.iload_n 0, 1) := by decide +kernel
theorem dX12_isSign_1 : decode cX12_isSign 1 = .ok (.bipush 61, 2) := by decide +kernel
theorem dX12_isSign_3 : decode cX12_isSign 3 = .ok (.if_icmp .eq 15, 3) := by decide +kernel
theorem dX12_isSign_6 : decode cX12_isSign 6 = .ok (.iload_n 0, 1) := by decide +kernel
theorem dX12_isSign_7 : decode cX12_isSign 7 = .ok (.bipush 60, 2) := by decide +kernel
theorem dX12_isSign_9 : decode cX12_isSign 9 = .ok (.if_icmp .eq 9, 3) := by decide +kernel
theorem dX12_isSign_12 : decode cX12_isSign 12 = .ok (.iload_n 0, 1) := by decide +kernel
theorem dX12_isSign_13 : decode cX12_isSign 13 = .ok (.bipush 62, 2) := by decide +kernel
theorem dX12_isSign_15 : decode cX12_isSign 15 = .ok (.if_icmp .ne 7, 3) := by decide +kernel
theorem dX12_isSign_18 : decode cX12_isSign 18 = .ok (.iconst 1, 1) := by decide +kernel
theorem dX12_isSign_19 : decode cX12_isSign 19 = .ok (.goto 4, 3) := by decide +kernel
theorem dX12_isSign_22 : decode cX12_isSign 22 = .ok (.iconst 0, 1) := by decide +kernel
theorem dX12_isSign_23 : decode cX12_isSign 23 = .ok (.ireturn, 1) := by decide +kernel
theorem dX12_compare_0 : decode cX12_compare 0 = .ok (.aload_n 0, 1) := by decide +kernel
theorem dX12_compare_1 : decode cX12_compare 1 = .ok (.getfield 122, 3) := by decide +kernel
theorem dX12_compare_4 : decode cX12_compare 4 = .ok (.iconst (-1), 1) := by decide +kernel
theorem dX12_compare_5 : decode cX12_compare 5 = .ok (.if_icmp .ne 10, 3) := by decide +kernel
theorem dX12_compare_8 : decode cX12_compare 8 = .ok (.aload_n 0, 1) := by decide +kernel
theorem dX12_compare_9 : decode cX12_compare 9 = .ok (.invokevirtual 134, 3) := by decide +kernel
theorem dX12_compare_12 : decode cX12_compare 12 = .ok (.goto 4, 3) := by decide +kernel
theorem dX12_compare_15 : decode cX12_compare 15 = .ok (.iconst (-1), 1) := by decide +kernel
theorem dX12_compare_16 : decode cX12_compare 16 = .ok (.istore_n 1, 1) := by decide +kernel
theorem dX12_compare_17 : decode cX12_compare 17 = .ok (.iload_n 1, 1) := by decide +kernel
theorem dX12_compare_18 : decode cX12_compare 18 = .ok (.invokestatic 168, 3) := by decide +kernel
theorem dX12_compare_21 : decode cX12_compare 21 = .ok (.ifCond .ne 8, 3) := by decide +kernel
theorem dX12_compare_24 : decode cX12_compare 24 = .ok (.aload_n 0, 1) := by decide +kernel
theorem dX12_compare_25 : decode cX12_compare 25 = .ok (.invokevirtual 131, 3) := by decide +kernel
theorem dX12_compare_28 : decode cX12_compare 28 = .ok (.return_, 1) := by decide +kernel
theorem dX12_compare_29 : decode cX12_compare 29 = .ok (.aload_n 0, 1) := by decide +kernel
theorem dX12_compare_30 : decode cX12_compare 30 = .ok (.dup, 1) := by decide +kernel
theorem dX12_compare_31 : decode cX12_compare 31 = .ok (.getfield 115, 3) := by decide +kernel
theorem dX12_compare_34 : decode cX12_compare 34 = .ok (.iconst 1, 1) := by decide +kernel
theorem dX12_compare_35 : decode cX12_compare 35 = .ok (.iadd, 1) := by decide +kernel
theorem dX12_compare_36 : decode cX12_compare 36 = .ok (.putfield 115, 3) := by decide +kernel
theorem dX12_compare_39 : decode cX12_compare 39 = .ok (.aload_n 0, 1) := by decide +kernel
theorem dX12_compare_40 : decode cX12_compare 40 = .ok (.invokevirtual 155, 3) := by decide +kernel
theorem dX12_compare_43 : decode cX12_compare 43 = .ok (.aload_n 0, 1) := by decide +kernel
theorem dX12_compare_44 : decode cX12_compare 44 = .ok (.iload_n 1, 1) := by decide +kernel
theorem dX12_compare_45 : decode cX12_compare 45 = .ok (.bipush 61, 2) := by decide +kernel
theorem dX12_compare_47 : decode cX12_compare 47 = .ok (.if_icmp .ne 8, 3) := by decide +kernel
theorem dX12_compare_50 : decode cX12_compare 50 = .ok (.bipush 6, 2) := by decide +kernel
theorem dX12_compare_52 : decode cX12_compare 52 = .ok (.goto 16, 3) := by decide +kernel
theorem dX12_compare_55 : decode cX12_compare 55 = .ok (.iload_n 1, 1) := by decide +kernel
theorem dX12_compare_56 : decode cX12_compare 56 = .ok (.bipush 60, 2) := by decide +kernel
theorem dX12_compare_58 : decode cX12_compare 58 = .ok (.if_icmp .ne 8, 3) := by decide +kernel
theorem dX12_compare_61 : decode cX12_compare 61 = .ok (.bipush 7, 2) := by decide +kernel
theorem dX12_compare_63 : decode cX12_compare 63 = .ok (.goto 5, 3) := by decide +kernel
theorem dX12_compare_66 : decode cX12_compare 66 = .ok (.bipush 8, 2) := by decide +kernel
theorem dX12_compare_68 : decode cX12_compare 68 = .ok (.iconst 0, 1) := by decide +kernel
theorem dX12_compare_69 : decode cX12_compare 69 = .ok (.invokevirtual 144, 3) := by decide +kernel
theorem dX12_compare_72 : decode cX12_compare 72 = .ok (.return_, 1) := by decide +kernel
theorem dX12_unit_0 : decode cX12_unit 0 = .ok (.aload_n 0, 1) := by decide +kernel
theorem dX12_unit_1 : decode cX12_unit 1 = .ok (.invokevirtual 134, 3) := by decide +kernel
theorem dX12_unit_4 : decode cX12_unit 4 = .ok (.istore_n 1, 1) := by decide +kernel
theorem dX12_unit_5 : decode cX12_unit 5 = .ok (.iload_n 1, 1) := by decide +kernel
theorem dX12_unit_6 : decode cX12_unit 6 = .ok (.bipush 33, 2) := by decide +kernel
theorem dX12_unit_8 : decode cX12_unit 8 = .ok (.if_icmp .ne 39, 3) := by decide +kernel
theorem dX12_unit_11 : decode cX12_unit 11 = .ok (.aload_n 0, 1) := by decide +kernel
theorem dX12_unit_12 : decode cX12_unit 12 = .ok (.invokevirtual 152, 3) := by decide +kernel
theorem dX12_unit_15 : decode cX12_unit 15 = .ok (.aload_n 0, 1) := by decide +kernel
theorem dX12_unit_16 : decode cX12_unit 16 = .ok (.getfield 122, 3) := by decide +kernel
theorem dX12_unit_19 : decode cX12_unit 19 = .ok (.iconst (-1), 1) := by decide +kernel
theorem dX12_unit_20 : decode cX12_unit 20 = .ok (.if_icmp .ne 74, 3) := by decide +kernel
theorem dX12_unit_23 : decode cX12_unit 23 = .ok (.aload_n 0, 1) := by decide +kernel
theorem dX12_unit_24 : decode cX12_unit 24 = .ok (.invokevirtual 171, 3) := by decide +kernel
theorem dX12_unit_27 : decode cX12_unit 27 = .ok (.aload_n 0, 1) := by decide +kernel
theorem dX12_unit_28 : decode cX12_unit 28 = .ok (.bipush 9, 2) := by decide +kernel
theorem dX12_unit_30 : decode cX12_unit 30 = .ok (.iconst 0, 1) := by decide +kernel
theorem dX12_unit_31 : decode cX12_unit 31 = .ok (.invokevirtual 144, 3) := by decide +kernel
theorem dX12_unit_34 : decode cX12_unit 34 = .ok (.aload_n 0, 1) := by decide +kernel
theorem dX12_unit_35 : decode cX12_unit 35 = .ok (.dup, 1) := by decide +kernel
theorem dX12_unit_36 : decode cX12_unit 36 = .ok (.getfield 128, 3) := by decide +kernel
theorem dX12_unit_39 : decode cX12_unit 39 = .ok (.iconst 1, 1) := by decide +kernel
theorem dX12_unit_40 : decode cX12_unit 40 = .ok (.isub, 1) := by decide +kernel
theorem dX12_unit_41 : decode cX12_unit 41 = .ok (.putfield 128, 3) := by decide +kernel
theorem dX12_unit_44 : decode cX12_unit 44 = .ok (.goto 50, 3) := by decide +kernel
theorem dX12_unit_47 : decode cX12_unit 47 = .ok (.iload_n 1, 1) := by decide +kernel
theorem dX12_unit_48 : decode cX12_unit 48 = .ok (.bipush 40, 2) := by decide +kernel
theorem dX12_unit_50 : decode cX12_unit 50 = .ok (.if_icmp .ne 28, 3) := by decide +kernel
theorem dX12_unit_53 : decode cX12_unit 53 = .ok (.aload_n 0, 1) := by decide +kernel
theorem dX12_unit_54 : decode cX12_unit 54 = .ok (.invokevirtual 152, 3) := by decide +kernel
theorem dX12_unit_57 : decode cX12_unit 57 = .ok (.aload_n 0, 1) := by decide +kernel
theorem dX12_unit_58 : decode cX12_unit 58 = .ok (.getfield 122, 3) := by decide +kernel
theorem dX12_unit_61 : decode cX12_unit 61 = .ok (.iconst (-1), 1) := by decide +kernel
theorem dX12_unit_62 : decode cX12_unit 62 = .ok (.if_icmp .ne 32, 3) := by decide +kernel
theorem dX12_unit_65 : decode cX12_unit 65 = .ok (.aload_n 0, 1) := by decide +kernel
theorem dX12_unit_66 : decode cX12_unit 66 = .ok (.invokevirtual 174, 3) := by decide +kernel
theorem dX12_unit_69 : decode cX12_unit 69 = .ok (.aload_n 0, 1) := by decide +kernel
theorem dX12_unit_70 : decode cX12_unit 70 = .ok (.bipush 41, 2) := by decide +kernel
theorem dX12_unit_72 : decode cX12_unit 72 = .ok (.invokevirtual 158, 3) := by decide +kernel
theorem dX12_unit_75 : decode cX12_unit 75 = .ok (.goto 19, 3) := by decide +kernel
theorem dX12_unit_78 : decode cX12_unit 78 = .ok (.aload_n 0, 1) := by decide +kernel
theorem dX12_unit_79 : decode cX12_unit 79 = .ok (.invokevirtual 155, 3) := by decide +kernel
theorem dX12_unit_82 : decode cX12_unit 82 = .ok (.aload_n 0, 1) := by decide +kernel
theorem dX12_unit_83 : decode cX12_unit 83 = .ok (.getfield 122, 3) := by decide +kernel
theorem dX12_unit_86 : decode cX12_unit 86 = .ok (.iconst (-1), 1) := by decide +kernel
theorem dX12_unit_87 : decode cX12_unit 87 = .ok (.if_icmp .ne 7, 3) := by decide +kernel
theorem dX12_unit_90 : decode cX12_unit 90 = .ok (.aload_n 0, 1) := by decide +kernel
theorem dX12_unit_91 : decode cX12_unit 91 = .ok (.invokevirtual 177, 3) := by decide +kernel
theorem dX12_unit_94 : decode cX12_unit 94 = .ok (.return_, 1) := by decide +kernel
theorem dX12_goOnAnd_0 : decode cX12_goOnAnd 0 = .ok (.aload_n 0, 1) := by decide +kernel
theorem dX12_goOnAnd_1 : decode cX12_goOnAnd 1 = .ok (.getfield 122, 3) := by decide +kernel
theorem dX12_goOnAnd_4 : decode cX12_goOnAnd 4 = .ok (.iconst (-1), 1) := by decide +kernel
theorem dX12_goOnAnd_5 : decode cX12_goOnAnd 5 = .ok (.if_icmp .ne 36, 3) := by decide +kernel
theorem dX12_goOnAnd_8 : decode cX12_goOnAnd 8 = .ok (.aload_n 0, 1) := by decide +kernel
theorem dX12_goOnAnd_9 : decode cX12_goOnAnd 9 = .ok (.invokevirtual 134, 3) := by decide +kernel
theorem dX12_goOnAnd_12 : decode cX12_goOnAnd 12 = .ok (.bipush 38, 2) := by decide +kernel
theorem dX12_goOnAnd_14 : decode cX12_goOnAnd 14 = .ok (.if_icmp .ne 27, 3) := by decide +kernel
theorem dX12_goOnAnd_17 : decode cX12_goOnAnd 17 = .ok (.aload_n 0, 1) := by decide +kernel
theorem dX12_goOnAnd_18 : decode cX12_goOnAnd 18 = .ok (.dup, 1) := by decide +kernel
theorem dX12_goOnAnd_19 : decode cX12_goOnAnd 19 = .ok (.getfield 115, 3) := by decide +kernel
theorem dX12_goOnAnd_22 : decode cX12_goOnAnd 22 = .ok (.iconst 1, 1) := by decide +kernel
theorem dX12_goOnAnd_23 : decode cX12_goOnAnd 23 = .ok (.iadd, 1) := by decide +kernel
theorem dX12_goOnAnd_24 : decode cX12_goOnAnd 24 = .ok (.putfield 115, 3) := by decide +kernel
theorem dX12_goOnAnd_27 : decode cX12_goOnAnd 27 = .ok (.aload_n 0, 1) := by decide +kernel
theorem dX12_goOnAnd_28 : decode cX12_goOnAnd 28 = .ok (.invokevirtual 171, 3) := by decide +kernel
theorem dX12_goOnAnd_31 : decode cX12_goOnAnd 31 = .ok (.aload_n 0, 1) := by decide +kernel
theorem dX12_goOnAnd_32 : decode cX12_goOnAnd 32 = .ok (.bipush 10, 2) := by decide +kernel
theorem dX12_goOnAnd_34 : decode cX12_goOnAnd 34 = .ok (.iconst 0, 1) := by decide +kernel
theorem dX12_goOnAnd_35 : decode cX12_goOnAnd 35 = .ok (.invokevirtual 144, 3) := by decide +kernel
theorem dX12_goOnAnd_38 : decode cX12_goOnAnd 38 = .ok (.goto (-38), 3) := by decide +kernel
theorem dX12_goOnAnd_41 : decode cX12_goOnAnd 41 = .ok (.return_, 1) := by decide +kernel
theorem dX12_goOnOr_0 : decode cX12_goOnOr 0 = .ok (.aload_n 0, 1) := by decide +kernel
theorem dX12_goOnOr_1 : decode cX12_goOnOr 1 = .ok (.getfield 122, 3) := by decide +kernel
theorem dX12_goOnOr_4 : decode cX12_goOnOr 4 = .ok (.iconst (-1), 1) := by decide +kernel
theorem dX12_goOnOr_5 : decode cX12_goOnOr 5 = .ok (.if_icmp .ne 40, 3) := by decide +kernel
theorem dX12_goOnOr_8 : decode cX12_goOnOr 8 = .ok (.aload_n 0, 1) := by decide +kernel
theorem dX12_goOnOr_9 : decode cX12_goOnOr 9 = .ok (.invokevirtual 134, 3) := by decide +kernel
theorem dX12_goOnOr_12 : decode cX12_goOnOr 12 = .ok (.bipush 124, 2) := by decide +kernel
theorem dX12_goOnOr_14 : decode cX12_goOnOr 14 = .ok (.if_icmp .ne 31, 3) := by decide +kernel
theorem dX12_goOnOr_17 : decode cX12_goOnOr 17 = .ok (.aload_n 0, 1) := by decide +kernel
theorem dX12_goOnOr_18 : decode cX12_goOnOr 18 = .ok (.dup, 1) := by decide +kernel
theorem dX12_goOnOr_19 : decode cX12_goOnOr 19 = .ok (.getfield 115, 3) := by decide +kernel
theorem dX12_goOnOr_22 : decode cX12_goOnOr 22 = .ok (.iconst 1, 1) := by decide +kernel
theorem dX12_goOnOr_23 : decode cX12_goOnOr 23 = .ok (.iadd, 1) := by decide +kernel
theorem dX12_goOnOr_24 : decode cX12_goOnOr 24 = .ok (.putfield 115, 3) := by decide +kernel
theorem dX12_goOnOr_27 : decode cX12_goOnOr 27 = .ok (.aload_n 0, 1) := by decide +kernel
theorem dX12_goOnOr_28 : decode cX12_goOnOr 28 = .ok (.invokevirtual 171, 3) := by decide +kernel
theorem dX12_goOnOr_31 : decode cX12_goOnOr 31 = .ok (.aload_n 0, 1) := by decide +kernel
theorem dX12_goOnOr_32 : decode cX12_goOnOr 32 = .ok (.invokevirtual 180, 3) := by decide +kernel
theorem dX12_goOnOr_35 : decode cX12_goOnOr 35 = .ok (.aload_n 0, 1) := by decide +kernel
theorem dX12_goOnOr_36 : decode cX12_goOnOr 36 = .ok (.bipush 11, 2) := by decide +kernel
theorem dX12_goOnOr_38 : decode cX12_goOnOr 38 = .ok (.iconst 0, 1) := by decide +kernel
theorem dX12_goOnOr_39 : decode cX12_goOnOr 39 = .ok (.invokevirtual 144, 3) := by decide +kernel
theorem dX12_goOnOr_42 : decode cX12_goOnOr 42 = .ok (.goto (-42), 3) := by decide +kernel
theorem dX12_goOnOr_45 : decode cX12_goOnOr 45 = .ok (.return_, 1) := by decide +kernel
theorem dX12_condition_0 : decode cX12_condition 0 = .ok (.aload_n 0, 1) := by decide +kernel
theorem dX12_condition_1 : decode cX12_condition 1 = .ok (.invokevirtual 171, 3) := by decide +kernel
theorem dX12_condition_4 : decode cX12_condition 4 = .ok (.aload_n 0, 1) := by decide +kernel
theorem dX12_condition_5 : decode cX12_condition 5 = .ok (.invokevirtual 180, 3) := by decide +kernel
theorem dX12_condition_8 : decode cX12_condition 8 = .ok (.aload_n 0, 1) := by decide +kernel
theorem dX12_condition_9 : decode cX12_condition 9 = .ok (.invokevirtual 183, 3) := by decide +kernel
theorem dX12_condition_12 : decode cX12_condition 12 = .ok (.return_, 1) := by decide +kernel
theorem dX12_clause_0 : decode cX12_clause 0 = .ok (.sipush 140, 3) := by decide +kernel
theorem dX12_clause_3 : decode cX12_clause 3 = .ok (.aload_n 0, 1) := by decide +kernel
theorem dX12_clause_4 : decode cX12_clause 4 = .ok (.getfield 125, 3) := by decide +kernel
theorem dX12_clause_7 : decode cX12_clause 7 = .ok (.imul, 1) := by decide +kernel
theorem dX12_clause_8 : decode cX12_clause 8 = .ok (.aload_n 0, 1) := by decide +kernel
theorem dX12_clause_9 : decode cX12_clause 9 = .ok (.getfield 22, 3) := by decide +kernel
theorem dX12_clause_12 : decode cX12_clause 12 = .ok (.aload_n 0, 1) := by decide +kernel
theorem dX12_clause_13 : decode cX12_clause 13 = .ok (.getfield 125, 3) := by decide +kernel
theorem dX12_clause_16 : decode cX12_clause 16 = .ok (.iaload, 1) := by decide +kernel
theorem dX12_clause_17 : decode cX12_clause 17 = .ok (.iadd, 1) := by decide +kernel
theorem dX12_clause_18 : decode cX12_clause 18 = .ok (.istore_n 1, 1) := by decide +kernel
theorem dX12_clause_19 : decode cX12_clause 19 = .ok (.aload_n 0, 1) := by decide +kernel
theorem dX12_clause_20 : decode cX12_clause 20 = .ok (.getfield 122, 3) := by decide +kernel
theorem dX12_clause_23 : decode cX12_clause 23 = .ok (.iconst (-1), 1) := by decide +kernel
theorem dX12_clause_24 : decode cX12_clause 24 = .ok (.if_icmp .ne 16, 3) := by decide +kernel
theorem dX12_clause_27 : decode cX12_clause 27 = .ok (.aload_n 0, 1) := by decide +kernel
theorem dX12_clause_28 : decode cX12_clause 28 = .ok (.invokevirtual 134, 3) := by decide +kernel
theorem dX12_clause_31 : decode cX12_clause 31 = .ok (.bipush 121, 2) := by decide +kernel
theorem dX12_clause_33 : decode cX12_clause 33 = .ok (.if_icmp .eq 7, 3) := by decide +kernel
theorem dX12_clause_36 : decode cX12_clause 36 = .ok (.aload_n 0, 1) := by decide +kernel
theorem dX12_clause_37 : decode cX12_clause 37 = .ok (.invokevirtual 131, 3) := by decide +kernel
theorem dX12_clause_40 : decode cX12_clause 40 = .ok (.aload_n 0, 1) := by decide +kernel
theorem dX12_clause_41 : decode cX12_clause 41 = .ok (.dup, 1) := by decide +kernel
theorem dX12_clause_42 : decode cX12_clause 42 = .ok (.getfield 115, 3) := by decide +kernel
theorem dX12_clause_45 : decode cX12_clause 45 = .ok (.iconst 1, 1) := by decide +kernel
theorem dX12_clause_46 : decode cX12_clause 46 = .ok (.iadd, 1) := by decide +kernel
theorem dX12_clause_47 : decode cX12_clause 47 = .ok (.putfield 115, 3) := by decide +kernel
theorem dX12_clause_50 : decode cX12_clause 50 = .ok (.aload_n 0, 1) := by decide +kernel
theorem dX12_clause_51 : decode cX12_clause 51 = .ok (.getfield 122, 3) := by decide +kernel
theorem dX12_clause_54 : decode cX12_clause 54 = .ok (.iconst (-1), 1) := by decide +kernel
theorem dX12_clause_55 : decode cX12_clause 55 = .ok (.if_icmp .ne 16, 3) := by decide +kernel
theorem dX12_clause_58 : decode cX12_clause 58 = .ok (.aload_n 0, 1) := by decide +kernel
theorem dX12_clause_59 : decode cX12_clause 59 = .ok (.invokevirtual 134, 3) := by decide +kernel
theorem dX12_clause_62 : decode cX12_clause 62 = .ok (.bipush 58, 2) := by decide +kernel
theorem dX12_clause_64 : decode cX12_clause 64 = .ok (.if_icmp .eq 7, 3) := by decide +kernel
theorem dX12_clause_67 : decode cX12_clause 67 = .ok (.aload_n 0, 1) := by decide +kernel
theorem dX12_clause_68 : decode cX12_clause 68 = .ok (.invokevirtual 131, 3) := by decide +kernel
theorem dX12_clause_71 : decode cX12_clause 71 = .ok (.aload_n 0, 1) := by decide +kernel
theorem dX12_clause_72 : decode cX12_clause 72 = .ok (.dup, 1) := by decide +kernel
theorem dX12_clause_73 : decode cX12_clause 73 = .ok (.getfield 115, 3) := by decide +kernel
theorem dX12_clause_76 : decode cX12_clause 76 = .ok (.iconst 1, 1) := by decide +kernel
theorem dX12_clause_77 : decode cX12_clause 77 = .ok (.iadd, 1) := by decide +kernel
theorem dX12_clause_78 : decode cX12_clause 78 = .ok (.putfield 115, 3) := by decide +kernel
theorem dX12_clause_81 : decode cX12_clause 81 = .ok (.aload_n 0, 1) := by decide +kernel
theorem dX12_clause_82 : decode cX12_clause 82 = .ok (.getfield 122, 3) := by decide +kernel
theorem dX12_clause_85 : decode cX12_clause 85 = .ok (.iconst (-1), 1) := by decide +kernel
theorem dX12_clause_86 : decode cX12_clause 86 = .ok (.if_icmp .eq 4, 3) := by decide +kernel
theorem dX12_clause_89 : decode cX12_clause 89 = .ok (.return_, 1) := by decide +kernel
theorem dX12_clause_90 : decode cX12_clause 90 = .ok (.aload_n 0, 1) := by decide +kernel
theorem dX12_clause_91 : decode cX12_clause 91 = .ok (.getfield 25, 3) := by decide +kernel
theorem dX12_clause_94 : decode cX12_clause 94 = .ok (.iload_n 1, 1) := by decide +kernel
theorem dX12_clause_95 : decode cX12_clause 95 = .ok (.aload_n 0, 1) := by decide +kernel
theorem dX12_clause_96 : decode cX12_clause 96 = .ok (.getfield 19, 3) := by decide +kernel
theorem dX12_clause_99 : decode cX12_clause 99 = .ok (.aload_n 0, 1) := by decide +kernel
theorem dX12_clause_100 : decode cX12_clause 100 = .ok (.getfield 125, 3) := by decide +kernel
theorem dX12_clause_103 : decode cX12_clause 103 = .ok (.iaload, 1) := by decide +kernel
theorem dX12_clause_104 : decode cX12_clause 104 = .ok (.iastore, 1) := by decide +kernel
theorem dX12_clause_105 : decode cX12_clause 105 = .ok (.aload_n 0, 1) := by decide +kernel
theorem dX12_clause_106 : decode cX12_clause 106 = .ok (.invokevirtual 134, 3) := by decide +kernel
theorem dX12_clause_109 : decode cX12_clause 109 = .ok (.bipush 33, 2) := by decide +kernel
theorem dX12_clause_111 : decode cX12_clause 111 = .ok (.if_icmp .eq 12, 3) := by decide +kernel
theorem dX12_clause_114 : decode cX12_clause 114 = .ok (.aload_n 0, 1) := by decide +kernel
theorem dX12_clause_115 : decode cX12_clause 115 = .ok (.invokevirtual 134, 3) := by decide +kernel
theorem dX12_clause_118 : decode cX12_clause 118 = .ok (.bipush 40, 2) := by decide +kernel
theorem dX12_clause_120 : decode cX12_clause 120 = .ok (.if_icmp .ne 7, 3) := by decide +kernel
theorem dX12_clause_123 : decode cX12_clause 123 = .ok (.iconst 1, 1) := by decide +kernel
theorem dX12_clause_124 : decode cX12_clause 124 = .ok (.goto 4, 3) := by decide +kernel
theorem dX12_clause_127 : decode cX12_clause 127 = .ok (.iconst 0, 1) := by decide +kernel
theorem dX12_clause_128 : decode cX12_clause 128 = .ok (.istore_n 2, 1) := by decide +kernel
theorem dX12_clause_129 : decode cX12_clause 129 = .ok (.iload_n 2, 1) := by decide +kernel
theorem dX12_clause_130 : decode cX12_clause 130 = .ok (.ifCond .eq 10, 3) := by decide +kernel
theorem dX12_clause_133 : decode cX12_clause 133 = .ok (.aload_n 0, 1) := by decide +kernel
theorem dX12_clause_134 : decode cX12_clause 134 = .ok (.invokevirtual 174, 3) := by decide +kernel
theorem dX12_clause_137 : decode cX12_clause 137 = .ok (.goto 47, 3) := by decide +kernel
theorem dX12_clause_140 : decode cX12_clause 140 = .ok (.aload_n 0, 1) := by decide +kernel
theorem dX12_clause_141 : decode cX12_clause 141 = .ok (.invokevirtual 155, 3) := by decide +kernel
theorem dX12_clause_144 : decode cX12_clause 144 = .ok (.aload_n 0, 1) := by decide +kernel
theorem dX12_clause_145 : decode cX12_clause 145 = .ok (.getfield 122, 3) := by decide +kernel
theorem dX12_clause_148 : decode cX12_clause 148 = .ok (.iconst (-1), 1) := by decide +kernel
theorem dX12_clause_149 : decode cX12_clause 149 = .ok (.if_icmp .ne 17, 3) := by decide +kernel
theorem dX12_clause_152 : decode cX12_clause 152 = .ok (.aload_n 0, 1) := by decide +kernel
theorem dX12_clause_153 : decode cX12_clause 153 = .ok (.invokevirtual 134, 3) := by decide +kernel
theorem dX12_clause_156 : decode cX12_clause 156 = .ok (.invokestatic 168, 3) := by decide +kernel
theorem dX12_clause_159 : decode cX12_clause 159 = .ok (.ifCond .eq 7, 3) := by decide +kernel
theorem dX12_clause_162 : decode cX12_clause 162 = .ok (.iconst 1, 1) := by decide +kernel
theorem dX12_clause_163 : decode cX12_clause 163 = .ok (.goto 4, 3) := by decide +kernel
theorem dX12_clause_166 : decode cX12_clause 166 = .ok (.iconst 0, 1) := by decide +kernel
theorem dX12_clause_167 : decode cX12_clause 167 = .ok (.istore_n 2, 1) := by decide +kernel
theorem dX12_clause_168 : decode cX12_clause 168 = .ok (.iload_n 2, 1) := by decide +kernel
theorem dX12_clause_169 : decode cX12_clause 169 = .ok (.ifCond .eq 15, 3) := by decide +kernel
theorem dX12_clause_172 : decode cX12_clause 172 = .ok (.aload_n 0, 1) := by decide +kernel
theorem dX12_clause_173 : decode cX12_clause 173 = .ok (.invokevirtual 177, 3) := by decide +kernel
theorem dX12_clause_176 : decode cX12_clause 176 = .ok (.aload_n 0, 1) := by decide +kernel
theorem dX12_clause_177 : decode cX12_clause 177 = .ok (.invokevirtual 180, 3) := by decide +kernel
theorem dX12_clause_180 : decode cX12_clause 180 = .ok (.aload_n 0, 1) := by decide +kernel
theorem dX12_clause_181 : decode cX12_clause 181 = .ok (.invokevirtual 183, 3) := by decide +kernel
theorem dX12_clause_184 : decode cX12_clause 184 = .ok (.aload_n 0, 1) := by decide +kernel
theorem dX12_clause_185 : decode cX12_clause 185 = .ok (.getfield 28, 3) := by decide +kernel
theorem dX12_clause_188 : decode cX12_clause 188 = .ok (.iload_n 1, 1) := by decide +kernel
theorem dX12_clause_189 : decode cX12_clause 189 = .ok (.aload_n 0, 1) := by decide +kernel
theorem dX12_clause_190 : decode cX12_clause 190 = .ok (.getfield 25, 3) := by decide +kernel
theorem dX12_clause_193 : decode cX12_clause 193 = .ok (.iload_n 1, 1) := by decide +kernel
theorem dX12_clause_194 : decode cX12_clause 194 = .ok (.iaload, 1) := by decide +kernel
theorem dX12_clause_195 : decode cX12_clause 195 = .ok (.iastore, 1) := by decide +kernel
theorem dX12_clause_196 : decode cX12_clause 196 = .ok (.iload_n 2, 1) := by decide +kernel
theorem dX12_clause_197 : decode cX12_clause 197 = .ok (.ifCond .eq 54, 3) := by decide +kernel
theorem dX12_clause_200 : decode cX12_clause 200 = .ok (.aload_n 0, 1) := by decide +kernel
theorem dX12_clause_201 : decode cX12_clause 201 = .ok (.getfield 122, 3) := by decide +kernel
theorem dX12_clause_204 : decode cX12_clause 204 = .ok (.iconst (-1), 1) := by decide +kernel
theorem dX12_clause_205 : decode cX12_clause 205 = .ok (.if_icmp .ne 46, 3) := by decide +kernel
theorem dX12_clause_208 : decode cX12_clause 208 = .ok (.aload_n 0, 1) := by decide +kernel
theorem dX12_clause_209 : decode cX12_clause 209 = .ok (.invokevirtual 134, 3) := by decide +kernel
theorem dX12_clause_212 : decode cX12_clause 212 = .ok (.bipush 63, 2) := by decide +kernel
theorem dX12_clause_214 : decode cX12_clause 214 = .ok (.if_icmp .eq 8, 3) := by decide +kernel
theorem dX12_clause_217 : decode cX12_clause 217 = .ok (.aload_n 0, 1) := by decide +kernel
theorem dX12_clause_218 : decode cX12_clause 218 = .ok (.invokevirtual 131, 3) := by decide +kernel
theorem dX12_clause_221 : decode cX12_clause 221 = .ok (.return_, 1) := by decide +kernel
theorem dX12_clause_222 : decode cX12_clause 222 = .ok (.aload_n 0, 1) := by decide +kernel
theorem dX12_clause_223 : decode cX12_clause 223 = .ok (.dup, 1) := by decide +kernel
theorem dX12_clause_224 : decode cX12_clause 224 = .ok (.getfield 115, 3) := by decide +kernel
theorem dX12_clause_227 : decode cX12_clause 227 = .ok (.iconst 1, 1) := by decide +kernel
theorem dX12_clause_228 : decode cX12_clause 228 = .ok (.iadd, 1) := by decide +kernel
theorem dX12_clause_229 : decode cX12_clause 229 = .ok (.putfield 115, 3) := by decide +kernel
theorem dX12_clause_232 : decode cX12_clause 232 = .ok (.aload_n 0, 1) := by decide +kernel
theorem dX12_clause_233 : decode cX12_clause 233 = .ok (.getfield 28, 3) := by decide +kernel
theorem dX12_clause_236 : decode cX12_clause 236 = .ok (.iload_n 1, 1) := by decide +kernel
theorem dX12_clause_237 : decode cX12_clause 237 = .ok (.aload_n 0, 1) := by decide +kernel
theorem dX12_clause_238 : decode cX12_clause 238 = .ok (.getfield 19, 3) := by decide +kernel
theorem dX12_clause_241 : decode cX12_clause 241 = .ok (.aload_n 0, 1) := by decide +kernel
theorem dX12_clause_242 : decode cX12_clause 242 = .ok (.getfield 125, 3) := by decide +kernel
theorem dX12_clause_245 : decode cX12_clause 245 = .ok (.iaload, 1) := by decide +kernel
theorem dX12_clause_246 : decode cX12_clause 246 = .ok (.iastore, 1) := by decide +kernel
theorem dX12_clause_247 : decode cX12_clause 247 = .ok (.aload_n 0, 1) := by decide +kernel
theorem dX12_clause_248 : decode cX12_clause 248 = .ok (.invokevirtual 155, 3) := by decide +kernel
theorem dX12_clause_251 : decode cX12_clause 251 = .ok (.aload_n 0, 1) := by decide +kernel
theorem dX12_clause_252 : decode cX12_clause 252 = .ok (.getfield 31, 3) := by decide +kernel
theorem dX12_clause_255 : decode cX12_clause 255 = .ok (.iload_n 1, 1) := by decide +kernel
theorem dX12_clause_256 : decode cX12_clause 256 = .ok (.aload_n 0, 1) := by decide +kernel
theorem dX12_clause_257 : decode cX12_clause 257 = .ok (.getfield 19, 3) := by decide +kernel
theorem dX12_clause_260 : decode cX12_clause 260 = .ok (.aload_n 0, 1) := by decide +kernel
theorem dX12_clause_261 : decode cX12_clause 261 = .ok (.getfield 125, 3) := by decide +kernel
theorem dX12_clause_264 : decode cX12_clause 264 = .ok (.iaload, 1) := by decide +kernel
theorem dX12_clause_265 : decode cX12_clause 265 = .ok (.iastore, 1) := by decide +kernel
theorem dX12_clause_266 : decode cX12_clause 266 = .ok (.aload_n 0, 1) := by decide +kernel
theorem dX12_clause_267 : decode cX12_clause 267 = .ok (.getfield 22, 3) := by decide +kernel
theorem dX12_clause_270 : decode cX12_clause 270 = .ok (.aload_n 0, 1) := by decide +kernel
theorem dX12_clause_271 : decode cX12_clause 271 = .ok (.getfield 125, 3) := by decide +kernel
theorem dX12_clause_274 : decode cX12_clause 274 = .ok (.dup2, 1) := by decide +kernel
theorem dX12_clause_275 : decode cX12_clause 275 = .ok (.iaload, 1) := by decide +kernel
theorem dX12_clause_276 : decode cX12_clause 276 = .ok (.iconst 1, 1) := by decide +kernel
theorem dX12_clause_277 : decode cX12_clause 277 = .ok (.iadd, 1) := by decide +kernel
theorem dX12_clause_278 : decode cX12_clause 278 = .ok (.iastore, 1) := by decide +kernel
theorem dX12_clause_279 : decode cX12_clause 279 = .ok (.return_, 1) := by decide +kernel
theorem dX12_open_0 : decode cX12_open 0 = .ok (.aload_n 0, 1) := by decide +kernel
theorem dX12_open_1 : decode cX12_open 1 = .ok (.iload_n 1, 1) := by decide +kernel
theorem dX12_open_2 : decode cX12_open 2 = .ok (.putfield 125, 3) := by decide +kernel
theorem dX12_open_5 : decode cX12_open 5 = .ok (.aload_n 0, 1) := by decide +kernel
theorem dX12_open_6 : decode cX12_open 6 = .ok (.iconst 0, 1) := by decide +kernel
theorem dX12_open_7 : decode cX12_open 7 = .ok (.putfield 115, 3) := by decide +kernel
theorem dX12_open_10 : decode cX12_open 10 = .ok (.aload_n 0, 1) := by decide +kernel
theorem dX12_open_11 : decode cX12_open 11 = .ok (.iconst (-1), 1) := by decide +kernel
theorem dX12_open_12 : decode cX12_open 12 = .ok (.putfield 122, 3) := by decide +kernel
theorem dX12_open_15 : decode cX12_open 15 = .ok (.aload_n 0, 1) := by decide +kernel
theorem dX12_open_16 : decode cX12_open 16 = .ok (.iconst 0, 1) := by decide +kernel
theorem dX12_open_17 : decode cX12_open 17 = .ok (.putfield 128, 3) := by decide +kernel
theorem dX12_open_20 : decode cX12_open 20 = .ok (.aload_n 0, 1) := by decide +kernel
theorem dX12_open_21 : decode cX12_open 21 = .ok (.getfield 19, 3) := by decide +kernel
theorem dX12_open_24 : decode cX12_open 24 = .ok (.iload_n 1, 1) := by decide +kernel
theorem dX12_open_25 : decode cX12_open 25 = .ok (.iconst 0, 1) := by decide +kernel
theorem dX12_open_26 : decode cX12_open 26 = .ok (.iastore, 1) := by decide +kernel
theorem dX12_open_27 : decode cX12_open 27 = .ok (.aload_n 0, 1) := by decide +kernel
theorem dX12_open_28 : decode cX12_open 28 = .ok (.getfield 22, 3) := by decide +kernel
theorem dX12_open_31 : decode cX12_open 31 = .ok (.iload_n 1, 1) := by decide +kernel
theorem dX12_open_32 : decode cX12_open 32 = .ok (.iconst 0, 1) := by decide +kernel
theorem dX12_open_33 : decode cX12_open 33 = .ok (.iastore, 1) := by decide +kernel
theorem dX12_open_34 : decode cX12_open 34 = .ok (.return_, 1) := by decide +kernel
theorem dX12_atEnd_0 : decode cX12_atEnd 0 = .ok (.aload_n 0, 1) := by decide +kernel
theorem dX12_atEnd_1 : decode cX12_atEnd 1 = .ok (.getfield 122, 3) := by decide +kernel
theorem dX12_atEnd_4 : decode cX12_atEnd 4 = .ok (.iconst (-1), 1) := by decide +kernel
theorem dX12_atEnd_5 : decode cX12_atEnd 5 = .ok (.if_icmp .ne 15, 3) := by decide +kernel
theorem dX12_atEnd_8 : decode cX12_atEnd 8 = .ok (.aload_n 0, 1) := by decide +kernel
theorem dX12_atEnd_9 : decode cX12_atEnd 9 = .ok (.invokevirtual 134, 3) := by decide +kernel
theorem dX12_atEnd_12 : decode cX12_atEnd 12 = .ok (.iconst (-1), 1) := by decide +kernel
theorem dX12_atEnd_13 : decode cX12_atEnd 13 = .ok (.if_icmp .eq 7, 3) := by decide +kernel
theorem dX12_atEnd_16 : decode cX12_atEnd 16 = .ok (.aload_n 0, 1) := by decide +kernel
theorem dX12_atEnd_17 : decode cX12_atEnd 17 = .ok (.invokevirtual 131, 3) := by decide +kernel
theorem dX12_atEnd_20 : decode cX12_atEnd 20 = .ok (.aload_n 0, 1) := by decide +kernel
theorem dX12_atEnd_21 : decode cX12_atEnd 21 = .ok (.getfield 122, 3) := by decide +kernel
theorem dX12_atEnd_24 : decode cX12_atEnd 24 = .ok (.ireturn, 1) := by decide +kernel
theorem dX12_readLaw_0 : decode cX12_readLaw 0 = .ok (.aload_n 0, 1) := by decide +kernel
theorem dX12_readLaw_1 : decode cX12_readLaw 1 = .ok (.iload_n 1, 1) := by decide +kernel
theorem dX12_readLaw_2 : decode cX12_readLaw 2 = .ok (.invokevirtual 186, 3) := by decide +kernel
theorem dX12_readLaw_5 : decode cX12_readLaw 5 = .ok (.aload_n 0, 1) := by decide +kernel
theorem dX12_readLaw_6 : decode cX12_readLaw 6 = .ok (.invokevirtual 189, 3) := by decide +kernel
theorem dX12_readLaw_9 : decode cX12_readLaw 9 = .ok (.aload_n 0, 1) := by decide +kernel
theorem dX12_readLaw_10 : decode cX12_readLaw 10 = .ok (.getfield 122, 3) := by decide +kernel
theorem dX12_readLaw_13 : decode cX12_readLaw 13 = .ok (.iconst (-1), 1) := by decide +kernel
theorem dX12_readLaw_14 : decode cX12_readLaw 14 = .ok (.if_icmp .ne 29, 3) := by decide +kernel
theorem dX12_readLaw_17 : decode cX12_readLaw 17 = .ok (.aload_n 0, 1) := by decide +kernel
theorem dX12_readLaw_18 : decode cX12_readLaw 18 = .ok (.invokevirtual 134, 3) := by decide +kernel
theorem dX12_readLaw_21 : decode cX12_readLaw 21 = .ok (.bipush 59, 2) := by decide +kernel
theorem dX12_readLaw_23 : decode cX12_readLaw 23 = .ok (.if_icmp .ne 20, 3) := by decide +kernel
theorem dX12_readLaw_26 : decode cX12_readLaw 26 = .ok (.aload_n 0, 1) := by decide +kernel
theorem dX12_readLaw_27 : decode cX12_readLaw 27 = .ok (.dup, 1) := by decide +kernel
theorem dX12_readLaw_28 : decode cX12_readLaw 28 = .ok (.getfield 115, 3) := by decide +kernel
theorem dX12_readLaw_31 : decode cX12_readLaw 31 = .ok (.iconst 1, 1) := by decide +kernel
theorem dX12_readLaw_32 : decode cX12_readLaw 32 = .ok (.iadd, 1) := by decide +kernel
theorem dX12_readLaw_33 : decode cX12_readLaw 33 = .ok (.putfield 115, 3) := by decide +kernel
theorem dX12_readLaw_36 : decode cX12_readLaw 36 = .ok (.aload_n 0, 1) := by decide +kernel
theorem dX12_readLaw_37 : decode cX12_readLaw 37 = .ok (.invokevirtual 189, 3) := by decide +kernel
theorem dX12_readLaw_40 : decode cX12_readLaw 40 = .ok (.goto (-31), 3) := by decide +kernel
theorem dX12_readLaw_43 : decode cX12_readLaw 43 = .ok (.aload_n 0, 1) := by decide +kernel
theorem dX12_readLaw_44 : decode cX12_readLaw 44 = .ok (.invokevirtual 192, 3) := by decide +kernel
theorem dX12_readLaw_47 : decode cX12_readLaw 47 = .ok (.ireturn, 1) := by decide +kernel
theorem dX12_bounded_0 : decode cX12_bounded 0 = .ok (.ldc2_w 195, 3) := by decide +kernel
theorem dX12_bounded_3 : decode cX12_bounded 3 = .ok (.ldc2_w 197, 3) := by decide +kernel
theorem dX12_bounded_6 : decode cX12_bounded 6 = .ok (.lload_n 0, 1) := by decide +kernel
theorem dX12_bounded_7 : decode cX12_bounded 7 = .ok (.invokestatic 199, 3) := by decide +kernel
theorem dX12_bounded_10 : decode cX12_bounded 10 = .ok (.invokestatic 205, 3) := by decide +kernel
theorem dX12_bounded_13 : decode cX12_bounded 13 = .ok (.l2i, 1) := by decide +kernel
theorem dX12_bounded_14 : decode cX12_bounded 14 = .ok (.ireturn, 1) := by decide +kernel
theorem dX12_worked_0 : decode cX12_worked 0 = .ok (.iload_n 0, 1) := by decide +kernel
theorem dX12_worked_1 : decode cX12_worked 1 = .ok (.tableswitch 143 2 10 #[51, 58, 65, 72, 89, 101, 113, 143, 125], 51) := by decide +kernel
theorem dX12_worked_52 : decode cX12_worked 52 = .ok (.lload_n 1, 1) := by decide +kernel
theorem dX12_worked_53 : decode cX12_worked 53 = .ok (.lload_n 3, 1) := by decide +kernel
theorem dX12_worked_54 : decode cX12_worked 54 = .ok (.ladd, 1) := by decide +kernel
theorem dX12_worked_55 : decode cX12_worked 55 = .ok (.invokestatic 208, 3) := by decide +kernel
theorem dX12_worked_58 : decode cX12_worked 58 = .ok (.ireturn, 1) := by decide +kernel
theorem dX12_worked_59 : decode cX12_worked 59 = .ok (.lload_n 1, 1) := by decide +kernel
theorem dX12_worked_60 : decode cX12_worked 60 = .ok (.lload_n 3, 1) := by decide +kernel
theorem dX12_worked_61 : decode cX12_worked 61 = .ok (.lsub, 1) := by decide +kernel
theorem dX12_worked_62 : decode cX12_worked 62 = .ok (.invokestatic 208, 3) := by decide +kernel
theorem dX12_worked_65 : decode cX12_worked 65 = .ok (.ireturn, 1) := by decide +kernel
theorem dX12_worked_66 : decode cX12_worked 66 = .ok (.lload_n 1, 1) := by decide +kernel
theorem dX12_worked_67 : decode cX12_worked 67 = .ok (.lload_n 3, 1) := by decide +kernel
theorem dX12_worked_68 : decode cX12_worked 68 = .ok (.lmul, 1) := by decide +kernel
theorem dX12_worked_69 : decode cX12_worked 69 = .ok (.invokestatic 208, 3) := by decide +kernel
theorem dX12_worked_72 : decode cX12_worked 72 = .ok (.ireturn, 1) := by decide +kernel
theorem dX12_worked_73 : decode cX12_worked 73 = .ok (.lload_n 3, 1) := by decide +kernel
theorem dX12_worked_74 : decode cX12_worked 74 = .ok (.lconst 0, 1) := by decide +kernel
theorem dX12_worked_75 : decode cX12_worked 75 = .ok (.lcmp, 1) := by decide +kernel
theorem dX12_worked_76 : decode cX12_worked 76 = .ok (.ifCond .ne 7, 3) := by decide +kernel
theorem dX12_worked_79 : decode cX12_worked 79 = .ok (.iconst 0, 1) := by decide +kernel
theorem dX12_worked_80 : decode cX12_worked 80 = .ok (.goto 9, 3) := by decide +kernel
theorem dX12_worked_83 : decode cX12_worked 83 = .ok (.lload_n 1, 1) := by decide +kernel
theorem dX12_worked_84 : decode cX12_worked 84 = .ok (.lload_n 3, 1) := by decide +kernel
theorem dX12_worked_85 : decode cX12_worked 85 = .ok (.ldiv, 1) := by decide +kernel
theorem dX12_worked_86 : decode cX12_worked 86 = .ok (.invokestatic 208, 3) := by decide +kernel
theorem dX12_worked_89 : decode cX12_worked 89 = .ok (.ireturn, 1) := by decide +kernel
theorem dX12_worked_90 : decode cX12_worked 90 = .ok (.lload_n 1, 1) := by decide +kernel
theorem dX12_worked_91 : decode cX12_worked 91 = .ok (.lload_n 3, 1) := by decide +kernel
theorem dX12_worked_92 : decode cX12_worked 92 = .ok (.lcmp, 1) := by decide +kernel
theorem dX12_worked_93 : decode cX12_worked 93 = .ok (.ifCond .ne 7, 3) := by decide +kernel
theorem dX12_worked_96 : decode cX12_worked 96 = .ok (.iconst 1, 1) := by decide +kernel
theorem dX12_worked_97 : decode cX12_worked 97 = .ok (.goto 4, 3) := by decide +kernel
theorem dX12_worked_100 : decode cX12_worked 100 = .ok (.iconst 0, 1) := by decide +kernel
theorem dX12_worked_101 : decode cX12_worked 101 = .ok (.ireturn, 1) := by decide +kernel
theorem dX12_worked_102 : decode cX12_worked 102 = .ok (.lload_n 1, 1) := by decide +kernel
theorem dX12_worked_103 : decode cX12_worked 103 = .ok (.lload_n 3, 1) := by decide +kernel
theorem dX12_worked_104 : decode cX12_worked 104 = .ok (.lcmp, 1) := by decide +kernel
theorem dX12_worked_105 : decode cX12_worked 105 = .ok (.ifCond .ge 7, 3) := by decide +kernel
theorem dX12_worked_108 : decode cX12_worked 108 = .ok (.iconst 1, 1) := by decide +kernel
theorem dX12_worked_109 : decode cX12_worked 109 = .ok (.goto 4, 3) := by decide +kernel
theorem dX12_worked_112 : decode cX12_worked 112 = .ok (.iconst 0, 1) := by decide +kernel
theorem dX12_worked_113 : decode cX12_worked 113 = .ok (.ireturn, 1) := by decide +kernel
theorem dX12_worked_114 : decode cX12_worked 114 = .ok (.lload_n 1, 1) := by decide +kernel
theorem dX12_worked_115 : decode cX12_worked 115 = .ok (.lload_n 3, 1) := by decide +kernel
theorem dX12_worked_116 : decode cX12_worked 116 = .ok (.lcmp, 1) := by decide +kernel
theorem dX12_worked_117 : decode cX12_worked 117 = .ok (.ifCond .le 7, 3) := by decide +kernel
theorem dX12_worked_120 : decode cX12_worked 120 = .ok (.iconst 1, 1) := by decide +kernel
theorem dX12_worked_121 : decode cX12_worked 121 = .ok (.goto 4, 3) := by decide +kernel
theorem dX12_worked_124 : decode cX12_worked 124 = .ok (.iconst 0, 1) := by decide +kernel
theorem dX12_worked_125 : decode cX12_worked 125 = .ok (.ireturn, 1) := by decide +kernel
theorem dX12_worked_126 : decode cX12_worked 126 = .ok (.lload_n 1, 1) := by decide +kernel
theorem dX12_worked_127 : decode cX12_worked 127 = .ok (.lconst 0, 1) := by decide +kernel
theorem dX12_worked_128 : decode cX12_worked 128 = .ok (.lcmp, 1) := by decide +kernel
theorem dX12_worked_129 : decode cX12_worked 129 = .ok (.ifCond .eq 13, 3) := by decide +kernel
theorem dX12_worked_132 : decode cX12_worked 132 = .ok (.lload_n 3, 1) := by decide +kernel
theorem dX12_worked_133 : decode cX12_worked 133 = .ok (.lconst 0, 1) := by decide +kernel
theorem dX12_worked_134 : decode cX12_worked 134 = .ok (.lcmp, 1) := by decide +kernel
theorem dX12_worked_135 : decode cX12_worked 135 = .ok (.ifCond .eq 7, 3) := by decide +kernel
theorem dX12_worked_138 : decode cX12_worked 138 = .ok (.iconst 1, 1) := by decide +kernel
theorem dX12_worked_139 : decode cX12_worked 139 = .ok (.goto 4, 3) := by decide +kernel
theorem dX12_worked_142 : decode cX12_worked 142 = .ok (.iconst 0, 1) := by decide +kernel
theorem dX12_worked_143 : decode cX12_worked 143 = .ok (.ireturn, 1) := by decide +kernel
theorem dX12_worked_144 : decode cX12_worked 144 = .ok (.lload_n 1, 1) := by decide +kernel
theorem dX12_worked_145 : decode cX12_worked 145 = .ok (.lconst 0, 1) := by decide +kernel
theorem dX12_worked_146 : decode cX12_worked 146 = .ok (.lcmp, 1) := by decide +kernel
theorem dX12_worked_147 : decode cX12_worked 147 = .ok (.ifCond .ne 9, 3) := by decide +kernel
theorem dX12_worked_150 : decode cX12_worked 150 = .ok (.lload_n 3, 1) := by decide +kernel
theorem dX12_worked_151 : decode cX12_worked 151 = .ok (.lconst 0, 1) := by decide +kernel
theorem dX12_worked_152 : decode cX12_worked 152 = .ok (.lcmp, 1) := by decide +kernel
theorem dX12_worked_153 : decode cX12_worked 153 = .ok (.ifCond .eq 7, 3) := by decide +kernel
theorem dX12_worked_156 : decode cX12_worked 156 = .ok (.iconst 1, 1) := by decide +kernel
theorem dX12_worked_157 : decode cX12_worked 157 = .ok (.goto 4, 3) := by decide +kernel
theorem dX12_worked_160 : decode cX12_worked 160 = .ok (.iconst 0, 1) := by decide +kernel
theorem dX12_worked_161 : decode cX12_worked 161 = .ok (.ireturn, 1) := by decide +kernel
theorem dX12_workOut_0 : decode cX12_workOut 0 = .ok (.iconst 0, 1) := by decide +kernel
theorem dX12_workOut_1 : decode cX12_workOut 1 = .ok (.istore 4, 2) := by decide +kernel
theorem dX12_workOut_3 : decode cX12_workOut 3 = .ok (.sipush 520, 3) := by decide +kernel
theorem dX12_workOut_6 : decode cX12_workOut 6 = .ok (.iload_n 1, 1) := by decide +kernel
theorem dX12_workOut_7 : decode cX12_workOut 7 = .ok (.imul, 1) := by decide +kernel
theorem dX12_workOut_8 : decode cX12_workOut 8 = .ok (.iload_n 2, 1) := by decide +kernel
theorem dX12_workOut_9 : decode cX12_workOut 9 = .ok (.iadd, 1) := by decide +kernel
theorem dX12_workOut_10 : decode cX12_workOut 10 = .ok (.istore 5, 2) := by decide +kernel
theorem dX12_workOut_12 : decode cX12_workOut 12 = .ok (.iload 5, 2) := by decide +kernel
theorem dX12_workOut_14 : decode cX12_workOut 14 = .ok (.sipush 520, 3) := by decide +kernel
theorem dX12_workOut_17 : decode cX12_workOut 17 = .ok (.iload_n 1, 1) := by decide +kernel
theorem dX12_workOut_18 : decode cX12_workOut 18 = .ok (.imul, 1) := by decide +kernel
theorem dX12_workOut_19 : decode cX12_workOut 19 = .ok (.iload_n 3, 1) := by decide +kernel
theorem dX12_workOut_20 : decode cX12_workOut 20 = .ok (.iadd, 1) := by decide +kernel
theorem dX12_workOut_21 : decode cX12_workOut 21 = .ok (.if_icmp .ge 150, 3) := by decide +kernel
theorem dX12_workOut_24 : decode cX12_workOut 24 = .ok (.aload_n 0, 1) := by decide +kernel
theorem dX12_workOut_25 : decode cX12_workOut 25 = .ok (.getfield 13, 3) := by decide +kernel
theorem dX12_workOut_28 : decode cX12_workOut 28 = .ok (.iload 5, 2) := by decide +kernel
theorem dX12_workOut_30 : decode cX12_workOut 30 = .ok (.iaload, 1) := by decide +kernel
theorem dX12_workOut_31 : decode cX12_workOut 31 = .ok (.ifCond .eq 14, 3) := by decide +kernel
theorem dX12_workOut_34 : decode cX12_workOut 34 = .ok (.aload_n 0, 1) := by decide +kernel
theorem dX12_workOut_35 : decode cX12_workOut 35 = .ok (.getfield 13, 3) := by decide +kernel
theorem dX12_workOut_38 : decode cX12_workOut 38 = .ok (.iload 5, 2) := by decide +kernel
theorem dX12_workOut_40 : decode cX12_workOut 40 = .ok (.iaload, 1) := by decide +kernel
theorem dX12_workOut_41 : decode cX12_workOut 41 = .ok (.iconst 1, 1) := by decide +kernel
theorem dX12_workOut_42 : decode cX12_workOut 42 = .ok (.if_icmp .ne 48, 3) := by decide +kernel
theorem dX12_workOut_45 : decode cX12_workOut 45 = .ok (.aload_n 0, 1) := by decide +kernel
theorem dX12_workOut_46 : decode cX12_workOut 46 = .ok (.getfield 37, 3) := by decide +kernel
theorem dX12_workOut_49 : decode cX12_workOut 49 = .ok (.iload 4, 2) := by decide +kernel
theorem dX12_workOut_51 : decode cX12_workOut 51 = .ok (.aload_n 0, 1) := by decide +kernel
theorem dX12_workOut_52 : decode cX12_workOut 52 = .ok (.getfield 13, 3) := by decide +kernel
theorem dX12_workOut_55 : decode cX12_workOut 55 = .ok (.iload 5, 2) := by decide +kernel
theorem dX12_workOut_57 : decode cX12_workOut 57 = .ok (.iaload, 1) := by decide +kernel
theorem dX12_workOut_58 : decode cX12_workOut 58 = .ok (.ifCond .ne 13, 3) := by decide +kernel
theorem dX12_workOut_61 : decode cX12_workOut 61 = .ok (.aload_n 0, 1) := by decide +kernel
theorem dX12_workOut_62 : decode cX12_workOut 62 = .ok (.getfield 16, 3) := by decide +kernel
theorem dX12_workOut_65 : decode cX12_workOut 65 = .ok (.iload 5, 2) := by decide +kernel
theorem dX12_workOut_67 : decode cX12_workOut 67 = .ok (.iaload, 1) := by decide +kernel
theorem dX12_workOut_68 : decode cX12_workOut 68 = .ok (.goto 15, 3) := by decide +kernel
theorem dX12_workOut_71 : decode cX12_workOut 71 = .ok (.aload_n 0, 1) := by decide +kernel
theorem dX12_workOut_72 : decode cX12_workOut 72 = .ok (.getfield 34, 3) := by decide +kernel
theorem dX12_workOut_75 : decode cX12_workOut 75 = .ok (.aload_n 0, 1) := by decide +kernel
theorem dX12_workOut_76 : decode cX12_workOut 76 = .ok (.getfield 16, 3) := by decide +kernel
theorem dX12_workOut_79 : decode cX12_workOut 79 = .ok (.iload 5, 2) := by decide +kernel
theorem dX12_workOut_81 : decode cX12_workOut 81 = .ok (.iaload, 1) := by decide +kernel
theorem dX12_workOut_82 : decode cX12_workOut 82 = .ok (.iaload, 1) := by decide +kernel
theorem dX12_workOut_83 : decode cX12_workOut 83 = .ok (.iastore, 1) := by decide +kernel
theorem dX12_workOut_84 : decode cX12_workOut 84 = .ok (.iinc 4 1, 3) := by decide +kernel
theorem dX12_workOut_87 : decode cX12_workOut 87 = .ok (.goto 78, 3) := by decide +kernel
theorem dX12_workOut_90 : decode cX12_workOut 90 = .ok (.aload_n 0, 1) := by decide +kernel
theorem dX12_workOut_91 : decode cX12_workOut 91 = .ok (.getfield 13, 3) := by decide +kernel
theorem dX12_workOut_94 : decode cX12_workOut 94 = .ok (.iload 5, 2) := by decide +kernel
theorem dX12_workOut_96 : decode cX12_workOut 96 = .ok (.iaload, 1) := by decide +kernel
theorem dX12_workOut_97 : decode cX12_workOut 97 = .ok (.bipush 9, 2) := by decide +kernel
theorem dX12_workOut_99 : decode cX12_workOut 99 = .ok (.if_icmp .ne 26, 3) := by decide +kernel
theorem dX12_workOut_102 : decode cX12_workOut 102 = .ok (.aload_n 0, 1) := by decide +kernel
theorem dX12_workOut_103 : decode cX12_workOut 103 = .ok (.getfield 37, 3) := by decide +kernel
theorem dX12_workOut_106 : decode cX12_workOut 106 = .ok (.iload 4, 2) := by decide +kernel
theorem dX12_workOut_108 : decode cX12_workOut 108 = .ok (.iconst 1, 1) := by decide +kernel
theorem dX12_workOut_109 : decode cX12_workOut 109 = .ok (.isub, 1) := by decide +kernel
theorem dX12_workOut_110 : decode cX12_workOut 110 = .ok (.iconst 1, 1) := by decide +kernel
theorem dX12_workOut_111 : decode cX12_workOut 111 = .ok (.aload_n 0, 1) := by decide +kernel
theorem dX12_workOut_112 : decode cX12_workOut 112 = .ok (.getfield 37, 3) := by decide +kernel
theorem dX12_workOut_115 : decode cX12_workOut 115 = .ok (.iload 4, 2) := by decide +kernel
theorem dX12_workOut_117 : decode cX12_workOut 117 = .ok (.iconst 1, 1) := by decide +kernel
theorem dX12_workOut_118 : decode cX12_workOut 118 = .ok (.isub, 1) := by decide +kernel
theorem dX12_workOut_119 : decode cX12_workOut 119 = .ok (.iaload, 1) := by decide +kernel
theorem dX12_workOut_120 : decode cX12_workOut 120 = .ok (.isub, 1) := by decide +kernel
theorem dX12_workOut_121 : decode cX12_workOut 121 = .ok (.iastore, 1) := by decide +kernel
theorem dX12_workOut_122 : decode cX12_workOut 122 = .ok (.goto 43, 3) := by decide +kernel
theorem dX12_workOut_125 : decode cX12_workOut 125 = .ok (.iinc 4 (-1), 3) := by decide +kernel
theorem dX12_workOut_128 : decode cX12_workOut 128 = .ok (.aload_n 0, 1) := by decide +kernel
theorem dX12_workOut_129 : decode cX12_workOut 129 = .ok (.getfield 37, 3) := by decide +kernel
theorem dX12_workOut_132 : decode cX12_workOut 132 = .ok (.iload 4, 2) := by decide +kernel
theorem dX12_workOut_134 : decode cX12_workOut 134 = .ok (.iconst 1, 1) := by decide +kernel
theorem dX12_workOut_135 : decode cX12_workOut 135 = .ok (.isub, 1) := by decide +kernel
theorem dX12_workOut_136 : decode cX12_workOut 136 = .ok (.aload_n 0, 1) := by decide +kernel
theorem dX12_workOut_137 : decode cX12_workOut 137 = .ok (.getfield 13, 3) := by decide +kernel
theorem dX12_workOut_140 : decode cX12_workOut 140 = .ok (.iload 5, 2) := by decide +kernel
theorem dX12_workOut_142 : decode cX12_workOut 142 = .ok (.iaload, 1) := by decide +kernel
theorem dX12_workOut_143 : decode cX12_workOut 143 = .ok (.aload_n 0, 1) := by decide +kernel
theorem dX12_workOut_144 : decode cX12_workOut 144 = .ok (.getfield 37, 3) := by decide +kernel
theorem dX12_workOut_147 : decode cX12_workOut 147 = .ok (.iload 4, 2) := by decide +kernel
theorem dX12_workOut_149 : decode cX12_workOut 149 = .ok (.iconst 1, 1) := by decide +kernel
theorem dX12_workOut_150 : decode cX12_workOut 150 = .ok (.isub, 1) := by decide +kernel
theorem dX12_workOut_151 : decode cX12_workOut 151 = .ok (.iaload, 1) := by decide +kernel
theorem dX12_workOut_152 : decode cX12_workOut 152 = .ok (.i2l, 1) := by decide +kernel
theorem dX12_workOut_153 : decode cX12_workOut 153 = .ok (.aload_n 0, 1) := by decide +kernel
theorem dX12_workOut_154 : decode cX12_workOut 154 = .ok (.getfield 37, 3) := by decide +kernel
theorem dX12_workOut_157 : decode cX12_workOut 157 = .ok (.iload 4, 2) := by decide +kernel
theorem dX12_workOut_159 : decode cX12_workOut 159 = .ok (.iaload, 1) := by decide +kernel
theorem dX12_workOut_160 : decode cX12_workOut 160 = .ok (.i2l, 1) := by decide +kernel
theorem dX12_workOut_161 : decode cX12_workOut 161 = .ok (.invokestatic 212, 3) := by decide +kernel
theorem dX12_workOut_164 : decode cX12_workOut 164 = .ok (.iastore, 1) := by decide +kernel
theorem dX12_workOut_165 : decode cX12_workOut 165 = .ok (.iinc 5 1, 3) := by decide +kernel
theorem dX12_workOut_168 : decode cX12_workOut 168 = .ok (.goto (-156), 3) := by decide +kernel
theorem dX12_workOut_171 : decode cX12_workOut 171 = .ok (.aload_n 0, 1) := by decide +kernel
theorem dX12_workOut_172 : decode cX12_workOut 172 = .ok (.getfield 37, 3) := by decide +kernel
theorem dX12_workOut_175 : decode cX12_workOut 175 = .ok (.iconst 0, 1) := by decide +kernel
theorem dX12_workOut_176 : decode cX12_workOut 176 = .ok (.iaload, 1) := by decide +kernel
theorem dX12_workOut_177 : decode cX12_workOut 177 = .ok (.ireturn, 1) := by decide +kernel
theorem dX12_worthOf_0 : decode cX12_worthOf 0 = .ok (.sipush 140, 3) := by decide +kernel
theorem dX12_worthOf_3 : decode cX12_worthOf 3 = .ok (.iload_n 1, 1) := by decide +kernel
theorem dX12_worthOf_4 : decode cX12_worthOf 4 = .ok (.imul, 1) := by decide +kernel
theorem dX12_worthOf_5 : decode cX12_worthOf 5 = .ok (.istore_n 2, 1) := by decide +kernel
theorem dX12_worthOf_6 : decode cX12_worthOf 6 = .ok (.iload_n 2, 1) := by decide +kernel
theorem dX12_worthOf_7 : decode cX12_worthOf 7 = .ok (.sipush 140, 3) := by decide +kernel
theorem dX12_worthOf_10 : decode cX12_worthOf 10 = .ok (.iload_n 1, 1) := by decide +kernel
theorem dX12_worthOf_11 : decode cX12_worthOf 11 = .ok (.imul, 1) := by decide +kernel
theorem dX12_worthOf_12 : decode cX12_worthOf 12 = .ok (.aload_n 0, 1) := by decide +kernel
theorem dX12_worthOf_13 : decode cX12_worthOf 13 = .ok (.getfield 22, 3) := by decide +kernel
theorem dX12_worthOf_16 : decode cX12_worthOf 16 = .ok (.iload_n 1, 1) := by decide +kernel
theorem dX12_worthOf_17 : decode cX12_worthOf 17 = .ok (.iaload, 1) := by decide +kernel
theorem dX12_worthOf_18 : decode cX12_worthOf 18 = .ok (.iadd, 1) := by decide +kernel
theorem dX12_worthOf_19 : decode cX12_worthOf 19 = .ok (.if_icmp .ge 62, 3) := by decide +kernel
theorem dX12_worthOf_22 : decode cX12_worthOf 22 = .ok (.aload_n 0, 1) := by decide +kernel
theorem dX12_worthOf_23 : decode cX12_worthOf 23 = .ok (.getfield 25, 3) := by decide +kernel
theorem dX12_worthOf_26 : decode cX12_worthOf 26 = .ok (.iload_n 2, 1) := by decide +kernel
theorem dX12_worthOf_27 : decode cX12_worthOf 27 = .ok (.iaload, 1) := by decide +kernel
theorem dX12_worthOf_28 : decode cX12_worthOf 28 = .ok (.aload_n 0, 1) := by decide +kernel
theorem dX12_worthOf_29 : decode cX12_worthOf 29 = .ok (.getfield 28, 3) := by decide +kernel
theorem dX12_worthOf_32 : decode cX12_worthOf 32 = .ok (.iload_n 2, 1) := by decide +kernel
theorem dX12_worthOf_33 : decode cX12_worthOf 33 = .ok (.iaload, 1) := by decide +kernel
theorem dX12_worthOf_34 : decode cX12_worthOf 34 = .ok (.if_icmp .eq 23, 3) := by decide +kernel
theorem dX12_worthOf_37 : decode cX12_worthOf 37 = .ok (.aload_n 0, 1) := by decide +kernel
theorem dX12_worthOf_38 : decode cX12_worthOf 38 = .ok (.iload_n 1, 1) := by decide +kernel
theorem dX12_worthOf_39 : decode cX12_worthOf 39 = .ok (.aload_n 0, 1) := by decide +kernel
theorem dX12_worthOf_40 : decode cX12_worthOf 40 = .ok (.getfield 25, 3) := by decide +kernel
theorem dX12_worthOf_43 : decode cX12_worthOf 43 = .ok (.iload_n 2, 1) := by decide +kernel
theorem dX12_worthOf_44 : decode cX12_worthOf 44 = .ok (.iaload, 1) := by decide +kernel
theorem dX12_worthOf_45 : decode cX12_worthOf 45 = .ok (.aload_n 0, 1) := by decide +kernel
theorem dX12_worthOf_46 : decode cX12_worthOf 46 = .ok (.getfield 28, 3) := by decide +kernel
theorem dX12_worthOf_49 : decode cX12_worthOf 49 = .ok (.iload_n 2, 1) := by decide +kernel
theorem dX12_worthOf_50 : decode cX12_worthOf 50 = .ok (.iaload, 1) := by decide +kernel
theorem dX12_worthOf_51 : decode cX12_worthOf 51 = .ok (.invokevirtual 216, 3) := by decide +kernel
theorem dX12_worthOf_54 : decode cX12_worthOf 54 = .ok (.ifCond .eq 21, 3) := by decide +kernel
theorem dX12_worthOf_57 : decode cX12_worthOf 57 = .ok (.aload_n 0, 1) := by decide +kernel
theorem dX12_worthOf_58 : decode cX12_worthOf 58 = .ok (.iload_n 1, 1) := by decide +kernel
theorem dX12_worthOf_59 : decode cX12_worthOf 59 = .ok (.aload_n 0, 1) := by decide +kernel
theorem dX12_worthOf_60 : decode cX12_worthOf 60 = .ok (.getfield 28, 3) := by decide +kernel
theorem dX12_worthOf_63 : decode cX12_worthOf 63 = .ok (.iload_n 2, 1) := by decide +kernel
theorem dX12_worthOf_64 : decode cX12_worthOf 64 = .ok (.iaload, 1) := by decide +kernel
theorem dX12_worthOf_65 : decode cX12_worthOf 65 = .ok (.aload_n 0, 1) := by decide +kernel
theorem dX12_worthOf_66 : decode cX12_worthOf 66 = .ok (.getfield 31, 3) := by decide +kernel
theorem dX12_worthOf_69 : decode cX12_worthOf 69 = .ok (.iload_n 2, 1) := by decide +kernel
theorem dX12_worthOf_70 : decode cX12_worthOf 70 = .ok (.iaload, 1) := by decide +kernel
theorem dX12_worthOf_71 : decode cX12_worthOf 71 = .ok (.invokevirtual 216, 3) := by decide +kernel
theorem dX12_worthOf_74 : decode cX12_worthOf 74 = .ok (.ireturn, 1) := by decide +kernel
theorem dX12_worthOf_75 : decode cX12_worthOf 75 = .ok (.iinc 2 1, 3) := by decide +kernel
theorem dX12_worthOf_78 : decode cX12_worthOf 78 = .ok (.goto (-72), 3) := by decide +kernel
theorem dX12_worthOf_81 : decode cX12_worthOf 81 = .ok (.iconst 0, 1) := by decide +kernel
theorem dX12_worthOf_82 : decode cX12_worthOf 82 = .ok (.ireturn, 1) := by decide +kernel
theorem dX12_number_0 : decode cX12_number 0 = .ok (.aload_n 0, 1) := by decide +kernel
theorem dX12_number_1 : decode cX12_number 1 = .ok (.invokevirtual 134, 3) := by decide +kernel
theorem dX12_number_4 : decode cX12_number 4 = .ok (.invokestatic 137, 3) := by decide +kernel
theorem dX12_number_7 : decode cX12_number 7 = .ok (.ifCond .ne 9, 3) := by decide +kernel
theorem dX12_number_10 : decode cX12_number 10 = .ok (.aload_n 0, 1) := by decide +kernel
theorem dX12_number_11 : decode cX12_number 11 = .ok (.invokevirtual 131, 3) := by decide +kernel
theorem dX12_number_14 : decode cX12_number 14 = .ok (.iload_n 1, 1) := by decide +kernel
theorem dX12_number_15 : decode cX12_number 15 = .ok (.ireturn, 1) := by decide +kernel
theorem dX12_number_16 : decode cX12_number 16 = .ok (.aload_n 0, 1) := by decide +kernel
theorem dX12_number_17 : decode cX12_number 17 = .ok (.invokevirtual 118, 3) := by decide +kernel
theorem dX12_number_20 : decode cX12_number 20 = .ok (.bipush 48, 2) := by decide +kernel
theorem dX12_number_22 : decode cX12_number 22 = .ok (.isub, 1) := by decide +kernel
theorem dX12_number_23 : decode cX12_number 23 = .ok (.istore_n 3, 1) := by decide +kernel
theorem dX12_number_24 : decode cX12_number 24 = .ok (.aload_n 0, 1) := by decide +kernel
theorem dX12_number_25 : decode cX12_number 25 = .ok (.dup, 1) := by decide +kernel
theorem dX12_number_26 : decode cX12_number 26 = .ok (.getfield 115, 3) := by decide +kernel
theorem dX12_number_29 : decode cX12_number 29 = .ok (.iconst 1, 1) := by decide +kernel
theorem dX12_number_30 : decode cX12_number 30 = .ok (.iadd, 1) := by decide +kernel
theorem dX12_number_31 : decode cX12_number 31 = .ok (.putfield 115, 3) := by decide +kernel
theorem dX12_number_34 : decode cX12_number 34 = .ok (.aload_n 0, 1) := by decide +kernel
theorem dX12_number_35 : decode cX12_number 35 = .ok (.invokevirtual 118, 3) := by decide +kernel
theorem dX12_number_38 : decode cX12_number 38 = .ok (.invokestatic 137, 3) := by decide +kernel
theorem dX12_number_41 : decode cX12_number 41 = .ok (.ifCond .eq 26, 3) := by decide +kernel
theorem dX12_number_44 : decode cX12_number 44 = .ok (.bipush 10, 2) := by decide +kernel
theorem dX12_number_46 : decode cX12_number 46 = .ok (.iload_n 3, 1) := by decide +kernel
theorem dX12_number_47 : decode cX12_number 47 = .ok (.imul, 1) := by decide +kernel
theorem dX12_number_48 : decode cX12_number 48 = .ok (.aload_n 0, 1) := by decide +kernel
theorem dX12_number_49 : decode cX12_number 49 = .ok (.invokevirtual 118, 3) := by decide +kernel
theorem dX12_number_52 : decode cX12_number 52 = .ok (.iadd, 1) := by decide +kernel
theorem dX12_number_53 : decode cX12_number 53 = .ok (.bipush 48, 2) := by decide +kernel
theorem dX12_number_55 : decode cX12_number 55 = .ok (.isub, 1) := by decide +kernel
theorem dX12_number_56 : decode cX12_number 56 = .ok (.istore_n 3, 1) := by decide +kernel
theorem dX12_number_57 : decode cX12_number 57 = .ok (.aload_n 0, 1) := by decide +kernel
theorem dX12_number_58 : decode cX12_number 58 = .ok (.dup, 1) := by decide +kernel
theorem dX12_number_59 : decode cX12_number 59 = .ok (.getfield 115, 3) := by decide +kernel
theorem dX12_number_62 : decode cX12_number 62 = .ok (.iconst 1, 1) := by decide +kernel
theorem dX12_number_63 : decode cX12_number 63 = .ok (.iadd, 1) := by decide +kernel
theorem dX12_number_64 : decode cX12_number 64 = .ok (.putfield 115, 3) := by decide +kernel
theorem dX12_number_67 : decode cX12_number 67 = .ok (.aload_n 0, 1) := by decide +kernel
theorem dX12_number_68 : decode cX12_number 68 = .ok (.invokevirtual 118, 3) := by decide +kernel
theorem dX12_number_71 : decode cX12_number 71 = .ok (.invokestatic 137, 3) := by decide +kernel
theorem dX12_number_74 : decode cX12_number 74 = .ok (.ifCond .eq 10, 3) := by decide +kernel
theorem dX12_number_77 : decode cX12_number 77 = .ok (.aload_n 0, 1) := by decide +kernel
theorem dX12_number_78 : decode cX12_number 78 = .ok (.invokevirtual 131, 3) := by decide +kernel
theorem dX12_number_81 : decode cX12_number 81 = .ok (.goto 26, 3) := by decide +kernel
theorem dX12_number_84 : decode cX12_number 84 = .ok (.iload_n 3, 1) := by decide +kernel
theorem dX12_number_85 : decode cX12_number 85 = .ok (.iload_n 1, 1) := by decide +kernel
theorem dX12_number_86 : decode cX12_number 86 = .ok (.iload_n 2, 1) := by decide +kernel
theorem dX12_number_87 : decode cX12_number 87 = .ok (.invokestatic 220, 3) := by decide +kernel
theorem dX12_number_90 : decode cX12_number 90 = .ok (.ifCond .ne 17, 3) := by decide +kernel
theorem dX12_number_93 : decode cX12_number 93 = .ok (.aload_n 0, 1) := by decide +kernel
theorem dX12_number_94 : decode cX12_number 94 = .ok (.dup, 1) := by decide +kernel
theorem dX12_number_95 : decode cX12_number 95 = .ok (.getfield 115, 3) := by decide +kernel
theorem dX12_number_98 : decode cX12_number 98 = .ok (.iconst 1, 1) := by decide +kernel
theorem dX12_number_99 : decode cX12_number 99 = .ok (.isub, 1) := by decide +kernel
theorem dX12_number_100 : decode cX12_number 100 = .ok (.putfield 115, 3) := by decide +kernel
theorem dX12_number_103 : decode cX12_number 103 = .ok (.aload_n 0, 1) := by decide +kernel
theorem dX12_number_104 : decode cX12_number 104 = .ok (.invokevirtual 131, 3) := by decide +kernel
theorem dX12_number_107 : decode cX12_number 107 = .ok (.iload_n 3, 1) := by decide +kernel
theorem dX12_number_108 : decode cX12_number 108 = .ok (.ireturn, 1) := by decide +kernel
theorem dX12_itemOf_0 : decode cX12_itemOf 0 = .ok (.iload_n 0, 1) := by decide +kernel
theorem dX12_itemOf_1 : decode cX12_itemOf 1 = .ok (.lookupswitch 101 #[(104, 59), (115, 27)], 27) := by decide +kernel
theorem dX12_itemOf_28 : decode cX12_itemOf 28 = .ok (.iload_n 1, 1) := by decide +kernel
theorem dX12_itemOf_29 : decode cX12_itemOf 29 = .ok (.bipush 116, 2) := by decide +kernel
theorem dX12_itemOf_31 : decode cX12_itemOf 31 = .ok (.if_icmp .ne 7, 3) := by decide +kernel
theorem dX12_itemOf_34 : decode cX12_itemOf 34 = .ok (.iconst 0, 1) := by decide +kernel
theorem dX12_itemOf_35 : decode cX12_itemOf 35 = .ok (.goto 24, 3) := by decide +kernel
theorem dX12_itemOf_38 : decode cX12_itemOf 38 = .ok (.iload_n 1, 1) := by decide +kernel
theorem dX12_itemOf_39 : decode cX12_itemOf 39 = .ok (.bipush 99, 2) := by decide +kernel
theorem dX12_itemOf_41 : decode cX12_itemOf 41 = .ok (.if_icmp .ne 7, 3) := by decide +kernel
theorem dX12_itemOf_44 : decode cX12_itemOf 44 = .ok (.iconst 1, 1) := by decide +kernel
theorem dX12_itemOf_45 : decode cX12_itemOf 45 = .ok (.goto 14, 3) := by decide +kernel
theorem dX12_itemOf_48 : decode cX12_itemOf 48 = .ok (.iload_n 1, 1) := by decide +kernel
theorem dX12_itemOf_49 : decode cX12_itemOf 49 = .ok (.bipush 101, 2) := by decide +kernel
theorem dX12_itemOf_51 : decode cX12_itemOf 51 = .ok (.if_icmp .ne 7, 3) := by decide +kernel
theorem dX12_itemOf_54 : decode cX12_itemOf 54 = .ok (.iconst 2, 1) := by decide +kernel
theorem dX12_itemOf_55 : decode cX12_itemOf 55 = .ok (.goto 4, 3) := by decide +kernel
theorem dX12_itemOf_58 : decode cX12_itemOf 58 = .ok (.iconst (-1), 1) := by decide +kernel
theorem dX12_itemOf_59 : decode cX12_itemOf 59 = .ok (.ireturn, 1) := by decide +kernel
theorem dX12_itemOf_60 : decode cX12_itemOf 60 = .ok (.iload_n 1, 1) := by decide +kernel
theorem dX12_itemOf_61 : decode cX12_itemOf 61 = .ok (.bipush 120, 2) := by decide +kernel
theorem dX12_itemOf_63 : decode cX12_itemOf 63 = .ok (.if_icmp .ne 7, 3) := by decide +kernel
theorem dX12_itemOf_66 : decode cX12_itemOf 66 = .ok (.iconst 0, 1) := by decide +kernel
theorem dX12_itemOf_67 : decode cX12_itemOf 67 = .ok (.goto 34, 3) := by decide +kernel
theorem dX12_itemOf_70 : decode cX12_itemOf 70 = .ok (.iload_n 1, 1) := by decide +kernel
theorem dX12_itemOf_71 : decode cX12_itemOf 71 = .ok (.bipush 121, 2) := by decide +kernel
theorem dX12_itemOf_73 : decode cX12_itemOf 73 = .ok (.if_icmp .ne 7, 3) := by decide +kernel
theorem dX12_itemOf_76 : decode cX12_itemOf 76 = .ok (.iconst 1, 1) := by decide +kernel
theorem dX12_itemOf_77 : decode cX12_itemOf 77 = .ok (.goto 24, 3) := by decide +kernel
theorem dX12_itemOf_80 : decode cX12_itemOf 80 = .ok (.iload_n 1, 1) := by decide +kernel
theorem dX12_itemOf_81 : decode cX12_itemOf 81 = .ok (.bipush 103, 2) := by decide +kernel
theorem dX12_itemOf_83 : decode cX12_itemOf 83 = .ok (.if_icmp .ne 7, 3) := by decide +kernel
theorem dX12_itemOf_86 : decode cX12_itemOf 86 = .ok (.iconst 2, 1) := by decide +kernel
theorem dX12_itemOf_87 : decode cX12_itemOf 87 = .ok (.goto 14, 3) := by decide +kernel
theorem dX12_itemOf_90 : decode cX12_itemOf 90 = .ok (.iload_n 1, 1) := by decide +kernel
theorem dX12_itemOf_91 : decode cX12_itemOf 91 = .ok (.bipush 113, 2) := by decide +kernel
theorem dX12_itemOf_93 : decode cX12_itemOf 93 = .ok (.if_icmp .ne 7, 3) := by decide +kernel
theorem dX12_itemOf_96 : decode cX12_itemOf 96 = .ok (.iconst 3, 1) := by decide +kernel
theorem dX12_itemOf_97 : decode cX12_itemOf 97 = .ok (.goto 4, 3) := by decide +kernel
theorem dX12_itemOf_100 : decode cX12_itemOf 100 = .ok (.iconst (-1), 1) := by decide +kernel
theorem dX12_itemOf_101 : decode cX12_itemOf 101 = .ok (.ireturn, 1) := by decide +kernel
theorem dX12_itemOf_102 : decode cX12_itemOf 102 = .ok (.iload_n 1, 1) := by decide +kernel
theorem dX12_itemOf_103 : decode cX12_itemOf 103 = .ok (.bipush 115, 2) := by decide +kernel
theorem dX12_itemOf_105 : decode cX12_itemOf 105 = .ok (.if_icmp .ne 7, 3) := by decide +kernel
theorem dX12_itemOf_108 : decode cX12_itemOf 108 = .ok (.iconst 0, 1) := by decide +kernel
theorem dX12_itemOf_109 : decode cX12_itemOf 109 = .ok (.goto 4, 3) := by decide +kernel
theorem dX12_itemOf_112 : decode cX12_itemOf 112 = .ok (.iconst (-1), 1) := by decide +kernel
theorem dX12_itemOf_113 : decode cX12_itemOf 113 = .ok (.ireturn, 1) := by decide +kernel
theorem dX12_lowest_0 : decode cX12_lowest 0 = .ok (.iload_n 0, 1) := by decide +kernel
theorem dX12_lowest_1 : decode cX12_lowest 1 = .ok (.bipush 115, 2) := by decide +kernel
theorem dX12_lowest_3 : decode cX12_lowest 3 = .ok (.if_icmp .ne 7, 3) := by decide +kernel
theorem dX12_lowest_6 : decode cX12_lowest 6 = .ok (.iload_n 1, 1) := by decide +kernel
theorem dX12_lowest_7 : decode cX12_lowest 7 = .ok (.ifCond .eq 9, 3) := by decide +kernel
theorem dX12_lowest_10 : decode cX12_lowest 10 = .ok (.iload_n 0, 1) := by decide +kernel
theorem dX12_lowest_11 : decode cX12_lowest 11 = .ok (.bipush 98, 2) := by decide +kernel
theorem dX12_lowest_13 : decode cX12_lowest 13 = .ok (.if_icmp .ne 7, 3) := by decide +kernel
theorem dX12_lowest_16 : decode cX12_lowest 16 = .ok (.iconst 1, 1) := by decide +kernel
theorem dX12_lowest_17 : decode cX12_lowest 17 = .ok (.goto 4, 3) := by decide +kernel
theorem dX12_lowest_20 : decode cX12_lowest 20 = .ok (.iconst 0, 1) := by decide +kernel
theorem dX12_lowest_21 : decode cX12_lowest 21 = .ok (.ireturn, 1) := by decide +kernel
theorem dX12_highest_0 : decode cX12_highest 0 = .ok (.iload_n 0, 1) := by decide +kernel
theorem dX12_highest_1 : decode cX12_highest 1 = .ok (.lookupswitch 62 #[(104, 40), (115, 27)], 27) := by decide +kernel
theorem dX12_highest_28 : decode cX12_highest 28 = .ok (.iload_n 1, 1) := by decide +kernel
theorem dX12_highest_29 : decode cX12_highest 29 = .ok (.iconst 2, 1) := by decide +kernel
theorem dX12_highest_30 : decode cX12_highest 30 = .ok (.if_icmp .ne 8, 3) := by decide +kernel
theorem dX12_highest_33 : decode cX12_highest 33 = .ok (.bipush 9, 2) := by decide +kernel
theorem dX12_highest_35 : decode cX12_highest 35 = .ok (.goto 5, 3) := by decide +kernel
theorem dX12_highest_38 : decode cX12_highest 38 = .ok (.bipush 99, 2) := by decide +kernel
theorem dX12_highest_40 : decode cX12_highest 40 = .ok (.ireturn, 1) := by decide +kernel
theorem dX12_highest_41 : decode cX12_highest 41 = .ok (.iload_n 1, 1) := by decide +kernel
theorem dX12_highest_42 : decode cX12_highest 42 = .ok (.iconst 2, 1) := by decide +kernel
theorem dX12_highest_43 : decode cX12_highest 43 = .ok (.if_icmp .ne 8, 3) := by decide +kernel
theorem dX12_highest_46 : decode cX12_highest 46 = .ok (.bipush 30, 2) := by decide +kernel
theorem dX12_highest_48 : decode cX12_highest 48 = .ok (.goto 14, 3) := by decide +kernel
theorem dX12_highest_51 : decode cX12_highest 51 = .ok (.iload_n 1, 1) := by decide +kernel
theorem dX12_highest_52 : decode cX12_highest 52 = .ok (.iconst 3, 1) := by decide +kernel
theorem dX12_highest_53 : decode cX12_highest 53 = .ok (.if_icmp .ne 7, 3) := by decide +kernel
theorem dX12_highest_56 : decode cX12_highest 56 = .ok (.iconst 1, 1) := by decide +kernel
theorem dX12_highest_57 : decode cX12_highest 57 = .ok (.goto 5, 3) := by decide +kernel
theorem dX12_highest_60 : decode cX12_highest 60 = .ok (.bipush 9, 2) := by decide +kernel
theorem dX12_highest_62 : decode cX12_highest 62 = .ok (.ireturn, 1) := by decide +kernel
theorem dX12_highest_63 : decode cX12_highest 63 = .ok (.bipush 40, 2) := by decide +kernel
theorem dX12_highest_65 : decode cX12_highest 65 = .ok (.ireturn, 1) := by decide +kernel
theorem dX12_usual_0 : decode cX12_usual 0 = .ok (.iload_n 0, 1) := by decide +kernel
theorem dX12_usual_1 : decode cX12_usual 1 = .ok (.lookupswitch 59 #[(104, 48), (115, 27)], 27) := by decide +kernel
theorem dX12_usual_28 : decode cX12_usual 28 = .ok (.iload_n 1, 1) := by decide +kernel
theorem dX12_usual_29 : decode cX12_usual 29 = .ok (.ifCond .ne 8, 3) := by decide +kernel
theorem dX12_usual_32 : decode cX12_usual 32 = .ok (.bipush 60, 2) := by decide +kernel
theorem dX12_usual_34 : decode cX12_usual 34 = .ok (.goto 14, 3) := by decide +kernel
theorem dX12_usual_37 : decode cX12_usual 37 = .ok (.iload_n 1, 1) := by decide +kernel
theorem dX12_usual_38 : decode cX12_usual 38 = .ok (.iconst 1, 1) := by decide +kernel
theorem dX12_usual_39 : decode cX12_usual 39 = .ok (.if_icmp .ne 8, 3) := by decide +kernel
theorem dX12_usual_42 : decode cX12_usual 42 = .ok (.bipush 20, 2) := by decide +kernel
theorem dX12_usual_44 : decode cX12_usual 44 = .ok (.goto 4, 3) := by decide +kernel
theorem dX12_usual_47 : decode cX12_usual 47 = .ok (.iconst 2, 1) := by decide +kernel
theorem dX12_usual_48 : decode cX12_usual 48 = .ok (.ireturn, 1) := by decide +kernel
theorem dX12_usual_49 : decode cX12_usual 49 = .ok (.iload_n 1, 1) := by decide +kernel
theorem dX12_usual_50 : decode cX12_usual 50 = .ok (.iconst 2, 1) := by decide +kernel
theorem dX12_usual_51 : decode cX12_usual 51 = .ok (.if_icmp .ne 7, 3) := by decide +kernel
theorem dX12_usual_54 : decode cX12_usual 54 = .ok (.iconst 5, 1) := by decide +kernel
theorem dX12_usual_55 : decode cX12_usual 55 = .ok (.goto 4, 3) := by decide +kernel
theorem dX12_usual_58 : decode cX12_usual 58 = .ok (.iconst 0, 1) := by decide +kernel
theorem dX12_usual_59 : decode cX12_usual 59 = .ok (.ireturn, 1) := by decide +kernel
theorem dX12_usual_60 : decode cX12_usual 60 = .ok (.bipush 20, 2) := by decide +kernel
theorem dX12_usual_62 : decode cX12_usual 62 = .ok (.ireturn, 1) := by decide +kernel
theorem dX12_items_0 : decode cX12_items 0 = .ok (.iconst 0, 1) := by decide +kernel
theorem dX12_items_1 : decode cX12_items 1 = .ok (.istore 5, 2) := by decide +kernel
theorem dX12_items_3 : decode cX12_items 3 = .ok (.iload 5, 2) := by decide +kernel
theorem dX12_items_5 : decode cX12_items 5 = .ok (.iload 4, 2) := by decide +kernel
theorem dX12_items_7 : decode cX12_items 7 = .ok (.if_icmp .ge 21, 3) := by decide +kernel
theorem dX12_items_10 : decode cX12_items 10 = .ok (.aload_n 2, 1) := by decide +kernel
theorem dX12_items_11 : decode cX12_items 11 = .ok (.iload_n 3, 1) := by decide +kernel
theorem dX12_items_12 : decode cX12_items 12 = .ok (.iload 5, 2) := by decide +kernel
theorem dX12_items_14 : decode cX12_items 14 = .ok (.iadd, 1) := by decide +kernel
theorem dX12_items_15 : decode cX12_items 15 = .ok (.iload_n 1, 1) := by decide +kernel
theorem dX12_items_16 : decode cX12_items 16 = .ok (.iload 5, 2) := by decide +kernel
theorem dX12_items_18 : decode cX12_items 18 = .ok (.invokestatic 224, 3) := by decide +kernel
theorem dX12_items_21 : decode cX12_items 21 = .ok (.iastore, 1) := by decide +kernel
theorem dX12_items_22 : decode cX12_items 22 = .ok (.iinc 5 1, 3) := by decide +kernel
theorem dX12_items_25 : decode cX12_items 25 = .ok (.goto (-22), 3) := by decide +kernel
theorem dX12_items_28 : decode cX12_items 28 = .ok (.iconst 0, 1) := by decide +kernel
theorem dX12_items_29 : decode cX12_items 29 = .ok (.istore 5, 2) := by decide +kernel
theorem dX12_items_31 : decode cX12_items 31 = .ok (.iload_n 1, 1) := by decide +kernel
theorem dX12_items_32 : decode cX12_items 32 = .ok (.aload_n 0, 1) := by decide +kernel
theorem dX12_items_33 : decode cX12_items 33 = .ok (.invokevirtual 134, 3) := by decide +kernel
theorem dX12_items_36 : decode cX12_items 36 = .ok (.invokestatic 228, 3) := by decide +kernel
theorem dX12_items_39 : decode cX12_items 39 = .ok (.istore 6, 2) := by decide +kernel
theorem dX12_items_41 : decode cX12_items 41 = .ok (.aload_n 0, 1) := by decide +kernel
theorem dX12_items_42 : decode cX12_items 42 = .ok (.getfield 122, 3) := by decide +kernel
theorem dX12_items_45 : decode cX12_items 45 = .ok (.iconst (-1), 1) := by decide +kernel
theorem dX12_items_46 : decode cX12_items 46 = .ok (.if_icmp .ne 85, 3) := by decide +kernel
theorem dX12_items_49 : decode cX12_items 49 = .ok (.iload 6, 2) := by decide +kernel
theorem dX12_items_51 : decode cX12_items 51 = .ok (.iconst (-1), 1) := by decide +kernel
theorem dX12_items_52 : decode cX12_items 52 = .ok (.if_icmp .eq 79, 3) := by decide +kernel
theorem dX12_items_55 : decode cX12_items 55 = .ok (.iload 5, 2) := by decide +kernel
theorem dX12_items_57 : decode cX12_items 57 = .ok (.iload 6, 2) := by decide +kernel
theorem dX12_items_59 : decode cX12_items 59 = .ok (.invokestatic 231, 3) := by decide +kernel
theorem dX12_items_62 : decode cX12_items 62 = .ok (.ifCond .ne 69, 3) := by decide +kernel
theorem dX12_items_65 : decode cX12_items 65 = .ok (.iload 5, 2) := by decide +kernel
theorem dX12_items_67 : decode cX12_items 67 = .ok (.iconst 1, 1) := by decide +kernel
theorem dX12_items_68 : decode cX12_items 68 = .ok (.iload 6, 2) := by decide +kernel
theorem dX12_items_70 : decode cX12_items 70 = .ok (.ishl, 1) := by decide +kernel
theorem dX12_items_71 : decode cX12_items 71 = .ok (.ior, 1) := by decide +kernel
theorem dX12_items_72 : decode cX12_items 72 = .ok (.istore 5, 2) := by decide +kernel
theorem dX12_items_74 : decode cX12_items 74 = .ok (.aload_n 0, 1) := by decide +kernel
theorem dX12_items_75 : decode cX12_items 75 = .ok (.dup, 1) := by decide +kernel
theorem dX12_items_76 : decode cX12_items 76 = .ok (.getfield 115, 3) := by decide +kernel
theorem dX12_items_79 : decode cX12_items 79 = .ok (.iconst 1, 1) := by decide +kernel
theorem dX12_items_80 : decode cX12_items 80 = .ok (.iadd, 1) := by decide +kernel
theorem dX12_items_81 : decode cX12_items 81 = .ok (.putfield 115, 3) := by decide +kernel
theorem dX12_items_84 : decode cX12_items 84 = .ok (.aload_n 2, 1) := by decide +kernel
theorem dX12_items_85 : decode cX12_items 85 = .ok (.iload_n 3, 1) := by decide +kernel
theorem dX12_items_86 : decode cX12_items 86 = .ok (.iload 6, 2) := by decide +kernel
theorem dX12_items_88 : decode cX12_items 88 = .ok (.iadd, 1) := by decide +kernel
theorem dX12_items_89 : decode cX12_items 89 = .ok (.aload_n 0, 1) := by decide +kernel
theorem dX12_items_90 : decode cX12_items 90 = .ok (.iload_n 1, 1) := by decide +kernel
theorem dX12_items_91 : decode cX12_items 91 = .ok (.iload 6, 2) := by decide +kernel
theorem dX12_items_93 : decode cX12_items 93 = .ok (.invokestatic 235, 3) := by decide +kernel
theorem dX12_items_96 : decode cX12_items 96 = .ok (.iload_n 1, 1) := by decide +kernel
theorem dX12_items_97 : decode cX12_items 97 = .ok (.iload 6, 2) := by decide +kernel
theorem dX12_items_99 : decode cX12_items 99 = .ok (.invokestatic 238, 3) := by decide +kernel
theorem dX12_items_102 : decode cX12_items 102 = .ok (.invokevirtual 241, 3) := by decide +kernel
theorem dX12_items_105 : decode cX12_items 105 = .ok (.iastore, 1) := by decide +kernel
theorem dX12_items_106 : decode cX12_items 106 = .ok (.aload_n 0, 1) := by decide +kernel
theorem dX12_items_107 : decode cX12_items 107 = .ok (.getfield 122, 3) := by decide +kernel
theorem dX12_items_110 : decode cX12_items 110 = .ok (.iconst (-1), 1) := by decide +kernel
theorem dX12_items_111 : decode cX12_items 111 = .ok (.if_icmp .ne 14, 3) := by decide +kernel
theorem dX12_items_114 : decode cX12_items 114 = .ok (.iload_n 1, 1) := by decide +kernel
theorem dX12_items_115 : decode cX12_items 115 = .ok (.aload_n 0, 1) := by decide +kernel
theorem dX12_items_116 : decode cX12_items 116 = .ok (.invokevirtual 134, 3) := by decide +kernel
theorem dX12_items_119 : decode cX12_items 119 = .ok (.invokestatic 228, 3) := by decide +kernel
theorem dX12_items_122 : decode cX12_items 122 = .ok (.goto 4, 3) := by decide +kernel
theorem dX12_items_125 : decode cX12_items 125 = .ok (.iconst (-1), 1) := by decide +kernel
theorem dX12_items_126 : decode cX12_items 126 = .ok (.istore 6, 2) := by decide +kernel
theorem dX12_items_128 : decode cX12_items 128 = .ok (.goto (-87), 3) := by decide +kernel
theorem dX12_items_131 : decode cX12_items 131 = .ok (.return_, 1) := by decide +kernel
theorem dX12_isWhole_0 : decode cX12_isWhole 0 = .ok (.aload_n 0, 1) := by decide +kernel
theorem dX12_isWhole_1 : decode cX12_isWhole 1 = .ok (.getfield 244, 3) := by decide +kernel
theorem dX12_isWhole_4 : decode cX12_isWhole 4 = .ok (.iconst 1, 1) := by decide +kernel
theorem dX12_isWhole_5 : decode cX12_isWhole 5 = .ok (.if_icmp .le 14, 3) := by decide +kernel
theorem dX12_isWhole_8 : decode cX12_isWhole 8 = .ok (.aload_n 0, 1) := by decide +kernel
theorem dX12_isWhole_9 : decode cX12_isWhole 9 = .ok (.getfield 247, 3) := by decide +kernel
theorem dX12_isWhole_12 : decode cX12_isWhole 12 = .ok (.ifCond .le 7, 3) := by decide +kernel
theorem dX12_isWhole_15 : decode cX12_isWhole 15 = .ok (.iconst 1, 1) := by decide +kernel
theorem dX12_isWhole_16 : decode cX12_isWhole 16 = .ok (.goto 4, 3) := by decide +kernel
theorem dX12_isWhole_19 : decode cX12_isWhole 19 = .ok (.iconst 0, 1) := by decide +kernel
theorem dX12_isWhole_20 : decode cX12_isWhole 20 = .ok (.istore_n 1, 1) := by decide +kernel
theorem dX12_isWhole_21 : decode cX12_isWhole 21 = .ok (.iconst 0, 1) := by decide +kernel
theorem dX12_isWhole_22 : decode cX12_isWhole 22 = .ok (.istore_n 2, 1) := by decide +kernel
theorem dX12_isWhole_23 : decode cX12_isWhole 23 = .ok (.iload_n 2, 1) := by decide +kernel
theorem dX12_isWhole_24 : decode cX12_isWhole 24 = .ok (.aload_n 0, 1) := by decide +kernel
theorem dX12_isWhole_25 : decode cX12_isWhole 25 = .ok (.getfield 244, 3) := by decide +kernel
theorem dX12_isWhole_28 : decode cX12_isWhole 28 = .ok (.if_icmp .ge 78, 3) := by decide +kernel
theorem dX12_isWhole_31 : decode cX12_isWhole 31 = .ok (.iconst 0, 1) := by decide +kernel
theorem dX12_isWhole_32 : decode cX12_isWhole 32 = .ok (.istore_n 3, 1) := by decide +kernel
theorem dX12_isWhole_33 : decode cX12_isWhole 33 = .ok (.iload_n 3, 1) := by decide +kernel
theorem dX12_isWhole_34 : decode cX12_isWhole 34 = .ok (.iload_n 2, 1) := by decide +kernel
theorem dX12_isWhole_35 : decode cX12_isWhole 35 = .ok (.if_icmp .ge 65, 3) := by decide +kernel
theorem dX12_isWhole_38 : decode cX12_isWhole 38 = .ok (.iload_n 1, 1) := by decide +kernel
theorem dX12_isWhole_39 : decode cX12_isWhole 39 = .ok (.ifCond .eq 53, 3) := by decide +kernel
theorem dX12_isWhole_42 : decode cX12_isWhole 42 = .ok (.aload_n 0, 1) := by decide +kernel
theorem dX12_isWhole_43 : decode cX12_isWhole 43 = .ok (.getfield 43, 3) := by decide +kernel
theorem dX12_isWhole_46 : decode cX12_isWhole 46 = .ok (.iconst 4, 1) := by decide +kernel
theorem dX12_isWhole_47 : decode cX12_isWhole 47 = .ok (.iload_n 3, 1) := by decide +kernel
theorem dX12_isWhole_48 : decode cX12_isWhole 48 = .ok (.imul, 1) := by decide +kernel
theorem dX12_isWhole_49 : decode cX12_isWhole 49 = .ok (.iconst 0, 1) := by decide +kernel
theorem dX12_isWhole_50 : decode cX12_isWhole 50 = .ok (.iadd, 1) := by decide +kernel
theorem dX12_isWhole_51 : decode cX12_isWhole 51 = .ok (.iaload, 1) := by decide +kernel
theorem dX12_isWhole_52 : decode cX12_isWhole 52 = .ok (.aload_n 0, 1) := by decide +kernel
theorem dX12_isWhole_53 : decode cX12_isWhole 53 = .ok (.getfield 43, 3) := by decide +kernel
theorem dX12_isWhole_56 : decode cX12_isWhole 56 = .ok (.iconst 4, 1) := by decide +kernel
theorem dX12_isWhole_57 : decode cX12_isWhole 57 = .ok (.iload_n 2, 1) := by decide +kernel
theorem dX12_isWhole_58 : decode cX12_isWhole 58 = .ok (.imul, 1) := by decide +kernel
theorem dX12_isWhole_59 : decode cX12_isWhole 59 = .ok (.iconst 0, 1) := by decide +kernel
theorem dX12_isWhole_60 : decode cX12_isWhole 60 = .ok (.iadd, 1) := by decide +kernel
theorem dX12_isWhole_61 : decode cX12_isWhole 61 = .ok (.iaload, 1) := by decide +kernel
theorem dX12_isWhole_62 : decode cX12_isWhole 62 = .ok (.if_icmp .ne 26, 3) := by decide +kernel
theorem dX12_isWhole_65 : decode cX12_isWhole 65 = .ok (.aload_n 0, 1) := by decide +kernel
theorem dX12_isWhole_66 : decode cX12_isWhole 66 = .ok (.getfield 43, 3) := by decide +kernel
theorem dX12_isWhole_69 : decode cX12_isWhole 69 = .ok (.iconst 4, 1) := by decide +kernel
theorem dX12_isWhole_70 : decode cX12_isWhole 70 = .ok (.iload_n 3, 1) := by decide +kernel
theorem dX12_isWhole_71 : decode cX12_isWhole 71 = .ok (.imul, 1) := by decide +kernel
theorem dX12_isWhole_72 : decode cX12_isWhole 72 = .ok (.iconst 1, 1) := by decide +kernel
theorem dX12_isWhole_73 : decode cX12_isWhole 73 = .ok (.iadd, 1) := by decide +kernel
theorem dX12_isWhole_74 : decode cX12_isWhole 74 = .ok (.iaload, 1) := by decide +kernel
theorem dX12_isWhole_75 : decode cX12_isWhole 75 = .ok (.aload_n 0, 1) := by decide +kernel
theorem dX12_isWhole_76 : decode cX12_isWhole 76 = .ok (.getfield 43, 3) := by decide +kernel
theorem dX12_isWhole_79 : decode cX12_isWhole 79 = .ok (.iconst 4, 1) := by decide +kernel
theorem dX12_isWhole_80 : decode cX12_isWhole 80 = .ok (.iload_n 2, 1) := by decide +kernel
theorem dX12_isWhole_81 : decode cX12_isWhole 81 = .ok (.imul, 1) := by decide +kernel
theorem dX12_isWhole_82 : decode cX12_isWhole 82 = .ok (.iconst 1, 1) := by decide +kernel
theorem dX12_isWhole_83 : decode cX12_isWhole 83 = .ok (.iadd, 1) := by decide +kernel
theorem dX12_isWhole_84 : decode cX12_isWhole 84 = .ok (.iaload, 1) := by decide +kernel
theorem dX12_isWhole_85 : decode cX12_isWhole 85 = .ok (.if_icmp .eq 7, 3) := by decide +kernel
theorem dX12_isWhole_88 : decode cX12_isWhole 88 = .ok (.iconst 1, 1) := by decide +kernel
theorem dX12_isWhole_89 : decode cX12_isWhole 89 = .ok (.goto 4, 3) := by decide +kernel
theorem dX12_isWhole_92 : decode cX12_isWhole 92 = .ok (.iconst 0, 1) := by decide +kernel
theorem dX12_isWhole_93 : decode cX12_isWhole 93 = .ok (.istore_n 1, 1) := by decide +kernel
theorem dX12_isWhole_94 : decode cX12_isWhole 94 = .ok (.iinc 3 1, 3) := by decide +kernel
theorem dX12_isWhole_97 : decode cX12_isWhole 97 = .ok (.goto (-64), 3) := by decide +kernel
theorem dX12_isWhole_100 : decode cX12_isWhole 100 = .ok (.iinc 2 1, 3) := by decide +kernel
theorem dX12_isWhole_103 : decode cX12_isWhole 103 = .ok (.goto (-80), 3) := by decide +kernel
theorem dX12_isWhole_106 : decode cX12_isWhole 106 = .ok (.iload_n 1, 1) := by decide +kernel
theorem dX12_isWhole_107 : decode cX12_isWhole 107 = .ok (.ireturn, 1) := by decide +kernel
theorem dX12_readTown_0 : decode cX12_readTown 0 = .ok (.aload_n 0, 1) := by decide +kernel
theorem dX12_readTown_1 : decode cX12_readTown 1 = .ok (.iconst 0, 1) := by decide +kernel
theorem dX12_readTown_2 : decode cX12_readTown 2 = .ok (.putfield 115, 3) := by decide +kernel
theorem dX12_readTown_5 : decode cX12_readTown 5 = .ok (.aload_n 0, 1) := by decide +kernel
theorem dX12_readTown_6 : decode cX12_readTown 6 = .ok (.iconst (-1), 1) := by decide +kernel
theorem dX12_readTown_7 : decode cX12_readTown 7 = .ok (.putfield 122, 3) := by decide +kernel
theorem dX12_readTown_10 : decode cX12_readTown 10 = .ok (.aload_n 0, 1) := by decide +kernel
theorem dX12_readTown_11 : decode cX12_readTown 11 = .ok (.iconst 0, 1) := by decide +kernel
theorem dX12_readTown_12 : decode cX12_readTown 12 = .ok (.putfield 244, 3) := by decide +kernel
theorem dX12_readTown_15 : decode cX12_readTown 15 = .ok (.aload_n 0, 1) := by decide +kernel
theorem dX12_readTown_16 : decode cX12_readTown 16 = .ok (.iconst 0, 1) := by decide +kernel
theorem dX12_readTown_17 : decode cX12_readTown 17 = .ok (.putfield 247, 3) := by decide +kernel
theorem dX12_readTown_20 : decode cX12_readTown 20 = .ok (.iconst 0, 1) := by decide +kernel
theorem dX12_readTown_21 : decode cX12_readTown 21 = .ok (.istore_n 1, 1) := by decide +kernel
theorem dX12_readTown_22 : decode cX12_readTown 22 = .ok (.iconst 0, 1) := by decide +kernel
theorem dX12_readTown_23 : decode cX12_readTown 23 = .ok (.istore_n 2, 1) := by decide +kernel
theorem dX12_readTown_24 : decode cX12_readTown 24 = .ok (.iload_n 2, 1) := by decide +kernel
theorem dX12_readTown_25 : decode cX12_readTown 25 = .ok (.iconst 3, 1) := by decide +kernel
theorem dX12_readTown_26 : decode cX12_readTown 26 = .ok (.if_icmp .ge 21, 3) := by decide +kernel
theorem dX12_readTown_29 : decode cX12_readTown 29 = .ok (.aload_n 0, 1) := by decide +kernel
theorem dX12_readTown_30 : decode cX12_readTown 30 = .ok (.getfield 40, 3) := by decide +kernel
theorem dX12_readTown_33 : decode cX12_readTown 33 = .ok (.iload_n 2, 1) := by decide +kernel
theorem dX12_readTown_34 : decode cX12_readTown 34 = .ok (.bipush 115, 2) := by decide +kernel
theorem dX12_readTown_36 : decode cX12_readTown 36 = .ok (.iload_n 2, 1) := by decide +kernel
theorem dX12_readTown_37 : decode cX12_readTown 37 = .ok (.invokestatic 224, 3) := by decide +kernel
theorem dX12_readTown_40 : decode cX12_readTown 40 = .ok (.iastore, 1) := by decide +kernel
theorem dX12_readTown_41 : decode cX12_readTown 41 = .ok (.iinc 2 1, 3) := by decide +kernel
theorem dX12_readTown_44 : decode cX12_readTown 44 = .ok (.goto (-20), 3) := by decide +kernel
theorem dX12_readTown_47 : decode cX12_readTown 47 = .ok (.iconst 1, 1) := by decide +kernel
theorem dX12_readTown_48 : decode cX12_readTown 48 = .ok (.istore_n 2, 1) := by decide +kernel
theorem dX12_readTown_49 : decode cX12_readTown 49 = .ok (.iload_n 2, 1) := by decide +kernel
theorem dX12_readTown_50 : decode cX12_readTown 50 = .ok (.ifCond .eq 205, 3) := by decide +kernel
theorem dX12_readTown_53 : decode cX12_readTown 53 = .ok (.aload_n 0, 1) := by decide +kernel
theorem dX12_readTown_54 : decode cX12_readTown 54 = .ok (.getfield 122, 3) := by decide +kernel
theorem dX12_readTown_57 : decode cX12_readTown 57 = .ok (.iconst (-1), 1) := by decide +kernel
theorem dX12_readTown_58 : decode cX12_readTown 58 = .ok (.if_icmp .ne 197, 3) := by decide +kernel
theorem dX12_readTown_61 : decode cX12_readTown 61 = .ok (.aload_n 0, 1) := by decide +kernel
theorem dX12_readTown_62 : decode cX12_readTown 62 = .ok (.invokevirtual 134, 3) := by decide +kernel
theorem dX12_readTown_65 : decode cX12_readTown 65 = .ok (.istore_n 3, 1) := by decide +kernel
theorem dX12_readTown_66 : decode cX12_readTown 66 = .ok (.iload_n 3, 1) := by decide +kernel
theorem dX12_readTown_67 : decode cX12_readTown 67 = .ok (.bipush 115, 2) := by decide +kernel
theorem dX12_readTown_69 : decode cX12_readTown 69 = .ok (.if_icmp .ne 33, 3) := by decide +kernel
theorem dX12_readTown_72 : decode cX12_readTown 72 = .ok (.iload_n 1, 1) := by decide +kernel
theorem dX12_readTown_73 : decode cX12_readTown 73 = .ok (.ifCond .ne 29, 3) := by decide +kernel
theorem dX12_readTown_76 : decode cX12_readTown 76 = .ok (.iconst 1, 1) := by decide +kernel
theorem dX12_readTown_77 : decode cX12_readTown 77 = .ok (.istore_n 1, 1) := by decide +kernel
theorem dX12_readTown_78 : decode cX12_readTown 78 = .ok (.aload_n 0, 1) := by decide +kernel
theorem dX12_readTown_79 : decode cX12_readTown 79 = .ok (.dup, 1) := by decide +kernel
theorem dX12_readTown_80 : decode cX12_readTown 80 = .ok (.getfield 115, 3) := by decide +kernel
theorem dX12_readTown_83 : decode cX12_readTown 83 = .ok (.iconst 1, 1) := by decide +kernel
theorem dX12_readTown_84 : decode cX12_readTown 84 = .ok (.iadd, 1) := by decide +kernel
theorem dX12_readTown_85 : decode cX12_readTown 85 = .ok (.putfield 115, 3) := by decide +kernel
theorem dX12_readTown_88 : decode cX12_readTown 88 = .ok (.aload_n 0, 1) := by decide +kernel
theorem dX12_readTown_89 : decode cX12_readTown 89 = .ok (.iload_n 3, 1) := by decide +kernel
theorem dX12_readTown_90 : decode cX12_readTown 90 = .ok (.aload_n 0, 1) := by decide +kernel
theorem dX12_readTown_91 : decode cX12_readTown 91 = .ok (.getfield 40, 3) := by decide +kernel
theorem dX12_readTown_94 : decode cX12_readTown 94 = .ok (.iconst 0, 1) := by decide +kernel
theorem dX12_readTown_95 : decode cX12_readTown 95 = .ok (.iconst 3, 1) := by decide +kernel
theorem dX12_readTown_96 : decode cX12_readTown 96 = .ok (.invokevirtual 250, 3) := by decide +kernel
theorem dX12_readTown_99 : decode cX12_readTown 99 = .ok (.goto 112, 3) := by decide +kernel
theorem dX12_readTown_102 : decode cX12_readTown 102 = .ok (.iload_n 3, 1) := by decide +kernel
theorem dX12_readTown_103 : decode cX12_readTown 103 = .ok (.bipush 104, 2) := by decide +kernel
theorem dX12_readTown_105 : decode cX12_readTown 105 = .ok (.if_icmp .ne 51, 3) := by decide +kernel
theorem dX12_readTown_108 : decode cX12_readTown 108 = .ok (.aload_n 0, 1) := by decide +kernel
theorem dX12_readTown_109 : decode cX12_readTown 109 = .ok (.getfield 244, 3) := by decide +kernel
theorem dX12_readTown_112 : decode cX12_readTown 112 = .ok (.bipush 7, 2) := by decide +kernel
theorem dX12_readTown_114 : decode cX12_readTown 114 = .ok (.if_icmp .ge 42, 3) := by decide +kernel
theorem dX12_readTown_117 : decode cX12_readTown 117 = .ok (.aload_n 0, 1) := by decide +kernel
theorem dX12_readTown_118 : decode cX12_readTown 118 = .ok (.dup, 1) := by decide +kernel
theorem dX12_readTown_119 : decode cX12_readTown 119 = .ok (.getfield 115, 3) := by decide +kernel
theorem dX12_readTown_122 : decode cX12_readTown 122 = .ok (.iconst 1, 1) := by decide +kernel
theorem dX12_readTown_123 : decode cX12_readTown 123 = .ok (.iadd, 1) := by decide +kernel
theorem dX12_readTown_124 : decode cX12_readTown 124 = .ok (.putfield 115, 3) := by decide +kernel
theorem dX12_readTown_127 : decode cX12_readTown 127 = .ok (.aload_n 0, 1) := by decide +kernel
theorem dX12_readTown_128 : decode cX12_readTown 128 = .ok (.iload_n 3, 1) := by decide +kernel
theorem dX12_readTown_129 : decode cX12_readTown 129 = .ok (.aload_n 0, 1) := by decide +kernel
theorem dX12_readTown_130 : decode cX12_readTown 130 = .ok (.getfield 43, 3) := by decide +kernel
theorem dX12_readTown_133 : decode cX12_readTown 133 = .ok (.iconst 4, 1) := by decide +kernel
theorem dX12_readTown_134 : decode cX12_readTown 134 = .ok (.aload_n 0, 1) := by decide +kernel
theorem dX12_readTown_135 : decode cX12_readTown 135 = .ok (.getfield 244, 3) := by decide +kernel
theorem dX12_readTown_138 : decode cX12_readTown 138 = .ok (.imul, 1) := by decide +kernel
theorem dX12_readTown_139 : decode cX12_readTown 139 = .ok (.iconst 4, 1) := by decide +kernel
theorem dX12_readTown_140 : decode cX12_readTown 140 = .ok (.invokevirtual 250, 3) := by decide +kernel
theorem dX12_readTown_143 : decode cX12_readTown 143 = .ok (.aload_n 0, 1) := by decide +kernel
theorem dX12_readTown_144 : decode cX12_readTown 144 = .ok (.dup, 1) := by decide +kernel
theorem dX12_readTown_145 : decode cX12_readTown 145 = .ok (.getfield 244, 3) := by decide +kernel
theorem dX12_readTown_148 : decode cX12_readTown 148 = .ok (.iconst 1, 1) := by decide +kernel
theorem dX12_readTown_149 : decode cX12_readTown 149 = .ok (.iadd, 1) := by decide +kernel
theorem dX12_readTown_150 : decode cX12_readTown 150 = .ok (.putfield 244, 3) := by decide +kernel
theorem dX12_readTown_153 : decode cX12_readTown 153 = .ok (.goto 58, 3) := by decide +kernel
theorem dX12_readTown_156 : decode cX12_readTown 156 = .ok (.iload_n 3, 1) := by decide +kernel
theorem dX12_readTown_157 : decode cX12_readTown 157 = .ok (.bipush 98, 2) := by decide +kernel
theorem dX12_readTown_159 : decode cX12_readTown 159 = .ok (.if_icmp .ne 48, 3) := by decide +kernel
theorem dX12_readTown_162 : decode cX12_readTown 162 = .ok (.aload_n 0, 1) := by decide +kernel
theorem dX12_readTown_163 : decode cX12_readTown 163 = .ok (.getfield 247, 3) := by decide +kernel
theorem dX12_readTown_166 : decode cX12_readTown 166 = .ok (.iconst 5, 1) := by decide +kernel
theorem dX12_readTown_167 : decode cX12_readTown 167 = .ok (.if_icmp .ge 40, 3) := by decide +kernel
theorem dX12_readTown_170 : decode cX12_readTown 170 = .ok (.aload_n 0, 1) := by decide +kernel
theorem dX12_readTown_171 : decode cX12_readTown 171 = .ok (.dup, 1) := by decide +kernel
theorem dX12_readTown_172 : decode cX12_readTown 172 = .ok (.getfield 115, 3) := by decide +kernel
theorem dX12_readTown_175 : decode cX12_readTown 175 = .ok (.iconst 1, 1) := by decide +kernel
theorem dX12_readTown_176 : decode cX12_readTown 176 = .ok (.iadd, 1) := by decide +kernel
theorem dX12_readTown_177 : decode cX12_readTown 177 = .ok (.putfield 115, 3) := by decide +kernel
theorem dX12_readTown_180 : decode cX12_readTown 180 = .ok (.aload_n 0, 1) := by decide +kernel
theorem dX12_readTown_181 : decode cX12_readTown 181 = .ok (.iload_n 3, 1) := by decide +kernel
theorem dX12_readTown_182 : decode cX12_readTown 182 = .ok (.aload_n 0, 1) := by decide +kernel
theorem dX12_readTown_183 : decode cX12_readTown 183 = .ok (.getfield 46, 3) := by decide +kernel
theorem dX12_readTown_186 : decode cX12_readTown 186 = .ok (.aload_n 0, 1) := by decide +kernel
theorem dX12_readTown_187 : decode cX12_readTown 187 = .ok (.getfield 247, 3) := by decide +kernel
theorem dX12_readTown_190 : decode cX12_readTown 190 = .ok (.iconst 1, 1) := by decide +kernel
theorem dX12_readTown_191 : decode cX12_readTown 191 = .ok (.invokevirtual 250, 3) := by decide +kernel
theorem dX12_readTown_194 : decode cX12_readTown 194 = .ok (.aload_n 0, 1) := by decide +kernel
theorem dX12_readTown_195 : decode cX12_readTown 195 = .ok (.dup, 1) := by decide +kernel
theorem dX12_readTown_196 : decode cX12_readTown 196 = .ok (.getfield 247, 3) := by decide +kernel
theorem dX12_readTown_199 : decode cX12_readTown 199 = .ok (.iconst 1, 1) := by decide +kernel
theorem dX12_readTown_200 : decode cX12_readTown 200 = .ok (.iadd, 1) := by decide +kernel
theorem dX12_readTown_201 : decode cX12_readTown 201 = .ok (.putfield 247, 3) := by decide +kernel
theorem dX12_readTown_204 : decode cX12_readTown 204 = .ok (.goto 7, 3) := by decide +kernel
theorem dX12_readTown_207 : decode cX12_readTown 207 = .ok (.aload_n 0, 1) := by decide +kernel
theorem dX12_readTown_208 : decode cX12_readTown 208 = .ok (.invokevirtual 131, 3) := by decide +kernel
theorem dX12_readTown_211 : decode cX12_readTown 211 = .ok (.aload_n 0, 1) := by decide +kernel
theorem dX12_readTown_212 : decode cX12_readTown 212 = .ok (.getfield 122, 3) := by decide +kernel
theorem dX12_readTown_215 : decode cX12_readTown 215 = .ok (.iconst (-1), 1) := by decide +kernel
theorem dX12_readTown_216 : decode cX12_readTown 216 = .ok (.if_icmp .ne 16, 3) := by decide +kernel
theorem dX12_readTown_219 : decode cX12_readTown 219 = .ok (.aload_n 0, 1) := by decide +kernel
theorem dX12_readTown_220 : decode cX12_readTown 220 = .ok (.invokevirtual 134, 3) := by decide +kernel
theorem dX12_readTown_223 : decode cX12_readTown 223 = .ok (.bipush 59, 2) := by decide +kernel
theorem dX12_readTown_225 : decode cX12_readTown 225 = .ok (.if_icmp .ne 7, 3) := by decide +kernel
theorem dX12_readTown_228 : decode cX12_readTown 228 = .ok (.iconst 1, 1) := by decide +kernel
theorem dX12_readTown_229 : decode cX12_readTown 229 = .ok (.goto 4, 3) := by decide +kernel
theorem dX12_readTown_232 : decode cX12_readTown 232 = .ok (.iconst 0, 1) := by decide +kernel
theorem dX12_readTown_233 : decode cX12_readTown 233 = .ok (.istore_n 2, 1) := by decide +kernel
theorem dX12_readTown_234 : decode cX12_readTown 234 = .ok (.aload_n 0, 1) := by decide +kernel
theorem dX12_readTown_235 : decode cX12_readTown 235 = .ok (.dup, 1) := by decide +kernel
theorem dX12_readTown_236 : decode cX12_readTown 236 = .ok (.getfield 115, 3) := by decide +kernel
theorem dX12_readTown_239 : decode cX12_readTown 239 = .ok (.iload_n 2, 1) := by decide +kernel
theorem dX12_readTown_240 : decode cX12_readTown 240 = .ok (.ifCond .eq 7, 3) := by decide +kernel
theorem dX12_readTown_243 : decode cX12_readTown 243 = .ok (.iconst 1, 1) := by decide +kernel
theorem dX12_readTown_244 : decode cX12_readTown 244 = .ok (.goto 4, 3) := by decide +kernel
theorem dX12_readTown_247 : decode cX12_readTown 247 = .ok (.iconst 0, 1) := by decide +kernel
theorem dX12_readTown_248 : decode cX12_readTown 248 = .ok (.iadd, 1) := by decide +kernel
theorem dX12_readTown_249 : decode cX12_readTown 249 = .ok (.putfield 115, 3) := by decide +kernel
theorem dX12_readTown_252 : decode cX12_readTown 252 = .ok (.goto (-203), 3) := by decide +kernel
theorem dX12_readTown_255 : decode cX12_readTown 255 = .ok (.aload_n 0, 1) := by decide +kernel
theorem dX12_readTown_256 : decode cX12_readTown 256 = .ok (.getfield 122, 3) := by decide +kernel
theorem dX12_readTown_259 : decode cX12_readTown 259 = .ok (.iconst (-1), 1) := by decide +kernel
theorem dX12_readTown_260 : decode cX12_readTown 260 = .ok (.if_icmp .ne 22, 3) := by decide +kernel
theorem dX12_readTown_263 : decode cX12_readTown 263 = .ok (.aload_n 0, 1) := by decide +kernel
theorem dX12_readTown_264 : decode cX12_readTown 264 = .ok (.invokevirtual 134, 3) := by decide +kernel
theorem dX12_readTown_267 : decode cX12_readTown 267 = .ok (.iconst (-1), 1) := by decide +kernel
theorem dX12_readTown_268 : decode cX12_readTown 268 = .ok (.if_icmp .ne 10, 3) := by decide +kernel
theorem dX12_readTown_271 : decode cX12_readTown 271 = .ok (.aload_n 0, 1) := by decide +kernel
theorem dX12_readTown_272 : decode cX12_readTown 272 = .ok (.invokevirtual 254, 3) := by decide +kernel
theorem dX12_readTown_275 : decode cX12_readTown 275 = .ok (.ifCond .ne 7, 3) := by decide +kernel
theorem dX12_readTown_278 : decode cX12_readTown 278 = .ok (.aload_n 0, 1) := by decide +kernel
theorem dX12_readTown_279 : decode cX12_readTown 279 = .ok (.invokevirtual 131, 3) := by decide +kernel
theorem dX12_readTown_282 : decode cX12_readTown 282 = .ok (.aload_n 0, 1) := by decide +kernel
theorem dX12_readTown_283 : decode cX12_readTown 283 = .ok (.getfield 122, 3) := by decide +kernel
theorem dX12_readTown_286 : decode cX12_readTown 286 = .ok (.ireturn, 1) := by decide +kernel
theorem dX12_fault_0 : decode cX12_fault 0 = .ok (.iload_n 1, 1) := by decide +kernel
theorem dX12_fault_1 : decode cX12_fault 1 = .ok (.ifCond .ne 10, 3) := by decide +kernel
theorem dX12_fault_4 : decode cX12_fault 4 = .ok (.aload_n 0, 1) := by decide +kernel
theorem dX12_fault_5 : decode cX12_fault 5 = .ok (.invokevirtual 258, 3) := by decide +kernel
theorem dX12_fault_8 : decode cX12_fault 8 = .ok (.goto 18, 3) := by decide +kernel
theorem dX12_fault_11 : decode cX12_fault 11 = .ok (.iload_n 1, 1) := by decide +kernel
theorem dX12_fault_12 : decode cX12_fault 12 = .ok (.iconst 1, 1) := by decide +kernel
theorem dX12_fault_13 : decode cX12_fault 13 = .ok (.if_icmp .ne 11, 3) := by decide +kernel
theorem dX12_fault_16 : decode cX12_fault 16 = .ok (.aload_n 0, 1) := by decide +kernel
theorem dX12_fault_17 : decode cX12_fault 17 = .ok (.iconst 4, 1) := by decide +kernel
theorem dX12_fault_18 : decode cX12_fault 18 = .ok (.invokevirtual 261, 3) := by decide +kernel
theorem dX12_fault_21 : decode cX12_fault 21 = .ok (.goto 5, 3) := by decide +kernel
theorem dX12_fault_24 : decode cX12_fault 24 = .ok (.bipush (-2), 2) := by decide +kernel
theorem dX12_fault_26 : decode cX12_fault 26 = .ok (.ireturn, 1) := by decide +kernel
theorem dX12_takeTown_0 : decode cX12_takeTown 0 = .ok (.aload_n 0, 1) := by decide +kernel
theorem dX12_takeTown_1 : decode cX12_takeTown 1 = .ok (.aload_n 0, 1) := by decide +kernel
theorem dX12_takeTown_2 : decode cX12_takeTown 2 = .ok (.getfield 244, 3) := by decide +kernel
theorem dX12_takeTown_5 : decode cX12_takeTown 5 = .ok (.putfield 264, 3) := by decide +kernel
theorem dX12_takeTown_8 : decode cX12_takeTown 8 = .ok (.aload_n 0, 1) := by decide +kernel
theorem dX12_takeTown_9 : decode cX12_takeTown 9 = .ok (.aload_n 0, 1) := by decide +kernel
theorem dX12_takeTown_10 : decode cX12_takeTown 10 = .ok (.getfield 247, 3) := by decide +kernel
theorem dX12_takeTown_13 : decode cX12_takeTown 13 = .ok (.putfield 267, 3) := by decide +kernel
theorem dX12_takeTown_16 : decode cX12_takeTown 16 = .ok (.iconst 0, 1) := by decide +kernel
theorem dX12_takeTown_17 : decode cX12_takeTown 17 = .ok (.istore_n 1, 1) := by decide +kernel
theorem dX12_takeTown_18 : decode cX12_takeTown 18 = .ok (.iload_n 1, 1) := by decide +kernel
theorem dX12_takeTown_19 : decode cX12_takeTown 19 = .ok (.iconst 3, 1) := by decide +kernel
theorem dX12_takeTown_20 : decode cX12_takeTown 20 = .ok (.if_icmp .ge 21, 3) := by decide +kernel
theorem dX12_takeTown_23 : decode cX12_takeTown 23 = .ok (.aload_n 0, 1) := by decide +kernel
theorem dX12_takeTown_24 : decode cX12_takeTown 24 = .ok (.getfield 49, 3) := by decide +kernel
theorem dX12_takeTown_27 : decode cX12_takeTown 27 = .ok (.iload_n 1, 1) := by decide +kernel
theorem dX12_takeTown_28 : decode cX12_takeTown 28 = .ok (.aload_n 0, 1) := by decide +kernel
theorem dX12_takeTown_29 : decode cX12_takeTown 29 = .ok (.getfield 40, 3) := by decide +kernel
theorem dX12_takeTown_32 : decode cX12_takeTown 32 = .ok (.iload_n 1, 1) := by decide +kernel
theorem dX12_takeTown_33 : decode cX12_takeTown 33 = .ok (.iaload, 1) := by decide +kernel
theorem dX12_takeTown_34 : decode cX12_takeTown 34 = .ok (.iastore, 1) := by decide +kernel
theorem dX12_takeTown_35 : decode cX12_takeTown 35 = .ok (.iinc 1 1, 3) := by decide +kernel
theorem dX12_takeTown_38 : decode cX12_takeTown 38 = .ok (.goto (-20), 3) := by decide +kernel
theorem dX12_takeTown_41 : decode cX12_takeTown 41 = .ok (.iconst 0, 1) := by decide +kernel
theorem dX12_takeTown_42 : decode cX12_takeTown 42 = .ok (.istore_n 1, 1) := by decide +kernel
theorem dX12_takeTown_43 : decode cX12_takeTown 43 = .ok (.iload_n 1, 1) := by decide +kernel
theorem dX12_takeTown_44 : decode cX12_takeTown 44 = .ok (.bipush 28, 2) := by decide +kernel
theorem dX12_takeTown_46 : decode cX12_takeTown 46 = .ok (.if_icmp .ge 21, 3) := by decide +kernel
theorem dX12_takeTown_49 : decode cX12_takeTown 49 = .ok (.aload_n 0, 1) := by decide +kernel
theorem dX12_takeTown_50 : decode cX12_takeTown 50 = .ok (.getfield 52, 3) := by decide +kernel
theorem dX12_takeTown_53 : decode cX12_takeTown 53 = .ok (.iload_n 1, 1) := by decide +kernel
theorem dX12_takeTown_54 : decode cX12_takeTown 54 = .ok (.aload_n 0, 1) := by decide +kernel
theorem dX12_takeTown_55 : decode cX12_takeTown 55 = .ok (.getfield 43, 3) := by decide +kernel
theorem dX12_takeTown_58 : decode cX12_takeTown 58 = .ok (.iload_n 1, 1) := by decide +kernel
theorem dX12_takeTown_59 : decode cX12_takeTown 59 = .ok (.iaload, 1) := by decide +kernel
theorem dX12_takeTown_60 : decode cX12_takeTown 60 = .ok (.iastore, 1) := by decide +kernel
theorem dX12_takeTown_61 : decode cX12_takeTown 61 = .ok (.iinc 1 1, 3) := by decide +kernel
theorem dX12_takeTown_64 : decode cX12_takeTown 64 = .ok (.goto (-21), 3) := by decide +kernel
theorem dX12_takeTown_67 : decode cX12_takeTown 67 = .ok (.iconst 0, 1) := by decide +kernel
theorem dX12_takeTown_68 : decode cX12_takeTown 68 = .ok (.istore_n 1, 1) := by decide +kernel
theorem dX12_takeTown_69 : decode cX12_takeTown 69 = .ok (.iload_n 1, 1) := by decide +kernel
theorem dX12_takeTown_70 : decode cX12_takeTown 70 = .ok (.iconst 5, 1) := by decide +kernel
theorem dX12_takeTown_71 : decode cX12_takeTown 71 = .ok (.if_icmp .ge 33, 3) := by decide +kernel
theorem dX12_takeTown_74 : decode cX12_takeTown 74 = .ok (.aload_n 0, 1) := by decide +kernel
theorem dX12_takeTown_75 : decode cX12_takeTown 75 = .ok (.getfield 55, 3) := by decide +kernel
theorem dX12_takeTown_78 : decode cX12_takeTown 78 = .ok (.iload_n 1, 1) := by decide +kernel
theorem dX12_takeTown_79 : decode cX12_takeTown 79 = .ok (.iload_n 1, 1) := by decide +kernel
theorem dX12_takeTown_80 : decode cX12_takeTown 80 = .ok (.aload_n 0, 1) := by decide +kernel
theorem dX12_takeTown_81 : decode cX12_takeTown 81 = .ok (.getfield 247, 3) := by decide +kernel
theorem dX12_takeTown_84 : decode cX12_takeTown 84 = .ok (.if_icmp .ge 12, 3) := by decide +kernel
theorem dX12_takeTown_87 : decode cX12_takeTown 87 = .ok (.aload_n 0, 1) := by decide +kernel
theorem dX12_takeTown_88 : decode cX12_takeTown 88 = .ok (.getfield 46, 3) := by decide +kernel
theorem dX12_takeTown_91 : decode cX12_takeTown 91 = .ok (.iload_n 1, 1) := by decide +kernel
theorem dX12_takeTown_92 : decode cX12_takeTown 92 = .ok (.iaload, 1) := by decide +kernel
theorem dX12_takeTown_93 : decode cX12_takeTown 93 = .ok (.goto 4, 3) := by decide +kernel
theorem dX12_takeTown_96 : decode cX12_takeTown 96 = .ok (.iconst 0, 1) := by decide +kernel
theorem dX12_takeTown_97 : decode cX12_takeTown 97 = .ok (.iastore, 1) := by decide +kernel
theorem dX12_takeTown_98 : decode cX12_takeTown 98 = .ok (.iinc 1 1, 3) := by decide +kernel
theorem dX12_takeTown_101 : decode cX12_takeTown 101 = .ok (.goto (-32), 3) := by decide +kernel
theorem dX12_takeTown_104 : decode cX12_takeTown 104 = .ok (.iconst 0, 1) := by decide +kernel
theorem dX12_takeTown_105 : decode cX12_takeTown 105 = .ok (.istore_n 1, 1) := by decide +kernel
theorem dX12_takeTown_106 : decode cX12_takeTown 106 = .ok (.iload_n 1, 1) := by decide +kernel
theorem dX12_takeTown_107 : decode cX12_takeTown 107 = .ok (.sipush 255, 3) := by decide +kernel
theorem dX12_takeTown_110 : decode cX12_takeTown 110 = .ok (.if_icmp .ge 16, 3) := by decide +kernel
theorem dX12_takeTown_113 : decode cX12_takeTown 113 = .ok (.aload_n 0, 1) := by decide +kernel
theorem dX12_takeTown_114 : decode cX12_takeTown 114 = .ok (.getfield 58, 3) := by decide +kernel
theorem dX12_takeTown_117 : decode cX12_takeTown 117 = .ok (.iload_n 1, 1) := by decide +kernel
theorem dX12_takeTown_118 : decode cX12_takeTown 118 = .ok (.iconst 0, 1) := by decide +kernel
theorem dX12_takeTown_119 : decode cX12_takeTown 119 = .ok (.iastore, 1) := by decide +kernel
theorem dX12_takeTown_120 : decode cX12_takeTown 120 = .ok (.iinc 1 1, 3) := by decide +kernel
theorem dX12_takeTown_123 : decode cX12_takeTown 123 = .ok (.goto (-17), 3) := by decide +kernel
theorem dX12_takeTown_126 : decode cX12_takeTown 126 = .ok (.iconst 0, 1) := by decide +kernel
theorem dX12_takeTown_127 : decode cX12_takeTown 127 = .ok (.istore_n 1, 1) := by decide +kernel
theorem dX12_takeTown_128 : decode cX12_takeTown 128 = .ok (.iload_n 1, 1) := by decide +kernel
theorem dX12_takeTown_129 : decode cX12_takeTown 129 = .ok (.aload_n 0, 1) := by decide +kernel
theorem dX12_takeTown_130 : decode cX12_takeTown 130 = .ok (.getfield 264, 3) := by decide +kernel
theorem dX12_takeTown_133 : decode cX12_takeTown 133 = .ok (.if_icmp .ge 23, 3) := by decide +kernel
theorem dX12_takeTown_136 : decode cX12_takeTown 136 = .ok (.aload_n 0, 1) := by decide +kernel
theorem dX12_takeTown_137 : decode cX12_takeTown 137 = .ok (.getfield 58, 3) := by decide +kernel
theorem dX12_takeTown_140 : decode cX12_takeTown 140 = .ok (.iconst 0, 1) := by decide +kernel
theorem dX12_takeTown_141 : decode cX12_takeTown 141 = .ok (.iload_n 1, 1) := by decide +kernel
theorem dX12_takeTown_142 : decode cX12_takeTown 142 = .ok (.iadd, 1) := by decide +kernel
theorem dX12_takeTown_143 : decode cX12_takeTown 143 = .ok (.aload_n 0, 1) := by decide +kernel
theorem dX12_takeTown_144 : decode cX12_takeTown 144 = .ok (.iload_n 1, 1) := by decide +kernel
theorem dX12_takeTown_145 : decode cX12_takeTown 145 = .ok (.iconst 2, 1) := by decide +kernel
theorem dX12_takeTown_146 : decode cX12_takeTown 146 = .ok (.invokevirtual 270, 3) := by decide +kernel
theorem dX12_takeTown_149 : decode cX12_takeTown 149 = .ok (.iastore, 1) := by decide +kernel
theorem dX12_takeTown_150 : decode cX12_takeTown 150 = .ok (.iinc 1 1, 3) := by decide +kernel
theorem dX12_takeTown_153 : decode cX12_takeTown 153 = .ok (.goto (-25), 3) := by decide +kernel
theorem dX12_takeTown_156 : decode cX12_takeTown 156 = .ok (.aload_n 0, 1) := by decide +kernel
theorem dX12_takeTown_157 : decode cX12_takeTown 157 = .ok (.getfield 58, 3) := by decide +kernel
theorem dX12_takeTown_160 : decode cX12_takeTown 160 = .ok (.bipush 7, 2) := by decide +kernel
theorem dX12_takeTown_162 : decode cX12_takeTown 162 = .ok (.aload_n 0, 1) := by decide +kernel
theorem dX12_takeTown_163 : decode cX12_takeTown 163 = .ok (.getfield 49, 3) := by decide +kernel
theorem dX12_takeTown_166 : decode cX12_takeTown 166 = .ok (.iconst 1, 1) := by decide +kernel
theorem dX12_takeTown_167 : decode cX12_takeTown 167 = .ok (.iaload, 1) := by decide +kernel
theorem dX12_takeTown_168 : decode cX12_takeTown 168 = .ok (.iastore, 1) := by decide +kernel
theorem dX12_takeTown_169 : decode cX12_takeTown 169 = .ok (.aload_n 0, 1) := by decide +kernel
theorem dX12_takeTown_170 : decode cX12_takeTown 170 = .ok (.getfield 58, 3) := by decide +kernel
theorem dX12_takeTown_173 : decode cX12_takeTown 173 = .ok (.bipush 10, 2) := by decide +kernel
theorem dX12_takeTown_175 : decode cX12_takeTown 175 = .ok (.iconst (-1), 1) := by decide +kernel
theorem dX12_takeTown_176 : decode cX12_takeTown 176 = .ok (.iastore, 1) := by decide +kernel
theorem dX12_takeTown_177 : decode cX12_takeTown 177 = .ok (.aload_n 0, 1) := by decide +kernel
theorem dX12_takeTown_178 : decode cX12_takeTown 178 = .ok (.iconst 0, 1) := by decide +kernel
theorem dX12_takeTown_179 : decode cX12_takeTown 179 = .ok (.putfield 273, 3) := by decide +kernel
theorem dX12_takeTown_182 : decode cX12_takeTown 182 = .ok (.aload_n 0, 1) := by decide +kernel
theorem dX12_takeTown_183 : decode cX12_takeTown 183 = .ok (.iconst 0, 1) := by decide +kernel
theorem dX12_takeTown_184 : decode cX12_takeTown 184 = .ok (.putfield 276, 3) := by decide +kernel
theorem dX12_takeTown_187 : decode cX12_takeTown 187 = .ok (.aload_n 0, 1) := by decide +kernel
theorem dX12_takeTown_188 : decode cX12_takeTown 188 = .ok (.iconst 0, 1) := by decide +kernel
theorem dX12_takeTown_189 : decode cX12_takeTown 189 = .ok (.putfield 279, 3) := by decide +kernel
theorem dX12_takeTown_192 : decode cX12_takeTown 192 = .ok (.aload_n 0, 1) := by decide +kernel
theorem dX12_takeTown_193 : decode cX12_takeTown 193 = .ok (.iconst 0, 1) := by decide +kernel
theorem dX12_takeTown_194 : decode cX12_takeTown 194 = .ok (.putfield 282, 3) := by decide +kernel
theorem dX12_takeTown_197 : decode cX12_takeTown 197 = .ok (.aload_n 0, 1) := by decide +kernel
theorem dX12_takeTown_198 : decode cX12_takeTown 198 = .ok (.getfield 264, 3) := by decide +kernel
theorem dX12_takeTown_201 : decode cX12_takeTown 201 = .ok (.ireturn, 1) := by decide +kernel
theorem dX12_text_0 : decode cX12_text 0 = .ok (.iload_n 1, 1) := by decide +kernel
theorem dX12_text_1 : decode cX12_text 1 = .ok (.ifCond .ne 21, 3) := by decide +kernel
theorem dX12_text_4 : decode cX12_text 4 = .ok (.aload_n 0, 1) := by decide +kernel
theorem dX12_text_5 : decode cX12_text 5 = .ok (.invokevirtual 258, 3) := by decide +kernel
theorem dX12_text_8 : decode cX12_text 8 = .ok (.iconst (-1), 1) := by decide +kernel
theorem dX12_text_9 : decode cX12_text 9 = .ok (.if_icmp .ne 13, 3) := by decide +kernel
theorem dX12_text_12 : decode cX12_text 12 = .ok (.aload_n 0, 1) := by decide +kernel
theorem dX12_text_13 : decode cX12_text 13 = .ok (.iconst 0, 1) := by decide +kernel
theorem dX12_text_14 : decode cX12_text 14 = .ok (.putfield 112, 3) := by decide +kernel
theorem dX12_text_17 : decode cX12_text 17 = .ok (.aload_n 0, 1) := by decide +kernel
theorem dX12_text_18 : decode cX12_text 18 = .ok (.invokevirtual 286, 3) := by decide +kernel
theorem dX12_text_21 : decode cX12_text 21 = .ok (.ireturn, 1) := by decide +kernel
theorem dX12_text_22 : decode cX12_text 22 = .ok (.iload_n 1, 1) := by decide +kernel
theorem dX12_text_23 : decode cX12_text 23 = .ok (.iconst 1, 1) := by decide +kernel
theorem dX12_text_24 : decode cX12_text 24 = .ok (.if_icmp .ne 45, 3) := by decide +kernel
theorem dX12_text_27 : decode cX12_text 27 = .ok (.aload_n 0, 1) := by decide +kernel
theorem dX12_text_28 : decode cX12_text 28 = .ok (.getfield 289, 3) := by decide +kernel
theorem dX12_text_31 : decode cX12_text 31 = .ok (.iconst 4, 1) := by decide +kernel
theorem dX12_text_32 : decode cX12_text 32 = .ok (.if_icmp .ge 37, 3) := by decide +kernel
theorem dX12_text_35 : decode cX12_text 35 = .ok (.aload_n 0, 1) := by decide +kernel
theorem dX12_text_36 : decode cX12_text 36 = .ok (.aload_n 0, 1) := by decide +kernel
theorem dX12_text_37 : decode cX12_text 37 = .ok (.getfield 289, 3) := by decide +kernel
theorem dX12_text_40 : decode cX12_text 40 = .ok (.invokevirtual 261, 3) := by decide +kernel
theorem dX12_text_43 : decode cX12_text 43 = .ok (.iconst (-1), 1) := by decide +kernel
theorem dX12_text_44 : decode cX12_text 44 = .ok (.if_icmp .ne 25, 3) := by decide +kernel
theorem dX12_text_47 : decode cX12_text 47 = .ok (.aload_n 0, 1) := by decide +kernel
theorem dX12_text_48 : decode cX12_text 48 = .ok (.iconst 0, 1) := by decide +kernel
theorem dX12_text_49 : decode cX12_text 49 = .ok (.putfield 112, 3) := by decide +kernel
theorem dX12_text_52 : decode cX12_text 52 = .ok (.aload_n 0, 1) := by decide +kernel
theorem dX12_text_53 : decode cX12_text 53 = .ok (.dup, 1) := by decide +kernel
theorem dX12_text_54 : decode cX12_text 54 = .ok (.getfield 289, 3) := by decide +kernel
theorem dX12_text_57 : decode cX12_text 57 = .ok (.iconst 1, 1) := by decide +kernel
theorem dX12_text_58 : decode cX12_text 58 = .ok (.iadd, 1) := by decide +kernel
theorem dX12_text_59 : decode cX12_text 59 = .ok (.putfield 289, 3) := by decide +kernel
theorem dX12_text_62 : decode cX12_text 62 = .ok (.aload_n 0, 1) := by decide +kernel
theorem dX12_text_63 : decode cX12_text 63 = .ok (.getfield 289, 3) := by decide +kernel
theorem dX12_text_66 : decode cX12_text 66 = .ok (.iconst 1, 1) := by decide +kernel
theorem dX12_text_67 : decode cX12_text 67 = .ok (.isub, 1) := by decide +kernel
theorem dX12_text_68 : decode cX12_text 68 = .ok (.ireturn, 1) := by decide +kernel
theorem dX12_text_69 : decode cX12_text 69 = .ok (.iconst (-1), 1) := by decide +kernel
theorem dX12_text_70 : decode cX12_text 70 = .ok (.ireturn, 1) := by decide +kernel
theorem dX12_of_0 : decode cX12_of 0 = .ok (.aload_n 0, 1) := by decide +kernel
theorem dX12_of_1 : decode cX12_of 1 = .ok (.getfield 52, 3) := by decide +kernel
theorem dX12_of_4 : decode cX12_of 4 = .ok (.iconst 4, 1) := by decide +kernel
theorem dX12_of_5 : decode cX12_of 5 = .ok (.iload_n 1, 1) := by decide +kernel
theorem dX12_of_6 : decode cX12_of 6 = .ok (.imul, 1) := by decide +kernel
theorem dX12_of_7 : decode cX12_of 7 = .ok (.iload_n 2, 1) := by decide +kernel
theorem dX12_of_8 : decode cX12_of 8 = .ok (.iadd, 1) := by decide +kernel
theorem dX12_of_9 : decode cX12_of 9 = .ok (.iaload, 1) := by decide +kernel
theorem dX12_of_10 : decode cX12_of 10 = .ok (.ireturn, 1) := by decide +kernel
theorem dX12_isHouse_0 : decode cX12_isHouse 0 = .ok (.iload_n 1, 1) := by decide +kernel
theorem dX12_isHouse_1 : decode cX12_isHouse 1 = .ok (.iconst 0, 1) := by decide +kernel
theorem dX12_isHouse_2 : decode cX12_isHouse 2 = .ok (.aload_n 0, 1) := by decide +kernel
theorem dX12_isHouse_3 : decode cX12_isHouse 3 = .ok (.getfield 264, 3) := by decide +kernel
theorem dX12_isHouse_6 : decode cX12_isHouse 6 = .ok (.iconst 1, 1) := by decide +kernel
theorem dX12_isHouse_7 : decode cX12_isHouse 7 = .ok (.isub, 1) := by decide +kernel
theorem dX12_isHouse_8 : decode cX12_isHouse 8 = .ok (.invokestatic 220, 3) := by decide +kernel
theorem dX12_isHouse_11 : decode cX12_isHouse 11 = .ok (.ireturn, 1) := by decide +kernel
theorem dX12_isThankful_0 : decode cX12_isThankful 0 = .ok (.aload_n 0, 1) := by decide +kernel
theorem dX12_isThankful_1 : decode cX12_isThankful 1 = .ok (.iload_n 1, 1) := by decide +kernel
theorem dX12_isThankful_2 : decode cX12_isThankful 2 = .ok (.iconst 3, 1) := by decide +kernel
theorem dX12_isThankful_3 : decode cX12_isThankful 3 = .ok (.invokevirtual 270, 3) := by decide +kernel
theorem dX12_isThankful_6 : decode cX12_isThankful 6 = .ok (.iconst 1, 1) := by decide +kernel
theorem dX12_isThankful_7 : decode cX12_isThankful 7 = .ok (.if_icmp .ne 7, 3) := by decide +kernel
theorem dX12_isThankful_10 : decode cX12_isThankful 10 = .ok (.iconst 1, 1) := by decide +kernel
theorem dX12_isThankful_11 : decode cX12_isThankful 11 = .ok (.goto 4, 3) := by decide +kernel
theorem dX12_isThankful_14 : decode cX12_isThankful 14 = .ok (.iconst 0, 1) := by decide +kernel
theorem dX12_isThankful_15 : decode cX12_isThankful 15 = .ok (.ireturn, 1) := by decide +kernel
theorem dX12_allStrength_0 : decode cX12_allStrength 0 = .ok (.iconst 0, 1) := by decide +kernel
theorem dX12_allStrength_1 : decode cX12_allStrength 1 = .ok (.istore_n 1, 1) := by decide +kernel
theorem dX12_allStrength_2 : decode cX12_allStrength 2 = .ok (.iconst 0, 1) := by decide +kernel
theorem dX12_allStrength_3 : decode cX12_allStrength 3 = .ok (.istore_n 2, 1) := by decide +kernel
theorem dX12_allStrength_4 : decode cX12_allStrength 4 = .ok (.iload_n 2, 1) := by decide +kernel
theorem dX12_allStrength_5 : decode cX12_allStrength 5 = .ok (.aload_n 0, 1) := by decide +kernel
theorem dX12_allStrength_6 : decode cX12_allStrength 6 = .ok (.getfield 267, 3) := by decide +kernel
theorem dX12_allStrength_9 : decode cX12_allStrength 9 = .ok (.if_icmp .ge 18, 3) := by decide +kernel
theorem dX12_allStrength_12 : decode cX12_allStrength 12 = .ok (.iload_n 1, 1) := by decide +kernel
theorem dX12_allStrength_13 : decode cX12_allStrength 13 = .ok (.aload_n 0, 1) := by decide +kernel
theorem dX12_allStrength_14 : decode cX12_allStrength 14 = .ok (.getfield 55, 3) := by decide +kernel
theorem dX12_allStrength_17 : decode cX12_allStrength 17 = .ok (.iload_n 2, 1) := by decide +kernel
theorem dX12_allStrength_18 : decode cX12_allStrength 18 = .ok (.iaload, 1) := by decide +kernel
theorem dX12_allStrength_19 : decode cX12_allStrength 19 = .ok (.iadd, 1) := by decide +kernel
theorem dX12_allStrength_20 : decode cX12_allStrength 20 = .ok (.istore_n 1, 1) := by decide +kernel
theorem dX12_allStrength_21 : decode cX12_allStrength 21 = .ok (.iinc 2 1, 3) := by decide +kernel
theorem dX12_allStrength_24 : decode cX12_allStrength 24 = .ok (.goto (-20), 3) := by decide +kernel
theorem dX12_allStrength_27 : decode cX12_allStrength 27 = .ok (.iload_n 1, 1) := by decide +kernel
theorem dX12_allStrength_28 : decode cX12_allStrength 28 = .ok (.ireturn, 1) := by decide +kernel
theorem dX12_stepsTo_0 : decode cX12_stepsTo 0 = .ok (.iload_n 1, 1) := by decide +kernel
theorem dX12_stepsTo_1 : decode cX12_stepsTo 1 = .ok (.iconst (-1), 1) := by decide +kernel
theorem dX12_stepsTo_2 : decode cX12_stepsTo 2 = .ok (.if_icmp .ne 7, 3) := by decide +kernel
theorem dX12_stepsTo_5 : decode cX12_stepsTo 5 = .ok (.iconst 0, 1) := by decide +kernel
theorem dX12_stepsTo_6 : decode cX12_stepsTo 6 = .ok (.goto 9, 3) := by decide +kernel
theorem dX12_stepsTo_9 : decode cX12_stepsTo 9 = .ok (.aload_n 0, 1) := by decide +kernel
theorem dX12_stepsTo_10 : decode cX12_stepsTo 10 = .ok (.iload_n 1, 1) := by decide +kernel
theorem dX12_stepsTo_11 : decode cX12_stepsTo 11 = .ok (.iconst 0, 1) := by decide +kernel
theorem dX12_stepsTo_12 : decode cX12_stepsTo 12 = .ok (.invokevirtual 270, 3) := by decide +kernel
theorem dX12_stepsTo_15 : decode cX12_stepsTo 15 = .ok (.istore_n 3, 1) := by decide +kernel
theorem dX12_stepsTo_16 : decode cX12_stepsTo 16 = .ok (.iload_n 1, 1) := by decide +kernel
theorem dX12_stepsTo_17 : decode cX12_stepsTo 17 = .ok (.iconst (-1), 1) := by decide +kernel
theorem dX12_stepsTo_18 : decode cX12_stepsTo 18 = .ok (.if_icmp .ne 7, 3) := by decide +kernel
theorem dX12_stepsTo_21 : decode cX12_stepsTo 21 = .ok (.iconst 0, 1) := by decide +kernel
theorem dX12_stepsTo_22 : decode cX12_stepsTo 22 = .ok (.goto 9, 3) := by decide +kernel
theorem dX12_stepsTo_25 : decode cX12_stepsTo 25 = .ok (.aload_n 0, 1) := by decide +kernel
theorem dX12_stepsTo_26 : decode cX12_stepsTo 26 = .ok (.iload_n 1, 1) := by decide +kernel
theorem dX12_stepsTo_27 : decode cX12_stepsTo 27 = .ok (.iconst 1, 1) := by decide +kernel
theorem dX12_stepsTo_28 : decode cX12_stepsTo 28 = .ok (.invokevirtual 270, 3) := by decide +kernel
theorem dX12_stepsTo_31 : decode cX12_stepsTo 31 = .ok (.istore 4, 2) := by decide +kernel
theorem dX12_stepsTo_33 : decode cX12_stepsTo 33 = .ok (.aload_n 0, 1) := by decide +kernel
theorem dX12_stepsTo_34 : decode cX12_stepsTo 34 = .ok (.iload_n 2, 1) := by decide +kernel
theorem dX12_stepsTo_35 : decode cX12_stepsTo 35 = .ok (.iconst 0, 1) := by decide +kernel
theorem dX12_stepsTo_36 : decode cX12_stepsTo 36 = .ok (.invokevirtual 270, 3) := by decide +kernel
theorem dX12_stepsTo_39 : decode cX12_stepsTo 39 = .ok (.iload_n 3, 1) := by decide +kernel
theorem dX12_stepsTo_40 : decode cX12_stepsTo 40 = .ok (.isub, 1) := by decide +kernel
theorem dX12_stepsTo_41 : decode cX12_stepsTo 41 = .ok (.invokestatic 292, 3) := by decide +kernel
theorem dX12_stepsTo_44 : decode cX12_stepsTo 44 = .ok (.aload_n 0, 1) := by decide +kernel
theorem dX12_stepsTo_45 : decode cX12_stepsTo 45 = .ok (.iload_n 2, 1) := by decide +kernel
theorem dX12_stepsTo_46 : decode cX12_stepsTo 46 = .ok (.iconst 1, 1) := by decide +kernel
theorem dX12_stepsTo_47 : decode cX12_stepsTo 47 = .ok (.invokevirtual 270, 3) := by decide +kernel
theorem dX12_stepsTo_50 : decode cX12_stepsTo 50 = .ok (.iload 4, 2) := by decide +kernel
theorem dX12_stepsTo_52 : decode cX12_stepsTo 52 = .ok (.isub, 1) := by decide +kernel
theorem dX12_stepsTo_53 : decode cX12_stepsTo 53 = .ok (.invokestatic 292, 3) := by decide +kernel
theorem dX12_stepsTo_56 : decode cX12_stepsTo 56 = .ok (.iadd, 1) := by decide +kernel
theorem dX12_stepsTo_57 : decode cX12_stepsTo 57 = .ok (.ireturn, 1) := by decide +kernel
theorem dX12_standsBy_0 : decode cX12_standsBy 0 = .ok (.aload_n 0, 1) := by decide +kernel
theorem dX12_standsBy_1 : decode cX12_standsBy 1 = .ok (.iload_n 1, 1) := by decide +kernel
theorem dX12_standsBy_2 : decode cX12_standsBy 2 = .ok (.invokevirtual 295, 3) := by decide +kernel
theorem dX12_standsBy_5 : decode cX12_standsBy 5 = .ok (.ifCond .eq 7, 3) := by decide +kernel
theorem dX12_standsBy_8 : decode cX12_standsBy 8 = .ok (.iconst 1, 1) := by decide +kernel
theorem dX12_standsBy_9 : decode cX12_standsBy 9 = .ok (.goto 8, 3) := by decide +kernel
theorem dX12_standsBy_12 : decode cX12_standsBy 12 = .ok (.iload_n 2, 1) := by decide +kernel
theorem dX12_standsBy_13 : decode cX12_standsBy 13 = .ok (.iconst 2, 1) := by decide +kernel
theorem dX12_standsBy_14 : decode cX12_standsBy 14 = .ok (.idiv, 1) := by decide +kernel
theorem dX12_standsBy_15 : decode cX12_standsBy 15 = .ok (.iconst 1, 1) := by decide +kernel
theorem dX12_standsBy_16 : decode cX12_standsBy 16 = .ok (.iadd, 1) := by decide +kernel
theorem dX12_standsBy_17 : decode cX12_standsBy 17 = .ok (.istore 6, 2) := by decide +kernel
theorem dX12_standsBy_19 : decode cX12_standsBy 19 = .ok (.aload_n 0, 1) := by decide +kernel
theorem dX12_standsBy_20 : decode cX12_standsBy 20 = .ok (.getfield 64, 3) := by decide +kernel
theorem dX12_standsBy_23 : decode cX12_standsBy 23 = .ok (.iconst (-1), 1) := by decide +kernel
theorem dX12_standsBy_24 : decode cX12_standsBy 24 = .ok (.if_icmp .eq 68, 3) := by decide +kernel
theorem dX12_standsBy_27 : decode cX12_standsBy 27 = .ok (.aload_n 0, 1) := by decide +kernel
theorem dX12_standsBy_28 : decode cX12_standsBy 28 = .ok (.getfield 34, 3) := by decide +kernel
theorem dX12_standsBy_31 : decode cX12_standsBy 31 = .ok (.iconst 0, 1) := by decide +kernel
theorem dX12_standsBy_32 : decode cX12_standsBy 32 = .ok (.iload_n 2, 1) := by decide +kernel
theorem dX12_standsBy_33 : decode cX12_standsBy 33 = .ok (.iastore, 1) := by decide +kernel
theorem dX12_standsBy_34 : decode cX12_standsBy 34 = .ok (.aload_n 0, 1) := by decide +kernel
theorem dX12_standsBy_35 : decode cX12_standsBy 35 = .ok (.getfield 34, 3) := by decide +kernel
theorem dX12_standsBy_38 : decode cX12_standsBy 38 = .ok (.iconst 1, 1) := by decide +kernel
theorem dX12_standsBy_39 : decode cX12_standsBy 39 = .ok (.aload_n 0, 1) := by decide +kernel
theorem dX12_standsBy_40 : decode cX12_standsBy 40 = .ok (.iload_n 1, 1) := by decide +kernel
theorem dX12_standsBy_41 : decode cX12_standsBy 41 = .ok (.iconst 3, 1) := by decide +kernel
theorem dX12_standsBy_42 : decode cX12_standsBy 42 = .ok (.invokevirtual 270, 3) := by decide +kernel
theorem dX12_standsBy_45 : decode cX12_standsBy 45 = .ok (.iastore, 1) := by decide +kernel
theorem dX12_standsBy_46 : decode cX12_standsBy 46 = .ok (.aload_n 0, 1) := by decide +kernel
theorem dX12_standsBy_47 : decode cX12_standsBy 47 = .ok (.getfield 34, 3) := by decide +kernel
theorem dX12_standsBy_50 : decode cX12_standsBy 50 = .ok (.iconst 2, 1) := by decide +kernel
theorem dX12_standsBy_51 : decode cX12_standsBy 51 = .ok (.iload_n 3, 1) := by decide +kernel
theorem dX12_standsBy_52 : decode cX12_standsBy 52 = .ok (.iastore, 1) := by decide +kernel
theorem dX12_standsBy_53 : decode cX12_standsBy 53 = .ok (.aload_n 0, 1) := by decide +kernel
theorem dX12_standsBy_54 : decode cX12_standsBy 54 = .ok (.getfield 34, 3) := by decide +kernel
theorem dX12_standsBy_57 : decode cX12_standsBy 57 = .ok (.iconst 3, 1) := by decide +kernel
theorem dX12_standsBy_58 : decode cX12_standsBy 58 = .ok (.iload 4, 2) := by decide +kernel
theorem dX12_standsBy_60 : decode cX12_standsBy 60 = .ok (.iastore, 1) := by decide +kernel
theorem dX12_standsBy_61 : decode cX12_standsBy 61 = .ok (.aload_n 0, 1) := by decide +kernel
theorem dX12_standsBy_62 : decode cX12_standsBy 62 = .ok (.getfield 34, 3) := by decide +kernel
theorem dX12_standsBy_65 : decode cX12_standsBy 65 = .ok (.iconst 4, 1) := by decide +kernel
theorem dX12_standsBy_66 : decode cX12_standsBy 66 = .ok (.iload 5, 2) := by decide +kernel
theorem dX12_standsBy_68 : decode cX12_standsBy 68 = .ok (.iastore, 1) := by decide +kernel
theorem dX12_standsBy_69 : decode cX12_standsBy 69 = .ok (.aload_n 0, 1) := by decide +kernel
theorem dX12_standsBy_70 : decode cX12_standsBy 70 = .ok (.getfield 34, 3) := by decide +kernel
theorem dX12_standsBy_73 : decode cX12_standsBy 73 = .ok (.iconst 5, 1) := by decide +kernel
theorem dX12_standsBy_74 : decode cX12_standsBy 74 = .ok (.aload_n 0, 1) := by decide +kernel
theorem dX12_standsBy_75 : decode cX12_standsBy 75 = .ok (.getfield 58, 3) := by decide +kernel
theorem dX12_standsBy_78 : decode cX12_standsBy 78 = .ok (.bipush 12, 2) := by decide +kernel
theorem dX12_standsBy_80 : decode cX12_standsBy 80 = .ok (.iaload, 1) := by decide +kernel
theorem dX12_standsBy_81 : decode cX12_standsBy 81 = .ok (.iastore, 1) := by decide +kernel
theorem dX12_standsBy_82 : decode cX12_standsBy 82 = .ok (.aload_n 0, 1) := by decide +kernel
theorem dX12_standsBy_83 : decode cX12_standsBy 83 = .ok (.aload_n 0, 1) := by decide +kernel
theorem dX12_standsBy_84 : decode cX12_standsBy 84 = .ok (.getfield 64, 3) := by decide +kernel
theorem dX12_standsBy_87 : decode cX12_standsBy 87 = .ok (.invokevirtual 298, 3) := by decide +kernel
theorem dX12_standsBy_90 : decode cX12_standsBy 90 = .ok (.istore 6, 2) := by decide +kernel
theorem dX12_standsBy_92 : decode cX12_standsBy 92 = .ok (.iconst 0, 1) := by decide +kernel
theorem dX12_standsBy_93 : decode cX12_standsBy 93 = .ok (.bipush 60, 2) := by decide +kernel
theorem dX12_standsBy_95 : decode cX12_standsBy 95 = .ok (.iload 6, 2) := by decide +kernel
theorem dX12_standsBy_97 : decode cX12_standsBy 97 = .ok (.invokestatic 301, 3) := by decide +kernel
theorem dX12_standsBy_100 : decode cX12_standsBy 100 = .ok (.invokestatic 303, 3) := by decide +kernel
theorem dX12_standsBy_103 : decode cX12_standsBy 103 = .ok (.ireturn, 1) := by decide +kernel
theorem dX12_stepsNow_0 : decode cX12_stepsNow 0 = .ok (.aload_n 0, 1) := by decide +kernel
theorem dX12_stepsNow_1 : decode cX12_stepsNow 1 = .ok (.aload_n 0, 1) := by decide +kernel
theorem dX12_stepsNow_2 : decode cX12_stepsNow 2 = .ok (.getfield 58, 3) := by decide +kernel
theorem dX12_stepsNow_5 : decode cX12_stepsNow 5 = .ok (.bipush 10, 2) := by decide +kernel
theorem dX12_stepsNow_7 : decode cX12_stepsNow 7 = .ok (.iaload, 1) := by decide +kernel
theorem dX12_stepsNow_8 : decode cX12_stepsNow 8 = .ok (.iload_n 1, 1) := by decide +kernel
theorem dX12_stepsNow_9 : decode cX12_stepsNow 9 = .ok (.invokevirtual 305, 3) := by decide +kernel
theorem dX12_stepsNow_12 : decode cX12_stepsNow 12 = .ok (.ireturn, 1) := by decide +kernel
theorem dX12_doors_0 : decode cX12_doors 0 = .ok (.aload_n 0, 1) := by decide +kernel
theorem dX12_doors_1 : decode cX12_doors 1 = .ok (.getfield 58, 3) := by decide +kernel
theorem dX12_doors_4 : decode cX12_doors 4 = .ok (.bipush 11, 2) := by decide +kernel
theorem dX12_doors_6 : decode cX12_doors 6 = .ok (.iaload, 1) := by decide +kernel
theorem dX12_doors_7 : decode cX12_doors 7 = .ok (.invokestatic 308, 3) := by decide +kernel
theorem dX12_doors_10 : decode cX12_doors 10 = .ok (.ireturn, 1) := by decide +kernel
theorem dX12_standsIf_0 : decode cX12_standsIf 0 = .ok (.aload_n 0, 1) := by decide +kernel
theorem dX12_standsIf_1 : decode cX12_standsIf 1 = .ok (.iload_n 1, 1) := by decide +kernel
theorem dX12_standsIf_2 : decode cX12_standsIf 2 = .ok (.iload_n 2, 1) := by decide +kernel
theorem dX12_standsIf_3 : decode cX12_standsIf 3 = .ok (.aload_n 0, 1) := by decide +kernel
theorem dX12_standsIf_4 : decode cX12_standsIf 4 = .ok (.getfield 58, 3) := by decide +kernel
theorem dX12_standsIf_7 : decode cX12_standsIf 7 = .ok (.bipush 8, 2) := by decide +kernel
theorem dX12_standsIf_9 : decode cX12_standsIf 9 = .ok (.iaload, 1) := by decide +kernel
theorem dX12_standsIf_10 : decode cX12_standsIf 10 = .ok (.aload_n 0, 1) := by decide +kernel
theorem dX12_standsIf_11 : decode cX12_standsIf 11 = .ok (.iload_n 1, 1) := by decide +kernel
theorem dX12_standsIf_12 : decode cX12_standsIf 12 = .ok (.invokevirtual 313, 3) := by decide +kernel
theorem dX12_standsIf_15 : decode cX12_standsIf 15 = .ok (.iadd, 1) := by decide +kernel
theorem dX12_standsIf_16 : decode cX12_standsIf 16 = .ok (.iload_n 3, 1) := by decide +kernel
theorem dX12_standsIf_17 : decode cX12_standsIf 17 = .ok (.iadd, 1) := by decide +kernel
theorem dX12_standsIf_18 : decode cX12_standsIf 18 = .ok (.aload_n 0, 1) := by decide +kernel
theorem dX12_standsIf_19 : decode cX12_standsIf 19 = .ok (.invokevirtual 316, 3) := by decide +kernel
theorem dX12_standsIf_22 : decode cX12_standsIf 22 = .ok (.aload_n 0, 1) := by decide +kernel
theorem dX12_standsIf_23 : decode cX12_standsIf 23 = .ok (.iload_n 1, 1) := by decide +kernel
theorem dX12_standsIf_24 : decode cX12_standsIf 24 = .ok (.invokevirtual 313, 3) := by decide +kernel
theorem dX12_standsIf_27 : decode cX12_standsIf 27 = .ok (.invokevirtual 319, 3) := by decide +kernel
theorem dX12_standsIf_30 : decode cX12_standsIf 30 = .ok (.ireturn, 1) := by decide +kernel
theorem dX12_standsNow_0 : decode cX12_standsNow 0 = .ok (.aload_n 0, 1) := by decide +kernel
theorem dX12_standsNow_1 : decode cX12_standsNow 1 = .ok (.iload_n 1, 1) := by decide +kernel
theorem dX12_standsNow_2 : decode cX12_standsNow 2 = .ok (.aload_n 0, 1) := by decide +kernel
theorem dX12_standsNow_3 : decode cX12_standsNow 3 = .ok (.getfield 58, 3) := by decide +kernel
theorem dX12_standsNow_6 : decode cX12_standsNow 6 = .ok (.iconst 0, 1) := by decide +kernel
theorem dX12_standsNow_7 : decode cX12_standsNow 7 = .ok (.iload_n 1, 1) := by decide +kernel
theorem dX12_standsNow_8 : decode cX12_standsNow 8 = .ok (.iadd, 1) := by decide +kernel
theorem dX12_standsNow_9 : decode cX12_standsNow 9 = .ok (.iaload, 1) := by decide +kernel
theorem dX12_standsNow_10 : decode cX12_standsNow 10 = .ok (.iconst 0, 1) := by decide +kernel
theorem dX12_standsNow_11 : decode cX12_standsNow 11 = .ok (.invokevirtual 323, 3) := by decide +kernel
theorem dX12_standsNow_14 : decode cX12_standsNow 14 = .ok (.ireturn, 1) := by decide +kernel
theorem dX12_endOf_0 : decode cX12_endOf 0 = .ok (.aload_n 0, 1) := by decide +kernel
theorem dX12_endOf_1 : decode cX12_endOf 1 = .ok (.getfield 58, 3) := by decide +kernel
theorem dX12_endOf_4 : decode cX12_endOf 4 = .ok (.bipush 8, 2) := by decide +kernel
theorem dX12_endOf_6 : decode cX12_endOf 6 = .ok (.iaload, 1) := by decide +kernel
theorem dX12_endOf_7 : decode cX12_endOf 7 = .ok (.aload_n 0, 1) := by decide +kernel
theorem dX12_endOf_8 : decode cX12_endOf 8 = .ok (.iload_n 1, 1) := by decide +kernel
theorem dX12_endOf_9 : decode cX12_endOf 9 = .ok (.invokevirtual 313, 3) := by decide +kernel
theorem dX12_endOf_12 : decode cX12_endOf 12 = .ok (.iadd, 1) := by decide +kernel
theorem dX12_endOf_13 : decode cX12_endOf 13 = .ok (.aload_n 0, 1) := by decide +kernel
theorem dX12_endOf_14 : decode cX12_endOf 14 = .ok (.iload_n 1, 1) := by decide +kernel
theorem dX12_endOf_15 : decode cX12_endOf 15 = .ok (.invokevirtual 326, 3) := by decide +kernel
theorem dX12_endOf_18 : decode cX12_endOf 18 = .ok (.iadd, 1) := by decide +kernel
theorem dX12_endOf_19 : decode cX12_endOf 19 = .ok (.ireturn, 1) := by decide +kernel
theorem dX12_rule_0 : decode cX12_rule 0 = .ok (.aload_n 0, 1) := by decide +kernel
theorem dX12_rule_1 : decode cX12_rule 1 = .ok (.getfield 264, 3) := by decide +kernel
theorem dX12_rule_4 : decode cX12_rule 4 = .ok (.ifCond .eq 12, 3) := by decide +kernel
theorem dX12_rule_7 : decode cX12_rule 7 = .ok (.iload_n 1, 1) := by decide +kernel
theorem dX12_rule_8 : decode cX12_rule 8 = .ok (.iconst 0, 1) := by decide +kernel
theorem dX12_rule_9 : decode cX12_rule 9 = .ok (.iconst 3, 1) := by decide +kernel
theorem dX12_rule_10 : decode cX12_rule 10 = .ok (.invokestatic 220, 3) := by decide +kernel
theorem dX12_rule_13 : decode cX12_rule 13 = .ok (.ifCond .ne 7, 3) := by decide +kernel
theorem dX12_rule_16 : decode cX12_rule 16 = .ok (.iconst (-1), 1) := by decide +kernel
theorem dX12_rule_17 : decode cX12_rule 17 = .ok (.goto 36, 3) := by decide +kernel
theorem dX12_rule_20 : decode cX12_rule 20 = .ok (.iload_n 1, 1) := by decide +kernel
theorem dX12_rule_21 : decode cX12_rule 21 = .ok (.iconst 1, 1) := by decide +kernel
theorem dX12_rule_22 : decode cX12_rule 22 = .ok (.if_icmp .ne 13, 3) := by decide +kernel
theorem dX12_rule_25 : decode cX12_rule 25 = .ok (.aload_n 0, 1) := by decide +kernel
theorem dX12_rule_26 : decode cX12_rule 26 = .ok (.getfield 58, 3) := by decide +kernel
theorem dX12_rule_29 : decode cX12_rule 29 = .ok (.bipush 7, 2) := by decide +kernel
theorem dX12_rule_31 : decode cX12_rule 31 = .ok (.iaload, 1) := by decide +kernel
theorem dX12_rule_32 : decode cX12_rule 32 = .ok (.goto 21, 3) := by decide +kernel
theorem dX12_rule_35 : decode cX12_rule 35 = .ok (.iload_n 1, 1) := by decide +kernel
theorem dX12_rule_36 : decode cX12_rule 36 = .ok (.iconst 3, 1) := by decide +kernel
theorem dX12_rule_37 : decode cX12_rule 37 = .ok (.if_icmp .ne 10, 3) := by decide +kernel
theorem dX12_rule_40 : decode cX12_rule 40 = .ok (.aload_n 0, 1) := by decide +kernel
theorem dX12_rule_41 : decode cX12_rule 41 = .ok (.invokevirtual 329, 3) := by decide +kernel
theorem dX12_rule_44 : decode cX12_rule 44 = .ok (.goto 9, 3) := by decide +kernel
theorem dX12_rule_47 : decode cX12_rule 47 = .ok (.aload_n 0, 1) := by decide +kernel
theorem dX12_rule_48 : decode cX12_rule 48 = .ok (.getfield 49, 3) := by decide +kernel
theorem dX12_rule_51 : decode cX12_rule 51 = .ok (.iload_n 1, 1) := by decide +kernel
theorem dX12_rule_52 : decode cX12_rule 52 = .ok (.iaload, 1) := by decide +kernel
theorem dX12_rule_53 : decode cX12_rule 53 = .ok (.ireturn, 1) := by decide +kernel
theorem dX12_house_0 : decode cX12_house 0 = .ok (.aload_n 0, 1) := by decide +kernel
theorem dX12_house_1 : decode cX12_house 1 = .ok (.aload_n 0, 1) := by decide +kernel
theorem dX12_house_2 : decode cX12_house 2 = .ok (.iload_n 1, 1) := by decide +kernel
theorem dX12_house_3 : decode cX12_house 3 = .ok (.invokevirtual 332, 3) := by decide +kernel
theorem dX12_house_6 : decode cX12_house 6 = .ok (.ifCond .eq 16, 3) := by decide +kernel
theorem dX12_house_9 : decode cX12_house 9 = .ok (.iload_n 2, 1) := by decide +kernel
theorem dX12_house_10 : decode cX12_house 10 = .ok (.iconst 0, 1) := by decide +kernel
theorem dX12_house_11 : decode cX12_house 11 = .ok (.iconst 4, 1) := by decide +kernel
theorem dX12_house_12 : decode cX12_house 12 = .ok (.invokestatic 220, 3) := by decide +kernel
theorem dX12_house_15 : decode cX12_house 15 = .ok (.ifCond .eq 7, 3) := by decide +kernel
theorem dX12_house_18 : decode cX12_house 18 = .ok (.iconst 0, 1) := by decide +kernel
theorem dX12_house_19 : decode cX12_house 19 = .ok (.goto 4, 3) := by decide +kernel
theorem dX12_house_22 : decode cX12_house 22 = .ok (.iconst 1, 1) := by decide +kernel
theorem dX12_house_23 : decode cX12_house 23 = .ok (.putfield 105, 3) := by decide +kernel
theorem dX12_house_26 : decode cX12_house 26 = .ok (.aload_n 0, 1) := by decide +kernel
theorem dX12_house_27 : decode cX12_house 27 = .ok (.getfield 105, 3) := by decide +kernel
theorem dX12_house_30 : decode cX12_house 30 = .ok (.iconst 1, 1) := by decide +kernel
theorem dX12_house_31 : decode cX12_house 31 = .ok (.if_icmp .ne 5, 3) := by decide +kernel
theorem dX12_house_34 : decode cX12_house 34 = .ok (.iconst 0, 1) := by decide +kernel
theorem dX12_house_35 : decode cX12_house 35 = .ok (.ireturn, 1) := by decide +kernel
theorem dX12_house_36 : decode cX12_house 36 = .ok (.iload_n 2, 1) := by decide +kernel
theorem dX12_house_37 : decode cX12_house 37 = .ok (.iconst 2, 1) := by decide +kernel
theorem dX12_house_38 : decode cX12_house 38 = .ok (.if_icmp .ne 14, 3) := by decide +kernel
theorem dX12_house_41 : decode cX12_house 41 = .ok (.aload_n 0, 1) := by decide +kernel
theorem dX12_house_42 : decode cX12_house 42 = .ok (.getfield 58, 3) := by decide +kernel
theorem dX12_house_45 : decode cX12_house 45 = .ok (.iconst 0, 1) := by decide +kernel
theorem dX12_house_46 : decode cX12_house 46 = .ok (.iload_n 1, 1) := by decide +kernel
theorem dX12_house_47 : decode cX12_house 47 = .ok (.iadd, 1) := by decide +kernel
theorem dX12_house_48 : decode cX12_house 48 = .ok (.iaload, 1) := by decide +kernel
theorem dX12_house_49 : decode cX12_house 49 = .ok (.goto 28, 3) := by decide +kernel
theorem dX12_house_52 : decode cX12_house 52 = .ok (.iload_n 2, 1) := by decide +kernel
theorem dX12_house_53 : decode cX12_house 53 = .ok (.iconst 4, 1) := by decide +kernel
theorem dX12_house_54 : decode cX12_house 54 = .ok (.if_icmp .ne 17, 3) := by decide +kernel
theorem dX12_house_57 : decode cX12_house 57 = .ok (.aload_n 0, 1) := by decide +kernel
theorem dX12_house_58 : decode cX12_house 58 = .ok (.getfield 58, 3) := by decide +kernel
theorem dX12_house_61 : decode cX12_house 61 = .ok (.bipush 11, 2) := by decide +kernel
theorem dX12_house_63 : decode cX12_house 63 = .ok (.iaload, 1) := by decide +kernel
theorem dX12_house_64 : decode cX12_house 64 = .ok (.iload_n 1, 1) := by decide +kernel
theorem dX12_house_65 : decode cX12_house 65 = .ok (.ishr, 1) := by decide +kernel
theorem dX12_house_66 : decode cX12_house 66 = .ok (.iconst 1, 1) := by decide +kernel
theorem dX12_house_67 : decode cX12_house 67 = .ok (.iand, 1) := by decide +kernel
theorem dX12_house_68 : decode cX12_house 68 = .ok (.goto 9, 3) := by decide +kernel
theorem dX12_house_71 : decode cX12_house 71 = .ok (.aload_n 0, 1) := by decide +kernel
theorem dX12_house_72 : decode cX12_house 72 = .ok (.iload_n 1, 1) := by decide +kernel
theorem dX12_house_73 : decode cX12_house 73 = .ok (.iload_n 2, 1) := by decide +kernel
theorem dX12_house_74 : decode cX12_house 74 = .ok (.invokevirtual 270, 3) := by decide +kernel
theorem dX12_house_77 : decode cX12_house 77 = .ok (.ireturn, 1) := by decide +kernel
theorem dX12_bearer_0 : decode cX12_bearer 0 = .ok (.iload_n 1, 1) := by decide +kernel
theorem dX12_bearer_1 : decode cX12_bearer 1 = .ok (.iconst 0, 1) := by decide +kernel
theorem dX12_bearer_2 : decode cX12_bearer 2 = .ok (.aload_n 0, 1) := by decide +kernel
theorem dX12_bearer_3 : decode cX12_bearer 3 = .ok (.getfield 267, 3) := by decide +kernel
theorem dX12_bearer_6 : decode cX12_bearer 6 = .ok (.iconst 1, 1) := by decide +kernel
theorem dX12_bearer_7 : decode cX12_bearer 7 = .ok (.isub, 1) := by decide +kernel
theorem dX12_bearer_8 : decode cX12_bearer 8 = .ok (.invokestatic 220, 3) := by decide +kernel
theorem dX12_bearer_11 : decode cX12_bearer 11 = .ok (.ifCond .eq 12, 3) := by decide +kernel
theorem dX12_bearer_14 : decode cX12_bearer 14 = .ok (.aload_n 0, 1) := by decide +kernel
theorem dX12_bearer_15 : decode cX12_bearer 15 = .ok (.getfield 55, 3) := by decide +kernel
theorem dX12_bearer_18 : decode cX12_bearer 18 = .ok (.iload_n 1, 1) := by decide +kernel
theorem dX12_bearer_19 : decode cX12_bearer 19 = .ok (.iaload, 1) := by decide +kernel
theorem dX12_bearer_20 : decode cX12_bearer 20 = .ok (.goto 4, 3) := by decide +kernel
theorem dX12_bearer_23 : decode cX12_bearer 23 = .ok (.iconst (-1), 1) := by decide +kernel
theorem dX12_bearer_24 : decode cX12_bearer 24 = .ok (.ireturn, 1) := by decide +kernel
theorem dX12_law_0 : decode cX12_law 0 = .ok (.iload_n 1, 1) := by decide +kernel
theorem dX12_law_1 : decode cX12_law 1 = .ok (.iconst (-1), 1) := by decide +kernel
theorem dX12_law_2 : decode cX12_law 2 = .ok (.aload_n 0, 1) := by decide +kernel
theorem dX12_law_3 : decode cX12_law 3 = .ok (.getfield 289, 3) := by decide +kernel
theorem dX12_law_6 : decode cX12_law 6 = .ok (.iconst 1, 1) := by decide +kernel
theorem dX12_law_7 : decode cX12_law 7 = .ok (.isub, 1) := by decide +kernel
theorem dX12_law_8 : decode cX12_law 8 = .ok (.invokestatic 220, 3) := by decide +kernel
theorem dX12_law_11 : decode cX12_law 11 = .ok (.ifCond .ne 5, 3) := by decide +kernel
theorem dX12_law_14 : decode cX12_law 14 = .ok (.iconst 0, 1) := by decide +kernel
theorem dX12_law_15 : decode cX12_law 15 = .ok (.ireturn, 1) := by decide +kernel
theorem dX12_law_16 : decode cX12_law 16 = .ok (.aload_n 0, 1) := by decide +kernel
theorem dX12_law_17 : decode cX12_law 17 = .ok (.iload_n 1, 1) := by decide +kernel
theorem dX12_law_18 : decode cX12_law 18 = .ok (.putfield 64, 3) := by decide +kernel
theorem dX12_law_21 : decode cX12_law 21 = .ok (.iconst 1, 1) := by decide +kernel
theorem dX12_law_22 : decode cX12_law 22 = .ok (.ireturn, 1) := by decide +kernel
theorem dX12_steps_0 : decode cX12_steps 0 = .ok (.aload_n 0, 1) := by decide +kernel
theorem dX12_steps_1 : decode cX12_steps 1 = .ok (.iload_n 2, 1) := by decide +kernel
theorem dX12_steps_2 : decode cX12_steps 2 = .ok (.invokevirtual 332, 3) := by decide +kernel
theorem dX12_steps_5 : decode cX12_steps 5 = .ok (.ifCond .eq 16, 3) := by decide +kernel
theorem dX12_steps_8 : decode cX12_steps 8 = .ok (.aload_n 0, 1) := by decide +kernel
theorem dX12_steps_9 : decode cX12_steps 9 = .ok (.iload_n 1, 1) := by decide +kernel
theorem dX12_steps_10 : decode cX12_steps 10 = .ok (.invokevirtual 332, 3) := by decide +kernel
theorem dX12_steps_13 : decode cX12_steps 13 = .ok (.ifCond .ne 10, 3) := by decide +kernel
theorem dX12_steps_16 : decode cX12_steps 16 = .ok (.iload_n 1, 1) := by decide +kernel
theorem dX12_steps_17 : decode cX12_steps 17 = .ok (.iconst (-1), 1) := by decide +kernel
theorem dX12_steps_18 : decode cX12_steps 18 = .ok (.if_icmp .eq 5, 3) := by decide +kernel
theorem dX12_steps_21 : decode cX12_steps 21 = .ok (.iconst (-1), 1) := by decide +kernel
theorem dX12_steps_22 : decode cX12_steps 22 = .ok (.ireturn, 1) := by decide +kernel
theorem dX12_steps_23 : decode cX12_steps 23 = .ok (.iload_n 1, 1) := by decide +kernel
theorem dX12_steps_24 : decode cX12_steps 24 = .ok (.iconst (-1), 1) := by decide +kernel
theorem dX12_steps_25 : decode cX12_steps 25 = .ok (.if_icmp .ne 11, 3) := by decide +kernel
theorem dX12_steps_28 : decode cX12_steps 28 = .ok (.aload_n 0, 1) := by decide +kernel
theorem dX12_steps_29 : decode cX12_steps 29 = .ok (.iload_n 2, 1) := by decide +kernel
theorem dX12_steps_30 : decode cX12_steps 30 = .ok (.invokevirtual 313, 3) := by decide +kernel
theorem dX12_steps_33 : decode cX12_steps 33 = .ok (.goto 9, 3) := by decide +kernel
theorem dX12_steps_36 : decode cX12_steps 36 = .ok (.aload_n 0, 1) := by decide +kernel
theorem dX12_steps_37 : decode cX12_steps 37 = .ok (.iload_n 1, 1) := by decide +kernel
theorem dX12_steps_38 : decode cX12_steps 38 = .ok (.iload_n 2, 1) := by decide +kernel
theorem dX12_steps_39 : decode cX12_steps 39 = .ok (.invokevirtual 305, 3) := by decide +kernel
theorem dX12_steps_42 : decode cX12_steps 42 = .ok (.ireturn, 1) := by decide +kernel
theorem dX12_stands_0 : decode cX12_stands 0 = .ok (.aload_n 0, 1) := by decide +kernel
theorem dX12_stands_1 : decode cX12_stands 1 = .ok (.iload_n 1, 1) := by decide +kernel
theorem dX12_stands_2 : decode cX12_stands 2 = .ok (.invokevirtual 332, 3) := by decide +kernel
theorem dX12_stands_5 : decode cX12_stands 5 = .ok (.ifCond .eq 11, 3) := by decide +kernel
theorem dX12_stands_8 : decode cX12_stands 8 = .ok (.aload_n 0, 1) := by decide +kernel
theorem dX12_stands_9 : decode cX12_stands 9 = .ok (.iload_n 1, 1) := by decide +kernel
theorem dX12_stands_10 : decode cX12_stands 10 = .ok (.invokevirtual 326, 3) := by decide +kernel
theorem dX12_stands_13 : decode cX12_stands 13 = .ok (.goto 4, 3) := by decide +kernel
theorem dX12_stands_16 : decode cX12_stands 16 = .ok (.iconst (-1), 1) := by decide +kernel
theorem dX12_stands_17 : decode cX12_stands 17 = .ok (.ireturn, 1) := by decide +kernel
theorem dX12_keep_0 : decode cX12_keep 0 = .ok (.aload_n 0, 1) := by decide +kernel
theorem dX12_keep_1 : decode cX12_keep 1 = .ok (.getfield 279, 3) := by decide +kernel
theorem dX12_keep_4 : decode cX12_keep 4 = .ok (.bipush 40, 2) := by decide +kernel
theorem dX12_keep_6 : decode cX12_keep 6 = .ok (.if_icmp .ne 46, 3) := by decide +kernel
theorem dX12_keep_9 : decode cX12_keep 9 = .ok (.sipush 255, 3) := by decide +kernel
theorem dX12_keep_12 : decode cX12_keep 12 = .ok (.istore_n 1, 1) := by decide +kernel
theorem dX12_keep_13 : decode cX12_keep 13 = .ok (.iload_n 1, 1) := by decide +kernel
theorem dX12_keep_14 : decode cX12_keep 14 = .ok (.sipush 10200, 3) := by decide +kernel
theorem dX12_keep_17 : decode cX12_keep 17 = .ok (.if_icmp .ge 25, 3) := by decide +kernel
theorem dX12_keep_20 : decode cX12_keep 20 = .ok (.aload_n 0, 1) := by decide +kernel
theorem dX12_keep_21 : decode cX12_keep 21 = .ok (.getfield 71, 3) := by decide +kernel
theorem dX12_keep_24 : decode cX12_keep 24 = .ok (.iload_n 1, 1) := by decide +kernel
theorem dX12_keep_25 : decode cX12_keep 25 = .ok (.sipush 255, 3) := by decide +kernel
theorem dX12_keep_28 : decode cX12_keep 28 = .ok (.isub, 1) := by decide +kernel
theorem dX12_keep_29 : decode cX12_keep 29 = .ok (.aload_n 0, 1) := by decide +kernel
theorem dX12_keep_30 : decode cX12_keep 30 = .ok (.getfield 71, 3) := by decide +kernel
theorem dX12_keep_33 : decode cX12_keep 33 = .ok (.iload_n 1, 1) := by decide +kernel
theorem dX12_keep_34 : decode cX12_keep 34 = .ok (.iaload, 1) := by decide +kernel
theorem dX12_keep_35 : decode cX12_keep 35 = .ok (.iastore, 1) := by decide +kernel
theorem dX12_keep_36 : decode cX12_keep 36 = .ok (.iinc 1 1, 3) := by decide +kernel
theorem dX12_keep_39 : decode cX12_keep 39 = .ok (.goto (-26), 3) := by decide +kernel
theorem dX12_keep_42 : decode cX12_keep 42 = .ok (.aload_n 0, 1) := by decide +kernel
theorem dX12_keep_43 : decode cX12_keep 43 = .ok (.dup, 1) := by decide +kernel
theorem dX12_keep_44 : decode cX12_keep 44 = .ok (.getfield 279, 3) := by decide +kernel
theorem dX12_keep_47 : decode cX12_keep 47 = .ok (.iconst 1, 1) := by decide +kernel
theorem dX12_keep_48 : decode cX12_keep 48 = .ok (.isub, 1) := by decide +kernel
theorem dX12_keep_49 : decode cX12_keep 49 = .ok (.putfield 279, 3) := by decide +kernel
theorem dX12_keep_52 : decode cX12_keep 52 = .ok (.iconst 0, 1) := by decide +kernel
theorem dX12_keep_53 : decode cX12_keep 53 = .ok (.istore_n 1, 1) := by decide +kernel
theorem dX12_keep_54 : decode cX12_keep 54 = .ok (.iload_n 1, 1) := by decide +kernel
theorem dX12_keep_55 : decode cX12_keep 55 = .ok (.sipush 255, 3) := by decide +kernel
theorem dX12_keep_58 : decode cX12_keep 58 = .ok (.if_icmp .ge 30, 3) := by decide +kernel
theorem dX12_keep_61 : decode cX12_keep 61 = .ok (.aload_n 0, 1) := by decide +kernel
theorem dX12_keep_62 : decode cX12_keep 62 = .ok (.getfield 71, 3) := by decide +kernel
theorem dX12_keep_65 : decode cX12_keep 65 = .ok (.sipush 255, 3) := by decide +kernel
theorem dX12_keep_68 : decode cX12_keep 68 = .ok (.aload_n 0, 1) := by decide +kernel
theorem dX12_keep_69 : decode cX12_keep 69 = .ok (.getfield 279, 3) := by decide +kernel
theorem dX12_keep_72 : decode cX12_keep 72 = .ok (.imul, 1) := by decide +kernel
theorem dX12_keep_73 : decode cX12_keep 73 = .ok (.iload_n 1, 1) := by decide +kernel
theorem dX12_keep_74 : decode cX12_keep 74 = .ok (.iadd, 1) := by decide +kernel
theorem dX12_keep_75 : decode cX12_keep 75 = .ok (.aload_n 0, 1) := by decide +kernel
theorem dX12_keep_76 : decode cX12_keep 76 = .ok (.getfield 58, 3) := by decide +kernel
theorem dX12_keep_79 : decode cX12_keep 79 = .ok (.iload_n 1, 1) := by decide +kernel
theorem dX12_keep_80 : decode cX12_keep 80 = .ok (.iaload, 1) := by decide +kernel
theorem dX12_keep_81 : decode cX12_keep 81 = .ok (.iastore, 1) := by decide +kernel
theorem dX12_keep_82 : decode cX12_keep 82 = .ok (.iinc 1 1, 3) := by decide +kernel
theorem dX12_keep_85 : decode cX12_keep 85 = .ok (.goto (-31), 3) := by decide +kernel
theorem dX12_keep_88 : decode cX12_keep 88 = .ok (.aload_n 0, 1) := by decide +kernel
theorem dX12_keep_89 : decode cX12_keep 89 = .ok (.dup, 1) := by decide +kernel
theorem dX12_keep_90 : decode cX12_keep 90 = .ok (.getfield 279, 3) := by decide +kernel
theorem dX12_keep_93 : decode cX12_keep 93 = .ok (.iconst 1, 1) := by decide +kernel
theorem dX12_keep_94 : decode cX12_keep 94 = .ok (.iadd, 1) := by decide +kernel
theorem dX12_keep_95 : decode cX12_keep 95 = .ok (.putfield 279, 3) := by decide +kernel
theorem dX12_keep_98 : decode cX12_keep 98 = .ok (.return_, 1) := by decide +kernel
theorem dX12_isRefused_0 : decode cX12_isRefused 0 = .ok (.iload_n 1, 1) := by decide +kernel
theorem dX12_isRefused_1 : decode cX12_isRefused 1 = .ok (.iconst (-1), 1) := by decide +kernel
theorem dX12_isRefused_2 : decode cX12_isRefused 2 = .ok (.if_icmp .eq 13, 3) := by decide +kernel
theorem dX12_isRefused_5 : decode cX12_isRefused 5 = .ok (.aload_n 0, 1) := by decide +kernel
theorem dX12_isRefused_6 : decode cX12_isRefused 6 = .ok (.getfield 61, 3) := by decide +kernel
theorem dX12_isRefused_9 : decode cX12_isRefused 9 = .ok (.iload_n 1, 1) := by decide +kernel
theorem dX12_isRefused_10 : decode cX12_isRefused 10 = .ok (.dup2, 1) := by decide +kernel
theorem dX12_isRefused_11 : decode cX12_isRefused 11 = .ok (.iaload, 1) := by decide +kernel
theorem dX12_isRefused_12 : decode cX12_isRefused 12 = .ok (.iconst 1, 1) := by decide +kernel
theorem dX12_isRefused_13 : decode cX12_isRefused 13 = .ok (.iadd, 1) := by decide +kernel
theorem dX12_isRefused_14 : decode cX12_isRefused 14 = .ok (.iastore, 1) := by decide +kernel
theorem dX12_isRefused_15 : decode cX12_isRefused 15 = .ok (.iload_n 1, 1) := by decide +kernel
theorem dX12_isRefused_16 : decode cX12_isRefused 16 = .ok (.iconst (-1), 1) := by decide +kernel
theorem dX12_isRefused_17 : decode cX12_isRefused 17 = .ok (.if_icmp .eq 7, 3) := by decide +kernel
theorem dX12_isRefused_20 : decode cX12_isRefused 20 = .ok (.iconst 1, 1) := by decide +kernel
theorem dX12_isRefused_21 : decode cX12_isRefused 21 = .ok (.goto 4, 3) := by decide +kernel
theorem dX12_isRefused_24 : decode cX12_isRefused 24 = .ok (.iconst 0, 1) := by decide +kernel
theorem dX12_isRefused_25 : decode cX12_isRefused 25 = .ok (.ireturn, 1) := by decide +kernel
theorem dX12_whyNot_0 : decode cX12_whyNot 0 = .ok (.aload_n 0, 1) := by decide +kernel
