theorem dX0_init_0 : decode cX0_init 0 = .ok (.aload_n 0, 1) := by decide +kernel
theorem dX0_init_1 : decode cX0_init 1 = .ok (.invokespecial 3, 3) := by decide +kernel
theorem dX0_init_4 : decode cX0_init 4 = .ok (.aload_n 0, 1) := by decide +kernel
theorem dX0_init_5 : decode cX0_init 5 = .ok (.bipush 7, 2) := by decide +kernel
theorem dX0_init_7 : decode cX0_init 7 = .ok (.newarray .int, 2) := by decide +kernel
theorem dX0_init_9 : decode cX0_init 9 = .ok (.putfield 9, 3) := by decide +kernel
theorem dX0_init_12 : decode cX0_init 12 = .ok (.aload_n 0, 1) := by decide +kernel
theorem dX0_init_13 : decode cX0_init 13 = .ok (.iconst (-1), 1) := by decide +kernel
theorem dX0_init_14 : decode cX0_init 14 = .ok (.putfield 15, 3) := by decide +kernel
theorem dX0_init_17 : decode cX0_init 17 = .ok (.return_, 1) := by decide +kernel
theorem dX0_begin_0 : decode cX0_begin 0 = .ok (.iconst 0, 1) := by decide +kernel
theorem dX0_begin_1 : decode cX0_begin 1 = .ok (.istore_n 2, 1) := by decide +kernel
theorem dX0_begin_2 : decode cX0_begin 2 = .ok (.iload_n 2, 1) := by decide +kernel
theorem dX0_begin_3 : decode cX0_begin 3 = .ok (.bipush 7, 2) := by decide +kernel
theorem dX0_begin_5 : decode cX0_begin 5 = .ok (.if_icmp .ge 19, 3) := by decide +kernel
theorem dX0_begin_8 : decode cX0_begin 8 = .ok (.aload_n 0, 1) := by decide +kernel
theorem dX0_begin_9 : decode cX0_begin 9 = .ok (.iload_n 2, 1) := by decide +kernel
theorem dX0_begin_10 : decode cX0_begin 10 = .ok (.aload_n 1, 1) := by decide +kernel
theorem dX0_begin_11 : decode cX0_begin 11 = .ok (.iload_n 2, 1) := by decide +kernel
theorem dX0_begin_12 : decode cX0_begin 12 = .ok (.invokevirtual 19, 3) := by decide +kernel
theorem dX0_begin_15 : decode cX0_begin 15 = .ok (.invokevirtual 25, 3) := by decide +kernel
theorem dX0_begin_18 : decode cX0_begin 18 = .ok (.iinc 2 1, 3) := by decide +kernel
theorem dX0_begin_21 : decode cX0_begin 21 = .ok (.goto (-19), 3) := by decide +kernel
theorem dX0_begin_24 : decode cX0_begin 24 = .ok (.aload_n 0, 1) := by decide +kernel
theorem dX0_begin_25 : decode cX0_begin 25 = .ok (.aload_n 1, 1) := by decide +kernel
theorem dX0_begin_26 : decode cX0_begin 26 = .ok (.invokevirtual 29, 3) := by decide +kernel
theorem dX0_begin_29 : decode cX0_begin 29 = .ok (.putfield 33, 3) := by decide +kernel
theorem dX0_begin_32 : decode cX0_begin 32 = .ok (.aload_n 0, 1) := by decide +kernel
theorem dX0_begin_33 : decode cX0_begin 33 = .ok (.iconst 0, 1) := by decide +kernel
theorem dX0_begin_34 : decode cX0_begin 34 = .ok (.putfield 36, 3) := by decide +kernel
theorem dX0_begin_37 : decode cX0_begin 37 = .ok (.aload_n 0, 1) := by decide +kernel
theorem dX0_begin_38 : decode cX0_begin 38 = .ok (.iconst 0, 1) := by decide +kernel
theorem dX0_begin_39 : decode cX0_begin 39 = .ok (.putfield 39, 3) := by decide +kernel
theorem dX0_begin_42 : decode cX0_begin 42 = .ok (.aload_n 0, 1) := by decide +kernel
theorem dX0_begin_43 : decode cX0_begin 43 = .ok (.iconst 0, 1) := by decide +kernel
theorem dX0_begin_44 : decode cX0_begin 44 = .ok (.putfield 42, 3) := by decide +kernel
theorem dX0_begin_47 : decode cX0_begin 47 = .ok (.aload_n 0, 1) := by decide +kernel
theorem dX0_begin_48 : decode cX0_begin 48 = .ok (.invokevirtual 45, 3) := by decide +kernel
theorem dX0_begin_51 : decode cX0_begin 51 = .ok (.return_, 1) := by decide +kernel
theorem dX0_goHome_0 : decode cX0_goHome 0 = .ok (.aload_n 0, 1) := by decide +kernel
theorem dX0_goHome_1 : decode cX0_goHome 1 = .ok (.iconst (-1), 1) := by decide +kernel
theorem dX0_goHome_2 : decode cX0_goHome 2 = .ok (.putfield 15, 3) := by decide +kernel
theorem dX0_goHome_5 : decode cX0_goHome 5 = .ok (.aload_n 0, 1) := by decide +kernel
theorem dX0_goHome_6 : decode cX0_goHome 6 = .ok (.iconst 0, 1) := by decide +kernel
theorem dX0_goHome_7 : decode cX0_goHome 7 = .ok (.putfield 48, 3) := by decide +kernel
theorem dX0_goHome_10 : decode cX0_goHome 10 = .ok (.aload_n 0, 1) := by decide +kernel
theorem dX0_goHome_11 : decode cX0_goHome 11 = .ok (.iconst 0, 1) := by decide +kernel
theorem dX0_goHome_12 : decode cX0_goHome 12 = .ok (.putfield 51, 3) := by decide +kernel
theorem dX0_goHome_15 : decode cX0_goHome 15 = .ok (.aload_n 0, 1) := by decide +kernel
theorem dX0_goHome_16 : decode cX0_goHome 16 = .ok (.iconst 0, 1) := by decide +kernel
theorem dX0_goHome_17 : decode cX0_goHome 17 = .ok (.putfield 54, 3) := by decide +kernel
theorem dX0_goHome_20 : decode cX0_goHome 20 = .ok (.return_, 1) := by decide +kernel
theorem dX0_copy_0 : decode cX0_copy 0 = .ok (.aload_n 1, 1) := by decide +kernel
theorem dX0_copy_1 : decode cX0_copy 1 = .ok (.getfield 9, 3) := by decide +kernel
theorem dX0_copy_4 : decode cX0_copy 4 = .ok (.iconst 0, 1) := by decide +kernel
theorem dX0_copy_5 : decode cX0_copy 5 = .ok (.aload_n 0, 1) := by decide +kernel
theorem dX0_copy_6 : decode cX0_copy 6 = .ok (.getfield 9, 3) := by decide +kernel
theorem dX0_copy_9 : decode cX0_copy 9 = .ok (.iconst 0, 1) := by decide +kernel
theorem dX0_copy_10 : decode cX0_copy 10 = .ok (.bipush 7, 2) := by decide +kernel
theorem dX0_copy_12 : decode cX0_copy 12 = .ok (.invokestatic 57, 3) := by decide +kernel
theorem dX0_copy_15 : decode cX0_copy 15 = .ok (.aload_n 0, 1) := by decide +kernel
theorem dX0_copy_16 : decode cX0_copy 16 = .ok (.aload_n 1, 1) := by decide +kernel
theorem dX0_copy_17 : decode cX0_copy 17 = .ok (.getfield 33, 3) := by decide +kernel
theorem dX0_copy_20 : decode cX0_copy 20 = .ok (.putfield 33, 3) := by decide +kernel
theorem dX0_copy_23 : decode cX0_copy 23 = .ok (.aload_n 0, 1) := by decide +kernel
theorem dX0_copy_24 : decode cX0_copy 24 = .ok (.aload_n 1, 1) := by decide +kernel
theorem dX0_copy_25 : decode cX0_copy 25 = .ok (.getfield 48, 3) := by decide +kernel
theorem dX0_copy_28 : decode cX0_copy 28 = .ok (.putfield 48, 3) := by decide +kernel
theorem dX0_copy_31 : decode cX0_copy 31 = .ok (.aload_n 0, 1) := by decide +kernel
theorem dX0_copy_32 : decode cX0_copy 32 = .ok (.aload_n 1, 1) := by decide +kernel
theorem dX0_copy_33 : decode cX0_copy 33 = .ok (.getfield 51, 3) := by decide +kernel
theorem dX0_copy_36 : decode cX0_copy 36 = .ok (.putfield 51, 3) := by decide +kernel
theorem dX0_copy_39 : decode cX0_copy 39 = .ok (.aload_n 0, 1) := by decide +kernel
theorem dX0_copy_40 : decode cX0_copy 40 = .ok (.aload_n 1, 1) := by decide +kernel
theorem dX0_copy_41 : decode cX0_copy 41 = .ok (.getfield 15, 3) := by decide +kernel
theorem dX0_copy_44 : decode cX0_copy 44 = .ok (.putfield 15, 3) := by decide +kernel
theorem dX0_copy_47 : decode cX0_copy 47 = .ok (.aload_n 0, 1) := by decide +kernel
theorem dX0_copy_48 : decode cX0_copy 48 = .ok (.aload_n 1, 1) := by decide +kernel
theorem dX0_copy_49 : decode cX0_copy 49 = .ok (.getfield 54, 3) := by decide +kernel
theorem dX0_copy_52 : decode cX0_copy 52 = .ok (.putfield 54, 3) := by decide +kernel
theorem dX0_copy_55 : decode cX0_copy 55 = .ok (.aload_n 0, 1) := by decide +kernel
theorem dX0_copy_56 : decode cX0_copy 56 = .ok (.aload_n 1, 1) := by decide +kernel
theorem dX0_copy_57 : decode cX0_copy 57 = .ok (.getfield 36, 3) := by decide +kernel
theorem dX0_copy_60 : decode cX0_copy 60 = .ok (.putfield 36, 3) := by decide +kernel
theorem dX0_copy_63 : decode cX0_copy 63 = .ok (.aload_n 0, 1) := by decide +kernel
theorem dX0_copy_64 : decode cX0_copy 64 = .ok (.aload_n 1, 1) := by decide +kernel
theorem dX0_copy_65 : decode cX0_copy 65 = .ok (.getfield 39, 3) := by decide +kernel
theorem dX0_copy_68 : decode cX0_copy 68 = .ok (.putfield 39, 3) := by decide +kernel
theorem dX0_copy_71 : decode cX0_copy 71 = .ok (.aload_n 0, 1) := by decide +kernel
theorem dX0_copy_72 : decode cX0_copy 72 = .ok (.aload_n 1, 1) := by decide +kernel
theorem dX0_copy_73 : decode cX0_copy 73 = .ok (.getfield 42, 3) := by decide +kernel
theorem dX0_copy_76 : decode cX0_copy 76 = .ok (.putfield 42, 3) := by decide +kernel
theorem dX0_copy_79 : decode cX0_copy 79 = .ok (.return_, 1) := by decide +kernel
theorem dX0_grievanceOf_0 : decode cX0_grievanceOf 0 = .ok (.aload_n 0, 1) := by decide +kernel
theorem dX0_grievanceOf_1 : decode cX0_grievanceOf 1 = .ok (.getfield 9, 3) := by decide +kernel
theorem dX0_grievanceOf_4 : decode cX0_grievanceOf 4 = .ok (.iload_n 1, 1) := by decide +kernel
theorem dX0_grievanceOf_5 : decode cX0_grievanceOf 5 = .ok (.invokestatic 63, 3) := by decide +kernel
theorem dX0_grievanceOf_8 : decode cX0_grievanceOf 8 = .ok (.ireturn, 1) := by decide +kernel
theorem dX0_setGrievance_0 : decode cX0_setGrievance 0 = .ok (.aload_n 0, 1) := by decide +kernel
theorem dX0_setGrievance_1 : decode cX0_setGrievance 1 = .ok (.getfield 9, 3) := by decide +kernel
theorem dX0_setGrievance_4 : decode cX0_setGrievance 4 = .ok (.iload_n 1, 1) := by decide +kernel
theorem dX0_setGrievance_5 : decode cX0_setGrievance 5 = .ok (.iload_n 2, 1) := by decide +kernel
theorem dX0_setGrievance_6 : decode cX0_setGrievance 6 = .ok (.invokestatic 67, 3) := by decide +kernel
theorem dX0_setGrievance_9 : decode cX0_setGrievance 9 = .ok (.return_, 1) := by decide +kernel
theorem dX0_wasAt_0 : decode cX0_wasAt 0 = .ok (.aload_n 0, 1) := by decide +kernel
theorem dX0_wasAt_1 : decode cX0_wasAt 1 = .ok (.getfield 54, 3) := by decide +kernel
theorem dX0_wasAt_4 : decode cX0_wasAt 4 = .ok (.iload_n 1, 1) := by decide +kernel
theorem dX0_wasAt_5 : decode cX0_wasAt 5 = .ok (.invokestatic 71, 3) := by decide +kernel
theorem dX0_wasAt_8 : decode cX0_wasAt 8 = .ok (.ireturn, 1) := by decide +kernel
theorem dX0_doors_0 : decode cX0_doors 0 = .ok (.aload_n 0, 1) := by decide +kernel
theorem dX0_doors_1 : decode cX0_doors 1 = .ok (.getfield 54, 3) := by decide +kernel
theorem dX0_doors_4 : decode cX0_doors 4 = .ok (.invokestatic 75, 3) := by decide +kernel
theorem dX0_doors_7 : decode cX0_doors 7 = .ok (.ireturn, 1) := by decide +kernel
theorem dX0_logLength_0 : decode cX0_logLength 0 = .ok (.bipush 60, 2) := by decide +kernel
theorem dX0_logLength_2 : decode cX0_logLength 2 = .ok (.aload_n 0, 1) := by decide +kernel
theorem dX0_logLength_3 : decode cX0_logLength 3 = .ok (.getfield 42, 3) := by decide +kernel
theorem dX0_logLength_6 : decode cX0_logLength 6 = .ok (.invokestatic 80, 3) := by decide +kernel
theorem dX0_logLength_9 : decode cX0_logLength 9 = .ok (.ireturn, 1) := by decide +kernel
theorem dX1_init_0 : decode cX1_init 0 = .ok (.aload_n 0, 1) := by decide +kernel
theorem dX1_init_1 : decode cX1_init 1 = .ok (.invokespecial 3, 3) := by decide +kernel
theorem dX1_init_4 : decode cX1_init 4 = .ok (.aload_n 0, 1) := by decide +kernel
theorem dX1_init_5 : decode cX1_init 5 = .ok (.sipush 240, 3) := by decide +kernel
theorem dX1_init_8 : decode cX1_init 8 = .ok (.newarray .int, 2) := by decide +kernel
theorem dX1_init_10 : decode cX1_init 10 = .ok (.putfield 9, 3) := by decide +kernel
theorem dX1_init_13 : decode cX1_init 13 = .ok (.return_, 1) := by decide +kernel
theorem dX1_clear_0 : decode cX1_clear 0 = .ok (.aload_n 0, 1) := by decide +kernel
theorem dX1_clear_1 : decode cX1_clear 1 = .ok (.iconst 0, 1) := by decide +kernel
theorem dX1_clear_2 : decode cX1_clear 2 = .ok (.putfield 15, 3) := by decide +kernel
theorem dX1_clear_5 : decode cX1_clear 5 = .ok (.return_, 1) := by decide +kernel
theorem dX1_copy_0 : decode cX1_copy 0 = .ok (.aload_n 1, 1) := by decide +kernel
theorem dX1_copy_1 : decode cX1_copy 1 = .ok (.getfield 9, 3) := by decide +kernel
theorem dX1_copy_4 : decode cX1_copy 4 = .ok (.iconst 0, 1) := by decide +kernel
theorem dX1_copy_5 : decode cX1_copy 5 = .ok (.aload_n 0, 1) := by decide +kernel
theorem dX1_copy_6 : decode cX1_copy 6 = .ok (.getfield 9, 3) := by decide +kernel
theorem dX1_copy_9 : decode cX1_copy 9 = .ok (.iconst 0, 1) := by decide +kernel
theorem dX1_copy_10 : decode cX1_copy 10 = .ok (.sipush 240, 3) := by decide +kernel
theorem dX1_copy_13 : decode cX1_copy 13 = .ok (.invokestatic 19, 3) := by decide +kernel
theorem dX1_copy_16 : decode cX1_copy 16 = .ok (.aload_n 0, 1) := by decide +kernel
theorem dX1_copy_17 : decode cX1_copy 17 = .ok (.aload_n 1, 1) := by decide +kernel
theorem dX1_copy_18 : decode cX1_copy 18 = .ok (.getfield 15, 3) := by decide +kernel
theorem dX1_copy_21 : decode cX1_copy 21 = .ok (.putfield 15, 3) := by decide +kernel
theorem dX1_copy_24 : decode cX1_copy 24 = .ok (.return_, 1) := by decide +kernel
theorem dX1_add_0 : decode cX1_add 0 = .ok (.aload_n 0, 1) := by decide +kernel
theorem dX1_add_1 : decode cX1_add 1 = .ok (.getfield 15, 3) := by decide +kernel
theorem dX1_add_4 : decode cX1_add 4 = .ok (.ifCond .lt 35, 3) := by decide +kernel
theorem dX1_add_7 : decode cX1_add 7 = .ok (.aload_n 0, 1) := by decide +kernel
theorem dX1_add_8 : decode cX1_add 8 = .ok (.getfield 15, 3) := by decide +kernel
theorem dX1_add_11 : decode cX1_add 11 = .ok (.aload_n 0, 1) := by decide +kernel
theorem dX1_add_12 : decode cX1_add 12 = .ok (.getfield 9, 3) := by decide +kernel
theorem dX1_add_15 : decode cX1_add 15 = .ok (.arraylength, 1) := by decide +kernel
theorem dX1_add_16 : decode cX1_add 16 = .ok (.if_icmp .ge 23, 3) := by decide +kernel
theorem dX1_add_19 : decode cX1_add 19 = .ok (.aload_n 0, 1) := by decide +kernel
theorem dX1_add_20 : decode cX1_add 20 = .ok (.getfield 9, 3) := by decide +kernel
theorem dX1_add_23 : decode cX1_add 23 = .ok (.aload_n 0, 1) := by decide +kernel
theorem dX1_add_24 : decode cX1_add 24 = .ok (.getfield 15, 3) := by decide +kernel
theorem dX1_add_27 : decode cX1_add 27 = .ok (.iload_n 1, 1) := by decide +kernel
theorem dX1_add_28 : decode cX1_add 28 = .ok (.iastore, 1) := by decide +kernel
theorem dX1_add_29 : decode cX1_add 29 = .ok (.aload_n 0, 1) := by decide +kernel
theorem dX1_add_30 : decode cX1_add 30 = .ok (.dup, 1) := by decide +kernel
theorem dX1_add_31 : decode cX1_add 31 = .ok (.getfield 15, 3) := by decide +kernel
theorem dX1_add_34 : decode cX1_add 34 = .ok (.iconst 1, 1) := by decide +kernel
theorem dX1_add_35 : decode cX1_add 35 = .ok (.iadd, 1) := by decide +kernel
theorem dX1_add_36 : decode cX1_add 36 = .ok (.putfield 15, 3) := by decide +kernel
theorem dX1_add_39 : decode cX1_add 39 = .ok (.return_, 1) := by decide +kernel
theorem dX1_size_0 : decode cX1_size 0 = .ok (.aload_n 0, 1) := by decide +kernel
theorem dX1_size_1 : decode cX1_size 1 = .ok (.getfield 15, 3) := by decide +kernel
theorem dX1_size_4 : decode cX1_size 4 = .ok (.ireturn, 1) := by decide +kernel
theorem dX1_signAt_0 : decode cX1_signAt 0 = .ok (.aload_n 0, 1) := by decide +kernel
theorem dX1_signAt_1 : decode cX1_signAt 1 = .ok (.getfield 9, 3) := by decide +kernel
theorem dX1_signAt_4 : decode cX1_signAt 4 = .ok (.iload_n 1, 1) := by decide +kernel
theorem dX1_signAt_5 : decode cX1_signAt 5 = .ok (.invokestatic 25, 3) := by decide +kernel
theorem dX1_signAt_8 : decode cX1_signAt 8 = .ok (.ireturn, 1) := by decide +kernel
theorem dX2_init_0 : decode cX2_init 0 = .ok (.aload_n 0, 1) := by decide +kernel
theorem dX2_init_1 : decode cX2_init 1 = .ok (.invokespecial 3, 3) := by decide +kernel
theorem dX2_init_4 : decode cX2_init 4 = .ok (.aload_n 0, 1) := by decide +kernel
theorem dX2_init_5 : decode cX2_init 5 = .ok (.iconst 4, 1) := by decide +kernel
theorem dX2_init_6 : decode cX2_init 6 = .ok (.anewarray 9, 3) := by decide +kernel
theorem dX2_init_9 : decode cX2_init 9 = .ok (.putfield 11, 3) := by decide +kernel
theorem dX2_init_12 : decode cX2_init 12 = .ok (.iconst 0, 1) := by decide +kernel
theorem dX2_init_13 : decode cX2_init 13 = .ok (.istore_n 1, 1) := by decide +kernel
theorem dX2_init_14 : decode cX2_init 14 = .ok (.iload_n 1, 1) := by decide +kernel
theorem dX2_init_15 : decode cX2_init 15 = .ok (.iconst 4, 1) := by decide +kernel
theorem dX2_init_16 : decode cX2_init 16 = .ok (.if_icmp .ge 22, 3) := by decide +kernel
theorem dX2_init_19 : decode cX2_init 19 = .ok (.aload_n 0, 1) := by decide +kernel
theorem dX2_init_20 : decode cX2_init 20 = .ok (.getfield 11, 3) := by decide +kernel
theorem dX2_init_23 : decode cX2_init 23 = .ok (.iload_n 1, 1) := by decide +kernel
theorem dX2_init_24 : decode cX2_init 24 = .ok (.new 9, 3) := by decide +kernel
theorem dX2_init_27 : decode cX2_init 27 = .ok (.dup, 1) := by decide +kernel
theorem dX2_init_28 : decode cX2_init 28 = .ok (.invokespecial 17, 3) := by decide +kernel
theorem dX2_init_31 : decode cX2_init 31 = .ok (.aastore, 1) := by decide +kernel
theorem dX2_init_32 : decode cX2_init 32 = .ok (.iinc 1 1, 3) := by decide +kernel
theorem dX2_init_35 : decode cX2_init 35 = .ok (.goto (-21), 3) := by decide +kernel
theorem dX2_init_38 : decode cX2_init 38 = .ok (.aload_n 0, 1) := by decide +kernel
theorem dX2_init_39 : decode cX2_init 39 = .ok (.bipush 32, 2) := by decide +kernel
theorem dX2_init_41 : decode cX2_init 41 = .ok (.newarray .int, 2) := by decide +kernel
theorem dX2_init_43 : decode cX2_init 43 = .ok (.putfield 18, 3) := by decide +kernel
theorem dX2_init_46 : decode cX2_init 46 = .ok (.aload_n 0, 1) := by decide +kernel
theorem dX2_init_47 : decode cX2_init 47 = .ok (.iconst (-1), 1) := by decide +kernel
theorem dX2_init_48 : decode cX2_init 48 = .ok (.putfield 22, 3) := by decide +kernel
theorem dX2_init_51 : decode cX2_init 51 = .ok (.return_, 1) := by decide +kernel
theorem dX2_number_0 : decode cX2_number 0 = .ok (.aload_n 0, 1) := by decide +kernel
theorem dX2_number_1 : decode cX2_number 1 = .ok (.getfield 26, 3) := by decide +kernel
theorem dX2_number_4 : decode cX2_number 4 = .ok (.ireturn, 1) := by decide +kernel
theorem dX2_holding_0 : decode cX2_holding 0 = .ok (.aload_n 0, 1) := by decide +kernel
theorem dX2_holding_1 : decode cX2_holding 1 = .ok (.getfield 22, 3) := by decide +kernel
theorem dX2_holding_4 : decode cX2_holding 4 = .ok (.ireturn, 1) := by decide +kernel
theorem dX2_add_0 : decode cX2_add 0 = .ok (.aload_n 0, 1) := by decide +kernel
theorem dX2_add_1 : decode cX2_add 1 = .ok (.aload_n 0, 1) := by decide +kernel
theorem dX2_add_2 : decode cX2_add 2 = .ok (.getfield 26, 3) := by decide +kernel
theorem dX2_add_5 : decode cX2_add 5 = .ok (.invokevirtual 29, 3) := by decide +kernel
theorem dX2_add_8 : decode cX2_add 8 = .ok (.astore_n 2, 1) := by decide +kernel
theorem dX2_add_9 : decode cX2_add 9 = .ok (.aload_n 2, 1) := by decide +kernel
theorem dX2_add_10 : decode cX2_add 10 = .ok (.ifnonnull 5, 3) := by decide +kernel
theorem dX2_add_13 : decode cX2_add 13 = .ok (.iconst (-1), 1) := by decide +kernel
theorem dX2_add_14 : decode cX2_add 14 = .ok (.ireturn, 1) := by decide +kernel
theorem dX2_add_15 : decode cX2_add 15 = .ok (.aload_n 2, 1) := by decide +kernel
theorem dX2_add_16 : decode cX2_add 16 = .ok (.aload_n 1, 1) := by decide +kernel
theorem dX2_add_17 : decode cX2_add 17 = .ok (.invokevirtual 33, 3) := by decide +kernel
theorem dX2_add_20 : decode cX2_add 20 = .ok (.aload_n 0, 1) := by decide +kernel
theorem dX2_add_21 : decode cX2_add 21 = .ok (.dup, 1) := by decide +kernel
theorem dX2_add_22 : decode cX2_add 22 = .ok (.getfield 26, 3) := by decide +kernel
theorem dX2_add_25 : decode cX2_add 25 = .ok (.iconst 1, 1) := by decide +kernel
theorem dX2_add_26 : decode cX2_add 26 = .ok (.iadd, 1) := by decide +kernel
theorem dX2_add_27 : decode cX2_add 27 = .ok (.putfield 26, 3) := by decide +kernel
theorem dX2_add_30 : decode cX2_add 30 = .ok (.aload_n 0, 1) := by decide +kernel
theorem dX2_add_31 : decode cX2_add 31 = .ok (.getfield 26, 3) := by decide +kernel
theorem dX2_add_34 : decode cX2_add 34 = .ok (.iconst 1, 1) := by decide +kernel
theorem dX2_add_35 : decode cX2_add 35 = .ok (.isub, 1) := by decide +kernel
theorem dX2_add_36 : decode cX2_add 36 = .ok (.ireturn, 1) := by decide +kernel
theorem dX2_choose_0 : decode cX2_choose 0 = .ok (.iload_n 1, 1) := by decide +kernel
theorem dX2_choose_1 : decode cX2_choose 1 = .ok (.iconst (-1), 1) := by decide +kernel
theorem dX2_choose_2 : decode cX2_choose 2 = .ok (.if_icmp .lt 11, 3) := by decide +kernel
theorem dX2_choose_5 : decode cX2_choose 5 = .ok (.iload_n 1, 1) := by decide +kernel
theorem dX2_choose_6 : decode cX2_choose 6 = .ok (.aload_n 0, 1) := by decide +kernel
theorem dX2_choose_7 : decode cX2_choose 7 = .ok (.getfield 26, 3) := by decide +kernel
theorem dX2_choose_10 : decode cX2_choose 10 = .ok (.if_icmp .lt 5, 3) := by decide +kernel
theorem dX2_choose_13 : decode cX2_choose 13 = .ok (.iconst 0, 1) := by decide +kernel
theorem dX2_choose_14 : decode cX2_choose 14 = .ok (.ireturn, 1) := by decide +kernel
theorem dX2_choose_15 : decode cX2_choose 15 = .ok (.aload_n 0, 1) := by decide +kernel
theorem dX2_choose_16 : decode cX2_choose 16 = .ok (.iload_n 1, 1) := by decide +kernel
theorem dX2_choose_17 : decode cX2_choose 17 = .ok (.putfield 22, 3) := by decide +kernel
theorem dX2_choose_20 : decode cX2_choose 20 = .ok (.iconst 1, 1) := by decide +kernel
theorem dX2_choose_21 : decode cX2_choose 21 = .ok (.ireturn, 1) := by decide +kernel
theorem dX2_lawAt_0 : decode cX2_lawAt 0 = .ok (.iload_n 1, 1) := by decide +kernel
theorem dX2_lawAt_1 : decode cX2_lawAt 1 = .ok (.ifCond .lt 21, 3) := by decide +kernel
theorem dX2_lawAt_4 : decode cX2_lawAt 4 = .ok (.iload_n 1, 1) := by decide +kernel
theorem dX2_lawAt_5 : decode cX2_lawAt 5 = .ok (.aload_n 0, 1) := by decide +kernel
theorem dX2_lawAt_6 : decode cX2_lawAt 6 = .ok (.getfield 11, 3) := by decide +kernel
theorem dX2_lawAt_9 : decode cX2_lawAt 9 = .ok (.arraylength, 1) := by decide +kernel
theorem dX2_lawAt_10 : decode cX2_lawAt 10 = .ok (.if_icmp .ge 12, 3) := by decide +kernel
theorem dX2_lawAt_13 : decode cX2_lawAt 13 = .ok (.aload_n 0, 1) := by decide +kernel
theorem dX2_lawAt_14 : decode cX2_lawAt 14 = .ok (.getfield 11, 3) := by decide +kernel
theorem dX2_lawAt_17 : decode cX2_lawAt 17 = .ok (.iload_n 1, 1) := by decide +kernel
theorem dX2_lawAt_18 : decode cX2_lawAt 18 = .ok (.aaload, 1) := by decide +kernel
theorem dX2_lawAt_19 : decode cX2_lawAt 19 = .ok (.goto 4, 3) := by decide +kernel
theorem dX2_lawAt_22 : decode cX2_lawAt 22 = .ok (.aconst_null, 1) := by decide +kernel
theorem dX2_lawAt_23 : decode cX2_lawAt 23 = .ok (.areturn, 1) := by decide +kernel
theorem dX2_standing_0 : decode cX2_standing 0 = .ok (.aload_n 0, 1) := by decide +kernel
theorem dX2_standing_1 : decode cX2_standing 1 = .ok (.aload_n 0, 1) := by decide +kernel
theorem dX2_standing_2 : decode cX2_standing 2 = .ok (.getfield 22, 3) := by decide +kernel
theorem dX2_standing_5 : decode cX2_standing 5 = .ok (.invokevirtual 29, 3) := by decide +kernel
theorem dX2_standing_8 : decode cX2_standing 8 = .ok (.astore 7, 2) := by decide +kernel
theorem dX2_standing_10 : decode cX2_standing 10 = .ok (.aload 7, 2) := by decide +kernel
theorem dX2_standing_12 : decode cX2_standing 12 = .ok (.ifnonnull 17, 3) := by decide +kernel
theorem dX2_standing_15 : decode cX2_standing 15 = .ok (.iload_n 2, 1) := by decide +kernel
theorem dX2_standing_16 : decode cX2_standing 16 = .ok (.ifCond .eq 7, 3) := by decide +kernel
theorem dX2_standing_19 : decode cX2_standing 19 = .ok (.iconst 1, 1) := by decide +kernel
theorem dX2_standing_20 : decode cX2_standing 20 = .ok (.goto 8, 3) := by decide +kernel
theorem dX2_standing_23 : decode cX2_standing 23 = .ok (.iload_n 1, 1) := by decide +kernel
theorem dX2_standing_24 : decode cX2_standing 24 = .ok (.iconst 2, 1) := by decide +kernel
theorem dX2_standing_25 : decode cX2_standing 25 = .ok (.idiv, 1) := by decide +kernel
theorem dX2_standing_26 : decode cX2_standing 26 = .ok (.iconst 1, 1) := by decide +kernel
theorem dX2_standing_27 : decode cX2_standing 27 = .ok (.iadd, 1) := by decide +kernel
theorem dX2_standing_28 : decode cX2_standing 28 = .ok (.ireturn, 1) := by decide +kernel
theorem dX2_standing_29 : decode cX2_standing 29 = .ok (.aload_n 0, 1) := by decide +kernel
theorem dX2_standing_30 : decode cX2_standing 30 = .ok (.iload_n 1, 1) := by decide +kernel
theorem dX2_standing_31 : decode cX2_standing 31 = .ok (.putfield 37, 3) := by decide +kernel
theorem dX2_standing_34 : decode cX2_standing 34 = .ok (.aload_n 0, 1) := by decide +kernel
theorem dX2_standing_35 : decode cX2_standing 35 = .ok (.iload_n 2, 1) := by decide +kernel
theorem dX2_standing_36 : decode cX2_standing 36 = .ok (.ifCond .eq 7, 3) := by decide +kernel
theorem dX2_standing_39 : decode cX2_standing 39 = .ok (.iconst 1, 1) := by decide +kernel
theorem dX2_standing_40 : decode cX2_standing 40 = .ok (.goto 4, 3) := by decide +kernel
theorem dX2_standing_43 : decode cX2_standing 43 = .ok (.iconst 0, 1) := by decide +kernel
theorem dX2_standing_44 : decode cX2_standing 44 = .ok (.putfield 40, 3) := by decide +kernel
theorem dX2_standing_47 : decode cX2_standing 47 = .ok (.aload_n 0, 1) := by decide +kernel
theorem dX2_standing_48 : decode cX2_standing 48 = .ok (.iload_n 3, 1) := by decide +kernel
theorem dX2_standing_49 : decode cX2_standing 49 = .ok (.putfield 43, 3) := by decide +kernel
theorem dX2_standing_52 : decode cX2_standing 52 = .ok (.aload_n 0, 1) := by decide +kernel
theorem dX2_standing_53 : decode cX2_standing 53 = .ok (.iload 4, 2) := by decide +kernel
theorem dX2_standing_55 : decode cX2_standing 55 = .ok (.putfield 46, 3) := by decide +kernel
theorem dX2_standing_58 : decode cX2_standing 58 = .ok (.aload_n 0, 1) := by decide +kernel
theorem dX2_standing_59 : decode cX2_standing 59 = .ok (.iload 5, 2) := by decide +kernel
theorem dX2_standing_61 : decode cX2_standing 61 = .ok (.putfield 49, 3) := by decide +kernel
theorem dX2_standing_64 : decode cX2_standing 64 = .ok (.aload_n 0, 1) := by decide +kernel
theorem dX2_standing_65 : decode cX2_standing 65 = .ok (.iload 6, 2) := by decide +kernel
theorem dX2_standing_67 : decode cX2_standing 67 = .ok (.putfield 52, 3) := by decide +kernel
theorem dX2_standing_70 : decode cX2_standing 70 = .ok (.aload_n 0, 1) := by decide +kernel
theorem dX2_standing_71 : decode cX2_standing 71 = .ok (.aload 7, 2) := by decide +kernel
theorem dX2_standing_73 : decode cX2_standing 73 = .ok (.invokevirtual 55, 3) := by decide +kernel
theorem dX2_standing_76 : decode cX2_standing 76 = .ok (.i2l, 1) := by decide +kernel
theorem dX2_standing_77 : decode cX2_standing 77 = .ok (.iconst 0, 1) := by decide +kernel
theorem dX2_standing_78 : decode cX2_standing 78 = .ok (.bipush 60, 2) := by decide +kernel
theorem dX2_standing_80 : decode cX2_standing 80 = .ok (.invokestatic 59, 3) := by decide +kernel
theorem dX2_standing_83 : decode cX2_standing 83 = .ok (.ireturn, 1) := by decide +kernel
theorem dX2_worthBy_0 : decode cX2_worthBy 0 = .ok (.iconst 0, 1) := by decide +kernel
theorem dX2_worthBy_1 : decode cX2_worthBy 1 = .ok (.istore_n 2, 1) := by decide +kernel
theorem dX2_worthBy_2 : decode cX2_worthBy 2 = .ok (.aload_n 0, 1) := by decide +kernel
theorem dX2_worthBy_3 : decode cX2_worthBy 3 = .ok (.iconst 0, 1) := by decide +kernel
theorem dX2_worthBy_4 : decode cX2_worthBy 4 = .ok (.putfield 63, 3) := by decide +kernel
theorem dX2_worthBy_7 : decode cX2_worthBy 7 = .ok (.iconst 0, 1) := by decide +kernel
theorem dX2_worthBy_8 : decode cX2_worthBy 8 = .ok (.istore_n 3, 1) := by decide +kernel
theorem dX2_worthBy_9 : decode cX2_worthBy 9 = .ok (.iload_n 3, 1) := by decide +kernel
theorem dX2_worthBy_10 : decode cX2_worthBy 10 = .ok (.aload_n 1, 1) := by decide +kernel
theorem dX2_worthBy_11 : decode cX2_worthBy 11 = .ok (.invokevirtual 66, 3) := by decide +kernel
theorem dX2_worthBy_14 : decode cX2_worthBy 14 = .ok (.if_icmp .ge 92, 3) := by decide +kernel
theorem dX2_worthBy_17 : decode cX2_worthBy 17 = .ok (.aload_n 1, 1) := by decide +kernel
theorem dX2_worthBy_18 : decode cX2_worthBy 18 = .ok (.iload_n 3, 1) := by decide +kernel
theorem dX2_worthBy_19 : decode cX2_worthBy 19 = .ok (.invokevirtual 70, 3) := by decide +kernel
theorem dX2_worthBy_22 : decode cX2_worthBy 22 = .ok (.istore 4, 2) := by decide +kernel
theorem dX2_worthBy_24 : decode cX2_worthBy 24 = .ok (.iload_n 2, 1) := by decide +kernel
theorem dX2_worthBy_25 : decode cX2_worthBy 25 = .ok (.ifCond .eq 19, 3) := by decide +kernel
theorem dX2_worthBy_28 : decode cX2_worthBy 28 = .ok (.iload 4, 2) := by decide +kernel
theorem dX2_worthBy_30 : decode cX2_worthBy 30 = .ok (.bipush (-59), 2) := by decide +kernel
theorem dX2_worthBy_32 : decode cX2_worthBy 32 = .ok (.if_icmp .eq 7, 3) := by decide +kernel
theorem dX2_worthBy_35 : decode cX2_worthBy 35 = .ok (.iconst 1, 1) := by decide +kernel
theorem dX2_worthBy_36 : decode cX2_worthBy 36 = .ok (.goto 4, 3) := by decide +kernel
theorem dX2_worthBy_39 : decode cX2_worthBy 39 = .ok (.iconst 0, 1) := by decide +kernel
theorem dX2_worthBy_40 : decode cX2_worthBy 40 = .ok (.istore_n 2, 1) := by decide +kernel
theorem dX2_worthBy_41 : decode cX2_worthBy 41 = .ok (.goto 59, 3) := by decide +kernel
theorem dX2_worthBy_44 : decode cX2_worthBy 44 = .ok (.iload 4, 2) := by decide +kernel
theorem dX2_worthBy_46 : decode cX2_worthBy 46 = .ok (.bipush (-59), 2) := by decide +kernel
theorem dX2_worthBy_48 : decode cX2_worthBy 48 = .ok (.if_icmp .ne 8, 3) := by decide +kernel
theorem dX2_worthBy_51 : decode cX2_worthBy 51 = .ok (.aload_n 0, 1) := by decide +kernel
theorem dX2_worthBy_52 : decode cX2_worthBy 52 = .ok (.invokevirtual 74, 3) := by decide +kernel
theorem dX2_worthBy_55 : decode cX2_worthBy 55 = .ok (.ireturn, 1) := by decide +kernel
theorem dX2_worthBy_56 : decode cX2_worthBy 56 = .ok (.iload 4, 2) := by decide +kernel
theorem dX2_worthBy_58 : decode cX2_worthBy 58 = .ok (.bipush (-63), 2) := by decide +kernel
theorem dX2_worthBy_60 : decode cX2_worthBy 60 = .ok (.if_icmp .ne 19, 3) := by decide +kernel
theorem dX2_worthBy_63 : decode cX2_worthBy 63 = .ok (.aload_n 0, 1) := by decide +kernel
theorem dX2_worthBy_64 : decode cX2_worthBy 64 = .ok (.invokevirtual 74, 3) := by decide +kernel
theorem dX2_worthBy_67 : decode cX2_worthBy 67 = .ok (.ifCond .ne 7, 3) := by decide +kernel
theorem dX2_worthBy_70 : decode cX2_worthBy 70 = .ok (.iconst 1, 1) := by decide +kernel
theorem dX2_worthBy_71 : decode cX2_worthBy 71 = .ok (.goto 4, 3) := by decide +kernel
theorem dX2_worthBy_74 : decode cX2_worthBy 74 = .ok (.iconst 0, 1) := by decide +kernel
theorem dX2_worthBy_75 : decode cX2_worthBy 75 = .ok (.istore_n 2, 1) := by decide +kernel
theorem dX2_worthBy_76 : decode cX2_worthBy 76 = .ok (.goto 24, 3) := by decide +kernel
theorem dX2_worthBy_79 : decode cX2_worthBy 79 = .ok (.iload 4, 2) := by decide +kernel
theorem dX2_worthBy_81 : decode cX2_worthBy 81 = .ok (.ifCond .lt 12, 3) := by decide +kernel
theorem dX2_worthBy_84 : decode cX2_worthBy 84 = .ok (.aload_n 0, 1) := by decide +kernel
theorem dX2_worthBy_85 : decode cX2_worthBy 85 = .ok (.iload 4, 2) := by decide +kernel
theorem dX2_worthBy_87 : decode cX2_worthBy 87 = .ok (.invokevirtual 77, 3) := by decide +kernel
theorem dX2_worthBy_90 : decode cX2_worthBy 90 = .ok (.goto 10, 3) := by decide +kernel
theorem dX2_worthBy_93 : decode cX2_worthBy 93 = .ok (.aload_n 0, 1) := by decide +kernel
theorem dX2_worthBy_94 : decode cX2_worthBy 94 = .ok (.iload 4, 2) := by decide +kernel
theorem dX2_worthBy_96 : decode cX2_worthBy 96 = .ok (.ineg, 1) := by decide +kernel
theorem dX2_worthBy_97 : decode cX2_worthBy 97 = .ok (.invokevirtual 81, 3) := by decide +kernel
theorem dX2_worthBy_100 : decode cX2_worthBy 100 = .ok (.iinc 3 1, 3) := by decide +kernel
theorem dX2_worthBy_103 : decode cX2_worthBy 103 = .ok (.goto (-94), 3) := by decide +kernel
theorem dX2_worthBy_106 : decode cX2_worthBy 106 = .ok (.iconst 0, 1) := by decide +kernel
theorem dX2_worthBy_107 : decode cX2_worthBy 107 = .ok (.ireturn, 1) := by decide +kernel
theorem dX2_work_0 : decode cX2_work 0 = .ok (.iload_n 1, 1) := by decide +kernel
theorem dX2_work_1 : decode cX2_work 1 = .ok (.lookupswitch 146 #[(33, 133), (100, 111), (103, 67), (110, 100), (113, 78), (116, 89), (121, 122)], 67) := by decide +kernel
theorem dX2_work_68 : decode cX2_work 68 = .ok (.aload_n 0, 1) := by decide +kernel
theorem dX2_work_69 : decode cX2_work 69 = .ok (.aload_n 0, 1) := by decide +kernel
theorem dX2_work_70 : decode cX2_work 70 = .ok (.getfield 37, 3) := by decide +kernel
theorem dX2_work_73 : decode cX2_work 73 = .ok (.invokevirtual 77, 3) := by decide +kernel
theorem dX2_work_76 : decode cX2_work 76 = .ok (.goto 98, 3) := by decide +kernel
theorem dX2_work_79 : decode cX2_work 79 = .ok (.aload_n 0, 1) := by decide +kernel
theorem dX2_work_80 : decode cX2_work 80 = .ok (.aload_n 0, 1) := by decide +kernel
theorem dX2_work_81 : decode cX2_work 81 = .ok (.getfield 40, 3) := by decide +kernel
theorem dX2_work_84 : decode cX2_work 84 = .ok (.invokevirtual 77, 3) := by decide +kernel
theorem dX2_work_87 : decode cX2_work 87 = .ok (.goto 87, 3) := by decide +kernel
theorem dX2_work_90 : decode cX2_work 90 = .ok (.aload_n 0, 1) := by decide +kernel
theorem dX2_work_91 : decode cX2_work 91 = .ok (.aload_n 0, 1) := by decide +kernel
theorem dX2_work_92 : decode cX2_work 92 = .ok (.getfield 43, 3) := by decide +kernel
theorem dX2_work_95 : decode cX2_work 95 = .ok (.invokevirtual 77, 3) := by decide +kernel
theorem dX2_work_98 : decode cX2_work 98 = .ok (.goto 76, 3) := by decide +kernel
theorem dX2_work_101 : decode cX2_work 101 = .ok (.aload_n 0, 1) := by decide +kernel
theorem dX2_work_102 : decode cX2_work 102 = .ok (.aload_n 0, 1) := by decide +kernel
theorem dX2_work_103 : decode cX2_work 103 = .ok (.getfield 46, 3) := by decide +kernel
theorem dX2_work_106 : decode cX2_work 106 = .ok (.invokevirtual 77, 3) := by decide +kernel
theorem dX2_work_109 : decode cX2_work 109 = .ok (.goto 65, 3) := by decide +kernel
theorem dX2_work_112 : decode cX2_work 112 = .ok (.aload_n 0, 1) := by decide +kernel
theorem dX2_work_113 : decode cX2_work 113 = .ok (.aload_n 0, 1) := by decide +kernel
theorem dX2_work_114 : decode cX2_work 114 = .ok (.getfield 49, 3) := by decide +kernel
theorem dX2_work_117 : decode cX2_work 117 = .ok (.invokevirtual 77, 3) := by decide +kernel
theorem dX2_work_120 : decode cX2_work 120 = .ok (.goto 54, 3) := by decide +kernel
theorem dX2_work_123 : decode cX2_work 123 = .ok (.aload_n 0, 1) := by decide +kernel
theorem dX2_work_124 : decode cX2_work 124 = .ok (.aload_n 0, 1) := by decide +kernel
theorem dX2_work_125 : decode cX2_work 125 = .ok (.getfield 52, 3) := by decide +kernel
theorem dX2_work_128 : decode cX2_work 128 = .ok (.invokevirtual 77, 3) := by decide +kernel
theorem dX2_work_131 : decode cX2_work 131 = .ok (.goto 43, 3) := by decide +kernel
theorem dX2_work_134 : decode cX2_work 134 = .ok (.aload_n 0, 1) := by decide +kernel
theorem dX2_work_135 : decode cX2_work 135 = .ok (.iconst 1, 1) := by decide +kernel
theorem dX2_work_136 : decode cX2_work 136 = .ok (.aload_n 0, 1) := by decide +kernel
theorem dX2_work_137 : decode cX2_work 137 = .ok (.invokevirtual 74, 3) := by decide +kernel
theorem dX2_work_140 : decode cX2_work 140 = .ok (.isub, 1) := by decide +kernel
theorem dX2_work_141 : decode cX2_work 141 = .ok (.invokevirtual 77, 3) := by decide +kernel
theorem dX2_work_144 : decode cX2_work 144 = .ok (.goto 30, 3) := by decide +kernel
theorem dX2_work_147 : decode cX2_work 147 = .ok (.aload_n 0, 1) := by decide +kernel
theorem dX2_work_148 : decode cX2_work 148 = .ok (.invokevirtual 74, 3) := by decide +kernel
theorem dX2_work_151 : decode cX2_work 151 = .ok (.istore_n 2, 1) := by decide +kernel
theorem dX2_work_152 : decode cX2_work 152 = .ok (.aload_n 0, 1) := by decide +kernel
theorem dX2_work_153 : decode cX2_work 153 = .ok (.invokevirtual 74, 3) := by decide +kernel
theorem dX2_work_156 : decode cX2_work 156 = .ok (.istore_n 3, 1) := by decide +kernel
theorem dX2_work_157 : decode cX2_work 157 = .ok (.aload_n 0, 1) := by decide +kernel
theorem dX2_work_158 : decode cX2_work 158 = .ok (.iload_n 1, 1) := by decide +kernel
theorem dX2_work_159 : decode cX2_work 159 = .ok (.iload_n 3, 1) := by decide +kernel
theorem dX2_work_160 : decode cX2_work 160 = .ok (.iload_n 2, 1) := by decide +kernel
theorem dX2_work_161 : decode cX2_work 161 = .ok (.invokestatic 84, 3) := by decide +kernel
theorem dX2_work_164 : decode cX2_work 164 = .ok (.ldc 88, 2) := by decide +kernel
theorem dX2_work_166 : decode cX2_work 166 = .ok (.ldc 89, 2) := by decide +kernel
theorem dX2_work_168 : decode cX2_work 168 = .ok (.invokestatic 59, 3) := by decide +kernel
theorem dX2_work_171 : decode cX2_work 171 = .ok (.invokevirtual 77, 3) := by decide +kernel
theorem dX2_work_174 : decode cX2_work 174 = .ok (.return_, 1) := by decide +kernel
theorem dX2_worked_0 : decode cX2_worked 0 = .ok (.iload_n 0, 1) := by decide +kernel
theorem dX2_worked_1 : decode cX2_worked 1 = .ok (.lookupswitch 157 #[(38, 147), (42, 95), (43, 83), (45, 89), (47, 101), (60, 125), (61, 114), (62, 136), (124, 152)], 83) := by decide +kernel
theorem dX2_worked_84 : decode cX2_worked 84 = .ok (.iload_n 1, 1) := by decide +kernel
theorem dX2_worked_85 : decode cX2_worked 85 = .ok (.i2l, 1) := by decide +kernel
theorem dX2_worked_86 : decode cX2_worked 86 = .ok (.iload_n 2, 1) := by decide +kernel
theorem dX2_worked_87 : decode cX2_worked 87 = .ok (.i2l, 1) := by decide +kernel
theorem dX2_worked_88 : decode cX2_worked 88 = .ok (.ladd, 1) := by decide +kernel
theorem dX2_worked_89 : decode cX2_worked 89 = .ok (.lreturn, 1) := by decide +kernel
theorem dX2_worked_90 : decode cX2_worked 90 = .ok (.iload_n 1, 1) := by decide +kernel
theorem dX2_worked_91 : decode cX2_worked 91 = .ok (.i2l, 1) := by decide +kernel
theorem dX2_worked_92 : decode cX2_worked 92 = .ok (.iload_n 2, 1) := by decide +kernel
theorem dX2_worked_93 : decode cX2_worked 93 = .ok (.i2l, 1) := by decide +kernel
theorem dX2_worked_94 : decode cX2_worked 94 = .ok (.lsub, 1) := by decide +kernel
theorem dX2_worked_95 : decode cX2_worked 95 = .ok (.lreturn, 1) := by decide +kernel
theorem dX2_worked_96 : decode cX2_worked 96 = .ok (.iload_n 1, 1) := by decide +kernel
theorem dX2_worked_97 : decode cX2_worked 97 = .ok (.i2l, 1) := by decide +kernel
theorem dX2_worked_98 : decode cX2_worked 98 = .ok (.iload_n 2, 1) := by decide +kernel
theorem dX2_worked_99 : decode cX2_worked 99 = .ok (.i2l, 1) := by decide +kernel
theorem dX2_worked_100 : decode cX2_worked 100 = .ok (.lmul, 1) := by decide +kernel
theorem dX2_worked_101 : decode cX2_worked 101 = .ok (.lreturn, 1) := by decide +kernel
theorem dX2_worked_102 : decode cX2_worked 102 = .ok (.iload_n 2, 1) := by decide +kernel
theorem dX2_worked_103 : decode cX2_worked 103 = .ok (.ifCond .ne 7, 3) := by decide +kernel
theorem dX2_worked_106 : decode cX2_worked 106 = .ok (.lconst 0, 1) := by decide +kernel
theorem dX2_worked_107 : decode cX2_worked 107 = .ok (.goto 7, 3) := by decide +kernel
theorem dX2_worked_110 : decode cX2_worked 110 = .ok (.iload_n 1, 1) := by decide +kernel
theorem dX2_worked_111 : decode cX2_worked 111 = .ok (.iload_n 2, 1) := by decide +kernel
theorem dX2_worked_112 : decode cX2_worked 112 = .ok (.idiv, 1) := by decide +kernel
theorem dX2_worked_113 : decode cX2_worked 113 = .ok (.i2l, 1) := by decide +kernel
theorem dX2_worked_114 : decode cX2_worked 114 = .ok (.lreturn, 1) := by decide +kernel
theorem dX2_worked_115 : decode cX2_worked 115 = .ok (.iload_n 1, 1) := by decide +kernel
theorem dX2_worked_116 : decode cX2_worked 116 = .ok (.iload_n 2, 1) := by decide +kernel
theorem dX2_worked_117 : decode cX2_worked 117 = .ok (.if_icmp .ne 7, 3) := by decide +kernel
theorem dX2_worked_120 : decode cX2_worked 120 = .ok (.lconst 1, 1) := by decide +kernel
theorem dX2_worked_121 : decode cX2_worked 121 = .ok (.goto 4, 3) := by decide +kernel
theorem dX2_worked_124 : decode cX2_worked 124 = .ok (.lconst 0, 1) := by decide +kernel
theorem dX2_worked_125 : decode cX2_worked 125 = .ok (.lreturn, 1) := by decide +kernel
theorem dX2_worked_126 : decode cX2_worked 126 = .ok (.iload_n 1, 1) := by decide +kernel
theorem dX2_worked_127 : decode cX2_worked 127 = .ok (.iload_n 2, 1) := by decide +kernel
theorem dX2_worked_128 : decode cX2_worked 128 = .ok (.if_icmp .ge 7, 3) := by decide +kernel
theorem dX2_worked_131 : decode cX2_worked 131 = .ok (.lconst 1, 1) := by decide +kernel
theorem dX2_worked_132 : decode cX2_worked 132 = .ok (.goto 4, 3) := by decide +kernel
theorem dX2_worked_135 : decode cX2_worked 135 = .ok (.lconst 0, 1) := by decide +kernel
theorem dX2_worked_136 : decode cX2_worked 136 = .ok (.lreturn, 1) := by decide +kernel
theorem dX2_worked_137 : decode cX2_worked 137 = .ok (.iload_n 1, 1) := by decide +kernel
theorem dX2_worked_138 : decode cX2_worked 138 = .ok (.iload_n 2, 1) := by decide +kernel
theorem dX2_worked_139 : decode cX2_worked 139 = .ok (.if_icmp .le 7, 3) := by decide +kernel
theorem dX2_worked_142 : decode cX2_worked 142 = .ok (.lconst 1, 1) := by decide +kernel
theorem dX2_worked_143 : decode cX2_worked 143 = .ok (.goto 4, 3) := by decide +kernel
theorem dX2_worked_146 : decode cX2_worked 146 = .ok (.lconst 0, 1) := by decide +kernel
theorem dX2_worked_147 : decode cX2_worked 147 = .ok (.lreturn, 1) := by decide +kernel
theorem dX2_worked_148 : decode cX2_worked 148 = .ok (.iload_n 1, 1) := by decide +kernel
theorem dX2_worked_149 : decode cX2_worked 149 = .ok (.iload_n 2, 1) := by decide +kernel
theorem dX2_worked_150 : decode cX2_worked 150 = .ok (.iand, 1) := by decide +kernel
theorem dX2_worked_151 : decode cX2_worked 151 = .ok (.i2l, 1) := by decide +kernel
theorem dX2_worked_152 : decode cX2_worked 152 = .ok (.lreturn, 1) := by decide +kernel
theorem dX2_worked_153 : decode cX2_worked 153 = .ok (.iload_n 1, 1) := by decide +kernel
theorem dX2_worked_154 : decode cX2_worked 154 = .ok (.iload_n 2, 1) := by decide +kernel
theorem dX2_worked_155 : decode cX2_worked 155 = .ok (.ior, 1) := by decide +kernel
theorem dX2_worked_156 : decode cX2_worked 156 = .ok (.i2l, 1) := by decide +kernel
theorem dX2_worked_157 : decode cX2_worked 157 = .ok (.lreturn, 1) := by decide +kernel
theorem dX2_worked_158 : decode cX2_worked 158 = .ok (.lconst 0, 1) := by decide +kernel
theorem dX2_worked_159 : decode cX2_worked 159 = .ok (.lreturn, 1) := by decide +kernel
theorem dX2_push_0 : decode cX2_push 0 = .ok (.aload_n 0, 1) := by decide +kernel
theorem dX2_push_1 : decode cX2_push 1 = .ok (.getfield 63, 3) := by decide +kernel
theorem dX2_push_4 : decode cX2_push 4 = .ok (.ifCond .lt 35, 3) := by decide +kernel
theorem dX2_push_7 : decode cX2_push 7 = .ok (.aload_n 0, 1) := by decide +kernel
theorem dX2_push_8 : decode cX2_push 8 = .ok (.getfield 63, 3) := by decide +kernel
theorem dX2_push_11 : decode cX2_push 11 = .ok (.aload_n 0, 1) := by decide +kernel
theorem dX2_push_12 : decode cX2_push 12 = .ok (.getfield 18, 3) := by decide +kernel
theorem dX2_push_15 : decode cX2_push 15 = .ok (.arraylength, 1) := by decide +kernel
theorem dX2_push_16 : decode cX2_push 16 = .ok (.if_icmp .ge 23, 3) := by decide +kernel
theorem dX2_push_19 : decode cX2_push 19 = .ok (.aload_n 0, 1) := by decide +kernel
theorem dX2_push_20 : decode cX2_push 20 = .ok (.getfield 18, 3) := by decide +kernel
theorem dX2_push_23 : decode cX2_push 23 = .ok (.aload_n 0, 1) := by decide +kernel
theorem dX2_push_24 : decode cX2_push 24 = .ok (.getfield 63, 3) := by decide +kernel
theorem dX2_push_27 : decode cX2_push 27 = .ok (.iload_n 1, 1) := by decide +kernel
theorem dX2_push_28 : decode cX2_push 28 = .ok (.iastore, 1) := by decide +kernel
theorem dX2_push_29 : decode cX2_push 29 = .ok (.aload_n 0, 1) := by decide +kernel
theorem dX2_push_30 : decode cX2_push 30 = .ok (.dup, 1) := by decide +kernel
theorem dX2_push_31 : decode cX2_push 31 = .ok (.getfield 63, 3) := by decide +kernel
theorem dX2_push_34 : decode cX2_push 34 = .ok (.iconst 1, 1) := by decide +kernel
theorem dX2_push_35 : decode cX2_push 35 = .ok (.iadd, 1) := by decide +kernel
theorem dX2_push_36 : decode cX2_push 36 = .ok (.putfield 63, 3) := by decide +kernel
theorem dX2_push_39 : decode cX2_push 39 = .ok (.return_, 1) := by decide +kernel
theorem dX2_pop_0 : decode cX2_pop 0 = .ok (.aload_n 0, 1) := by decide +kernel
theorem dX2_pop_1 : decode cX2_pop 1 = .ok (.getfield 63, 3) := by decide +kernel
theorem dX2_pop_4 : decode cX2_pop 4 = .ok (.ifCond .le 15, 3) := by decide +kernel
theorem dX2_pop_7 : decode cX2_pop 7 = .ok (.aload_n 0, 1) := by decide +kernel
theorem dX2_pop_8 : decode cX2_pop 8 = .ok (.getfield 63, 3) := by decide +kernel
theorem dX2_pop_11 : decode cX2_pop 11 = .ok (.aload_n 0, 1) := by decide +kernel
theorem dX2_pop_12 : decode cX2_pop 12 = .ok (.getfield 18, 3) := by decide +kernel
theorem dX2_pop_15 : decode cX2_pop 15 = .ok (.arraylength, 1) := by decide +kernel
theorem dX2_pop_16 : decode cX2_pop 16 = .ok (.if_icmp .le 5, 3) := by decide +kernel
theorem dX2_pop_19 : decode cX2_pop 19 = .ok (.iconst 0, 1) := by decide +kernel
theorem dX2_pop_20 : decode cX2_pop 20 = .ok (.ireturn, 1) := by decide +kernel
theorem dX2_pop_21 : decode cX2_pop 21 = .ok (.aload_n 0, 1) := by decide +kernel
theorem dX2_pop_22 : decode cX2_pop 22 = .ok (.dup, 1) := by decide +kernel
theorem dX2_pop_23 : decode cX2_pop 23 = .ok (.getfield 63, 3) := by decide +kernel
theorem dX2_pop_26 : decode cX2_pop 26 = .ok (.iconst 1, 1) := by decide +kernel
theorem dX2_pop_27 : decode cX2_pop 27 = .ok (.isub, 1) := by decide +kernel
theorem dX2_pop_28 : decode cX2_pop 28 = .ok (.putfield 63, 3) := by decide +kernel
theorem dX2_pop_31 : decode cX2_pop 31 = .ok (.aload_n 0, 1) := by decide +kernel
theorem dX2_pop_32 : decode cX2_pop 32 = .ok (.getfield 18, 3) := by decide +kernel
theorem dX2_pop_35 : decode cX2_pop 35 = .ok (.aload_n 0, 1) := by decide +kernel
theorem dX2_pop_36 : decode cX2_pop 36 = .ok (.getfield 63, 3) := by decide +kernel
theorem dX2_pop_39 : decode cX2_pop 39 = .ok (.iaload, 1) := by decide +kernel
theorem dX2_pop_40 : decode cX2_pop 40 = .ok (.ireturn, 1) := by decide +kernel
theorem dX3_init_0 : decode cX3_init 0 = .ok (.aload_n 0, 1) := by decide +kernel
theorem dX3_init_1 : decode cX3_init 1 = .ok (.invokespecial 3, 3) := by decide +kernel
theorem dX3_init_4 : decode cX3_init 4 = .ok (.aload_n 0, 1) := by decide +kernel
theorem dX3_init_5 : decode cX3_init 5 = .ok (.aload_n 1, 1) := by decide +kernel
theorem dX3_init_6 : decode cX3_init 6 = .ok (.putfield 9, 3) := by decide +kernel
theorem dX3_init_9 : decode cX3_init 9 = .ok (.aload_n 0, 1) := by decide +kernel
theorem dX3_init_10 : decode cX3_init 10 = .ok (.new 15, 3) := by decide +kernel
theorem dX3_init_13 : decode cX3_init 13 = .ok (.dup, 1) := by decide +kernel
theorem dX3_init_14 : decode cX3_init 14 = .ok (.invokespecial 17, 3) := by decide +kernel
theorem dX3_init_17 : decode cX3_init 17 = .ok (.putfield 18, 3) := by decide +kernel
theorem dX3_init_20 : decode cX3_init 20 = .ok (.return_, 1) := by decide +kernel
theorem dX3_draft_0 : decode cX3_draft 0 = .ok (.aload_n 0, 1) := by decide +kernel
theorem dX3_draft_1 : decode cX3_draft 1 = .ok (.getfield 18, 3) := by decide +kernel
theorem dX3_draft_4 : decode cX3_draft 4 = .ok (.areturn, 1) := by decide +kernel
theorem dX3_reads_0 : decode cX3_reads 0 = .ok (.aload_n 0, 1) := by decide +kernel
theorem dX3_reads_1 : decode cX3_reads 1 = .ok (.getfield 9, 3) := by decide +kernel
theorem dX3_reads_4 : decode cX3_reads 4 = .ok (.invokevirtual 22, 3) := by decide +kernel
theorem dX3_reads_7 : decode cX3_reads 7 = .ok (.aload_n 0, 1) := by decide +kernel
theorem dX3_reads_8 : decode cX3_reads 8 = .ok (.getfield 18, 3) := by decide +kernel
theorem dX3_reads_11 : decode cX3_reads 11 = .ok (.invokevirtual 27, 3) := by decide +kernel
theorem dX3_reads_14 : decode cX3_reads 14 = .ok (.iconst 0, 1) := by decide +kernel
theorem dX3_reads_15 : decode cX3_reads 15 = .ok (.istore_n 1, 1) := by decide +kernel
theorem dX3_reads_16 : decode cX3_reads 16 = .ok (.iload_n 1, 1) := by decide +kernel
theorem dX3_reads_17 : decode cX3_reads 17 = .ok (.sipush 240, 3) := by decide +kernel
theorem dX3_reads_20 : decode cX3_reads 20 = .ok (.if_icmp .ge 54, 3) := by decide +kernel
theorem dX3_reads_23 : decode cX3_reads 23 = .ok (.aload_n 0, 1) := by decide +kernel
theorem dX3_reads_24 : decode cX3_reads 24 = .ok (.invokevirtual 30, 3) := by decide +kernel
theorem dX3_reads_27 : decode cX3_reads 27 = .ok (.ifCond .ne 5, 3) := by decide +kernel
theorem dX3_reads_30 : decode cX3_reads 30 = .ok (.iconst 0, 1) := by decide +kernel
theorem dX3_reads_31 : decode cX3_reads 31 = .ok (.ireturn, 1) := by decide +kernel
theorem dX3_reads_32 : decode cX3_reads 32 = .ok (.aload_n 0, 1) := by decide +kernel
theorem dX3_reads_33 : decode cX3_reads 33 = .ok (.getfield 18, 3) := by decide +kernel
theorem dX3_reads_36 : decode cX3_reads 36 = .ok (.bipush (-59), 2) := by decide +kernel
theorem dX3_reads_38 : decode cX3_reads 38 = .ok (.invokevirtual 34, 3) := by decide +kernel
theorem dX3_reads_41 : decode cX3_reads 41 = .ok (.aload_n 0, 1) := by decide +kernel
theorem dX3_reads_42 : decode cX3_reads 42 = .ok (.getfield 9, 3) := by decide +kernel
theorem dX3_reads_45 : decode cX3_reads 45 = .ok (.invokevirtual 38, 3) := by decide +kernel
theorem dX3_reads_48 : decode cX3_reads 48 = .ok (.iconst (-1), 1) := by decide +kernel
theorem dX3_reads_49 : decode cX3_reads 49 = .ok (.if_icmp .ne 5, 3) := by decide +kernel
theorem dX3_reads_52 : decode cX3_reads 52 = .ok (.iconst 1, 1) := by decide +kernel
theorem dX3_reads_53 : decode cX3_reads 53 = .ok (.ireturn, 1) := by decide +kernel
theorem dX3_reads_54 : decode cX3_reads 54 = .ok (.aload_n 0, 1) := by decide +kernel
theorem dX3_reads_55 : decode cX3_reads 55 = .ok (.getfield 9, 3) := by decide +kernel
theorem dX3_reads_58 : decode cX3_reads 58 = .ok (.bipush 59, 2) := by decide +kernel
theorem dX3_reads_60 : decode cX3_reads 60 = .ok (.invokevirtual 42, 3) := by decide +kernel
theorem dX3_reads_63 : decode cX3_reads 63 = .ok (.ifCond .ne 5, 3) := by decide +kernel
theorem dX3_reads_66 : decode cX3_reads 66 = .ok (.iconst 0, 1) := by decide +kernel
theorem dX3_reads_67 : decode cX3_reads 67 = .ok (.ireturn, 1) := by decide +kernel
theorem dX3_reads_68 : decode cX3_reads 68 = .ok (.iinc 1 1, 3) := by decide +kernel
theorem dX3_reads_71 : decode cX3_reads 71 = .ok (.goto (-55), 3) := by decide +kernel
theorem dX3_reads_74 : decode cX3_reads 74 = .ok (.aload_n 0, 1) := by decide +kernel
theorem dX3_reads_75 : decode cX3_reads 75 = .ok (.getfield 9, 3) := by decide +kernel
theorem dX3_reads_78 : decode cX3_reads 78 = .ok (.invokevirtual 46, 3) := by decide +kernel
theorem dX3_reads_81 : decode cX3_reads 81 = .ok (.ireturn, 1) := by decide +kernel
theorem dX3_readsClause_0 : decode cX3_readsClause 0 = .ok (.aload_n 0, 1) := by decide +kernel
theorem dX3_readsClause_1 : decode cX3_readsClause 1 = .ok (.getfield 9, 3) := by decide +kernel
theorem dX3_readsClause_4 : decode cX3_readsClause 4 = .ok (.bipush 121, 2) := by decide +kernel
theorem dX3_readsClause_6 : decode cX3_readsClause 6 = .ok (.invokevirtual 42, 3) := by decide +kernel
theorem dX3_readsClause_9 : decode cX3_readsClause 9 = .ok (.ifCond .eq 15, 3) := by decide +kernel
theorem dX3_readsClause_12 : decode cX3_readsClause 12 = .ok (.aload_n 0, 1) := by decide +kernel
theorem dX3_readsClause_13 : decode cX3_readsClause 13 = .ok (.getfield 9, 3) := by decide +kernel
theorem dX3_readsClause_16 : decode cX3_readsClause 16 = .ok (.bipush 58, 2) := by decide +kernel
theorem dX3_readsClause_18 : decode cX3_readsClause 18 = .ok (.invokevirtual 42, 3) := by decide +kernel
theorem dX3_readsClause_21 : decode cX3_readsClause 21 = .ok (.ifCond .ne 5, 3) := by decide +kernel
theorem dX3_readsClause_24 : decode cX3_readsClause 24 = .ok (.iconst 0, 1) := by decide +kernel
theorem dX3_readsClause_25 : decode cX3_readsClause 25 = .ok (.ireturn, 1) := by decide +kernel
theorem dX3_readsClause_26 : decode cX3_readsClause 26 = .ok (.aload_n 0, 1) := by decide +kernel
theorem dX3_readsClause_27 : decode cX3_readsClause 27 = .ok (.getfield 9, 3) := by decide +kernel
theorem dX3_readsClause_30 : decode cX3_readsClause 30 = .ok (.invokevirtual 38, 3) := by decide +kernel
theorem dX3_readsClause_33 : decode cX3_readsClause 33 = .ok (.istore_n 1, 1) := by decide +kernel
theorem dX3_readsClause_34 : decode cX3_readsClause 34 = .ok (.iload_n 1, 1) := by decide +kernel
theorem dX3_readsClause_35 : decode cX3_readsClause 35 = .ok (.bipush 33, 2) := by decide +kernel
theorem dX3_readsClause_37 : decode cX3_readsClause 37 = .ok (.if_icmp .eq 9, 3) := by decide +kernel
theorem dX3_readsClause_40 : decode cX3_readsClause 40 = .ok (.iload_n 1, 1) := by decide +kernel
theorem dX3_readsClause_41 : decode cX3_readsClause 41 = .ok (.bipush 40, 2) := by decide +kernel
theorem dX3_readsClause_43 : decode cX3_readsClause 43 = .ok (.if_icmp .ne 25, 3) := by decide +kernel
theorem dX3_readsClause_46 : decode cX3_readsClause 46 = .ok (.aload_n 0, 1) := by decide +kernel
theorem dX3_readsClause_47 : decode cX3_readsClause 47 = .ok (.iconst 0, 1) := by decide +kernel
theorem dX3_readsClause_48 : decode cX3_readsClause 48 = .ok (.iconst 0, 1) := by decide +kernel
theorem dX3_readsClause_49 : decode cX3_readsClause 49 = .ok (.invokevirtual 49, 3) := by decide +kernel
theorem dX3_readsClause_52 : decode cX3_readsClause 52 = .ok (.ifCond .eq 14, 3) := by decide +kernel
theorem dX3_readsClause_55 : decode cX3_readsClause 55 = .ok (.aload_n 0, 1) := by decide +kernel
theorem dX3_readsClause_56 : decode cX3_readsClause 56 = .ok (.invokevirtual 53, 3) := by decide +kernel
theorem dX3_readsClause_59 : decode cX3_readsClause 59 = .ok (.ifCond .eq 7, 3) := by decide +kernel
theorem dX3_readsClause_62 : decode cX3_readsClause 62 = .ok (.iconst 1, 1) := by decide +kernel
theorem dX3_readsClause_63 : decode cX3_readsClause 63 = .ok (.goto 4, 3) := by decide +kernel
theorem dX3_readsClause_66 : decode cX3_readsClause 66 = .ok (.iconst 0, 1) := by decide +kernel
theorem dX3_readsClause_67 : decode cX3_readsClause 67 = .ok (.ireturn, 1) := by decide +kernel
theorem dX3_readsClause_68 : decode cX3_readsClause 68 = .ok (.aload_n 0, 1) := by decide +kernel
theorem dX3_readsClause_69 : decode cX3_readsClause 69 = .ok (.iconst 0, 1) := by decide +kernel
theorem dX3_readsClause_70 : decode cX3_readsClause 70 = .ok (.invokevirtual 56, 3) := by decide +kernel
theorem dX3_readsClause_73 : decode cX3_readsClause 73 = .ok (.ifCond .ne 5, 3) := by decide +kernel
theorem dX3_readsClause_76 : decode cX3_readsClause 76 = .ok (.iconst 0, 1) := by decide +kernel
theorem dX3_readsClause_77 : decode cX3_readsClause 77 = .ok (.ireturn, 1) := by decide +kernel
theorem dX3_readsClause_78 : decode cX3_readsClause 78 = .ok (.aload_n 0, 1) := by decide +kernel
theorem dX3_readsClause_79 : decode cX3_readsClause 79 = .ok (.getfield 9, 3) := by decide +kernel
theorem dX3_readsClause_82 : decode cX3_readsClause 82 = .ok (.invokevirtual 38, 3) := by decide +kernel
theorem dX3_readsClause_85 : decode cX3_readsClause 85 = .ok (.invokestatic 59, 3) := by decide +kernel
theorem dX3_readsClause_88 : decode cX3_readsClause 88 = .ok (.ifCond .ne 5, 3) := by decide +kernel
theorem dX3_readsClause_91 : decode cX3_readsClause 91 = .ok (.iconst 1, 1) := by decide +kernel
theorem dX3_readsClause_92 : decode cX3_readsClause 92 = .ok (.ireturn, 1) := by decide +kernel
theorem dX3_readsClause_93 : decode cX3_readsClause 93 = .ok (.aload_n 0, 1) := by decide +kernel
theorem dX3_readsClause_94 : decode cX3_readsClause 94 = .ok (.iconst 0, 1) := by decide +kernel
theorem dX3_readsClause_95 : decode cX3_readsClause 95 = .ok (.invokevirtual 62, 3) := by decide +kernel
theorem dX3_readsClause_98 : decode cX3_readsClause 98 = .ok (.ifCond .eq 23, 3) := by decide +kernel
theorem dX3_readsClause_101 : decode cX3_readsClause 101 = .ok (.aload_n 0, 1) := by decide +kernel
theorem dX3_readsClause_102 : decode cX3_readsClause 102 = .ok (.iconst 0, 1) := by decide +kernel
theorem dX3_readsClause_103 : decode cX3_readsClause 103 = .ok (.iconst 1, 1) := by decide +kernel
theorem dX3_readsClause_104 : decode cX3_readsClause 104 = .ok (.invokevirtual 49, 3) := by decide +kernel
theorem dX3_readsClause_107 : decode cX3_readsClause 107 = .ok (.ifCond .eq 14, 3) := by decide +kernel
theorem dX3_readsClause_110 : decode cX3_readsClause 110 = .ok (.aload_n 0, 1) := by decide +kernel
theorem dX3_readsClause_111 : decode cX3_readsClause 111 = .ok (.invokevirtual 53, 3) := by decide +kernel
theorem dX3_readsClause_114 : decode cX3_readsClause 114 = .ok (.ifCond .eq 7, 3) := by decide +kernel
theorem dX3_readsClause_117 : decode cX3_readsClause 117 = .ok (.iconst 1, 1) := by decide +kernel
theorem dX3_readsClause_118 : decode cX3_readsClause 118 = .ok (.goto 4, 3) := by decide +kernel
theorem dX3_readsClause_121 : decode cX3_readsClause 121 = .ok (.iconst 0, 1) := by decide +kernel
theorem dX3_readsClause_122 : decode cX3_readsClause 122 = .ok (.ireturn, 1) := by decide +kernel
theorem dX3_readsWorth_0 : decode cX3_readsWorth 0 = .ok (.aload_n 0, 1) := by decide +kernel
theorem dX3_readsWorth_1 : decode cX3_readsWorth 1 = .ok (.getfield 9, 3) := by decide +kernel
theorem dX3_readsWorth_4 : decode cX3_readsWorth 4 = .ok (.bipush 63, 2) := by decide +kernel
theorem dX3_readsWorth_6 : decode cX3_readsWorth 6 = .ok (.invokevirtual 42, 3) := by decide +kernel
theorem dX3_readsWorth_9 : decode cX3_readsWorth 9 = .ok (.ifCond .ne 5, 3) := by decide +kernel
theorem dX3_readsWorth_12 : decode cX3_readsWorth 12 = .ok (.iconst 0, 1) := by decide +kernel
theorem dX3_readsWorth_13 : decode cX3_readsWorth 13 = .ok (.ireturn, 1) := by decide +kernel
theorem dX3_readsWorth_14 : decode cX3_readsWorth 14 = .ok (.aload_n 0, 1) := by decide +kernel
theorem dX3_readsWorth_15 : decode cX3_readsWorth 15 = .ok (.getfield 18, 3) := by decide +kernel
theorem dX3_readsWorth_18 : decode cX3_readsWorth 18 = .ok (.bipush (-63), 2) := by decide +kernel
theorem dX3_readsWorth_20 : decode cX3_readsWorth 20 = .ok (.invokevirtual 34, 3) := by decide +kernel
theorem dX3_readsWorth_23 : decode cX3_readsWorth 23 = .ok (.aload_n 0, 1) := by decide +kernel
theorem dX3_readsWorth_24 : decode cX3_readsWorth 24 = .ok (.iconst 0, 1) := by decide +kernel
theorem dX3_readsWorth_25 : decode cX3_readsWorth 25 = .ok (.invokevirtual 56, 3) := by decide +kernel
theorem dX3_readsWorth_28 : decode cX3_readsWorth 28 = .ok (.ireturn, 1) := by decide +kernel
theorem dX3_readsCondition_0 : decode cX3_readsCondition 0 = .ok (.aload_n 0, 1) := by decide +kernel
theorem dX3_readsCondition_1 : decode cX3_readsCondition 1 = .ok (.iload_n 1, 1) := by decide +kernel
theorem dX3_readsCondition_2 : decode cX3_readsCondition 2 = .ok (.iload_n 2, 1) := by decide +kernel
theorem dX3_readsCondition_3 : decode cX3_readsCondition 3 = .ok (.invokevirtual 65, 3) := by decide +kernel
theorem dX3_readsCondition_6 : decode cX3_readsCondition 6 = .ok (.ifCond .ne 5, 3) := by decide +kernel
theorem dX3_readsCondition_9 : decode cX3_readsCondition 9 = .ok (.iconst 0, 1) := by decide +kernel
theorem dX3_readsCondition_10 : decode cX3_readsCondition 10 = .ok (.ireturn, 1) := by decide +kernel
theorem dX3_readsCondition_11 : decode cX3_readsCondition 11 = .ok (.iconst 0, 1) := by decide +kernel
theorem dX3_readsCondition_12 : decode cX3_readsCondition 12 = .ok (.istore_n 3, 1) := by decide +kernel
theorem dX3_readsCondition_13 : decode cX3_readsCondition 13 = .ok (.iload_n 3, 1) := by decide +kernel
theorem dX3_readsCondition_14 : decode cX3_readsCondition 14 = .ok (.sipush 240, 3) := by decide +kernel
theorem dX3_readsCondition_17 : decode cX3_readsCondition 17 = .ok (.if_icmp .ge 50, 3) := by decide +kernel
theorem dX3_readsCondition_20 : decode cX3_readsCondition 20 = .ok (.aload_n 0, 1) := by decide +kernel
theorem dX3_readsCondition_21 : decode cX3_readsCondition 21 = .ok (.getfield 9, 3) := by decide +kernel
theorem dX3_readsCondition_24 : decode cX3_readsCondition 24 = .ok (.invokevirtual 38, 3) := by decide +kernel
theorem dX3_readsCondition_27 : decode cX3_readsCondition 27 = .ok (.bipush 124, 2) := by decide +kernel
theorem dX3_readsCondition_29 : decode cX3_readsCondition 29 = .ok (.if_icmp .eq 5, 3) := by decide +kernel
theorem dX3_readsCondition_32 : decode cX3_readsCondition 32 = .ok (.iconst 1, 1) := by decide +kernel
theorem dX3_readsCondition_33 : decode cX3_readsCondition 33 = .ok (.ireturn, 1) := by decide +kernel
theorem dX3_readsCondition_34 : decode cX3_readsCondition 34 = .ok (.aload_n 0, 1) := by decide +kernel
theorem dX3_readsCondition_35 : decode cX3_readsCondition 35 = .ok (.getfield 9, 3) := by decide +kernel
theorem dX3_readsCondition_38 : decode cX3_readsCondition 38 = .ok (.invokevirtual 68, 3) := by decide +kernel
theorem dX3_readsCondition_41 : decode cX3_readsCondition 41 = .ok (.aload_n 0, 1) := by decide +kernel
theorem dX3_readsCondition_42 : decode cX3_readsCondition 42 = .ok (.iload_n 1, 1) := by decide +kernel
theorem dX3_readsCondition_43 : decode cX3_readsCondition 43 = .ok (.iconst 0, 1) := by decide +kernel
theorem dX3_readsCondition_44 : decode cX3_readsCondition 44 = .ok (.invokevirtual 65, 3) := by decide +kernel
theorem dX3_readsCondition_47 : decode cX3_readsCondition 47 = .ok (.ifCond .ne 5, 3) := by decide +kernel
theorem dX3_readsCondition_50 : decode cX3_readsCondition 50 = .ok (.iconst 0, 1) := by decide +kernel
theorem dX3_readsCondition_51 : decode cX3_readsCondition 51 = .ok (.ireturn, 1) := by decide +kernel
theorem dX3_readsCondition_52 : decode cX3_readsCondition 52 = .ok (.aload_n 0, 1) := by decide +kernel
theorem dX3_readsCondition_53 : decode cX3_readsCondition 53 = .ok (.getfield 18, 3) := by decide +kernel
theorem dX3_readsCondition_56 : decode cX3_readsCondition 56 = .ok (.bipush (-124), 2) := by decide +kernel
theorem dX3_readsCondition_58 : decode cX3_readsCondition 58 = .ok (.invokevirtual 34, 3) := by decide +kernel
theorem dX3_readsCondition_61 : decode cX3_readsCondition 61 = .ok (.iinc 3 1, 3) := by decide +kernel
theorem dX3_readsCondition_64 : decode cX3_readsCondition 64 = .ok (.goto (-51), 3) := by decide +kernel
theorem dX3_readsCondition_67 : decode cX3_readsCondition 67 = .ok (.aload_n 0, 1) := by decide +kernel
theorem dX3_readsCondition_68 : decode cX3_readsCondition 68 = .ok (.getfield 9, 3) := by decide +kernel
theorem dX3_readsCondition_71 : decode cX3_readsCondition 71 = .ok (.invokevirtual 46, 3) := by decide +kernel
theorem dX3_readsCondition_74 : decode cX3_readsCondition 74 = .ok (.ireturn, 1) := by decide +kernel
theorem dX3_readsTruth_0 : decode cX3_readsTruth 0 = .ok (.iload_n 2, 1) := by decide +kernel
theorem dX3_readsTruth_1 : decode cX3_readsTruth 1 = .ok (.ifCond .ne 13, 3) := by decide +kernel
theorem dX3_readsTruth_4 : decode cX3_readsTruth 4 = .ok (.aload_n 0, 1) := by decide +kernel
theorem dX3_readsTruth_5 : decode cX3_readsTruth 5 = .ok (.iload_n 1, 1) := by decide +kernel
theorem dX3_readsTruth_6 : decode cX3_readsTruth 6 = .ok (.invokevirtual 71, 3) := by decide +kernel
theorem dX3_readsTruth_9 : decode cX3_readsTruth 9 = .ok (.ifCond .ne 5, 3) := by decide +kernel
theorem dX3_readsTruth_12 : decode cX3_readsTruth 12 = .ok (.iconst 0, 1) := by decide +kernel
theorem dX3_readsTruth_13 : decode cX3_readsTruth 13 = .ok (.ireturn, 1) := by decide +kernel
theorem dX3_readsTruth_14 : decode cX3_readsTruth 14 = .ok (.iconst 0, 1) := by decide +kernel
theorem dX3_readsTruth_15 : decode cX3_readsTruth 15 = .ok (.istore_n 3, 1) := by decide +kernel
theorem dX3_readsTruth_16 : decode cX3_readsTruth 16 = .ok (.iload_n 3, 1) := by decide +kernel
theorem dX3_readsTruth_17 : decode cX3_readsTruth 17 = .ok (.sipush 240, 3) := by decide +kernel
theorem dX3_readsTruth_20 : decode cX3_readsTruth 20 = .ok (.if_icmp .ge 49, 3) := by decide +kernel
theorem dX3_readsTruth_23 : decode cX3_readsTruth 23 = .ok (.aload_n 0, 1) := by decide +kernel
theorem dX3_readsTruth_24 : decode cX3_readsTruth 24 = .ok (.getfield 9, 3) := by decide +kernel
theorem dX3_readsTruth_27 : decode cX3_readsTruth 27 = .ok (.invokevirtual 38, 3) := by decide +kernel
theorem dX3_readsTruth_30 : decode cX3_readsTruth 30 = .ok (.bipush 38, 2) := by decide +kernel
theorem dX3_readsTruth_32 : decode cX3_readsTruth 32 = .ok (.if_icmp .eq 5, 3) := by decide +kernel
theorem dX3_readsTruth_35 : decode cX3_readsTruth 35 = .ok (.iconst 1, 1) := by decide +kernel
theorem dX3_readsTruth_36 : decode cX3_readsTruth 36 = .ok (.ireturn, 1) := by decide +kernel
theorem dX3_readsTruth_37 : decode cX3_readsTruth 37 = .ok (.aload_n 0, 1) := by decide +kernel
theorem dX3_readsTruth_38 : decode cX3_readsTruth 38 = .ok (.getfield 9, 3) := by decide +kernel
theorem dX3_readsTruth_41 : decode cX3_readsTruth 41 = .ok (.invokevirtual 68, 3) := by decide +kernel
theorem dX3_readsTruth_44 : decode cX3_readsTruth 44 = .ok (.aload_n 0, 1) := by decide +kernel
theorem dX3_readsTruth_45 : decode cX3_readsTruth 45 = .ok (.iload_n 1, 1) := by decide +kernel
theorem dX3_readsTruth_46 : decode cX3_readsTruth 46 = .ok (.invokevirtual 71, 3) := by decide +kernel
theorem dX3_readsTruth_49 : decode cX3_readsTruth 49 = .ok (.ifCond .ne 5, 3) := by decide +kernel
theorem dX3_readsTruth_52 : decode cX3_readsTruth 52 = .ok (.iconst 0, 1) := by decide +kernel
theorem dX3_readsTruth_53 : decode cX3_readsTruth 53 = .ok (.ireturn, 1) := by decide +kernel
theorem dX3_readsTruth_54 : decode cX3_readsTruth 54 = .ok (.aload_n 0, 1) := by decide +kernel
theorem dX3_readsTruth_55 : decode cX3_readsTruth 55 = .ok (.getfield 18, 3) := by decide +kernel
theorem dX3_readsTruth_58 : decode cX3_readsTruth 58 = .ok (.bipush (-38), 2) := by decide +kernel
theorem dX3_readsTruth_60 : decode cX3_readsTruth 60 = .ok (.invokevirtual 34, 3) := by decide +kernel
theorem dX3_readsTruth_63 : decode cX3_readsTruth 63 = .ok (.iinc 3 1, 3) := by decide +kernel
theorem dX3_readsTruth_66 : decode cX3_readsTruth 66 = .ok (.goto (-50), 3) := by decide +kernel
theorem dX3_readsTruth_69 : decode cX3_readsTruth 69 = .ok (.aload_n 0, 1) := by decide +kernel
theorem dX3_readsTruth_70 : decode cX3_readsTruth 70 = .ok (.getfield 9, 3) := by decide +kernel
theorem dX3_readsTruth_73 : decode cX3_readsTruth 73 = .ok (.invokevirtual 46, 3) := by decide +kernel
theorem dX3_readsTruth_76 : decode cX3_readsTruth 76 = .ok (.ireturn, 1) := by decide +kernel
theorem dX3_readsUnit_0 : decode cX3_readsUnit 0 = .ok (.aload_n 0, 1) := by decide +kernel
theorem dX3_readsUnit_1 : decode cX3_readsUnit 1 = .ok (.getfield 9, 3) := by decide +kernel
theorem dX3_readsUnit_4 : decode cX3_readsUnit 4 = .ok (.invokevirtual 38, 3) := by decide +kernel
theorem dX3_readsUnit_7 : decode cX3_readsUnit 7 = .ok (.istore_n 2, 1) := by decide +kernel
theorem dX3_readsUnit_8 : decode cX3_readsUnit 8 = .ok (.iload_n 2, 1) := by decide +kernel
theorem dX3_readsUnit_9 : decode cX3_readsUnit 9 = .ok (.bipush 33, 2) := by decide +kernel
theorem dX3_readsUnit_11 : decode cX3_readsUnit 11 = .ok (.if_icmp .eq 31, 3) := by decide +kernel
theorem dX3_readsUnit_14 : decode cX3_readsUnit 14 = .ok (.iload_n 2, 1) := by decide +kernel
theorem dX3_readsUnit_15 : decode cX3_readsUnit 15 = .ok (.bipush 40, 2) := by decide +kernel
theorem dX3_readsUnit_17 : decode cX3_readsUnit 17 = .ok (.if_icmp .eq 25, 3) := by decide +kernel
theorem dX3_readsUnit_20 : decode cX3_readsUnit 20 = .ok (.aload_n 0, 1) := by decide +kernel
theorem dX3_readsUnit_21 : decode cX3_readsUnit 21 = .ok (.iload_n 1, 1) := by decide +kernel
theorem dX3_readsUnit_22 : decode cX3_readsUnit 22 = .ok (.invokevirtual 56, 3) := by decide +kernel
theorem dX3_readsUnit_25 : decode cX3_readsUnit 25 = .ok (.ifCond .eq 15, 3) := by decide +kernel
theorem dX3_readsUnit_28 : decode cX3_readsUnit 28 = .ok (.aload_n 0, 1) := by decide +kernel
theorem dX3_readsUnit_29 : decode cX3_readsUnit 29 = .ok (.iload_n 1, 1) := by decide +kernel
theorem dX3_readsUnit_30 : decode cX3_readsUnit 30 = .ok (.invokevirtual 62, 3) := by decide +kernel
theorem dX3_readsUnit_33 : decode cX3_readsUnit 33 = .ok (.ifCond .eq 7, 3) := by decide +kernel
theorem dX3_readsUnit_36 : decode cX3_readsUnit 36 = .ok (.iconst 1, 1) := by decide +kernel
theorem dX3_readsUnit_37 : decode cX3_readsUnit 37 = .ok (.goto 4, 3) := by decide +kernel
theorem dX3_readsUnit_40 : decode cX3_readsUnit 40 = .ok (.iconst 0, 1) := by decide +kernel
theorem dX3_readsUnit_41 : decode cX3_readsUnit 41 = .ok (.ireturn, 1) := by decide +kernel
theorem dX3_readsUnit_42 : decode cX3_readsUnit 42 = .ok (.iload_n 1, 1) := by decide +kernel
theorem dX3_readsUnit_43 : decode cX3_readsUnit 43 = .ok (.bipush 6, 2) := by decide +kernel
theorem dX3_readsUnit_45 : decode cX3_readsUnit 45 = .ok (.if_icmp .lt 11, 3) := by decide +kernel
theorem dX3_readsUnit_48 : decode cX3_readsUnit 48 = .ok (.aload_n 0, 1) := by decide +kernel
theorem dX3_readsUnit_49 : decode cX3_readsUnit 49 = .ok (.getfield 9, 3) := by decide +kernel
theorem dX3_readsUnit_52 : decode cX3_readsUnit 52 = .ok (.invokevirtual 46, 3) := by decide +kernel
theorem dX3_readsUnit_55 : decode cX3_readsUnit 55 = .ok (.ireturn, 1) := by decide +kernel
theorem dX3_readsUnit_56 : decode cX3_readsUnit 56 = .ok (.aload_n 0, 1) := by decide +kernel
theorem dX3_readsUnit_57 : decode cX3_readsUnit 57 = .ok (.getfield 9, 3) := by decide +kernel
theorem dX3_readsUnit_60 : decode cX3_readsUnit 60 = .ok (.invokevirtual 68, 3) := by decide +kernel
theorem dX3_readsUnit_63 : decode cX3_readsUnit 63 = .ok (.iload_n 2, 1) := by decide +kernel
theorem dX3_readsUnit_64 : decode cX3_readsUnit 64 = .ok (.bipush 40, 2) := by decide +kernel
theorem dX3_readsUnit_66 : decode cX3_readsUnit 66 = .ok (.if_icmp .ne 32, 3) := by decide +kernel
theorem dX3_readsUnit_69 : decode cX3_readsUnit 69 = .ok (.aload_n 0, 1) := by decide +kernel
theorem dX3_readsUnit_70 : decode cX3_readsUnit 70 = .ok (.iload_n 1, 1) := by decide +kernel
theorem dX3_readsUnit_71 : decode cX3_readsUnit 71 = .ok (.iconst 1, 1) := by decide +kernel
theorem dX3_readsUnit_72 : decode cX3_readsUnit 72 = .ok (.iadd, 1) := by decide +kernel
theorem dX3_readsUnit_73 : decode cX3_readsUnit 73 = .ok (.iconst 0, 1) := by decide +kernel
theorem dX3_readsUnit_74 : decode cX3_readsUnit 74 = .ok (.invokevirtual 49, 3) := by decide +kernel
theorem dX3_readsUnit_77 : decode cX3_readsUnit 77 = .ok (.ifCond .eq 19, 3) := by decide +kernel
theorem dX3_readsUnit_80 : decode cX3_readsUnit 80 = .ok (.aload_n 0, 1) := by decide +kernel
theorem dX3_readsUnit_81 : decode cX3_readsUnit 81 = .ok (.getfield 9, 3) := by decide +kernel
theorem dX3_readsUnit_84 : decode cX3_readsUnit 84 = .ok (.bipush 41, 2) := by decide +kernel
theorem dX3_readsUnit_86 : decode cX3_readsUnit 86 = .ok (.invokevirtual 42, 3) := by decide +kernel
theorem dX3_readsUnit_89 : decode cX3_readsUnit 89 = .ok (.ifCond .eq 7, 3) := by decide +kernel
theorem dX3_readsUnit_92 : decode cX3_readsUnit 92 = .ok (.iconst 1, 1) := by decide +kernel
theorem dX3_readsUnit_93 : decode cX3_readsUnit 93 = .ok (.goto 4, 3) := by decide +kernel
theorem dX3_readsUnit_96 : decode cX3_readsUnit 96 = .ok (.iconst 0, 1) := by decide +kernel
theorem dX3_readsUnit_97 : decode cX3_readsUnit 97 = .ok (.ireturn, 1) := by decide +kernel
theorem dX3_readsUnit_98 : decode cX3_readsUnit 98 = .ok (.aload_n 0, 1) := by decide +kernel
theorem dX3_readsUnit_99 : decode cX3_readsUnit 99 = .ok (.iload_n 1, 1) := by decide +kernel
theorem dX3_readsUnit_100 : decode cX3_readsUnit 100 = .ok (.iconst 1, 1) := by decide +kernel
theorem dX3_readsUnit_101 : decode cX3_readsUnit 101 = .ok (.iadd, 1) := by decide +kernel
theorem dX3_readsUnit_102 : decode cX3_readsUnit 102 = .ok (.invokevirtual 71, 3) := by decide +kernel
theorem dX3_readsUnit_105 : decode cX3_readsUnit 105 = .ok (.ifCond .ne 5, 3) := by decide +kernel
theorem dX3_readsUnit_108 : decode cX3_readsUnit 108 = .ok (.iconst 0, 1) := by decide +kernel
theorem dX3_readsUnit_109 : decode cX3_readsUnit 109 = .ok (.ireturn, 1) := by decide +kernel
theorem dX3_readsUnit_110 : decode cX3_readsUnit 110 = .ok (.aload_n 0, 1) := by decide +kernel
theorem dX3_readsUnit_111 : decode cX3_readsUnit 111 = .ok (.getfield 18, 3) := by decide +kernel
theorem dX3_readsUnit_114 : decode cX3_readsUnit 114 = .ok (.bipush (-33), 2) := by decide +kernel
theorem dX3_readsUnit_116 : decode cX3_readsUnit 116 = .ok (.invokevirtual 34, 3) := by decide +kernel
theorem dX3_readsUnit_119 : decode cX3_readsUnit 119 = .ok (.iconst 1, 1) := by decide +kernel
theorem dX3_readsUnit_120 : decode cX3_readsUnit 120 = .ok (.ireturn, 1) := by decide +kernel
theorem dX3_readsRelation_0 : decode cX3_readsRelation 0 = .ok (.aload_n 0, 1) := by decide +kernel
theorem dX3_readsRelation_1 : decode cX3_readsRelation 1 = .ok (.getfield 9, 3) := by decide +kernel
theorem dX3_readsRelation_4 : decode cX3_readsRelation 4 = .ok (.invokevirtual 38, 3) := by decide +kernel
theorem dX3_readsRelation_7 : decode cX3_readsRelation 7 = .ok (.istore_n 2, 1) := by decide +kernel
theorem dX3_readsRelation_8 : decode cX3_readsRelation 8 = .ok (.iload_n 2, 1) := by decide +kernel
theorem dX3_readsRelation_9 : decode cX3_readsRelation 9 = .ok (.invokestatic 59, 3) := by decide +kernel
theorem dX3_readsRelation_12 : decode cX3_readsRelation 12 = .ok (.ifCond .ne 11, 3) := by decide +kernel
theorem dX3_readsRelation_15 : decode cX3_readsRelation 15 = .ok (.aload_n 0, 1) := by decide +kernel
theorem dX3_readsRelation_16 : decode cX3_readsRelation 16 = .ok (.getfield 9, 3) := by decide +kernel
theorem dX3_readsRelation_19 : decode cX3_readsRelation 19 = .ok (.invokevirtual 46, 3) := by decide +kernel
theorem dX3_readsRelation_22 : decode cX3_readsRelation 22 = .ok (.ireturn, 1) := by decide +kernel
theorem dX3_readsRelation_23 : decode cX3_readsRelation 23 = .ok (.aload_n 0, 1) := by decide +kernel
theorem dX3_readsRelation_24 : decode cX3_readsRelation 24 = .ok (.getfield 9, 3) := by decide +kernel
theorem dX3_readsRelation_27 : decode cX3_readsRelation 27 = .ok (.invokevirtual 68, 3) := by decide +kernel
theorem dX3_readsRelation_30 : decode cX3_readsRelation 30 = .ok (.aload_n 0, 1) := by decide +kernel
theorem dX3_readsRelation_31 : decode cX3_readsRelation 31 = .ok (.iload_n 1, 1) := by decide +kernel
theorem dX3_readsRelation_32 : decode cX3_readsRelation 32 = .ok (.invokevirtual 56, 3) := by decide +kernel
theorem dX3_readsRelation_35 : decode cX3_readsRelation 35 = .ok (.ifCond .ne 5, 3) := by decide +kernel
theorem dX3_readsRelation_38 : decode cX3_readsRelation 38 = .ok (.iconst 0, 1) := by decide +kernel
theorem dX3_readsRelation_39 : decode cX3_readsRelation 39 = .ok (.ireturn, 1) := by decide +kernel
theorem dX3_readsRelation_40 : decode cX3_readsRelation 40 = .ok (.aload_n 0, 1) := by decide +kernel
theorem dX3_readsRelation_41 : decode cX3_readsRelation 41 = .ok (.getfield 18, 3) := by decide +kernel
theorem dX3_readsRelation_44 : decode cX3_readsRelation 44 = .ok (.iload_n 2, 1) := by decide +kernel
theorem dX3_readsRelation_45 : decode cX3_readsRelation 45 = .ok (.ineg, 1) := by decide +kernel
theorem dX3_readsRelation_46 : decode cX3_readsRelation 46 = .ok (.invokevirtual 34, 3) := by decide +kernel
theorem dX3_readsRelation_49 : decode cX3_readsRelation 49 = .ok (.iconst 1, 1) := by decide +kernel
theorem dX3_readsRelation_50 : decode cX3_readsRelation 50 = .ok (.ireturn, 1) := by decide +kernel
theorem dX3_readsSum_0 : decode cX3_readsSum 0 = .ok (.aload_n 0, 1) := by decide +kernel
theorem dX3_readsSum_1 : decode cX3_readsSum 1 = .ok (.iload_n 1, 1) := by decide +kernel
theorem dX3_readsSum_2 : decode cX3_readsSum 2 = .ok (.invokevirtual 74, 3) := by decide +kernel
theorem dX3_readsSum_5 : decode cX3_readsSum 5 = .ok (.ifCond .ne 5, 3) := by decide +kernel
theorem dX3_readsSum_8 : decode cX3_readsSum 8 = .ok (.iconst 0, 1) := by decide +kernel
theorem dX3_readsSum_9 : decode cX3_readsSum 9 = .ok (.ireturn, 1) := by decide +kernel
theorem dX3_readsSum_10 : decode cX3_readsSum 10 = .ok (.iconst 0, 1) := by decide +kernel
theorem dX3_readsSum_11 : decode cX3_readsSum 11 = .ok (.istore_n 2, 1) := by decide +kernel
theorem dX3_readsSum_12 : decode cX3_readsSum 12 = .ok (.iload_n 2, 1) := by decide +kernel
theorem dX3_readsSum_13 : decode cX3_readsSum 13 = .ok (.sipush 240, 3) := by decide +kernel
theorem dX3_readsSum_16 : decode cX3_readsSum 16 = .ok (.if_icmp .ge 57, 3) := by decide +kernel
theorem dX3_readsSum_19 : decode cX3_readsSum 19 = .ok (.aload_n 0, 1) := by decide +kernel
theorem dX3_readsSum_20 : decode cX3_readsSum 20 = .ok (.getfield 9, 3) := by decide +kernel
theorem dX3_readsSum_23 : decode cX3_readsSum 23 = .ok (.invokevirtual 38, 3) := by decide +kernel
theorem dX3_readsSum_26 : decode cX3_readsSum 26 = .ok (.istore_n 3, 1) := by decide +kernel
theorem dX3_readsSum_27 : decode cX3_readsSum 27 = .ok (.iload_n 3, 1) := by decide +kernel
theorem dX3_readsSum_28 : decode cX3_readsSum 28 = .ok (.bipush 43, 2) := by decide +kernel
theorem dX3_readsSum_30 : decode cX3_readsSum 30 = .ok (.if_icmp .eq 11, 3) := by decide +kernel
theorem dX3_readsSum_33 : decode cX3_readsSum 33 = .ok (.iload_n 3, 1) := by decide +kernel
theorem dX3_readsSum_34 : decode cX3_readsSum 34 = .ok (.bipush 45, 2) := by decide +kernel
theorem dX3_readsSum_36 : decode cX3_readsSum 36 = .ok (.if_icmp .eq 5, 3) := by decide +kernel
theorem dX3_readsSum_39 : decode cX3_readsSum 39 = .ok (.iconst 1, 1) := by decide +kernel
theorem dX3_readsSum_40 : decode cX3_readsSum 40 = .ok (.ireturn, 1) := by decide +kernel
theorem dX3_readsSum_41 : decode cX3_readsSum 41 = .ok (.aload_n 0, 1) := by decide +kernel
theorem dX3_readsSum_42 : decode cX3_readsSum 42 = .ok (.getfield 9, 3) := by decide +kernel
theorem dX3_readsSum_45 : decode cX3_readsSum 45 = .ok (.invokevirtual 68, 3) := by decide +kernel
theorem dX3_readsSum_48 : decode cX3_readsSum 48 = .ok (.aload_n 0, 1) := by decide +kernel
theorem dX3_readsSum_49 : decode cX3_readsSum 49 = .ok (.iload_n 1, 1) := by decide +kernel
theorem dX3_readsSum_50 : decode cX3_readsSum 50 = .ok (.invokevirtual 74, 3) := by decide +kernel
theorem dX3_readsSum_53 : decode cX3_readsSum 53 = .ok (.ifCond .ne 5, 3) := by decide +kernel
theorem dX3_readsSum_56 : decode cX3_readsSum 56 = .ok (.iconst 0, 1) := by decide +kernel
theorem dX3_readsSum_57 : decode cX3_readsSum 57 = .ok (.ireturn, 1) := by decide +kernel
theorem dX3_readsSum_58 : decode cX3_readsSum 58 = .ok (.aload_n 0, 1) := by decide +kernel
theorem dX3_readsSum_59 : decode cX3_readsSum 59 = .ok (.getfield 18, 3) := by decide +kernel
theorem dX3_readsSum_62 : decode cX3_readsSum 62 = .ok (.iload_n 3, 1) := by decide +kernel
theorem dX3_readsSum_63 : decode cX3_readsSum 63 = .ok (.ineg, 1) := by decide +kernel
theorem dX3_readsSum_64 : decode cX3_readsSum 64 = .ok (.invokevirtual 34, 3) := by decide +kernel
theorem dX3_readsSum_67 : decode cX3_readsSum 67 = .ok (.iinc 2 1, 3) := by decide +kernel
theorem dX3_readsSum_70 : decode cX3_readsSum 70 = .ok (.goto (-58), 3) := by decide +kernel
theorem dX3_readsSum_73 : decode cX3_readsSum 73 = .ok (.aload_n 0, 1) := by decide +kernel
theorem dX3_readsSum_74 : decode cX3_readsSum 74 = .ok (.getfield 9, 3) := by decide +kernel
theorem dX3_readsSum_77 : decode cX3_readsSum 77 = .ok (.invokevirtual 46, 3) := by decide +kernel
theorem dX3_readsSum_80 : decode cX3_readsSum 80 = .ok (.ireturn, 1) := by decide +kernel
theorem dX3_readsTerm_0 : decode cX3_readsTerm 0 = .ok (.aload_n 0, 1) := by decide +kernel
theorem dX3_readsTerm_1 : decode cX3_readsTerm 1 = .ok (.iload_n 1, 1) := by decide +kernel
theorem dX3_readsTerm_2 : decode cX3_readsTerm 2 = .ok (.invokevirtual 77, 3) := by decide +kernel
theorem dX3_readsTerm_5 : decode cX3_readsTerm 5 = .ok (.ifCond .ne 5, 3) := by decide +kernel
theorem dX3_readsTerm_8 : decode cX3_readsTerm 8 = .ok (.iconst 0, 1) := by decide +kernel
theorem dX3_readsTerm_9 : decode cX3_readsTerm 9 = .ok (.ireturn, 1) := by decide +kernel
theorem dX3_readsTerm_10 : decode cX3_readsTerm 10 = .ok (.iconst 0, 1) := by decide +kernel
theorem dX3_readsTerm_11 : decode cX3_readsTerm 11 = .ok (.istore_n 2, 1) := by decide +kernel
theorem dX3_readsTerm_12 : decode cX3_readsTerm 12 = .ok (.iload_n 2, 1) := by decide +kernel
theorem dX3_readsTerm_13 : decode cX3_readsTerm 13 = .ok (.sipush 240, 3) := by decide +kernel
theorem dX3_readsTerm_16 : decode cX3_readsTerm 16 = .ok (.if_icmp .ge 57, 3) := by decide +kernel
theorem dX3_readsTerm_19 : decode cX3_readsTerm 19 = .ok (.aload_n 0, 1) := by decide +kernel
theorem dX3_readsTerm_20 : decode cX3_readsTerm 20 = .ok (.getfield 9, 3) := by decide +kernel
theorem dX3_readsTerm_23 : decode cX3_readsTerm 23 = .ok (.invokevirtual 38, 3) := by decide +kernel
theorem dX3_readsTerm_26 : decode cX3_readsTerm 26 = .ok (.istore_n 3, 1) := by decide +kernel
theorem dX3_readsTerm_27 : decode cX3_readsTerm 27 = .ok (.iload_n 3, 1) := by decide +kernel
theorem dX3_readsTerm_28 : decode cX3_readsTerm 28 = .ok (.bipush 42, 2) := by decide +kernel
theorem dX3_readsTerm_30 : decode cX3_readsTerm 30 = .ok (.if_icmp .eq 11, 3) := by decide +kernel
theorem dX3_readsTerm_33 : decode cX3_readsTerm 33 = .ok (.iload_n 3, 1) := by decide +kernel
theorem dX3_readsTerm_34 : decode cX3_readsTerm 34 = .ok (.bipush 47, 2) := by decide +kernel
theorem dX3_readsTerm_36 : decode cX3_readsTerm 36 = .ok (.if_icmp .eq 5, 3) := by decide +kernel
theorem dX3_readsTerm_39 : decode cX3_readsTerm 39 = .ok (.iconst 1, 1) := by decide +kernel
theorem dX3_readsTerm_40 : decode cX3_readsTerm 40 = .ok (.ireturn, 1) := by decide +kernel
theorem dX3_readsTerm_41 : decode cX3_readsTerm 41 = .ok (.aload_n 0, 1) := by decide +kernel
theorem dX3_readsTerm_42 : decode cX3_readsTerm 42 = .ok (.getfield 9, 3) := by decide +kernel
theorem dX3_readsTerm_45 : decode cX3_readsTerm 45 = .ok (.invokevirtual 68, 3) := by decide +kernel
theorem dX3_readsTerm_48 : decode cX3_readsTerm 48 = .ok (.aload_n 0, 1) := by decide +kernel
theorem dX3_readsTerm_49 : decode cX3_readsTerm 49 = .ok (.iload_n 1, 1) := by decide +kernel
theorem dX3_readsTerm_50 : decode cX3_readsTerm 50 = .ok (.invokevirtual 77, 3) := by decide +kernel
theorem dX3_readsTerm_53 : decode cX3_readsTerm 53 = .ok (.ifCond .ne 5, 3) := by decide +kernel
theorem dX3_readsTerm_56 : decode cX3_readsTerm 56 = .ok (.iconst 0, 1) := by decide +kernel
theorem dX3_readsTerm_57 : decode cX3_readsTerm 57 = .ok (.ireturn, 1) := by decide +kernel
theorem dX3_readsTerm_58 : decode cX3_readsTerm 58 = .ok (.aload_n 0, 1) := by decide +kernel
theorem dX3_readsTerm_59 : decode cX3_readsTerm 59 = .ok (.getfield 18, 3) := by decide +kernel
theorem dX3_readsTerm_62 : decode cX3_readsTerm 62 = .ok (.iload_n 3, 1) := by decide +kernel
theorem dX3_readsTerm_63 : decode cX3_readsTerm 63 = .ok (.ineg, 1) := by decide +kernel
theorem dX3_readsTerm_64 : decode cX3_readsTerm 64 = .ok (.invokevirtual 34, 3) := by decide +kernel
theorem dX3_readsTerm_67 : decode cX3_readsTerm 67 = .ok (.iinc 2 1, 3) := by decide +kernel
theorem dX3_readsTerm_70 : decode cX3_readsTerm 70 = .ok (.goto (-58), 3) := by decide +kernel
theorem dX3_readsTerm_73 : decode cX3_readsTerm 73 = .ok (.aload_n 0, 1) := by decide +kernel
theorem dX3_readsTerm_74 : decode cX3_readsTerm 74 = .ok (.getfield 9, 3) := by decide +kernel
theorem dX3_readsTerm_77 : decode cX3_readsTerm 77 = .ok (.invokevirtual 46, 3) := by decide +kernel
theorem dX3_readsTerm_80 : decode cX3_readsTerm 80 = .ok (.ireturn, 1) := by decide +kernel
theorem dX3_readsAtom_0 : decode cX3_readsAtom 0 = .ok (.aload_n 0, 1) := by decide +kernel
theorem dX3_readsAtom_1 : decode cX3_readsAtom 1 = .ok (.getfield 9, 3) := by decide +kernel
theorem dX3_readsAtom_4 : decode cX3_readsAtom 4 = .ok (.invokevirtual 38, 3) := by decide +kernel
theorem dX3_readsAtom_7 : decode cX3_readsAtom 7 = .ok (.istore_n 2, 1) := by decide +kernel
theorem dX3_readsAtom_8 : decode cX3_readsAtom 8 = .ok (.iload_n 2, 1) := by decide +kernel
theorem dX3_readsAtom_9 : decode cX3_readsAtom 9 = .ok (.invokestatic 80, 3) := by decide +kernel
theorem dX3_readsAtom_12 : decode cX3_readsAtom 12 = .ok (.ifCond .eq 31, 3) := by decide +kernel
theorem dX3_readsAtom_15 : decode cX3_readsAtom 15 = .ok (.aload_n 0, 1) := by decide +kernel
theorem dX3_readsAtom_16 : decode cX3_readsAtom 16 = .ok (.getfield 9, 3) := by decide +kernel
theorem dX3_readsAtom_19 : decode cX3_readsAtom 19 = .ok (.iconst 4, 1) := by decide +kernel
theorem dX3_readsAtom_20 : decode cX3_readsAtom 20 = .ok (.invokevirtual 83, 3) := by decide +kernel
theorem dX3_readsAtom_23 : decode cX3_readsAtom 23 = .ok (.istore_n 3, 1) := by decide +kernel
theorem dX3_readsAtom_24 : decode cX3_readsAtom 24 = .ok (.aload_n 0, 1) := by decide +kernel
theorem dX3_readsAtom_25 : decode cX3_readsAtom 25 = .ok (.getfield 18, 3) := by decide +kernel
theorem dX3_readsAtom_28 : decode cX3_readsAtom 28 = .ok (.iload_n 3, 1) := by decide +kernel
theorem dX3_readsAtom_29 : decode cX3_readsAtom 29 = .ok (.invokevirtual 34, 3) := by decide +kernel
theorem dX3_readsAtom_32 : decode cX3_readsAtom 32 = .ok (.iload_n 3, 1) := by decide +kernel
theorem dX3_readsAtom_33 : decode cX3_readsAtom 33 = .ok (.iconst (-1), 1) := by decide +kernel
theorem dX3_readsAtom_34 : decode cX3_readsAtom 34 = .ok (.if_icmp .eq 7, 3) := by decide +kernel
theorem dX3_readsAtom_37 : decode cX3_readsAtom 37 = .ok (.iconst 1, 1) := by decide +kernel
theorem dX3_readsAtom_38 : decode cX3_readsAtom 38 = .ok (.goto 4, 3) := by decide +kernel
theorem dX3_readsAtom_41 : decode cX3_readsAtom 41 = .ok (.iconst 0, 1) := by decide +kernel
theorem dX3_readsAtom_42 : decode cX3_readsAtom 42 = .ok (.ireturn, 1) := by decide +kernel
theorem dX3_readsAtom_43 : decode cX3_readsAtom 43 = .ok (.iload_n 2, 1) := by decide +kernel
theorem dX3_readsAtom_44 : decode cX3_readsAtom 44 = .ok (.invokestatic 87, 3) := by decide +kernel
theorem dX3_readsAtom_47 : decode cX3_readsAtom 47 = .ok (.ifCond .eq 21, 3) := by decide +kernel
theorem dX3_readsAtom_50 : decode cX3_readsAtom 50 = .ok (.aload_n 0, 1) := by decide +kernel
theorem dX3_readsAtom_51 : decode cX3_readsAtom 51 = .ok (.getfield 9, 3) := by decide +kernel
theorem dX3_readsAtom_54 : decode cX3_readsAtom 54 = .ok (.invokevirtual 68, 3) := by decide +kernel
theorem dX3_readsAtom_57 : decode cX3_readsAtom 57 = .ok (.aload_n 0, 1) := by decide +kernel
theorem dX3_readsAtom_58 : decode cX3_readsAtom 58 = .ok (.getfield 18, 3) := by decide +kernel
theorem dX3_readsAtom_61 : decode cX3_readsAtom 61 = .ok (.iload_n 2, 1) := by decide +kernel
theorem dX3_readsAtom_62 : decode cX3_readsAtom 62 = .ok (.ineg, 1) := by decide +kernel
theorem dX3_readsAtom_63 : decode cX3_readsAtom 63 = .ok (.invokevirtual 34, 3) := by decide +kernel
theorem dX3_readsAtom_66 : decode cX3_readsAtom 66 = .ok (.iconst 1, 1) := by decide +kernel
theorem dX3_readsAtom_67 : decode cX3_readsAtom 67 = .ok (.ireturn, 1) := by decide +kernel
theorem dX3_readsAtom_68 : decode cX3_readsAtom 68 = .ok (.iload_n 2, 1) := by decide +kernel
theorem dX3_readsAtom_69 : decode cX3_readsAtom 69 = .ok (.bipush 91, 2) := by decide +kernel
theorem dX3_readsAtom_71 : decode cX3_readsAtom 71 = .ok (.if_icmp .ne 9, 3) := by decide +kernel
theorem dX3_readsAtom_74 : decode cX3_readsAtom 74 = .ok (.iload_n 1, 1) := by decide +kernel
theorem dX3_readsAtom_75 : decode cX3_readsAtom 75 = .ok (.bipush 6, 2) := by decide +kernel
theorem dX3_readsAtom_77 : decode cX3_readsAtom 77 = .ok (.if_icmp .lt 11, 3) := by decide +kernel
theorem dX3_readsAtom_80 : decode cX3_readsAtom 80 = .ok (.aload_n 0, 1) := by decide +kernel
theorem dX3_readsAtom_81 : decode cX3_readsAtom 81 = .ok (.getfield 9, 3) := by decide +kernel
theorem dX3_readsAtom_84 : decode cX3_readsAtom 84 = .ok (.invokevirtual 46, 3) := by decide +kernel
theorem dX3_readsAtom_87 : decode cX3_readsAtom 87 = .ok (.ireturn, 1) := by decide +kernel
theorem dX3_readsAtom_88 : decode cX3_readsAtom 88 = .ok (.aload_n 0, 1) := by decide +kernel
theorem dX3_readsAtom_89 : decode cX3_readsAtom 89 = .ok (.getfield 9, 3) := by decide +kernel
theorem dX3_readsAtom_92 : decode cX3_readsAtom 92 = .ok (.invokevirtual 68, 3) := by decide +kernel
theorem dX3_readsAtom_95 : decode cX3_readsAtom 95 = .ok (.aload_n 0, 1) := by decide +kernel
theorem dX3_readsAtom_96 : decode cX3_readsAtom 96 = .ok (.iload_n 1, 1) := by decide +kernel
theorem dX3_readsAtom_97 : decode cX3_readsAtom 97 = .ok (.iconst 1, 1) := by decide +kernel
theorem dX3_readsAtom_98 : decode cX3_readsAtom 98 = .ok (.iadd, 1) := by decide +kernel
theorem dX3_readsAtom_99 : decode cX3_readsAtom 99 = .ok (.invokevirtual 56, 3) := by decide +kernel
theorem dX3_readsAtom_102 : decode cX3_readsAtom 102 = .ok (.ifCond .eq 19, 3) := by decide +kernel
theorem dX3_readsAtom_105 : decode cX3_readsAtom 105 = .ok (.aload_n 0, 1) := by decide +kernel
theorem dX3_readsAtom_106 : decode cX3_readsAtom 106 = .ok (.getfield 9, 3) := by decide +kernel
theorem dX3_readsAtom_109 : decode cX3_readsAtom 109 = .ok (.bipush 93, 2) := by decide +kernel
theorem dX3_readsAtom_111 : decode cX3_readsAtom 111 = .ok (.invokevirtual 42, 3) := by decide +kernel
theorem dX3_readsAtom_114 : decode cX3_readsAtom 114 = .ok (.ifCond .eq 7, 3) := by decide +kernel
theorem dX3_readsAtom_117 : decode cX3_readsAtom 117 = .ok (.iconst 1, 1) := by decide +kernel
theorem dX3_readsAtom_118 : decode cX3_readsAtom 118 = .ok (.goto 4, 3) := by decide +kernel
theorem dX3_readsAtom_121 : decode cX3_readsAtom 121 = .ok (.iconst 0, 1) := by decide +kernel
theorem dX3_readsAtom_122 : decode cX3_readsAtom 122 = .ok (.ireturn, 1) := by decide +kernel
theorem dX3_isRelation_0 : decode cX3_isRelation 0 = .ok (.iload_n 0, 1) := by decide +kernel
theorem dX3_isRelation_1 : decode cX3_isRelation 1 = .ok (.bipush 61, 2) := by decide +kernel
theorem dX3_isRelation_3 : decode cX3_isRelation 3 = .ok (.if_icmp .eq 15, 3) := by decide +kernel
theorem dX3_isRelation_6 : decode cX3_isRelation 6 = .ok (.iload_n 0, 1) := by decide +kernel
theorem dX3_isRelation_7 : decode cX3_isRelation 7 = .ok (.bipush 60, 2) := by decide +kernel
theorem dX3_isRelation_9 : decode cX3_isRelation 9 = .ok (.if_icmp .eq 9, 3) := by decide +kernel
theorem dX3_isRelation_12 : decode cX3_isRelation 12 = .ok (.iload_n 0, 1) := by decide +kernel
theorem dX3_isRelation_13 : decode cX3_isRelation 13 = .ok (.bipush 62, 2) := by decide +kernel
theorem dX3_isRelation_15 : decode cX3_isRelation 15 = .ok (.if_icmp .ne 7, 3) := by decide +kernel
theorem dX3_isRelation_18 : decode cX3_isRelation 18 = .ok (.iconst 1, 1) := by decide +kernel
theorem dX3_isRelation_19 : decode cX3_isRelation 19 = .ok (.goto 4, 3) := by decide +kernel
theorem dX3_isRelation_22 : decode cX3_isRelation 22 = .ok (.iconst 0, 1) := by decide +kernel
theorem dX3_isRelation_23 : decode cX3_isRelation 23 = .ok (.ireturn, 1) := by decide +kernel
theorem dX3_isLetter_0 : decode cX3_isLetter 0 = .ok (.iload_n 0, 1) := by decide +kernel
theorem dX3_isLetter_1 : decode cX3_isLetter 1 = .ok (.bipush 103, 2) := by decide +kernel
theorem dX3_isLetter_3 : decode cX3_isLetter 3 = .ok (.if_icmp .eq 33, 3) := by decide +kernel
theorem dX3_isLetter_6 : decode cX3_isLetter 6 = .ok (.iload_n 0, 1) := by decide +kernel
theorem dX3_isLetter_7 : decode cX3_isLetter 7 = .ok (.bipush 113, 2) := by decide +kernel
theorem dX3_isLetter_9 : decode cX3_isLetter 9 = .ok (.if_icmp .eq 27, 3) := by decide +kernel
theorem dX3_isLetter_12 : decode cX3_isLetter 12 = .ok (.iload_n 0, 1) := by decide +kernel
theorem dX3_isLetter_13 : decode cX3_isLetter 13 = .ok (.bipush 116, 2) := by decide +kernel
theorem dX3_isLetter_15 : decode cX3_isLetter 15 = .ok (.if_icmp .eq 21, 3) := by decide +kernel
theorem dX3_isLetter_18 : decode cX3_isLetter 18 = .ok (.iload_n 0, 1) := by decide +kernel
theorem dX3_isLetter_19 : decode cX3_isLetter 19 = .ok (.bipush 110, 2) := by decide +kernel
theorem dX3_isLetter_21 : decode cX3_isLetter 21 = .ok (.if_icmp .eq 15, 3) := by decide +kernel
theorem dX3_isLetter_24 : decode cX3_isLetter 24 = .ok (.iload_n 0, 1) := by decide +kernel
theorem dX3_isLetter_25 : decode cX3_isLetter 25 = .ok (.bipush 100, 2) := by decide +kernel
theorem dX3_isLetter_27 : decode cX3_isLetter 27 = .ok (.if_icmp .eq 9, 3) := by decide +kernel
theorem dX3_isLetter_30 : decode cX3_isLetter 30 = .ok (.iload_n 0, 1) := by decide +kernel
theorem dX3_isLetter_31 : decode cX3_isLetter 31 = .ok (.bipush 121, 2) := by decide +kernel
theorem dX3_isLetter_33 : decode cX3_isLetter 33 = .ok (.if_icmp .ne 7, 3) := by decide +kernel
theorem dX3_isLetter_36 : decode cX3_isLetter 36 = .ok (.iconst 1, 1) := by decide +kernel
theorem dX3_isLetter_37 : decode cX3_isLetter 37 = .ok (.goto 4, 3) := by decide +kernel
theorem dX3_isLetter_40 : decode cX3_isLetter 40 = .ok (.iconst 0, 1) := by decide +kernel
theorem dX3_isLetter_41 : decode cX3_isLetter 41 = .ok (.ireturn, 1) := by decide +kernel
theorem dX4_init_0 : decode cX4_init 0 = .ok (.aload_n 0, 1) := by decide +kernel
theorem dX4_init_1 : decode cX4_init 1 = .ok (.invokespecial 3, 3) := by decide +kernel
theorem dX4_init_4 : decode cX4_init 4 = .ok (.aload_n 0, 1) := by decide +kernel
theorem dX4_init_5 : decode cX4_init 5 = .ok (.aload_n 1, 1) := by decide +kernel
theorem dX4_init_6 : decode cX4_init 6 = .ok (.putfield 9, 3) := by decide +kernel
theorem dX4_init_9 : decode cX4_init 9 = .ok (.aload_n 0, 1) := by decide +kernel
theorem dX4_init_10 : decode cX4_init 10 = .ok (.aload_n 2, 1) := by decide +kernel
theorem dX4_init_11 : decode cX4_init 11 = .ok (.putfield 15, 3) := by decide +kernel
theorem dX4_init_14 : decode cX4_init 14 = .ok (.aload_n 0, 1) := by decide +kernel
theorem dX4_init_15 : decode cX4_init 15 = .ok (.aload_n 3, 1) := by decide +kernel
theorem dX4_init_16 : decode cX4_init 16 = .ok (.putfield 19, 3) := by decide +kernel
theorem dX4_init_19 : decode cX4_init 19 = .ok (.return_, 1) := by decide +kernel
theorem dX4_setOut_0 : decode cX4_setOut 0 = .ok (.aload_n 0, 1) := by decide +kernel
theorem dX4_setOut_1 : decode cX4_setOut 1 = .ok (.aload_n 0, 1) := by decide +kernel
theorem dX4_setOut_2 : decode cX4_setOut 2 = .ok (.getfield 19, 3) := by decide +kernel
theorem dX4_setOut_5 : decode cX4_setOut 5 = .ok (.getfield 23, 3) := by decide +kernel
theorem dX4_setOut_8 : decode cX4_setOut 8 = .ok (.aload_n 0, 1) := by decide +kernel
theorem dX4_setOut_9 : decode cX4_setOut 9 = .ok (.getfield 19, 3) := by decide +kernel
theorem dX4_setOut_12 : decode cX4_setOut 12 = .ok (.getfield 29, 3) := by decide +kernel
theorem dX4_setOut_15 : decode cX4_setOut 15 = .ok (.aload_n 0, 1) := by decide +kernel
theorem dX4_setOut_16 : decode cX4_setOut 16 = .ok (.getfield 19, 3) := by decide +kernel
theorem dX4_setOut_19 : decode cX4_setOut 19 = .ok (.getfield 32, 3) := by decide +kernel
theorem dX4_setOut_22 : decode cX4_setOut 22 = .ok (.aload_n 0, 1) := by decide +kernel
theorem dX4_setOut_23 : decode cX4_setOut 23 = .ok (.getfield 19, 3) := by decide +kernel
theorem dX4_setOut_26 : decode cX4_setOut 26 = .ok (.getfield 35, 3) := by decide +kernel
theorem dX4_setOut_29 : decode cX4_setOut 29 = .ok (.invokevirtual 38, 3) := by decide +kernel
theorem dX4_setOut_32 : decode cX4_setOut 32 = .ok (.return_, 1) := by decide +kernel
theorem dX4_stay_0 : decode cX4_stay 0 = .ok (.aload_n 0, 1) := by decide +kernel
theorem dX4_stay_1 : decode cX4_stay 1 = .ok (.iload_n 1, 1) := by decide +kernel
theorem dX4_stay_2 : decode cX4_stay 2 = .ok (.putfield 42, 3) := by decide +kernel
theorem dX4_stay_5 : decode cX4_stay 5 = .ok (.aload_n 0, 1) := by decide +kernel
theorem dX4_stay_6 : decode cX4_stay 6 = .ok (.iload_n 2, 1) := by decide +kernel
theorem dX4_stay_7 : decode cX4_stay 7 = .ok (.putfield 43, 3) := by decide +kernel
theorem dX4_stay_10 : decode cX4_stay 10 = .ok (.aload_n 0, 1) := by decide +kernel
theorem dX4_stay_11 : decode cX4_stay 11 = .ok (.iload_n 3, 1) := by decide +kernel
theorem dX4_stay_12 : decode cX4_stay 12 = .ok (.putfield 44, 3) := by decide +kernel
theorem dX4_stay_15 : decode cX4_stay 15 = .ok (.aload_n 0, 1) := by decide +kernel
theorem dX4_stay_16 : decode cX4_stay 16 = .ok (.iload 4, 2) := by decide +kernel
theorem dX4_stay_18 : decode cX4_stay 18 = .ok (.putfield 45, 3) := by decide +kernel
theorem dX4_stay_21 : decode cX4_stay 21 = .ok (.return_, 1) := by decide +kernel
theorem dX4_comesTo_0 : decode cX4_comesTo 0 = .ok (.aload_n 0, 1) := by decide +kernel
theorem dX4_comesTo_1 : decode cX4_comesTo 1 = .ok (.getfield 9, 3) := by decide +kernel
theorem dX4_comesTo_4 : decode cX4_comesTo 4 = .ok (.iload_n 1, 1) := by decide +kernel
theorem dX4_comesTo_5 : decode cX4_comesTo 5 = .ok (.invokevirtual 46, 3) := by decide +kernel
theorem dX4_comesTo_8 : decode cX4_comesTo 8 = .ok (.ifCond .eq 22, 3) := by decide +kernel
theorem dX4_comesTo_11 : decode cX4_comesTo 11 = .ok (.iload_n 1, 1) := by decide +kernel
theorem dX4_comesTo_12 : decode cX4_comesTo 12 = .ok (.aload_n 0, 1) := by decide +kernel
theorem dX4_comesTo_13 : decode cX4_comesTo 13 = .ok (.getfield 42, 3) := by decide +kernel
theorem dX4_comesTo_16 : decode cX4_comesTo 16 = .ok (.if_icmp .eq 14, 3) := by decide +kernel
theorem dX4_comesTo_19 : decode cX4_comesTo 19 = .ok (.aload_n 0, 1) := by decide +kernel
theorem dX4_comesTo_20 : decode cX4_comesTo 20 = .ok (.getfield 45, 3) := by decide +kernel
theorem dX4_comesTo_23 : decode cX4_comesTo 23 = .ok (.iload_n 1, 1) := by decide +kernel
theorem dX4_comesTo_24 : decode cX4_comesTo 24 = .ok (.invokestatic 52, 3) := by decide +kernel
theorem dX4_comesTo_27 : decode cX4_comesTo 27 = .ok (.ifCond .eq 5, 3) := by decide +kernel
theorem dX4_comesTo_30 : decode cX4_comesTo 30 = .ok (.iconst 0, 1) := by decide +kernel
theorem dX4_comesTo_31 : decode cX4_comesTo 31 = .ok (.ireturn, 1) := by decide +kernel
theorem dX4_comesTo_32 : decode cX4_comesTo 32 = .ok (.aload_n 0, 1) := by decide +kernel
theorem dX4_comesTo_33 : decode cX4_comesTo 33 = .ok (.getfield 9, 3) := by decide +kernel
theorem dX4_comesTo_36 : decode cX4_comesTo 36 = .ok (.aload_n 0, 1) := by decide +kernel
theorem dX4_comesTo_37 : decode cX4_comesTo 37 = .ok (.getfield 42, 3) := by decide +kernel
theorem dX4_comesTo_40 : decode cX4_comesTo 40 = .ok (.iload_n 1, 1) := by decide +kernel
theorem dX4_comesTo_41 : decode cX4_comesTo 41 = .ok (.invokevirtual 56, 3) := by decide +kernel
theorem dX4_comesTo_44 : decode cX4_comesTo 44 = .ok (.istore_n 2, 1) := by decide +kernel
theorem dX4_comesTo_45 : decode cX4_comesTo 45 = .ok (.aload_n 0, 1) := by decide +kernel
theorem dX4_comesTo_46 : decode cX4_comesTo 46 = .ok (.getfield 19, 3) := by decide +kernel
theorem dX4_comesTo_49 : decode cX4_comesTo 49 = .ok (.iload_n 1, 1) := by decide +kernel
theorem dX4_comesTo_50 : decode cX4_comesTo 50 = .ok (.invokevirtual 60, 3) := by decide +kernel
theorem dX4_comesTo_53 : decode cX4_comesTo 53 = .ok (.istore_n 3, 1) := by decide +kernel
theorem dX4_comesTo_54 : decode cX4_comesTo 54 = .ok (.aload_n 0, 1) := by decide +kernel
theorem dX4_comesTo_55 : decode cX4_comesTo 55 = .ok (.getfield 9, 3) := by decide +kernel
theorem dX4_comesTo_58 : decode cX4_comesTo 58 = .ok (.iload_n 1, 1) := by decide +kernel
theorem dX4_comesTo_59 : decode cX4_comesTo 59 = .ok (.invokevirtual 64, 3) := by decide +kernel
theorem dX4_comesTo_62 : decode cX4_comesTo 62 = .ok (.istore 4, 2) := by decide +kernel
theorem dX4_comesTo_64 : decode cX4_comesTo 64 = .ok (.aload_n 0, 1) := by decide +kernel
theorem dX4_comesTo_65 : decode cX4_comesTo 65 = .ok (.getfield 15, 3) := by decide +kernel
theorem dX4_comesTo_68 : decode cX4_comesTo 68 = .ok (.iload_n 3, 1) := by decide +kernel
theorem dX4_comesTo_69 : decode cX4_comesTo 69 = .ok (.iload 4, 2) := by decide +kernel
theorem dX4_comesTo_71 : decode cX4_comesTo 71 = .ok (.aload_n 0, 1) := by decide +kernel
theorem dX4_comesTo_72 : decode cX4_comesTo 72 = .ok (.getfield 43, 3) := by decide +kernel
theorem dX4_comesTo_75 : decode cX4_comesTo 75 = .ok (.iload_n 2, 1) := by decide +kernel
theorem dX4_comesTo_76 : decode cX4_comesTo 76 = .ok (.iadd, 1) := by decide +kernel
theorem dX4_comesTo_77 : decode cX4_comesTo 77 = .ok (.aload_n 0, 1) := by decide +kernel
theorem dX4_comesTo_78 : decode cX4_comesTo 78 = .ok (.getfield 45, 3) := by decide +kernel
theorem dX4_comesTo_81 : decode cX4_comesTo 81 = .ok (.invokestatic 67, 3) := by decide +kernel
theorem dX4_comesTo_84 : decode cX4_comesTo 84 = .ok (.iload_n 2, 1) := by decide +kernel
theorem dX4_comesTo_85 : decode cX4_comesTo 85 = .ok (.aload_n 0, 1) := by decide +kernel
theorem dX4_comesTo_86 : decode cX4_comesTo 86 = .ok (.getfield 19, 3) := by decide +kernel
theorem dX4_comesTo_89 : decode cX4_comesTo 89 = .ok (.getfield 72, 3) := by decide +kernel
theorem dX4_comesTo_92 : decode cX4_comesTo 92 = .ok (.invokevirtual 75, 3) := by decide +kernel
theorem dX4_comesTo_95 : decode cX4_comesTo 95 = .ok (.istore 5, 2) := by decide +kernel
theorem dX4_comesTo_97 : decode cX4_comesTo 97 = .ok (.aload_n 0, 1) := by decide +kernel
theorem dX4_comesTo_98 : decode cX4_comesTo 98 = .ok (.getfield 43, 3) := by decide +kernel
theorem dX4_comesTo_101 : decode cX4_comesTo 101 = .ok (.iload_n 2, 1) := by decide +kernel
theorem dX4_comesTo_102 : decode cX4_comesTo 102 = .ok (.iadd, 1) := by decide +kernel
theorem dX4_comesTo_103 : decode cX4_comesTo 103 = .ok (.iload 5, 2) := by decide +kernel
theorem dX4_comesTo_105 : decode cX4_comesTo 105 = .ok (.iadd, 1) := by decide +kernel
theorem dX4_comesTo_106 : decode cX4_comesTo 106 = .ok (.aload_n 0, 1) := by decide +kernel
theorem dX4_comesTo_107 : decode cX4_comesTo 107 = .ok (.getfield 9, 3) := by decide +kernel
theorem dX4_comesTo_110 : decode cX4_comesTo 110 = .ok (.invokevirtual 81, 3) := by decide +kernel
theorem dX4_comesTo_113 : decode cX4_comesTo 113 = .ok (.if_icmp .gt 19, 3) := by decide +kernel
theorem dX4_comesTo_116 : decode cX4_comesTo 116 = .ok (.aload_n 0, 1) := by decide +kernel
theorem dX4_comesTo_117 : decode cX4_comesTo 117 = .ok (.getfield 44, 3) := by decide +kernel
theorem dX4_comesTo_120 : decode cX4_comesTo 120 = .ok (.iload_n 2, 1) := by decide +kernel
theorem dX4_comesTo_121 : decode cX4_comesTo 121 = .ok (.iadd, 1) := by decide +kernel
theorem dX4_comesTo_122 : decode cX4_comesTo 122 = .ok (.aload_n 0, 1) := by decide +kernel
theorem dX4_comesTo_123 : decode cX4_comesTo 123 = .ok (.getfield 9, 3) := by decide +kernel
theorem dX4_comesTo_126 : decode cX4_comesTo 126 = .ok (.invokevirtual 85, 3) := by decide +kernel
theorem dX4_comesTo_129 : decode cX4_comesTo 129 = .ok (.if_icmp .le 5, 3) := by decide +kernel
theorem dX4_comesTo_132 : decode cX4_comesTo 132 = .ok (.iconst 0, 1) := by decide +kernel
theorem dX4_comesTo_133 : decode cX4_comesTo 133 = .ok (.ireturn, 1) := by decide +kernel
theorem dX4_comesTo_134 : decode cX4_comesTo 134 = .ok (.aload_n 0, 1) := by decide +kernel
theorem dX4_comesTo_135 : decode cX4_comesTo 135 = .ok (.iload_n 1, 1) := by decide +kernel
theorem dX4_comesTo_136 : decode cX4_comesTo 136 = .ok (.aload_n 0, 1) := by decide +kernel
theorem dX4_comesTo_137 : decode cX4_comesTo 137 = .ok (.getfield 43, 3) := by decide +kernel
theorem dX4_comesTo_140 : decode cX4_comesTo 140 = .ok (.iload_n 2, 1) := by decide +kernel
theorem dX4_comesTo_141 : decode cX4_comesTo 141 = .ok (.iadd, 1) := by decide +kernel
theorem dX4_comesTo_142 : decode cX4_comesTo 142 = .ok (.iload 5, 2) := by decide +kernel
theorem dX4_comesTo_144 : decode cX4_comesTo 144 = .ok (.iadd, 1) := by decide +kernel
theorem dX4_comesTo_145 : decode cX4_comesTo 145 = .ok (.aload_n 0, 1) := by decide +kernel
theorem dX4_comesTo_146 : decode cX4_comesTo 146 = .ok (.getfield 44, 3) := by decide +kernel
theorem dX4_comesTo_149 : decode cX4_comesTo 149 = .ok (.iload_n 2, 1) := by decide +kernel
theorem dX4_comesTo_150 : decode cX4_comesTo 150 = .ok (.iadd, 1) := by decide +kernel
theorem dX4_comesTo_151 : decode cX4_comesTo 151 = .ok (.aload_n 0, 1) := by decide +kernel
theorem dX4_comesTo_152 : decode cX4_comesTo 152 = .ok (.getfield 45, 3) := by decide +kernel
theorem dX4_comesTo_155 : decode cX4_comesTo 155 = .ok (.iconst 1, 1) := by decide +kernel
theorem dX4_comesTo_156 : decode cX4_comesTo 156 = .ok (.iload_n 1, 1) := by decide +kernel
theorem dX4_comesTo_157 : decode cX4_comesTo 157 = .ok (.ishl, 1) := by decide +kernel
theorem dX4_comesTo_158 : decode cX4_comesTo 158 = .ok (.ior, 1) := by decide +kernel
theorem dX4_comesTo_159 : decode cX4_comesTo 159 = .ok (.invokevirtual 38, 3) := by decide +kernel
theorem dX4_comesTo_162 : decode cX4_comesTo 162 = .ok (.aload_n 0, 1) := by decide +kernel
theorem dX4_comesTo_163 : decode cX4_comesTo 163 = .ok (.iload 5, 2) := by decide +kernel
theorem dX4_comesTo_165 : decode cX4_comesTo 165 = .ok (.putfield 88, 3) := by decide +kernel
theorem dX4_comesTo_168 : decode cX4_comesTo 168 = .ok (.aload_n 0, 1) := by decide +kernel
theorem dX4_comesTo_169 : decode cX4_comesTo 169 = .ok (.iload 4, 2) := by decide +kernel
theorem dX4_comesTo_171 : decode cX4_comesTo 171 = .ok (.ifCond .eq 7, 3) := by decide +kernel
theorem dX4_comesTo_174 : decode cX4_comesTo 174 = .ok (.iconst 0, 1) := by decide +kernel
theorem dX4_comesTo_175 : decode cX4_comesTo 175 = .ok (.goto 9, 3) := by decide +kernel
theorem dX4_comesTo_178 : decode cX4_comesTo 178 = .ok (.iload_n 3, 1) := by decide +kernel
theorem dX4_comesTo_179 : decode cX4_comesTo 179 = .ok (.iload 5, 2) := by decide +kernel
theorem dX4_comesTo_181 : decode cX4_comesTo 181 = .ok (.invokestatic 91, 3) := by decide +kernel
theorem dX4_comesTo_184 : decode cX4_comesTo 184 = .ok (.putfield 96, 3) := by decide +kernel
theorem dX4_comesTo_187 : decode cX4_comesTo 187 = .ok (.iconst 1, 1) := by decide +kernel
theorem dX4_comesTo_188 : decode cX4_comesTo 188 = .ok (.ireturn, 1) := by decide +kernel
theorem dX4_findRoute_0 : decode cX4_findRoute 0 = .ok (.aload_n 0, 1) := by decide +kernel
theorem dX4_findRoute_1 : decode cX4_findRoute 1 = .ok (.invokevirtual 99, 3) := by decide +kernel
theorem dX4_findRoute_4 : decode cX4_findRoute 4 = .ok (.aload_n 0, 1) := by decide +kernel
theorem dX4_findRoute_5 : decode cX4_findRoute 5 = .ok (.iconst 0, 1) := by decide +kernel
theorem dX4_findRoute_6 : decode cX4_findRoute 6 = .ok (.putfield 102, 3) := by decide +kernel
theorem dX4_findRoute_9 : decode cX4_findRoute 9 = .ok (.aload_n 0, 1) := by decide +kernel
theorem dX4_findRoute_10 : decode cX4_findRoute 10 = .ok (.iconst 0, 1) := by decide +kernel
theorem dX4_findRoute_11 : decode cX4_findRoute 11 = .ok (.putfield 105, 3) := by decide +kernel
theorem dX4_findRoute_14 : decode cX4_findRoute 14 = .ok (.aload_n 0, 1) := by decide +kernel
theorem dX4_findRoute_15 : decode cX4_findRoute 15 = .ok (.iconst 0, 1) := by decide +kernel
theorem dX4_findRoute_16 : decode cX4_findRoute 16 = .ok (.putfield 108, 3) := by decide +kernel
theorem dX4_findRoute_19 : decode cX4_findRoute 19 = .ok (.aload_n 0, 1) := by decide +kernel
theorem dX4_findRoute_20 : decode cX4_findRoute 20 = .ok (.aload_n 0, 1) := by decide +kernel
theorem dX4_findRoute_21 : decode cX4_findRoute 21 = .ok (.getfield 19, 3) := by decide +kernel
theorem dX4_findRoute_24 : decode cX4_findRoute 24 = .ok (.getfield 29, 3) := by decide +kernel
theorem dX4_findRoute_27 : decode cX4_findRoute 27 = .ok (.putfield 111, 3) := by decide +kernel
theorem dX4_findRoute_30 : decode cX4_findRoute 30 = .ok (.aload_n 0, 1) := by decide +kernel
theorem dX4_findRoute_31 : decode cX4_findRoute 31 = .ok (.iconst 0, 1) := by decide +kernel
theorem dX4_findRoute_32 : decode cX4_findRoute 32 = .ok (.iconst 0, 1) := by decide +kernel
theorem dX4_findRoute_33 : decode cX4_findRoute 33 = .ok (.iconst 0, 1) := by decide +kernel
theorem dX4_findRoute_34 : decode cX4_findRoute 34 = .ok (.invokevirtual 114, 3) := by decide +kernel
theorem dX4_findRoute_37 : decode cX4_findRoute 37 = .ok (.return_, 1) := by decide +kernel
theorem dX4_goOn_0 : decode cX4_goOn 0 = .ok (.iload_n 1, 1) := by decide +kernel
theorem dX4_goOn_1 : decode cX4_goOn 1 = .ok (.bipush 7, 2) := by decide +kernel
theorem dX4_goOn_3 : decode cX4_goOn 3 = .ok (.if_icmp .ge 12, 3) := by decide +kernel
theorem dX4_goOn_6 : decode cX4_goOn 6 = .ok (.aload_n 0, 1) := by decide +kernel
theorem dX4_goOn_7 : decode cX4_goOn 7 = .ok (.iload_n 1, 1) := by decide +kernel
theorem dX4_goOn_8 : decode cX4_goOn 8 = .ok (.iload_n 3, 1) := by decide +kernel
theorem dX4_goOn_9 : decode cX4_goOn 9 = .ok (.invokevirtual 118, 3) := by decide +kernel
theorem dX4_goOn_12 : decode cX4_goOn 12 = .ok (.ifCond .eq 4, 3) := by decide +kernel
theorem dX4_goOn_15 : decode cX4_goOn 15 = .ok (.return_, 1) := by decide +kernel
theorem dX4_goOn_16 : decode cX4_goOn 16 = .ok (.aload_n 0, 1) := by decide +kernel
theorem dX4_goOn_17 : decode cX4_goOn 17 = .ok (.getfield 42, 3) := by decide +kernel
theorem dX4_goOn_20 : decode cX4_goOn 20 = .ok (.istore 4, 2) := by decide +kernel
theorem dX4_goOn_22 : decode cX4_goOn 22 = .ok (.aload_n 0, 1) := by decide +kernel
theorem dX4_goOn_23 : decode cX4_goOn 23 = .ok (.getfield 43, 3) := by decide +kernel
theorem dX4_goOn_26 : decode cX4_goOn 26 = .ok (.istore 5, 2) := by decide +kernel
theorem dX4_goOn_28 : decode cX4_goOn 28 = .ok (.aload_n 0, 1) := by decide +kernel
theorem dX4_goOn_29 : decode cX4_goOn 29 = .ok (.getfield 44, 3) := by decide +kernel
theorem dX4_goOn_32 : decode cX4_goOn 32 = .ok (.istore 6, 2) := by decide +kernel
theorem dX4_goOn_34 : decode cX4_goOn 34 = .ok (.aload_n 0, 1) := by decide +kernel
theorem dX4_goOn_35 : decode cX4_goOn 35 = .ok (.getfield 45, 3) := by decide +kernel
theorem dX4_goOn_38 : decode cX4_goOn 38 = .ok (.istore 7, 2) := by decide +kernel
theorem dX4_goOn_40 : decode cX4_goOn 40 = .ok (.iconst 0, 1) := by decide +kernel
theorem dX4_goOn_41 : decode cX4_goOn 41 = .ok (.istore 8, 2) := by decide +kernel
theorem dX4_goOn_43 : decode cX4_goOn 43 = .ok (.iload 8, 2) := by decide +kernel
theorem dX4_goOn_45 : decode cX4_goOn 45 = .ok (.aload_n 0, 1) := by decide +kernel
theorem dX4_goOn_46 : decode cX4_goOn 46 = .ok (.getfield 9, 3) := by decide +kernel
theorem dX4_goOn_49 : decode cX4_goOn 49 = .ok (.invokevirtual 121, 3) := by decide +kernel
theorem dX4_goOn_52 : decode cX4_goOn 52 = .ok (.if_icmp .ge 70, 3) := by decide +kernel
theorem dX4_goOn_55 : decode cX4_goOn 55 = .ok (.aload_n 0, 1) := by decide +kernel
theorem dX4_goOn_56 : decode cX4_goOn 56 = .ok (.iload 8, 2) := by decide +kernel
theorem dX4_goOn_58 : decode cX4_goOn 58 = .ok (.invokevirtual 124, 3) := by decide +kernel
theorem dX4_goOn_61 : decode cX4_goOn 61 = .ok (.ifCond .eq 55, 3) := by decide +kernel
theorem dX4_goOn_64 : decode cX4_goOn 64 = .ok (.iload_n 3, 1) := by decide +kernel
theorem dX4_goOn_65 : decode cX4_goOn 65 = .ok (.aload_n 0, 1) := by decide +kernel
theorem dX4_goOn_66 : decode cX4_goOn 66 = .ok (.getfield 96, 3) := by decide +kernel
theorem dX4_goOn_69 : decode cX4_goOn 69 = .ok (.iadd, 1) := by decide +kernel
theorem dX4_goOn_70 : decode cX4_goOn 70 = .ok (.istore 9, 2) := by decide +kernel
theorem dX4_goOn_72 : decode cX4_goOn 72 = .ok (.aload_n 0, 1) := by decide +kernel
theorem dX4_goOn_73 : decode cX4_goOn 73 = .ok (.iload_n 1, 1) := by decide +kernel
theorem dX4_goOn_74 : decode cX4_goOn 74 = .ok (.iconst 1, 1) := by decide +kernel
theorem dX4_goOn_75 : decode cX4_goOn 75 = .ok (.iadd, 1) := by decide +kernel
theorem dX4_goOn_76 : decode cX4_goOn 76 = .ok (.iload_n 2, 1) := by decide +kernel
theorem dX4_goOn_77 : decode cX4_goOn 77 = .ok (.bipush 10, 2) := by decide +kernel
theorem dX4_goOn_79 : decode cX4_goOn 79 = .ok (.imul, 1) := by decide +kernel
theorem dX4_goOn_80 : decode cX4_goOn 80 = .ok (.iload 8, 2) := by decide +kernel
theorem dX4_goOn_82 : decode cX4_goOn 82 = .ok (.iadd, 1) := by decide +kernel
theorem dX4_goOn_83 : decode cX4_goOn 83 = .ok (.iload 9, 2) := by decide +kernel
theorem dX4_goOn_85 : decode cX4_goOn 85 = .ok (.invokevirtual 127, 3) := by decide +kernel
theorem dX4_goOn_88 : decode cX4_goOn 88 = .ok (.aload_n 0, 1) := by decide +kernel
theorem dX4_goOn_89 : decode cX4_goOn 89 = .ok (.iload_n 1, 1) := by decide +kernel
theorem dX4_goOn_90 : decode cX4_goOn 90 = .ok (.iconst 1, 1) := by decide +kernel
theorem dX4_goOn_91 : decode cX4_goOn 91 = .ok (.iadd, 1) := by decide +kernel
theorem dX4_goOn_92 : decode cX4_goOn 92 = .ok (.iload_n 2, 1) := by decide +kernel
theorem dX4_goOn_93 : decode cX4_goOn 93 = .ok (.bipush 10, 2) := by decide +kernel
theorem dX4_goOn_95 : decode cX4_goOn 95 = .ok (.imul, 1) := by decide +kernel
theorem dX4_goOn_96 : decode cX4_goOn 96 = .ok (.iload 8, 2) := by decide +kernel
theorem dX4_goOn_98 : decode cX4_goOn 98 = .ok (.iadd, 1) := by decide +kernel
theorem dX4_goOn_99 : decode cX4_goOn 99 = .ok (.iload 9, 2) := by decide +kernel
theorem dX4_goOn_101 : decode cX4_goOn 101 = .ok (.invokevirtual 114, 3) := by decide +kernel
theorem dX4_goOn_104 : decode cX4_goOn 104 = .ok (.aload_n 0, 1) := by decide +kernel
theorem dX4_goOn_105 : decode cX4_goOn 105 = .ok (.iload 4, 2) := by decide +kernel
theorem dX4_goOn_107 : decode cX4_goOn 107 = .ok (.iload 5, 2) := by decide +kernel
theorem dX4_goOn_109 : decode cX4_goOn 109 = .ok (.iload 6, 2) := by decide +kernel
theorem dX4_goOn_111 : decode cX4_goOn 111 = .ok (.iload 7, 2) := by decide +kernel
theorem dX4_goOn_113 : decode cX4_goOn 113 = .ok (.invokevirtual 38, 3) := by decide +kernel
theorem dX4_goOn_116 : decode cX4_goOn 116 = .ok (.iinc 8 1, 3) := by decide +kernel
theorem dX4_goOn_119 : decode cX4_goOn 119 = .ok (.goto (-76), 3) := by decide +kernel
theorem dX4_goOn_122 : decode cX4_goOn 122 = .ok (.return_, 1) := by decide +kernel
theorem dX4_consider_0 : decode cX4_consider 0 = .ok (.iload_n 3, 1) := by decide +kernel
theorem dX4_consider_1 : decode cX4_consider 1 = .ok (.aload_n 0, 1) := by decide +kernel
theorem dX4_consider_2 : decode cX4_consider 2 = .ok (.getfield 108, 3) := by decide +kernel
theorem dX4_consider_5 : decode cX4_consider 5 = .ok (.if_icmp .gt 19, 3) := by decide +kernel
theorem dX4_consider_8 : decode cX4_consider 8 = .ok (.iload_n 3, 1) := by decide +kernel
theorem dX4_consider_9 : decode cX4_consider 9 = .ok (.aload_n 0, 1) := by decide +kernel
theorem dX4_consider_10 : decode cX4_consider 10 = .ok (.getfield 108, 3) := by decide +kernel
theorem dX4_consider_13 : decode cX4_consider 13 = .ok (.if_icmp .ne 34, 3) := by decide +kernel
theorem dX4_consider_16 : decode cX4_consider 16 = .ok (.iload_n 1, 1) := by decide +kernel
theorem dX4_consider_17 : decode cX4_consider 17 = .ok (.aload_n 0, 1) := by decide +kernel
theorem dX4_consider_18 : decode cX4_consider 18 = .ok (.getfield 105, 3) := by decide +kernel
theorem dX4_consider_21 : decode cX4_consider 21 = .ok (.if_icmp .ge 26, 3) := by decide +kernel
theorem dX4_consider_24 : decode cX4_consider 24 = .ok (.aload_n 0, 1) := by decide +kernel
theorem dX4_consider_25 : decode cX4_consider 25 = .ok (.iload_n 2, 1) := by decide +kernel
theorem dX4_consider_26 : decode cX4_consider 26 = .ok (.putfield 102, 3) := by decide +kernel
theorem dX4_consider_29 : decode cX4_consider 29 = .ok (.aload_n 0, 1) := by decide +kernel
theorem dX4_consider_30 : decode cX4_consider 30 = .ok (.iload_n 1, 1) := by decide +kernel
theorem dX4_consider_31 : decode cX4_consider 31 = .ok (.putfield 105, 3) := by decide +kernel
theorem dX4_consider_34 : decode cX4_consider 34 = .ok (.aload_n 0, 1) := by decide +kernel
theorem dX4_consider_35 : decode cX4_consider 35 = .ok (.iload_n 3, 1) := by decide +kernel
theorem dX4_consider_36 : decode cX4_consider 36 = .ok (.putfield 108, 3) := by decide +kernel
theorem dX4_consider_39 : decode cX4_consider 39 = .ok (.aload_n 0, 1) := by decide +kernel
theorem dX4_consider_40 : decode cX4_consider 40 = .ok (.aload_n 0, 1) := by decide +kernel
theorem dX4_consider_41 : decode cX4_consider 41 = .ok (.getfield 43, 3) := by decide +kernel
theorem dX4_consider_44 : decode cX4_consider 44 = .ok (.putfield 111, 3) := by decide +kernel
theorem dX4_consider_47 : decode cX4_consider 47 = .ok (.return_, 1) := by decide +kernel
theorem dX4_isHopeless_0 : decode cX4_isHopeless 0 = .ok (.iload_n 2, 1) := by decide +kernel
theorem dX4_isHopeless_1 : decode cX4_isHopeless 1 = .ok (.istore_n 3, 1) := by decide +kernel
theorem dX4_isHopeless_2 : decode cX4_isHopeless 2 = .ok (.iconst 0, 1) := by decide +kernel
theorem dX4_isHopeless_3 : decode cX4_isHopeless 3 = .ok (.istore 4, 2) := by decide +kernel
theorem dX4_isHopeless_5 : decode cX4_isHopeless 5 = .ok (.iload 4, 2) := by decide +kernel
theorem dX4_isHopeless_7 : decode cX4_isHopeless 7 = .ok (.aload_n 0, 1) := by decide +kernel
theorem dX4_isHopeless_8 : decode cX4_isHopeless 8 = .ok (.getfield 9, 3) := by decide +kernel
theorem dX4_isHopeless_11 : decode cX4_isHopeless 11 = .ok (.invokevirtual 121, 3) := by decide +kernel
theorem dX4_isHopeless_14 : decode cX4_isHopeless 14 = .ok (.if_icmp .ge 45, 3) := by decide +kernel
theorem dX4_isHopeless_17 : decode cX4_isHopeless 17 = .ok (.aload_n 0, 1) := by decide +kernel
theorem dX4_isHopeless_18 : decode cX4_isHopeless 18 = .ok (.getfield 45, 3) := by decide +kernel
theorem dX4_isHopeless_21 : decode cX4_isHopeless 21 = .ok (.iload 4, 2) := by decide +kernel
theorem dX4_isHopeless_23 : decode cX4_isHopeless 23 = .ok (.invokestatic 52, 3) := by decide +kernel
theorem dX4_isHopeless_26 : decode cX4_isHopeless 26 = .ok (.ifCond .ne 27, 3) := by decide +kernel
theorem dX4_isHopeless_29 : decode cX4_isHopeless 29 = .ok (.aload_n 0, 1) := by decide +kernel
theorem dX4_isHopeless_30 : decode cX4_isHopeless 30 = .ok (.getfield 9, 3) := by decide +kernel
theorem dX4_isHopeless_33 : decode cX4_isHopeless 33 = .ok (.iload 4, 2) := by decide +kernel
theorem dX4_isHopeless_35 : decode cX4_isHopeless 35 = .ok (.invokevirtual 64, 3) := by decide +kernel
theorem dX4_isHopeless_38 : decode cX4_isHopeless 38 = .ok (.ifCond .ne 15, 3) := by decide +kernel
theorem dX4_isHopeless_41 : decode cX4_isHopeless 41 = .ok (.iload_n 3, 1) := by decide +kernel
theorem dX4_isHopeless_42 : decode cX4_isHopeless 42 = .ok (.aload_n 0, 1) := by decide +kernel
theorem dX4_isHopeless_43 : decode cX4_isHopeless 43 = .ok (.getfield 19, 3) := by decide +kernel
theorem dX4_isHopeless_46 : decode cX4_isHopeless 46 = .ok (.iload 4, 2) := by decide +kernel
theorem dX4_isHopeless_48 : decode cX4_isHopeless 48 = .ok (.invokevirtual 60, 3) := by decide +kernel
theorem dX4_isHopeless_51 : decode cX4_isHopeless 51 = .ok (.iadd, 1) := by decide +kernel
theorem dX4_isHopeless_52 : decode cX4_isHopeless 52 = .ok (.istore_n 3, 1) := by decide +kernel
theorem dX4_isHopeless_53 : decode cX4_isHopeless 53 = .ok (.iinc 4 1, 3) := by decide +kernel
theorem dX4_isHopeless_56 : decode cX4_isHopeless 56 = .ok (.goto (-51), 3) := by decide +kernel
theorem dX4_isHopeless_59 : decode cX4_isHopeless 59 = .ok (.iload_n 3, 1) := by decide +kernel
theorem dX4_isHopeless_60 : decode cX4_isHopeless 60 = .ok (.aload_n 0, 1) := by decide +kernel
theorem dX4_isHopeless_61 : decode cX4_isHopeless 61 = .ok (.getfield 108, 3) := by decide +kernel
theorem dX4_isHopeless_64 : decode cX4_isHopeless 64 = .ok (.if_icmp .lt 21, 3) := by decide +kernel
theorem dX4_isHopeless_67 : decode cX4_isHopeless 67 = .ok (.iload_n 3, 1) := by decide +kernel
theorem dX4_isHopeless_68 : decode cX4_isHopeless 68 = .ok (.aload_n 0, 1) := by decide +kernel
theorem dX4_isHopeless_69 : decode cX4_isHopeless 69 = .ok (.getfield 108, 3) := by decide +kernel
theorem dX4_isHopeless_72 : decode cX4_isHopeless 72 = .ok (.if_icmp .ne 17, 3) := by decide +kernel
theorem dX4_isHopeless_75 : decode cX4_isHopeless 75 = .ok (.iload_n 1, 1) := by decide +kernel
theorem dX4_isHopeless_76 : decode cX4_isHopeless 76 = .ok (.iconst 1, 1) := by decide +kernel
theorem dX4_isHopeless_77 : decode cX4_isHopeless 77 = .ok (.iadd, 1) := by decide +kernel
theorem dX4_isHopeless_78 : decode cX4_isHopeless 78 = .ok (.aload_n 0, 1) := by decide +kernel
theorem dX4_isHopeless_79 : decode cX4_isHopeless 79 = .ok (.getfield 105, 3) := by decide +kernel
theorem dX4_isHopeless_82 : decode cX4_isHopeless 82 = .ok (.if_icmp .lt 7, 3) := by decide +kernel
theorem dX4_isHopeless_85 : decode cX4_isHopeless 85 = .ok (.iconst 1, 1) := by decide +kernel
theorem dX4_isHopeless_86 : decode cX4_isHopeless 86 = .ok (.goto 4, 3) := by decide +kernel
theorem dX4_isHopeless_89 : decode cX4_isHopeless 89 = .ok (.iconst 0, 1) := by decide +kernel
theorem dX4_isHopeless_90 : decode cX4_isHopeless 90 = .ok (.ireturn, 1) := by decide +kernel
theorem dX5_init_0 : decode cX5_init 0 = .ok (.aload_n 0, 1) := by decide +kernel
theorem dX5_init_1 : decode cX5_init 1 = .ok (.invokespecial 3, 3) := by decide +kernel
theorem dX5_init_4 : decode cX5_init 4 = .ok (.aload_n 0, 1) := by decide +kernel
theorem dX5_init_5 : decode cX5_init 5 = .ok (.bipush 40, 2) := by decide +kernel
theorem dX5_init_7 : decode cX5_init 7 = .ok (.anewarray 9, 3) := by decide +kernel
theorem dX5_init_10 : decode cX5_init 10 = .ok (.putfield 11, 3) := by decide +kernel
theorem dX5_init_13 : decode cX5_init 13 = .ok (.iconst 0, 1) := by decide +kernel
theorem dX5_init_14 : decode cX5_init 14 = .ok (.istore_n 1, 1) := by decide +kernel
theorem dX5_init_15 : decode cX5_init 15 = .ok (.iload_n 1, 1) := by decide +kernel
theorem dX5_init_16 : decode cX5_init 16 = .ok (.bipush 40, 2) := by decide +kernel
theorem dX5_init_18 : decode cX5_init 18 = .ok (.if_icmp .ge 22, 3) := by decide +kernel
theorem dX5_init_21 : decode cX5_init 21 = .ok (.aload_n 0, 1) := by decide +kernel
theorem dX5_init_22 : decode cX5_init 22 = .ok (.getfield 11, 3) := by decide +kernel
theorem dX5_init_25 : decode cX5_init 25 = .ok (.iload_n 1, 1) := by decide +kernel
theorem dX5_init_26 : decode cX5_init 26 = .ok (.new 9, 3) := by decide +kernel
theorem dX5_init_29 : decode cX5_init 29 = .ok (.dup, 1) := by decide +kernel
theorem dX5_init_30 : decode cX5_init 30 = .ok (.invokespecial 17, 3) := by decide +kernel
theorem dX5_init_33 : decode cX5_init 33 = .ok (.aastore, 1) := by decide +kernel
theorem dX5_init_34 : decode cX5_init 34 = .ok (.iinc 1 1, 3) := by decide +kernel
theorem dX5_init_37 : decode cX5_init 37 = .ok (.goto (-22), 3) := by decide +kernel
theorem dX5_init_40 : decode cX5_init 40 = .ok (.aload_n 0, 1) := by decide +kernel
theorem dX5_init_41 : decode cX5_init 41 = .ok (.sipush 400, 3) := by decide +kernel
theorem dX5_init_44 : decode cX5_init 44 = .ok (.newarray .int, 2) := by decide +kernel
theorem dX5_init_46 : decode cX5_init 46 = .ok (.putfield 18, 3) := by decide +kernel
theorem dX5_init_49 : decode cX5_init 49 = .ok (.aload_n 0, 1) := by decide +kernel
theorem dX5_init_50 : decode cX5_init 50 = .ok (.new 9, 3) := by decide +kernel
theorem dX5_init_53 : decode cX5_init 53 = .ok (.dup, 1) := by decide +kernel
theorem dX5_init_54 : decode cX5_init 54 = .ok (.invokespecial 17, 3) := by decide +kernel
theorem dX5_init_57 : decode cX5_init 57 = .ok (.putfield 22, 3) := by decide +kernel
theorem dX5_init_60 : decode cX5_init 60 = .ok (.aload_n 0, 1) := by decide +kernel
theorem dX5_init_61 : decode cX5_init 61 = .ok (.sipush 400, 3) := by decide +kernel
theorem dX5_init_64 : decode cX5_init 64 = .ok (.newarray .int, 2) := by decide +kernel
theorem dX5_init_66 : decode cX5_init 66 = .ok (.putfield 26, 3) := by decide +kernel
theorem dX5_init_69 : decode cX5_init 69 = .ok (.return_, 1) := by decide +kernel
theorem dX5_forget_0 : decode cX5_forget 0 = .ok (.aload_n 0, 1) := by decide +kernel
theorem dX5_forget_1 : decode cX5_forget 1 = .ok (.iconst 0, 1) := by decide +kernel
theorem dX5_forget_2 : decode cX5_forget 2 = .ok (.putfield 29, 3) := by decide +kernel
theorem dX5_forget_5 : decode cX5_forget 5 = .ok (.aload_n 0, 1) := by decide +kernel
theorem dX5_forget_6 : decode cX5_forget 6 = .ok (.iconst 0, 1) := by decide +kernel
theorem dX5_forget_7 : decode cX5_forget 7 = .ok (.putfield 33, 3) := by decide +kernel
theorem dX5_forget_10 : decode cX5_forget 10 = .ok (.aload_n 0, 1) := by decide +kernel
theorem dX5_forget_11 : decode cX5_forget 11 = .ok (.iconst 0, 1) := by decide +kernel
theorem dX5_forget_12 : decode cX5_forget 12 = .ok (.putfield 36, 3) := by decide +kernel
theorem dX5_forget_15 : decode cX5_forget 15 = .ok (.return_, 1) := by decide +kernel
theorem dX5_kept_0 : decode cX5_kept 0 = .ok (.aload_n 0, 1) := by decide +kernel
theorem dX5_kept_1 : decode cX5_kept 1 = .ok (.getfield 29, 3) := by decide +kernel
theorem dX5_kept_4 : decode cX5_kept 4 = .ok (.ireturn, 1) := by decide +kernel
theorem dX5_keep_0 : decode cX5_keep 0 = .ok (.aload_n 0, 1) := by decide +kernel
theorem dX5_keep_1 : decode cX5_keep 1 = .ok (.aload_n 0, 1) := by decide +kernel
theorem dX5_keep_2 : decode cX5_keep 2 = .ok (.getfield 33, 3) := by decide +kernel
theorem dX5_keep_5 : decode cX5_keep 5 = .ok (.invokevirtual 40, 3) := by decide +kernel
theorem dX5_keep_8 : decode cX5_keep 8 = .ok (.astore_n 2, 1) := by decide +kernel
theorem dX5_keep_9 : decode cX5_keep 9 = .ok (.aload_n 2, 1) := by decide +kernel
theorem dX5_keep_10 : decode cX5_keep 10 = .ok (.ifnull 8, 3) := by decide +kernel
theorem dX5_keep_13 : decode cX5_keep 13 = .ok (.aload_n 2, 1) := by decide +kernel
theorem dX5_keep_14 : decode cX5_keep 14 = .ok (.aload_n 1, 1) := by decide +kernel
theorem dX5_keep_15 : decode cX5_keep 15 = .ok (.invokevirtual 44, 3) := by decide +kernel
theorem dX5_keep_18 : decode cX5_keep 18 = .ok (.aload_n 0, 1) := by decide +kernel
theorem dX5_keep_19 : decode cX5_keep 19 = .ok (.aload_n 0, 1) := by decide +kernel
theorem dX5_keep_20 : decode cX5_keep 20 = .ok (.getfield 33, 3) := by decide +kernel
theorem dX5_keep_23 : decode cX5_keep 23 = .ok (.bipush 39, 2) := by decide +kernel
theorem dX5_keep_25 : decode cX5_keep 25 = .ok (.if_icmp .lt 7, 3) := by decide +kernel
theorem dX5_keep_28 : decode cX5_keep 28 = .ok (.iconst 0, 1) := by decide +kernel
theorem dX5_keep_29 : decode cX5_keep 29 = .ok (.goto 9, 3) := by decide +kernel
theorem dX5_keep_32 : decode cX5_keep 32 = .ok (.aload_n 0, 1) := by decide +kernel
theorem dX5_keep_33 : decode cX5_keep 33 = .ok (.getfield 33, 3) := by decide +kernel
theorem dX5_keep_36 : decode cX5_keep 36 = .ok (.iconst 1, 1) := by decide +kernel
theorem dX5_keep_37 : decode cX5_keep 37 = .ok (.iadd, 1) := by decide +kernel
theorem dX5_keep_38 : decode cX5_keep 38 = .ok (.putfield 33, 3) := by decide +kernel
theorem dX5_keep_41 : decode cX5_keep 41 = .ok (.aload_n 0, 1) := by decide +kernel
theorem dX5_keep_42 : decode cX5_keep 42 = .ok (.bipush 40, 2) := by decide +kernel
theorem dX5_keep_44 : decode cX5_keep 44 = .ok (.aload_n 0, 1) := by decide +kernel
theorem dX5_keep_45 : decode cX5_keep 45 = .ok (.getfield 29, 3) := by decide +kernel
theorem dX5_keep_48 : decode cX5_keep 48 = .ok (.iconst 1, 1) := by decide +kernel
theorem dX5_keep_49 : decode cX5_keep 49 = .ok (.iadd, 1) := by decide +kernel
theorem dX5_keep_50 : decode cX5_keep 50 = .ok (.invokestatic 48, 3) := by decide +kernel
theorem dX5_keep_53 : decode cX5_keep 53 = .ok (.putfield 29, 3) := by decide +kernel
theorem dX5_keep_56 : decode cX5_keep 56 = .ok (.return_, 1) := by decide +kernel
theorem dX5_takeBack_0 : decode cX5_takeBack 0 = .ok (.aload_n 0, 1) := by decide +kernel
theorem dX5_takeBack_1 : decode cX5_takeBack 1 = .ok (.getfield 29, 3) := by decide +kernel
theorem dX5_takeBack_4 : decode cX5_takeBack 4 = .ok (.ifCond .gt 5, 3) := by decide +kernel
theorem dX5_takeBack_7 : decode cX5_takeBack 7 = .ok (.iconst 0, 1) := by decide +kernel
theorem dX5_takeBack_8 : decode cX5_takeBack 8 = .ok (.ireturn, 1) := by decide +kernel
theorem dX5_takeBack_9 : decode cX5_takeBack 9 = .ok (.aload_n 0, 1) := by decide +kernel
theorem dX5_takeBack_10 : decode cX5_takeBack 10 = .ok (.aload_n 0, 1) := by decide +kernel
theorem dX5_takeBack_11 : decode cX5_takeBack 11 = .ok (.getfield 33, 3) := by decide +kernel
theorem dX5_takeBack_14 : decode cX5_takeBack 14 = .ok (.ifCond .gt 8, 3) := by decide +kernel
theorem dX5_takeBack_17 : decode cX5_takeBack 17 = .ok (.bipush 39, 2) := by decide +kernel
theorem dX5_takeBack_19 : decode cX5_takeBack 19 = .ok (.goto 9, 3) := by decide +kernel
theorem dX5_takeBack_22 : decode cX5_takeBack 22 = .ok (.aload_n 0, 1) := by decide +kernel
theorem dX5_takeBack_23 : decode cX5_takeBack 23 = .ok (.getfield 33, 3) := by decide +kernel
theorem dX5_takeBack_26 : decode cX5_takeBack 26 = .ok (.iconst 1, 1) := by decide +kernel
theorem dX5_takeBack_27 : decode cX5_takeBack 27 = .ok (.isub, 1) := by decide +kernel
theorem dX5_takeBack_28 : decode cX5_takeBack 28 = .ok (.putfield 33, 3) := by decide +kernel
theorem dX5_takeBack_31 : decode cX5_takeBack 31 = .ok (.aload_n 0, 1) := by decide +kernel
theorem dX5_takeBack_32 : decode cX5_takeBack 32 = .ok (.dup, 1) := by decide +kernel
theorem dX5_takeBack_33 : decode cX5_takeBack 33 = .ok (.getfield 29, 3) := by decide +kernel
theorem dX5_takeBack_36 : decode cX5_takeBack 36 = .ok (.iconst 1, 1) := by decide +kernel
theorem dX5_takeBack_37 : decode cX5_takeBack 37 = .ok (.isub, 1) := by decide +kernel
theorem dX5_takeBack_38 : decode cX5_takeBack 38 = .ok (.putfield 29, 3) := by decide +kernel
theorem dX5_takeBack_41 : decode cX5_takeBack 41 = .ok (.aload_n 0, 1) := by decide +kernel
theorem dX5_takeBack_42 : decode cX5_takeBack 42 = .ok (.aload_n 0, 1) := by decide +kernel
theorem dX5_takeBack_43 : decode cX5_takeBack 43 = .ok (.getfield 33, 3) := by decide +kernel
theorem dX5_takeBack_46 : decode cX5_takeBack 46 = .ok (.invokevirtual 40, 3) := by decide +kernel
theorem dX5_takeBack_49 : decode cX5_takeBack 49 = .ok (.astore_n 2, 1) := by decide +kernel
theorem dX5_takeBack_50 : decode cX5_takeBack 50 = .ok (.aload_n 2, 1) := by decide +kernel
theorem dX5_takeBack_51 : decode cX5_takeBack 51 = .ok (.ifnull 8, 3) := by decide +kernel
theorem dX5_takeBack_54 : decode cX5_takeBack 54 = .ok (.aload_n 1, 1) := by decide +kernel
theorem dX5_takeBack_55 : decode cX5_takeBack 55 = .ok (.aload_n 2, 1) := by decide +kernel
theorem dX5_takeBack_56 : decode cX5_takeBack 56 = .ok (.invokevirtual 44, 3) := by decide +kernel
theorem dX5_takeBack_59 : decode cX5_takeBack 59 = .ok (.iconst 1, 1) := by decide +kernel
theorem dX5_takeBack_60 : decode cX5_takeBack 60 = .ok (.ireturn, 1) := by decide +kernel
theorem dX5_dayAt_0 : decode cX5_dayAt 0 = .ok (.iload_n 1, 1) := by decide +kernel
theorem dX5_dayAt_1 : decode cX5_dayAt 1 = .ok (.ifCond .lt 21, 3) := by decide +kernel
theorem dX5_dayAt_4 : decode cX5_dayAt 4 = .ok (.iload_n 1, 1) := by decide +kernel
theorem dX5_dayAt_5 : decode cX5_dayAt 5 = .ok (.aload_n 0, 1) := by decide +kernel
theorem dX5_dayAt_6 : decode cX5_dayAt 6 = .ok (.getfield 11, 3) := by decide +kernel
theorem dX5_dayAt_9 : decode cX5_dayAt 9 = .ok (.arraylength, 1) := by decide +kernel
theorem dX5_dayAt_10 : decode cX5_dayAt 10 = .ok (.if_icmp .ge 12, 3) := by decide +kernel
theorem dX5_dayAt_13 : decode cX5_dayAt 13 = .ok (.aload_n 0, 1) := by decide +kernel
theorem dX5_dayAt_14 : decode cX5_dayAt 14 = .ok (.getfield 11, 3) := by decide +kernel
theorem dX5_dayAt_17 : decode cX5_dayAt 17 = .ok (.iload_n 1, 1) := by decide +kernel
theorem dX5_dayAt_18 : decode cX5_dayAt 18 = .ok (.aaload, 1) := by decide +kernel
theorem dX5_dayAt_19 : decode cX5_dayAt 19 = .ok (.goto 4, 3) := by decide +kernel
theorem dX5_dayAt_22 : decode cX5_dayAt 22 = .ok (.aconst_null, 1) := by decide +kernel
theorem dX5_dayAt_23 : decode cX5_dayAt 23 = .ok (.areturn, 1) := by decide +kernel
theorem dX5_note_0 : decode cX5_note 0 = .ok (.aload_n 1, 1) := by decide +kernel
theorem dX5_note_1 : decode cX5_note 1 = .ok (.getfield 54, 3) := by decide +kernel
theorem dX5_note_4 : decode cX5_note 4 = .ok (.invokestatic 57, 3) := by decide +kernel
theorem dX5_note_7 : decode cX5_note 7 = .ok (.istore 5, 2) := by decide +kernel
theorem dX5_note_9 : decode cX5_note 9 = .ok (.aload_n 0, 1) := by decide +kernel
theorem dX5_note_10 : decode cX5_note 10 = .ok (.getfield 18, 3) := by decide +kernel
theorem dX5_note_13 : decode cX5_note 13 = .ok (.iload 5, 2) := by decide +kernel
theorem dX5_note_15 : decode cX5_note 15 = .ok (.iload_n 2, 1) := by decide +kernel
theorem dX5_note_16 : decode cX5_note 16 = .ok (.invokestatic 61, 3) := by decide +kernel
theorem dX5_note_19 : decode cX5_note 19 = .ok (.aload_n 0, 1) := by decide +kernel
theorem dX5_note_20 : decode cX5_note 20 = .ok (.getfield 18, 3) := by decide +kernel
theorem dX5_note_23 : decode cX5_note 23 = .ok (.iload 5, 2) := by decide +kernel
theorem dX5_note_25 : decode cX5_note 25 = .ok (.iconst 1, 1) := by decide +kernel
theorem dX5_note_26 : decode cX5_note 26 = .ok (.iadd, 1) := by decide +kernel
theorem dX5_note_27 : decode cX5_note 27 = .ok (.iload_n 3, 1) := by decide +kernel
theorem dX5_note_28 : decode cX5_note 28 = .ok (.invokestatic 61, 3) := by decide +kernel
theorem dX5_note_31 : decode cX5_note 31 = .ok (.aload_n 0, 1) := by decide +kernel
theorem dX5_note_32 : decode cX5_note 32 = .ok (.getfield 18, 3) := by decide +kernel
theorem dX5_note_35 : decode cX5_note 35 = .ok (.iload 5, 2) := by decide +kernel
theorem dX5_note_37 : decode cX5_note 37 = .ok (.iconst 2, 1) := by decide +kernel
theorem dX5_note_38 : decode cX5_note 38 = .ok (.iadd, 1) := by decide +kernel
theorem dX5_note_39 : decode cX5_note 39 = .ok (.iload 4, 2) := by decide +kernel
theorem dX5_note_41 : decode cX5_note 41 = .ok (.invokestatic 61, 3) := by decide +kernel
theorem dX5_note_44 : decode cX5_note 44 = .ok (.aload_n 0, 1) := by decide +kernel
theorem dX5_note_45 : decode cX5_note 45 = .ok (.getfield 18, 3) := by decide +kernel
theorem dX5_note_48 : decode cX5_note 48 = .ok (.iload 5, 2) := by decide +kernel
theorem dX5_note_50 : decode cX5_note 50 = .ok (.iconst 3, 1) := by decide +kernel
theorem dX5_note_51 : decode cX5_note 51 = .ok (.iadd, 1) := by decide +kernel
theorem dX5_note_52 : decode cX5_note 52 = .ok (.aload_n 1, 1) := by decide +kernel
theorem dX5_note_53 : decode cX5_note 53 = .ok (.getfield 65, 3) := by decide +kernel
theorem dX5_note_56 : decode cX5_note 56 = .ok (.invokestatic 61, 3) := by decide +kernel
theorem dX5_note_59 : decode cX5_note 59 = .ok (.aload_n 1, 1) := by decide +kernel
theorem dX5_note_60 : decode cX5_note 60 = .ok (.dup, 1) := by decide +kernel
theorem dX5_note_61 : decode cX5_note 61 = .ok (.getfield 54, 3) := by decide +kernel
theorem dX5_note_64 : decode cX5_note 64 = .ok (.iconst 1, 1) := by decide +kernel
theorem dX5_note_65 : decode cX5_note 65 = .ok (.iadd, 1) := by decide +kernel
theorem dX5_note_66 : decode cX5_note 66 = .ok (.putfield 54, 3) := by decide +kernel
theorem dX5_note_69 : decode cX5_note 69 = .ok (.return_, 1) := by decide +kernel
theorem dX5_noted_0 : decode cX5_noted 0 = .ok (.iload_n 2, 1) := by decide +kernel
theorem dX5_noted_1 : decode cX5_noted 1 = .ok (.ifCond .lt 20, 3) := by decide +kernel
theorem dX5_noted_4 : decode cX5_noted 4 = .ok (.iload_n 2, 1) := by decide +kernel
theorem dX5_noted_5 : decode cX5_noted 5 = .ok (.aload_n 1, 1) := by decide +kernel
theorem dX5_noted_6 : decode cX5_noted 6 = .ok (.invokevirtual 68, 3) := by decide +kernel
theorem dX5_noted_9 : decode cX5_noted 9 = .ok (.if_icmp .ge 12, 3) := by decide +kernel
theorem dX5_noted_12 : decode cX5_noted 12 = .ok (.iload_n 3, 1) := by decide +kernel
theorem dX5_noted_13 : decode cX5_noted 13 = .ok (.ifCond .lt 8, 3) := by decide +kernel
theorem dX5_noted_16 : decode cX5_noted 16 = .ok (.iload_n 3, 1) := by decide +kernel
theorem dX5_noted_17 : decode cX5_noted 17 = .ok (.iconst 4, 1) := by decide +kernel
theorem dX5_noted_18 : decode cX5_noted 18 = .ok (.if_icmp .lt 5, 3) := by decide +kernel
theorem dX5_noted_21 : decode cX5_noted 21 = .ok (.iconst (-1), 1) := by decide +kernel
theorem dX5_noted_22 : decode cX5_noted 22 = .ok (.ireturn, 1) := by decide +kernel
theorem dX5_noted_23 : decode cX5_noted 23 = .ok (.aload_n 0, 1) := by decide +kernel
theorem dX5_noted_24 : decode cX5_noted 24 = .ok (.getfield 18, 3) := by decide +kernel
theorem dX5_noted_27 : decode cX5_noted 27 = .ok (.aload_n 1, 1) := by decide +kernel
theorem dX5_noted_28 : decode cX5_noted 28 = .ok (.getfield 54, 3) := by decide +kernel
theorem dX5_noted_31 : decode cX5_noted 31 = .ok (.iconst 1, 1) := by decide +kernel
theorem dX5_noted_32 : decode cX5_noted 32 = .ok (.isub, 1) := by decide +kernel
theorem dX5_noted_33 : decode cX5_noted 33 = .ok (.iload_n 2, 1) := by decide +kernel
theorem dX5_noted_34 : decode cX5_noted 34 = .ok (.isub, 1) := by decide +kernel
theorem dX5_noted_35 : decode cX5_noted 35 = .ok (.invokestatic 57, 3) := by decide +kernel
theorem dX5_noted_38 : decode cX5_noted 38 = .ok (.iload_n 3, 1) := by decide +kernel
theorem dX5_noted_39 : decode cX5_noted 39 = .ok (.iadd, 1) := by decide +kernel
theorem dX5_noted_40 : decode cX5_noted 40 = .ok (.invokestatic 72, 3) := by decide +kernel
theorem dX5_noted_43 : decode cX5_noted 43 = .ok (.ireturn, 1) := by decide +kernel
theorem dX5_rowStart_0 : decode cX5_rowStart 0 = .ok (.iload_n 0, 1) := by decide +kernel
theorem dX5_rowStart_1 : decode cX5_rowStart 1 = .ok (.bipush 100, 2) := by decide +kernel
theorem dX5_rowStart_3 : decode cX5_rowStart 3 = .ok (.invokestatic 76, 3) := by decide +kernel
theorem dX5_rowStart_6 : decode cX5_rowStart 6 = .ok (.iconst 4, 1) := by decide +kernel
theorem dX5_rowStart_7 : decode cX5_rowStart 7 = .ok (.imul, 1) := by decide +kernel
theorem dX5_rowStart_8 : decode cX5_rowStart 8 = .ok (.ireturn, 1) := by decide +kernel
theorem dX5_draw_0 : decode cX5_draw 0 = .ok (.aload_n 0, 1) := by decide +kernel
theorem dX5_draw_1 : decode cX5_draw 1 = .ok (.getfield 22, 3) := by decide +kernel
theorem dX5_draw_4 : decode cX5_draw 4 = .ok (.aload_n 1, 1) := by decide +kernel
theorem dX5_draw_5 : decode cX5_draw 5 = .ok (.invokevirtual 44, 3) := by decide +kernel
theorem dX5_draw_8 : decode cX5_draw 8 = .ok (.aload_n 0, 1) := by decide +kernel
theorem dX5_draw_9 : decode cX5_draw 9 = .ok (.getfield 18, 3) := by decide +kernel
theorem dX5_draw_12 : decode cX5_draw 12 = .ok (.iconst 0, 1) := by decide +kernel
theorem dX5_draw_13 : decode cX5_draw 13 = .ok (.aload_n 0, 1) := by decide +kernel
theorem dX5_draw_14 : decode cX5_draw 14 = .ok (.getfield 26, 3) := by decide +kernel
theorem dX5_draw_17 : decode cX5_draw 17 = .ok (.iconst 0, 1) := by decide +kernel
theorem dX5_draw_18 : decode cX5_draw 18 = .ok (.sipush 400, 3) := by decide +kernel
theorem dX5_draw_21 : decode cX5_draw 21 = .ok (.invokestatic 79, 3) := by decide +kernel
theorem dX5_draw_24 : decode cX5_draw 24 = .ok (.aload_n 0, 1) := by decide +kernel
theorem dX5_draw_25 : decode cX5_draw 25 = .ok (.iconst 1, 1) := by decide +kernel
theorem dX5_draw_26 : decode cX5_draw 26 = .ok (.putfield 36, 3) := by decide +kernel
theorem dX5_draw_29 : decode cX5_draw 29 = .ok (.return_, 1) := by decide +kernel
theorem dX5_bringBack_0 : decode cX5_bringBack 0 = .ok (.aload_n 0, 1) := by decide +kernel
theorem dX5_bringBack_1 : decode cX5_bringBack 1 = .ok (.getfield 36, 3) := by decide +kernel
theorem dX5_bringBack_4 : decode cX5_bringBack 4 = .ok (.ifCond .ne 5, 3) := by decide +kernel
theorem dX5_bringBack_7 : decode cX5_bringBack 7 = .ok (.iconst 0, 1) := by decide +kernel
theorem dX5_bringBack_8 : decode cX5_bringBack 8 = .ok (.ireturn, 1) := by decide +kernel
theorem dX5_bringBack_9 : decode cX5_bringBack 9 = .ok (.aload_n 1, 1) := by decide +kernel
theorem dX5_bringBack_10 : decode cX5_bringBack 10 = .ok (.aload_n 0, 1) := by decide +kernel
theorem dX5_bringBack_11 : decode cX5_bringBack 11 = .ok (.getfield 22, 3) := by decide +kernel
theorem dX5_bringBack_14 : decode cX5_bringBack 14 = .ok (.invokevirtual 44, 3) := by decide +kernel
theorem dX5_bringBack_17 : decode cX5_bringBack 17 = .ok (.aload_n 0, 1) := by decide +kernel
theorem dX5_bringBack_18 : decode cX5_bringBack 18 = .ok (.getfield 26, 3) := by decide +kernel
theorem dX5_bringBack_21 : decode cX5_bringBack 21 = .ok (.iconst 0, 1) := by decide +kernel
theorem dX5_bringBack_22 : decode cX5_bringBack 22 = .ok (.aload_n 0, 1) := by decide +kernel
theorem dX5_bringBack_23 : decode cX5_bringBack 23 = .ok (.getfield 18, 3) := by decide +kernel
theorem dX5_bringBack_26 : decode cX5_bringBack 26 = .ok (.iconst 0, 1) := by decide +kernel
theorem dX5_bringBack_27 : decode cX5_bringBack 27 = .ok (.sipush 400, 3) := by decide +kernel
theorem dX5_bringBack_30 : decode cX5_bringBack 30 = .ok (.invokestatic 79, 3) := by decide +kernel
theorem dX5_bringBack_33 : decode cX5_bringBack 33 = .ok (.aload_n 0, 1) := by decide +kernel
theorem dX5_bringBack_34 : decode cX5_bringBack 34 = .ok (.iconst 0, 1) := by decide +kernel
theorem dX5_bringBack_35 : decode cX5_bringBack 35 = .ok (.putfield 29, 3) := by decide +kernel
theorem dX5_bringBack_38 : decode cX5_bringBack 38 = .ok (.iconst 1, 1) := by decide +kernel
theorem dX5_bringBack_39 : decode cX5_bringBack 39 = .ok (.ireturn, 1) := by decide +kernel
theorem dX6_init_0 : decode cX6_init 0 = .ok (.aload_n 0, 1) := by decide +kernel
theorem dX6_init_1 : decode cX6_init 1 = .ok (.invokespecial 3, 3) := by decide +kernel
theorem dX6_init_4 : decode cX6_init 4 = .ok (.aload_n 0, 1) := by decide +kernel
theorem dX6_init_5 : decode cX6_init 5 = .ok (.bipush 7, 2) := by decide +kernel
theorem dX6_init_7 : decode cX6_init 7 = .ok (.newarray .int, 2) := by decide +kernel
theorem dX6_init_9 : decode cX6_init 9 = .ok (.putfield 9, 3) := by decide +kernel
theorem dX6_init_12 : decode cX6_init 12 = .ok (.aload_n 0, 1) := by decide +kernel
theorem dX6_init_13 : decode cX6_init 13 = .ok (.bipush 7, 2) := by decide +kernel
theorem dX6_init_15 : decode cX6_init 15 = .ok (.newarray .int, 2) := by decide +kernel
theorem dX6_init_17 : decode cX6_init 17 = .ok (.putfield 15, 3) := by decide +kernel
theorem dX6_init_20 : decode cX6_init 20 = .ok (.return_, 1) := by decide +kernel
theorem dX6_clear_0 : decode cX6_clear 0 = .ok (.aload_n 0, 1) := by decide +kernel
theorem dX6_clear_1 : decode cX6_clear 1 = .ok (.iconst 0, 1) := by decide +kernel
theorem dX6_clear_2 : decode cX6_clear 2 = .ok (.putfield 18, 3) := by decide +kernel
theorem dX6_clear_5 : decode cX6_clear 5 = .ok (.return_, 1) := by decide +kernel
theorem dX6_put_0 : decode cX6_put 0 = .ok (.iload_n 2, 1) := by decide +kernel
theorem dX6_put_1 : decode cX6_put 1 = .ok (.ifCond .le 12, 3) := by decide +kernel
theorem dX6_put_4 : decode cX6_put 4 = .ok (.aload_n 0, 1) := by decide +kernel
theorem dX6_put_5 : decode cX6_put 5 = .ok (.getfield 18, 3) := by decide +kernel
theorem dX6_put_8 : decode cX6_put 8 = .ok (.bipush 7, 2) := by decide +kernel
theorem dX6_put_10 : decode cX6_put 10 = .ok (.if_icmp .lt 4, 3) := by decide +kernel
theorem dX6_put_13 : decode cX6_put 13 = .ok (.return_, 1) := by decide +kernel
theorem dX6_put_14 : decode cX6_put 14 = .ok (.aload_n 0, 1) := by decide +kernel
theorem dX6_put_15 : decode cX6_put 15 = .ok (.getfield 18, 3) := by decide +kernel
theorem dX6_put_18 : decode cX6_put 18 = .ok (.istore_n 3, 1) := by decide +kernel
theorem dX6_put_19 : decode cX6_put 19 = .ok (.iload_n 3, 1) := by decide +kernel
theorem dX6_put_20 : decode cX6_put 20 = .ok (.ifCond .le 59, 3) := by decide +kernel
theorem dX6_put_23 : decode cX6_put 23 = .ok (.aload_n 0, 1) := by decide +kernel
theorem dX6_put_24 : decode cX6_put 24 = .ok (.getfield 15, 3) := by decide +kernel
theorem dX6_put_27 : decode cX6_put 27 = .ok (.iload_n 3, 1) := by decide +kernel
theorem dX6_put_28 : decode cX6_put 28 = .ok (.iconst 1, 1) := by decide +kernel
theorem dX6_put_29 : decode cX6_put 29 = .ok (.isub, 1) := by decide +kernel
theorem dX6_put_30 : decode cX6_put 30 = .ok (.invokestatic 22, 3) := by decide +kernel
theorem dX6_put_33 : decode cX6_put 33 = .ok (.iload_n 2, 1) := by decide +kernel
theorem dX6_put_34 : decode cX6_put 34 = .ok (.if_icmp .le 45, 3) := by decide +kernel
theorem dX6_put_37 : decode cX6_put 37 = .ok (.aload_n 0, 1) := by decide +kernel
theorem dX6_put_38 : decode cX6_put 38 = .ok (.getfield 9, 3) := by decide +kernel
theorem dX6_put_41 : decode cX6_put 41 = .ok (.iload_n 3, 1) := by decide +kernel
theorem dX6_put_42 : decode cX6_put 42 = .ok (.aload_n 0, 1) := by decide +kernel
theorem dX6_put_43 : decode cX6_put 43 = .ok (.getfield 9, 3) := by decide +kernel
theorem dX6_put_46 : decode cX6_put 46 = .ok (.iload_n 3, 1) := by decide +kernel
theorem dX6_put_47 : decode cX6_put 47 = .ok (.iconst 1, 1) := by decide +kernel
theorem dX6_put_48 : decode cX6_put 48 = .ok (.isub, 1) := by decide +kernel
theorem dX6_put_49 : decode cX6_put 49 = .ok (.invokestatic 22, 3) := by decide +kernel
theorem dX6_put_52 : decode cX6_put 52 = .ok (.invokestatic 26, 3) := by decide +kernel
theorem dX6_put_55 : decode cX6_put 55 = .ok (.aload_n 0, 1) := by decide +kernel
theorem dX6_put_56 : decode cX6_put 56 = .ok (.getfield 15, 3) := by decide +kernel
theorem dX6_put_59 : decode cX6_put 59 = .ok (.iload_n 3, 1) := by decide +kernel
theorem dX6_put_60 : decode cX6_put 60 = .ok (.aload_n 0, 1) := by decide +kernel
theorem dX6_put_61 : decode cX6_put 61 = .ok (.getfield 15, 3) := by decide +kernel
theorem dX6_put_64 : decode cX6_put 64 = .ok (.iload_n 3, 1) := by decide +kernel
theorem dX6_put_65 : decode cX6_put 65 = .ok (.iconst 1, 1) := by decide +kernel
theorem dX6_put_66 : decode cX6_put 66 = .ok (.isub, 1) := by decide +kernel
theorem dX6_put_67 : decode cX6_put 67 = .ok (.invokestatic 22, 3) := by decide +kernel
theorem dX6_put_70 : decode cX6_put 70 = .ok (.invokestatic 26, 3) := by decide +kernel
theorem dX6_put_73 : decode cX6_put 73 = .ok (.iinc 3 (-1), 3) := by decide +kernel
theorem dX6_put_76 : decode cX6_put 76 = .ok (.goto (-57), 3) := by decide +kernel
theorem dX6_put_79 : decode cX6_put 79 = .ok (.aload_n 0, 1) := by decide +kernel
theorem dX6_put_80 : decode cX6_put 80 = .ok (.getfield 9, 3) := by decide +kernel
theorem dX6_put_83 : decode cX6_put 83 = .ok (.iload_n 3, 1) := by decide +kernel
theorem dX6_put_84 : decode cX6_put 84 = .ok (.iload_n 1, 1) := by decide +kernel
theorem dX6_put_85 : decode cX6_put 85 = .ok (.invokestatic 26, 3) := by decide +kernel
theorem dX6_put_88 : decode cX6_put 88 = .ok (.aload_n 0, 1) := by decide +kernel
theorem dX6_put_89 : decode cX6_put 89 = .ok (.getfield 15, 3) := by decide +kernel
theorem dX6_put_92 : decode cX6_put 92 = .ok (.iload_n 3, 1) := by decide +kernel
theorem dX6_put_93 : decode cX6_put 93 = .ok (.iload_n 2, 1) := by decide +kernel
theorem dX6_put_94 : decode cX6_put 94 = .ok (.invokestatic 26, 3) := by decide +kernel
theorem dX6_put_97 : decode cX6_put 97 = .ok (.aload_n 0, 1) := by decide +kernel
theorem dX6_put_98 : decode cX6_put 98 = .ok (.dup, 1) := by decide +kernel
theorem dX6_put_99 : decode cX6_put 99 = .ok (.getfield 18, 3) := by decide +kernel
theorem dX6_put_102 : decode cX6_put 102 = .ok (.iconst 1, 1) := by decide +kernel
theorem dX6_put_103 : decode cX6_put 103 = .ok (.iadd, 1) := by decide +kernel
theorem dX6_put_104 : decode cX6_put 104 = .ok (.putfield 18, 3) := by decide +kernel
theorem dX6_put_107 : decode cX6_put 107 = .ok (.return_, 1) := by decide +kernel
theorem dX6_size_0 : decode cX6_size 0 = .ok (.aload_n 0, 1) := by decide +kernel
theorem dX6_size_1 : decode cX6_size 1 = .ok (.getfield 18, 3) := by decide +kernel
theorem dX6_size_4 : decode cX6_size 4 = .ok (.ireturn, 1) := by decide +kernel
theorem dX6_houseAt_0 : decode cX6_houseAt 0 = .ok (.iload_n 1, 1) := by decide +kernel
theorem dX6_houseAt_1 : decode cX6_houseAt 1 = .ok (.ifCond .lt 22, 3) := by decide +kernel
theorem dX6_houseAt_4 : decode cX6_houseAt 4 = .ok (.iload_n 1, 1) := by decide +kernel
theorem dX6_houseAt_5 : decode cX6_houseAt 5 = .ok (.aload_n 0, 1) := by decide +kernel
theorem dX6_houseAt_6 : decode cX6_houseAt 6 = .ok (.getfield 18, 3) := by decide +kernel
theorem dX6_houseAt_9 : decode cX6_houseAt 9 = .ok (.if_icmp .ge 14, 3) := by decide +kernel
theorem dX6_houseAt_12 : decode cX6_houseAt 12 = .ok (.aload_n 0, 1) := by decide +kernel
theorem dX6_houseAt_13 : decode cX6_houseAt 13 = .ok (.getfield 9, 3) := by decide +kernel
theorem dX6_houseAt_16 : decode cX6_houseAt 16 = .ok (.iload_n 1, 1) := by decide +kernel
theorem dX6_houseAt_17 : decode cX6_houseAt 17 = .ok (.invokestatic 22, 3) := by decide +kernel
theorem dX6_houseAt_20 : decode cX6_houseAt 20 = .ok (.goto 4, 3) := by decide +kernel
theorem dX6_houseAt_23 : decode cX6_houseAt 23 = .ok (.iconst (-1), 1) := by decide +kernel
theorem dX6_houseAt_24 : decode cX6_houseAt 24 = .ok (.ireturn, 1) := by decide +kernel
theorem dX6_digits_0 : decode cX6_digits 0 = .ok (.iconst 0, 1) := by decide +kernel
theorem dX6_digits_1 : decode cX6_digits 1 = .ok (.istore_n 1, 1) := by decide +kernel
theorem dX6_digits_2 : decode cX6_digits 2 = .ok (.iconst 0, 1) := by decide +kernel
theorem dX6_digits_3 : decode cX6_digits 3 = .ok (.istore_n 2, 1) := by decide +kernel
theorem dX6_digits_4 : decode cX6_digits 4 = .ok (.iload_n 2, 1) := by decide +kernel
theorem dX6_digits_5 : decode cX6_digits 5 = .ok (.aload_n 0, 1) := by decide +kernel
theorem dX6_digits_6 : decode cX6_digits 6 = .ok (.getfield 18, 3) := by decide +kernel
theorem dX6_digits_9 : decode cX6_digits 9 = .ok (.if_icmp .ge 20, 3) := by decide +kernel
theorem dX6_digits_12 : decode cX6_digits 12 = .ok (.iload_n 1, 1) := by decide +kernel
theorem dX6_digits_13 : decode cX6_digits 13 = .ok (.bipush 10, 2) := by decide +kernel
theorem dX6_digits_15 : decode cX6_digits 15 = .ok (.imul, 1) := by decide +kernel
theorem dX6_digits_16 : decode cX6_digits 16 = .ok (.aload_n 0, 1) := by decide +kernel
theorem dX6_digits_17 : decode cX6_digits 17 = .ok (.iload_n 2, 1) := by decide +kernel
theorem dX6_digits_18 : decode cX6_digits 18 = .ok (.invokevirtual 30, 3) := by decide +kernel
theorem dX6_digits_21 : decode cX6_digits 21 = .ok (.iadd, 1) := by decide +kernel
theorem dX6_digits_22 : decode cX6_digits 22 = .ok (.istore_n 1, 1) := by decide +kernel
theorem dX6_digits_23 : decode cX6_digits 23 = .ok (.iinc 2 1, 3) := by decide +kernel
theorem dX6_digits_26 : decode cX6_digits 26 = .ok (.goto (-22), 3) := by decide +kernel
theorem dX6_digits_29 : decode cX6_digits 29 = .ok (.iload_n 1, 1) := by decide +kernel
theorem dX6_digits_30 : decode cX6_digits 30 = .ok (.ireturn, 1) := by decide +kernel
theorem dX7_init_0 : decode cX7_init 0 = .ok (.aload_n 0, 1) := by decide +kernel
theorem dX7_init_1 : decode cX7_init 1 = .ok (.invokespecial 3, 3) := by decide +kernel
theorem dX7_init_4 : decode cX7_init 4 = .ok (.aload_n 0, 1) := by decide +kernel
theorem dX7_init_5 : decode cX7_init 5 = .ok (.sipush 240, 3) := by decide +kernel
theorem dX7_init_8 : decode cX7_init 8 = .ok (.newarray .int, 2) := by decide +kernel
theorem dX7_init_10 : decode cX7_init 10 = .ok (.putfield 9, 3) := by decide +kernel
theorem dX7_init_13 : decode cX7_init 13 = .ok (.aload_n 0, 1) := by decide +kernel
theorem dX7_init_14 : decode cX7_init 14 = .ok (.iconst (-1), 1) := by decide +kernel
theorem dX7_init_15 : decode cX7_init 15 = .ok (.putfield 15, 3) := by decide +kernel
theorem dX7_init_18 : decode cX7_init 18 = .ok (.return_, 1) := by decide +kernel
theorem dX7_size_0 : decode cX7_size 0 = .ok (.aload_n 0, 1) := by decide +kernel
theorem dX7_size_1 : decode cX7_size 1 = .ok (.getfield 19, 3) := by decide +kernel
theorem dX7_size_4 : decode cX7_size 4 = .ok (.ireturn, 1) := by decide +kernel
theorem dX7_append_0 : decode cX7_append 0 = .ok (.bipush 24, 2) := by decide +kernel
theorem dX7_append_2 : decode cX7_append 2 = .ok (.istore_n 2, 1) := by decide +kernel
theorem dX7_append_3 : decode cX7_append 3 = .ok (.iload_n 2, 1) := by decide +kernel
theorem dX7_append_4 : decode cX7_append 4 = .ok (.ifCond .lt 60, 3) := by decide +kernel
theorem dX7_append_7 : decode cX7_append 7 = .ok (.iload_n 1, 1) := by decide +kernel
theorem dX7_append_8 : decode cX7_append 8 = .ok (.iload_n 2, 1) := by decide +kernel
theorem dX7_append_9 : decode cX7_append 9 = .ok (.iushr, 1) := by decide +kernel
theorem dX7_append_10 : decode cX7_append 10 = .ok (.sipush 255, 3) := by decide +kernel
theorem dX7_append_13 : decode cX7_append 13 = .ok (.iand, 1) := by decide +kernel
theorem dX7_append_14 : decode cX7_append 14 = .ok (.istore_n 3, 1) := by decide +kernel
theorem dX7_append_15 : decode cX7_append 15 = .ok (.iload_n 3, 1) := by decide +kernel
theorem dX7_append_16 : decode cX7_append 16 = .ok (.ifCond .eq 42, 3) := by decide +kernel
theorem dX7_append_19 : decode cX7_append 19 = .ok (.aload_n 0, 1) := by decide +kernel
theorem dX7_append_20 : decode cX7_append 20 = .ok (.getfield 19, 3) := by decide +kernel
theorem dX7_append_23 : decode cX7_append 23 = .ok (.ifCond .lt 35, 3) := by decide +kernel
theorem dX7_append_26 : decode cX7_append 26 = .ok (.aload_n 0, 1) := by decide +kernel
theorem dX7_append_27 : decode cX7_append 27 = .ok (.getfield 19, 3) := by decide +kernel
theorem dX7_append_30 : decode cX7_append 30 = .ok (.aload_n 0, 1) := by decide +kernel
theorem dX7_append_31 : decode cX7_append 31 = .ok (.getfield 9, 3) := by decide +kernel
theorem dX7_append_34 : decode cX7_append 34 = .ok (.arraylength, 1) := by decide +kernel
theorem dX7_append_35 : decode cX7_append 35 = .ok (.if_icmp .ge 23, 3) := by decide +kernel
theorem dX7_append_38 : decode cX7_append 38 = .ok (.aload_n 0, 1) := by decide +kernel
theorem dX7_append_39 : decode cX7_append 39 = .ok (.getfield 9, 3) := by decide +kernel
theorem dX7_append_42 : decode cX7_append 42 = .ok (.aload_n 0, 1) := by decide +kernel
theorem dX7_append_43 : decode cX7_append 43 = .ok (.getfield 19, 3) := by decide +kernel
theorem dX7_append_46 : decode cX7_append 46 = .ok (.iload_n 3, 1) := by decide +kernel
theorem dX7_append_47 : decode cX7_append 47 = .ok (.iastore, 1) := by decide +kernel
theorem dX7_append_48 : decode cX7_append 48 = .ok (.aload_n 0, 1) := by decide +kernel
theorem dX7_append_49 : decode cX7_append 49 = .ok (.dup, 1) := by decide +kernel
theorem dX7_append_50 : decode cX7_append 50 = .ok (.getfield 19, 3) := by decide +kernel
theorem dX7_append_53 : decode cX7_append 53 = .ok (.iconst 1, 1) := by decide +kernel
theorem dX7_append_54 : decode cX7_append 54 = .ok (.iadd, 1) := by decide +kernel
theorem dX7_append_55 : decode cX7_append 55 = .ok (.putfield 19, 3) := by decide +kernel
theorem dX7_append_58 : decode cX7_append 58 = .ok (.iinc 2 (-8), 3) := by decide +kernel
theorem dX7_append_61 : decode cX7_append 61 = .ok (.goto (-58), 3) := by decide +kernel
theorem dX7_append_64 : decode cX7_append 64 = .ok (.return_, 1) := by decide +kernel
theorem dX7_cut_0 : decode cX7_cut 0 = .ok (.iload_n 1, 1) := by decide +kernel
theorem dX7_cut_1 : decode cX7_cut 1 = .ok (.ifCond .lt 16, 3) := by decide +kernel
theorem dX7_cut_4 : decode cX7_cut 4 = .ok (.iload_n 1, 1) := by decide +kernel
theorem dX7_cut_5 : decode cX7_cut 5 = .ok (.aload_n 0, 1) := by decide +kernel
theorem dX7_cut_6 : decode cX7_cut 6 = .ok (.getfield 19, 3) := by decide +kernel
theorem dX7_cut_9 : decode cX7_cut 9 = .ok (.if_icmp .gt 8, 3) := by decide +kernel
theorem dX7_cut_12 : decode cX7_cut 12 = .ok (.aload_n 0, 1) := by decide +kernel
theorem dX7_cut_13 : decode cX7_cut 13 = .ok (.iload_n 1, 1) := by decide +kernel
theorem dX7_cut_14 : decode cX7_cut 14 = .ok (.putfield 19, 3) := by decide +kernel
theorem dX7_cut_17 : decode cX7_cut 17 = .ok (.return_, 1) := by decide +kernel
theorem dX7_rewind_0 : decode cX7_rewind 0 = .ok (.aload_n 0, 1) := by decide +kernel
theorem dX7_rewind_1 : decode cX7_rewind 1 = .ok (.iconst 0, 1) := by decide +kernel
theorem dX7_rewind_2 : decode cX7_rewind 2 = .ok (.putfield 22, 3) := by decide +kernel
theorem dX7_rewind_5 : decode cX7_rewind 5 = .ok (.aload_n 0, 1) := by decide +kernel
theorem dX7_rewind_6 : decode cX7_rewind 6 = .ok (.iconst (-1), 1) := by decide +kernel
theorem dX7_rewind_7 : decode cX7_rewind 7 = .ok (.putfield 15, 3) := by decide +kernel
theorem dX7_rewind_10 : decode cX7_rewind 10 = .ok (.return_, 1) := by decide +kernel
theorem dX7_peek_0 : decode cX7_peek 0 = .ok (.aload_n 0, 1) := by decide +kernel
theorem dX7_peek_1 : decode cX7_peek 1 = .ok (.getfield 22, 3) := by decide +kernel
theorem dX7_peek_4 : decode cX7_peek 4 = .ok (.ifCond .lt 63, 3) := by decide +kernel
theorem dX7_peek_7 : decode cX7_peek 7 = .ok (.aload_n 0, 1) := by decide +kernel
theorem dX7_peek_8 : decode cX7_peek 8 = .ok (.getfield 22, 3) := by decide +kernel
theorem dX7_peek_11 : decode cX7_peek 11 = .ok (.aload_n 0, 1) := by decide +kernel
theorem dX7_peek_12 : decode cX7_peek 12 = .ok (.getfield 19, 3) := by decide +kernel
theorem dX7_peek_15 : decode cX7_peek 15 = .ok (.if_icmp .ge 52, 3) := by decide +kernel
theorem dX7_peek_18 : decode cX7_peek 18 = .ok (.aload_n 0, 1) := by decide +kernel
theorem dX7_peek_19 : decode cX7_peek 19 = .ok (.getfield 22, 3) := by decide +kernel
theorem dX7_peek_22 : decode cX7_peek 22 = .ok (.aload_n 0, 1) := by decide +kernel
theorem dX7_peek_23 : decode cX7_peek 23 = .ok (.getfield 9, 3) := by decide +kernel
theorem dX7_peek_26 : decode cX7_peek 26 = .ok (.arraylength, 1) := by decide +kernel
theorem dX7_peek_27 : decode cX7_peek 27 = .ok (.if_icmp .ge 40, 3) := by decide +kernel
theorem dX7_peek_30 : decode cX7_peek 30 = .ok (.aload_n 0, 1) := by decide +kernel
theorem dX7_peek_31 : decode cX7_peek 31 = .ok (.getfield 9, 3) := by decide +kernel
theorem dX7_peek_34 : decode cX7_peek 34 = .ok (.aload_n 0, 1) := by decide +kernel
theorem dX7_peek_35 : decode cX7_peek 35 = .ok (.getfield 22, 3) := by decide +kernel
theorem dX7_peek_38 : decode cX7_peek 38 = .ok (.iaload, 1) := by decide +kernel
theorem dX7_peek_39 : decode cX7_peek 39 = .ok (.bipush 32, 2) := by decide +kernel
theorem dX7_peek_41 : decode cX7_peek 41 = .ok (.if_icmp .eq 13, 3) := by decide +kernel
theorem dX7_peek_44 : decode cX7_peek 44 = .ok (.aload_n 0, 1) := by decide +kernel
theorem dX7_peek_45 : decode cX7_peek 45 = .ok (.getfield 9, 3) := by decide +kernel
theorem dX7_peek_48 : decode cX7_peek 48 = .ok (.aload_n 0, 1) := by decide +kernel
theorem dX7_peek_49 : decode cX7_peek 49 = .ok (.getfield 22, 3) := by decide +kernel
theorem dX7_peek_52 : decode cX7_peek 52 = .ok (.iaload, 1) := by decide +kernel
theorem dX7_peek_53 : decode cX7_peek 53 = .ok (.ireturn, 1) := by decide +kernel
theorem dX7_peek_54 : decode cX7_peek 54 = .ok (.aload_n 0, 1) := by decide +kernel
theorem dX7_peek_55 : decode cX7_peek 55 = .ok (.dup, 1) := by decide +kernel
theorem dX7_peek_56 : decode cX7_peek 56 = .ok (.getfield 22, 3) := by decide +kernel
theorem dX7_peek_59 : decode cX7_peek 59 = .ok (.iconst 1, 1) := by decide +kernel
theorem dX7_peek_60 : decode cX7_peek 60 = .ok (.iadd, 1) := by decide +kernel
theorem dX7_peek_61 : decode cX7_peek 61 = .ok (.putfield 22, 3) := by decide +kernel
theorem dX7_peek_64 : decode cX7_peek 64 = .ok (.goto (-64), 3) := by decide +kernel
theorem dX7_peek_67 : decode cX7_peek 67 = .ok (.iconst (-1), 1) := by decide +kernel
theorem dX7_peek_68 : decode cX7_peek 68 = .ok (.ireturn, 1) := by decide +kernel
theorem dX7_signAtHead_0 : decode cX7_signAtHead 0 = .ok (.aload_n 0, 1) := by decide +kernel
theorem dX7_signAtHead_1 : decode cX7_signAtHead 1 = .ok (.getfield 22, 3) := by decide +kernel
theorem dX7_signAtHead_4 : decode cX7_signAtHead 4 = .ok (.ifCond .lt 38, 3) := by decide +kernel
theorem dX7_signAtHead_7 : decode cX7_signAtHead 7 = .ok (.aload_n 0, 1) := by decide +kernel
theorem dX7_signAtHead_8 : decode cX7_signAtHead 8 = .ok (.getfield 22, 3) := by decide +kernel
theorem dX7_signAtHead_11 : decode cX7_signAtHead 11 = .ok (.aload_n 0, 1) := by decide +kernel
theorem dX7_signAtHead_12 : decode cX7_signAtHead 12 = .ok (.getfield 19, 3) := by decide +kernel
theorem dX7_signAtHead_15 : decode cX7_signAtHead 15 = .ok (.if_icmp .ge 27, 3) := by decide +kernel
theorem dX7_signAtHead_18 : decode cX7_signAtHead 18 = .ok (.aload_n 0, 1) := by decide +kernel
theorem dX7_signAtHead_19 : decode cX7_signAtHead 19 = .ok (.getfield 22, 3) := by decide +kernel
theorem dX7_signAtHead_22 : decode cX7_signAtHead 22 = .ok (.aload_n 0, 1) := by decide +kernel
theorem dX7_signAtHead_23 : decode cX7_signAtHead 23 = .ok (.getfield 9, 3) := by decide +kernel
theorem dX7_signAtHead_26 : decode cX7_signAtHead 26 = .ok (.arraylength, 1) := by decide +kernel
theorem dX7_signAtHead_27 : decode cX7_signAtHead 27 = .ok (.if_icmp .ge 15, 3) := by decide +kernel
theorem dX7_signAtHead_30 : decode cX7_signAtHead 30 = .ok (.aload_n 0, 1) := by decide +kernel
theorem dX7_signAtHead_31 : decode cX7_signAtHead 31 = .ok (.getfield 9, 3) := by decide +kernel
theorem dX7_signAtHead_34 : decode cX7_signAtHead 34 = .ok (.aload_n 0, 1) := by decide +kernel
theorem dX7_signAtHead_35 : decode cX7_signAtHead 35 = .ok (.getfield 22, 3) := by decide +kernel
theorem dX7_signAtHead_38 : decode cX7_signAtHead 38 = .ok (.iaload, 1) := by decide +kernel
theorem dX7_signAtHead_39 : decode cX7_signAtHead 39 = .ok (.goto 4, 3) := by decide +kernel
theorem dX7_signAtHead_42 : decode cX7_signAtHead 42 = .ok (.iconst (-1), 1) := by decide +kernel
theorem dX7_signAtHead_43 : decode cX7_signAtHead 43 = .ok (.ireturn, 1) := by decide +kernel
theorem dX7_pass_0 : decode cX7_pass 0 = .ok (.aload_n 0, 1) := by decide +kernel
theorem dX7_pass_1 : decode cX7_pass 1 = .ok (.getfield 22, 3) := by decide +kernel
theorem dX7_pass_4 : decode cX7_pass 4 = .ok (.aload_n 0, 1) := by decide +kernel
theorem dX7_pass_5 : decode cX7_pass 5 = .ok (.getfield 19, 3) := by decide +kernel
theorem dX7_pass_8 : decode cX7_pass 8 = .ok (.if_icmp .ge 13, 3) := by decide +kernel
theorem dX7_pass_11 : decode cX7_pass 11 = .ok (.aload_n 0, 1) := by decide +kernel
theorem dX7_pass_12 : decode cX7_pass 12 = .ok (.dup, 1) := by decide +kernel
theorem dX7_pass_13 : decode cX7_pass 13 = .ok (.getfield 22, 3) := by decide +kernel
theorem dX7_pass_16 : decode cX7_pass 16 = .ok (.iconst 1, 1) := by decide +kernel
theorem dX7_pass_17 : decode cX7_pass 17 = .ok (.iadd, 1) := by decide +kernel
theorem dX7_pass_18 : decode cX7_pass 18 = .ok (.putfield 22, 3) := by decide +kernel
theorem dX7_pass_21 : decode cX7_pass 21 = .ok (.return_, 1) := by decide +kernel
theorem dX7_takes_0 : decode cX7_takes 0 = .ok (.aload_n 0, 1) := by decide +kernel
theorem dX7_takes_1 : decode cX7_takes 1 = .ok (.invokevirtual 25, 3) := by decide +kernel
theorem dX7_takes_4 : decode cX7_takes 4 = .ok (.iload_n 1, 1) := by decide +kernel
theorem dX7_takes_5 : decode cX7_takes 5 = .ok (.if_icmp .eq 8, 3) := by decide +kernel
theorem dX7_takes_8 : decode cX7_takes 8 = .ok (.aload_n 0, 1) := by decide +kernel
theorem dX7_takes_9 : decode cX7_takes 9 = .ok (.invokevirtual 29, 3) := by decide +kernel
theorem dX7_takes_12 : decode cX7_takes 12 = .ok (.ireturn, 1) := by decide +kernel
theorem dX7_takes_13 : decode cX7_takes 13 = .ok (.aload_n 0, 1) := by decide +kernel
theorem dX7_takes_14 : decode cX7_takes 14 = .ok (.invokevirtual 33, 3) := by decide +kernel
theorem dX7_takes_17 : decode cX7_takes 17 = .ok (.iconst 1, 1) := by decide +kernel
theorem dX7_takes_18 : decode cX7_takes 18 = .ok (.ireturn, 1) := by decide +kernel
theorem dX7_takeNumber_0 : decode cX7_takeNumber 0 = .ok (.iconst (-1), 1) := by decide +kernel
theorem dX7_takeNumber_1 : decode cX7_takeNumber 1 = .ok (.istore_n 2, 1) := by decide +kernel
theorem dX7_takeNumber_2 : decode cX7_takeNumber 2 = .ok (.aload_n 0, 1) := by decide +kernel
theorem dX7_takeNumber_3 : decode cX7_takeNumber 3 = .ok (.invokevirtual 25, 3) := by decide +kernel
theorem dX7_takeNumber_6 : decode cX7_takeNumber 6 = .ok (.invokestatic 36, 3) := by decide +kernel
theorem dX7_takeNumber_9 : decode cX7_takeNumber 9 = .ok (.ifCond .ne 10, 3) := by decide +kernel
theorem dX7_takeNumber_12 : decode cX7_takeNumber 12 = .ok (.aload_n 0, 1) := by decide +kernel
theorem dX7_takeNumber_13 : decode cX7_takeNumber 13 = .ok (.invokevirtual 29, 3) := by decide +kernel
theorem dX7_takeNumber_16 : decode cX7_takeNumber 16 = .ok (.pop, 1) := by decide +kernel
theorem dX7_takeNumber_17 : decode cX7_takeNumber 17 = .ok (.iconst (-1), 1) := by decide +kernel
theorem dX7_takeNumber_18 : decode cX7_takeNumber 18 = .ok (.ireturn, 1) := by decide +kernel
theorem dX7_takeNumber_19 : decode cX7_takeNumber 19 = .ok (.iconst 0, 1) := by decide +kernel
theorem dX7_takeNumber_20 : decode cX7_takeNumber 20 = .ok (.istore_n 3, 1) := by decide +kernel
theorem dX7_takeNumber_21 : decode cX7_takeNumber 21 = .ok (.iload_n 3, 1) := by decide +kernel
theorem dX7_takeNumber_22 : decode cX7_takeNumber 22 = .ok (.iload_n 1, 1) := by decide +kernel
theorem dX7_takeNumber_23 : decode cX7_takeNumber 23 = .ok (.if_icmp .gt 49, 3) := by decide +kernel
theorem dX7_takeNumber_26 : decode cX7_takeNumber 26 = .ok (.aload_n 0, 1) := by decide +kernel
theorem dX7_takeNumber_27 : decode cX7_takeNumber 27 = .ok (.invokevirtual 40, 3) := by decide +kernel
theorem dX7_takeNumber_30 : decode cX7_takeNumber 30 = .ok (.istore 4, 2) := by decide +kernel
theorem dX7_takeNumber_32 : decode cX7_takeNumber 32 = .ok (.iload 4, 2) := by decide +kernel
theorem dX7_takeNumber_34 : decode cX7_takeNumber 34 = .ok (.invokestatic 36, 3) := by decide +kernel
theorem dX7_takeNumber_37 : decode cX7_takeNumber 37 = .ok (.ifCond .ne 5, 3) := by decide +kernel
theorem dX7_takeNumber_40 : decode cX7_takeNumber 40 = .ok (.iload_n 2, 1) := by decide +kernel
theorem dX7_takeNumber_41 : decode cX7_takeNumber 41 = .ok (.ireturn, 1) := by decide +kernel
theorem dX7_takeNumber_42 : decode cX7_takeNumber 42 = .ok (.iload_n 2, 1) := by decide +kernel
theorem dX7_takeNumber_43 : decode cX7_takeNumber 43 = .ok (.iconst 0, 1) := by decide +kernel
theorem dX7_takeNumber_44 : decode cX7_takeNumber 44 = .ok (.invokestatic 43, 3) := by decide +kernel
theorem dX7_takeNumber_47 : decode cX7_takeNumber 47 = .ok (.bipush 10, 2) := by decide +kernel
theorem dX7_takeNumber_49 : decode cX7_takeNumber 49 = .ok (.imul, 1) := by decide +kernel
theorem dX7_takeNumber_50 : decode cX7_takeNumber 50 = .ok (.iload 4, 2) := by decide +kernel
theorem dX7_takeNumber_52 : decode cX7_takeNumber 52 = .ok (.iadd, 1) := by decide +kernel
theorem dX7_takeNumber_53 : decode cX7_takeNumber 53 = .ok (.bipush 48, 2) := by decide +kernel
theorem dX7_takeNumber_55 : decode cX7_takeNumber 55 = .ok (.isub, 1) := by decide +kernel
theorem dX7_takeNumber_56 : decode cX7_takeNumber 56 = .ok (.istore_n 2, 1) := by decide +kernel
theorem dX7_takeNumber_57 : decode cX7_takeNumber 57 = .ok (.iload_n 3, 1) := by decide +kernel
theorem dX7_takeNumber_58 : decode cX7_takeNumber 58 = .ok (.iload_n 1, 1) := by decide +kernel
theorem dX7_takeNumber_59 : decode cX7_takeNumber 59 = .ok (.if_icmp .ge 7, 3) := by decide +kernel
theorem dX7_takeNumber_62 : decode cX7_takeNumber 62 = .ok (.aload_n 0, 1) := by decide +kernel
theorem dX7_takeNumber_63 : decode cX7_takeNumber 63 = .ok (.invokevirtual 33, 3) := by decide +kernel
theorem dX7_takeNumber_66 : decode cX7_takeNumber 66 = .ok (.iinc 3 1, 3) := by decide +kernel
theorem dX7_takeNumber_69 : decode cX7_takeNumber 69 = .ok (.goto (-48), 3) := by decide +kernel
theorem dX7_takeNumber_72 : decode cX7_takeNumber 72 = .ok (.aload_n 0, 1) := by decide +kernel
theorem dX7_takeNumber_73 : decode cX7_takeNumber 73 = .ok (.invokevirtual 29, 3) := by decide +kernel
theorem dX7_takeNumber_76 : decode cX7_takeNumber 76 = .ok (.pop, 1) := by decide +kernel
theorem dX7_takeNumber_77 : decode cX7_takeNumber 77 = .ok (.iconst (-1), 1) := by decide +kernel
theorem dX7_takeNumber_78 : decode cX7_takeNumber 78 = .ok (.ireturn, 1) := by decide +kernel
theorem dX7_fails_0 : decode cX7_fails 0 = .ok (.aload_n 0, 1) := by decide +kernel
theorem dX7_fails_1 : decode cX7_fails 1 = .ok (.aload_n 0, 1) := by decide +kernel
theorem dX7_fails_2 : decode cX7_fails 2 = .ok (.getfield 22, 3) := by decide +kernel
theorem dX7_fails_5 : decode cX7_fails 5 = .ok (.putfield 15, 3) := by decide +kernel
theorem dX7_fails_8 : decode cX7_fails 8 = .ok (.iconst 0, 1) := by decide +kernel
theorem dX7_fails_9 : decode cX7_fails 9 = .ok (.ireturn, 1) := by decide +kernel
theorem dX7_failsAtLastDigit_0 : decode cX7_failsAtLastDigit 0 = .ok (.aload_n 0, 1) := by decide +kernel
theorem dX7_failsAtLastDigit_1 : decode cX7_failsAtLastDigit 1 = .ok (.aload_n 0, 1) := by decide +kernel
theorem dX7_failsAtLastDigit_2 : decode cX7_failsAtLastDigit 2 = .ok (.getfield 22, 3) := by decide +kernel
theorem dX7_failsAtLastDigit_5 : decode cX7_failsAtLastDigit 5 = .ok (.iconst 1, 1) := by decide +kernel
theorem dX7_failsAtLastDigit_6 : decode cX7_failsAtLastDigit 6 = .ok (.isub, 1) := by decide +kernel
theorem dX7_failsAtLastDigit_7 : decode cX7_failsAtLastDigit 7 = .ok (.putfield 15, 3) := by decide +kernel
theorem dX7_failsAtLastDigit_10 : decode cX7_failsAtLastDigit 10 = .ok (.iconst 0, 1) := by decide +kernel
theorem dX7_failsAtLastDigit_11 : decode cX7_failsAtLastDigit 11 = .ok (.ireturn, 1) := by decide +kernel
theorem dX7_failsAtEnd_0 : decode cX7_failsAtEnd 0 = .ok (.aload_n 0, 1) := by decide +kernel
theorem dX7_failsAtEnd_1 : decode cX7_failsAtEnd 1 = .ok (.aload_n 0, 1) := by decide +kernel
theorem dX7_failsAtEnd_2 : decode cX7_failsAtEnd 2 = .ok (.getfield 19, 3) := by decide +kernel
theorem dX7_failsAtEnd_5 : decode cX7_failsAtEnd 5 = .ok (.putfield 15, 3) := by decide +kernel
theorem dX7_failsAtEnd_8 : decode cX7_failsAtEnd 8 = .ok (.iconst 0, 1) := by decide +kernel
theorem dX7_failsAtEnd_9 : decode cX7_failsAtEnd 9 = .ok (.ireturn, 1) := by decide +kernel
theorem dX7_wrongAt_0 : decode cX7_wrongAt 0 = .ok (.aload_n 0, 1) := by decide +kernel
theorem dX7_wrongAt_1 : decode cX7_wrongAt 1 = .ok (.getfield 15, 3) := by decide +kernel
theorem dX7_wrongAt_4 : decode cX7_wrongAt 4 = .ok (.ireturn, 1) := by decide +kernel
theorem dX8_init_0 : decode cX8_init 0 = .ok (.aload_n 0, 1) := by decide +kernel
theorem dX8_init_1 : decode cX8_init 1 = .ok (.invokespecial 3, 3) := by decide +kernel
theorem dX8_init_4 : decode cX8_init 4 = .ok (.aload_n 0, 1) := by decide +kernel
theorem dX8_init_5 : decode cX8_init 5 = .ok (.bipush 36, 2) := by decide +kernel
theorem dX8_init_7 : decode cX8_init 7 = .ok (.newarray .int, 2) := by decide +kernel
theorem dX8_init_9 : decode cX8_init 9 = .ok (.putfield 9, 3) := by decide +kernel
theorem dX8_init_12 : decode cX8_init 12 = .ok (.aload_n 0, 1) := by decide +kernel
theorem dX8_init_13 : decode cX8_init 13 = .ok (.iconst 3, 1) := by decide +kernel
theorem dX8_init_14 : decode cX8_init 14 = .ok (.newarray .int, 2) := by decide +kernel
theorem dX8_init_16 : decode cX8_init 16 = .ok (.putfield 15, 3) := by decide +kernel
theorem dX8_init_19 : decode cX8_init 19 = .ok (.return_, 1) := by decide +kernel
theorem dX8_clear_0 : decode cX8_clear 0 = .ok (.iconst 0, 1) := by decide +kernel
theorem dX8_clear_1 : decode cX8_clear 1 = .ok (.istore_n 1, 1) := by decide +kernel
theorem dX8_clear_2 : decode cX8_clear 2 = .ok (.iload_n 1, 1) := by decide +kernel
theorem dX8_clear_3 : decode cX8_clear 3 = .ok (.iconst 3, 1) := by decide +kernel
theorem dX8_clear_4 : decode cX8_clear 4 = .ok (.if_icmp .ge 18, 3) := by decide +kernel
theorem dX8_clear_7 : decode cX8_clear 7 = .ok (.aload_n 0, 1) := by decide +kernel
theorem dX8_clear_8 : decode cX8_clear 8 = .ok (.getfield 15, 3) := by decide +kernel
theorem dX8_clear_11 : decode cX8_clear 11 = .ok (.iload_n 1, 1) := by decide +kernel
theorem dX8_clear_12 : decode cX8_clear 12 = .ok (.iconst 0, 1) := by decide +kernel
theorem dX8_clear_13 : decode cX8_clear 13 = .ok (.invokestatic 18, 3) := by decide +kernel
theorem dX8_clear_16 : decode cX8_clear 16 = .ok (.iinc 1 1, 3) := by decide +kernel
theorem dX8_clear_19 : decode cX8_clear 19 = .ok (.goto (-17), 3) := by decide +kernel
theorem dX8_clear_22 : decode cX8_clear 22 = .ok (.iconst 0, 1) := by decide +kernel
theorem dX8_clear_23 : decode cX8_clear 23 = .ok (.istore_n 1, 1) := by decide +kernel
theorem dX8_clear_24 : decode cX8_clear 24 = .ok (.iload_n 1, 1) := by decide +kernel
theorem dX8_clear_25 : decode cX8_clear 25 = .ok (.bipush 36, 2) := by decide +kernel
theorem dX8_clear_27 : decode cX8_clear 27 = .ok (.if_icmp .ge 15, 3) := by decide +kernel
theorem dX8_clear_30 : decode cX8_clear 30 = .ok (.aload_n 0, 1) := by decide +kernel
theorem dX8_clear_31 : decode cX8_clear 31 = .ok (.iload_n 1, 1) := by decide +kernel
theorem dX8_clear_32 : decode cX8_clear 32 = .ok (.iconst 0, 1) := by decide +kernel
theorem dX8_clear_33 : decode cX8_clear 33 = .ok (.invokevirtual 22, 3) := by decide +kernel
theorem dX8_clear_36 : decode cX8_clear 36 = .ok (.iinc 1 1, 3) := by decide +kernel
theorem dX8_clear_39 : decode cX8_clear 39 = .ok (.goto (-15), 3) := by decide +kernel
theorem dX8_clear_42 : decode cX8_clear 42 = .ok (.aload_n 0, 1) := by decide +kernel
theorem dX8_clear_43 : decode cX8_clear 43 = .ok (.iconst 0, 1) := by decide +kernel
theorem dX8_clear_44 : decode cX8_clear 44 = .ok (.iconst 0, 1) := by decide +kernel
theorem dX8_clear_45 : decode cX8_clear 45 = .ok (.invokevirtual 26, 3) := by decide +kernel
theorem dX8_clear_48 : decode cX8_clear 48 = .ok (.return_, 1) := by decide +kernel
theorem dX8_copy_0 : decode cX8_copy 0 = .ok (.aload_n 1, 1) := by decide +kernel
theorem dX8_copy_1 : decode cX8_copy 1 = .ok (.getfield 9, 3) := by decide +kernel
theorem dX8_copy_4 : decode cX8_copy 4 = .ok (.iconst 0, 1) := by decide +kernel
theorem dX8_copy_5 : decode cX8_copy 5 = .ok (.aload_n 0, 1) := by decide +kernel
theorem dX8_copy_6 : decode cX8_copy 6 = .ok (.getfield 9, 3) := by decide +kernel
theorem dX8_copy_9 : decode cX8_copy 9 = .ok (.iconst 0, 1) := by decide +kernel
theorem dX8_copy_10 : decode cX8_copy 10 = .ok (.bipush 36, 2) := by decide +kernel
theorem dX8_copy_12 : decode cX8_copy 12 = .ok (.invokestatic 29, 3) := by decide +kernel
theorem dX8_copy_15 : decode cX8_copy 15 = .ok (.aload_n 1, 1) := by decide +kernel
theorem dX8_copy_16 : decode cX8_copy 16 = .ok (.getfield 15, 3) := by decide +kernel
theorem dX8_copy_19 : decode cX8_copy 19 = .ok (.iconst 0, 1) := by decide +kernel
theorem dX8_copy_20 : decode cX8_copy 20 = .ok (.aload_n 0, 1) := by decide +kernel
theorem dX8_copy_21 : decode cX8_copy 21 = .ok (.getfield 15, 3) := by decide +kernel
theorem dX8_copy_24 : decode cX8_copy 24 = .ok (.iconst 0, 1) := by decide +kernel
theorem dX8_copy_25 : decode cX8_copy 25 = .ok (.iconst 3, 1) := by decide +kernel
theorem dX8_copy_26 : decode cX8_copy 26 = .ok (.invokestatic 29, 3) := by decide +kernel
theorem dX8_copy_29 : decode cX8_copy 29 = .ok (.return_, 1) := by decide +kernel
theorem dX8_open_0 : decode cX8_open 0 = .ok (.iload_n 1, 1) := by decide +kernel
theorem dX8_open_1 : decode cX8_open 1 = .ok (.ifCond .lt 26, 3) := by decide +kernel
theorem dX8_open_4 : decode cX8_open 4 = .ok (.iload_n 1, 1) := by decide +kernel
theorem dX8_open_5 : decode cX8_open 5 = .ok (.iconst 3, 1) := by decide +kernel
theorem dX8_open_6 : decode cX8_open 6 = .ok (.if_icmp .ge 21, 3) := by decide +kernel
theorem dX8_open_9 : decode cX8_open 9 = .ok (.aload_n 0, 1) := by decide +kernel
theorem dX8_open_10 : decode cX8_open 10 = .ok (.getfield 15, 3) := by decide +kernel
theorem dX8_open_13 : decode cX8_open 13 = .ok (.iload_n 1, 1) := by decide +kernel
theorem dX8_open_14 : decode cX8_open 14 = .ok (.invokestatic 35, 3) := by decide +kernel
theorem dX8_open_17 : decode cX8_open 17 = .ok (.getstatic 39, 3) := by decide +kernel
theorem dX8_open_20 : decode cX8_open 20 = .ok (.iload_n 1, 1) := by decide +kernel
theorem dX8_open_21 : decode cX8_open 21 = .ok (.invokestatic 35, 3) := by decide +kernel
theorem dX8_open_24 : decode cX8_open 24 = .ok (.if_icmp .lt 5, 3) := by decide +kernel
theorem dX8_open_27 : decode cX8_open 27 = .ok (.iconst (-1), 1) := by decide +kernel
theorem dX8_open_28 : decode cX8_open 28 = .ok (.ireturn, 1) := by decide +kernel
theorem dX8_open_29 : decode cX8_open 29 = .ok (.getstatic 42, 3) := by decide +kernel
theorem dX8_open_32 : decode cX8_open 32 = .ok (.iload_n 1, 1) := by decide +kernel
theorem dX8_open_33 : decode cX8_open 33 = .ok (.invokestatic 35, 3) := by decide +kernel
theorem dX8_open_36 : decode cX8_open 36 = .ok (.aload_n 0, 1) := by decide +kernel
theorem dX8_open_37 : decode cX8_open 37 = .ok (.getfield 15, 3) := by decide +kernel
theorem dX8_open_40 : decode cX8_open 40 = .ok (.iload_n 1, 1) := by decide +kernel
theorem dX8_open_41 : decode cX8_open 41 = .ok (.invokestatic 35, 3) := by decide +kernel
theorem dX8_open_44 : decode cX8_open 44 = .ok (.getstatic 45, 3) := by decide +kernel
theorem dX8_open_47 : decode cX8_open 47 = .ok (.iload_n 1, 1) := by decide +kernel
theorem dX8_open_48 : decode cX8_open 48 = .ok (.invokestatic 35, 3) := by decide +kernel
theorem dX8_open_51 : decode cX8_open 51 = .ok (.imul, 1) := by decide +kernel
theorem dX8_open_52 : decode cX8_open 52 = .ok (.iadd, 1) := by decide +kernel
theorem dX8_open_53 : decode cX8_open 53 = .ok (.istore_n 2, 1) := by decide +kernel
theorem dX8_open_54 : decode cX8_open 54 = .ok (.aload_n 0, 1) := by decide +kernel
theorem dX8_open_55 : decode cX8_open 55 = .ok (.iload_n 1, 1) := by decide +kernel
theorem dX8_open_56 : decode cX8_open 56 = .ok (.iload_n 2, 1) := by decide +kernel
theorem dX8_open_57 : decode cX8_open 57 = .ok (.invokevirtual 26, 3) := by decide +kernel
theorem dX8_open_60 : decode cX8_open 60 = .ok (.aload_n 0, 1) := by decide +kernel
theorem dX8_open_61 : decode cX8_open 61 = .ok (.getfield 15, 3) := by decide +kernel
theorem dX8_open_64 : decode cX8_open 64 = .ok (.iload_n 1, 1) := by decide +kernel
theorem dX8_open_65 : decode cX8_open 65 = .ok (.aload_n 0, 1) := by decide +kernel
theorem dX8_open_66 : decode cX8_open 66 = .ok (.getfield 15, 3) := by decide +kernel
theorem dX8_open_69 : decode cX8_open 69 = .ok (.iload_n 1, 1) := by decide +kernel
theorem dX8_open_70 : decode cX8_open 70 = .ok (.invokestatic 35, 3) := by decide +kernel
theorem dX8_open_73 : decode cX8_open 73 = .ok (.iconst 1, 1) := by decide +kernel
theorem dX8_open_74 : decode cX8_open 74 = .ok (.iadd, 1) := by decide +kernel
theorem dX8_open_75 : decode cX8_open 75 = .ok (.invokestatic 18, 3) := by decide +kernel
theorem dX8_open_78 : decode cX8_open 78 = .ok (.iload_n 2, 1) := by decide +kernel
theorem dX8_open_79 : decode cX8_open 79 = .ok (.ireturn, 1) := by decide +kernel
theorem dX8_putUsual_0 : decode cX8_putUsual 0 = .ok (.iconst 0, 1) := by decide +kernel
theorem dX8_putUsual_1 : decode cX8_putUsual 1 = .ok (.istore_n 3, 1) := by decide +kernel
theorem dX8_putUsual_2 : decode cX8_putUsual 2 = .ok (.iload_n 3, 1) := by decide +kernel
theorem dX8_putUsual_3 : decode cX8_putUsual 3 = .ok (.getstatic 45, 3) := by decide +kernel
theorem dX8_putUsual_6 : decode cX8_putUsual 6 = .ok (.iload_n 1, 1) := by decide +kernel
theorem dX8_putUsual_7 : decode cX8_putUsual 7 = .ok (.invokestatic 35, 3) := by decide +kernel
theorem dX8_putUsual_10 : decode cX8_putUsual 10 = .ok (.if_icmp .ge 31, 3) := by decide +kernel
theorem dX8_putUsual_13 : decode cX8_putUsual 13 = .ok (.aload_n 0, 1) := by decide +kernel
theorem dX8_putUsual_14 : decode cX8_putUsual 14 = .ok (.iload_n 2, 1) := by decide +kernel
theorem dX8_putUsual_15 : decode cX8_putUsual 15 = .ok (.iload_n 3, 1) := by decide +kernel
theorem dX8_putUsual_16 : decode cX8_putUsual 16 = .ok (.iadd, 1) := by decide +kernel
theorem dX8_putUsual_17 : decode cX8_putUsual 17 = .ok (.getstatic 48, 3) := by decide +kernel
theorem dX8_putUsual_20 : decode cX8_putUsual 20 = .ok (.getstatic 51, 3) := by decide +kernel
theorem dX8_putUsual_23 : decode cX8_putUsual 23 = .ok (.iload_n 1, 1) := by decide +kernel
theorem dX8_putUsual_24 : decode cX8_putUsual 24 = .ok (.invokestatic 35, 3) := by decide +kernel
theorem dX8_putUsual_27 : decode cX8_putUsual 27 = .ok (.iload_n 3, 1) := by decide +kernel
theorem dX8_putUsual_28 : decode cX8_putUsual 28 = .ok (.iadd, 1) := by decide +kernel
theorem dX8_putUsual_29 : decode cX8_putUsual 29 = .ok (.invokestatic 35, 3) := by decide +kernel
theorem dX8_putUsual_32 : decode cX8_putUsual 32 = .ok (.invokevirtual 22, 3) := by decide +kernel
theorem dX8_putUsual_35 : decode cX8_putUsual 35 = .ok (.iinc 3 1, 3) := by decide +kernel
theorem dX8_putUsual_38 : decode cX8_putUsual 38 = .ok (.goto (-36), 3) := by decide +kernel
theorem dX8_putUsual_41 : decode cX8_putUsual 41 = .ok (.return_, 1) := by decide +kernel
theorem dX8_put_0 : decode cX8_put 0 = .ok (.aload_n 0, 1) := by decide +kernel
theorem dX8_put_1 : decode cX8_put 1 = .ok (.getfield 9, 3) := by decide +kernel
theorem dX8_put_4 : decode cX8_put 4 = .ok (.iload_n 1, 1) := by decide +kernel
theorem dX8_put_5 : decode cX8_put 5 = .ok (.iload_n 2, 1) := by decide +kernel
theorem dX8_put_6 : decode cX8_put 6 = .ok (.invokestatic 18, 3) := by decide +kernel
theorem dX8_put_9 : decode cX8_put 9 = .ok (.return_, 1) := by decide +kernel
theorem dX8_isWhole_0 : decode cX8_isWhole 0 = .ok (.aload_n 0, 1) := by decide +kernel
theorem dX8_isWhole_1 : decode cX8_isWhole 1 = .ok (.invokevirtual 54, 3) := by decide +kernel
theorem dX8_isWhole_4 : decode cX8_isWhole 4 = .ok (.iconst 2, 1) := by decide +kernel
theorem dX8_isWhole_5 : decode cX8_isWhole 5 = .ok (.if_icmp .lt 22, 3) := by decide +kernel
theorem dX8_isWhole_8 : decode cX8_isWhole 8 = .ok (.aload_n 0, 1) := by decide +kernel
theorem dX8_isWhole_9 : decode cX8_isWhole 9 = .ok (.invokevirtual 58, 3) := by decide +kernel
theorem dX8_isWhole_12 : decode cX8_isWhole 12 = .ok (.iconst 1, 1) := by decide +kernel
theorem dX8_isWhole_13 : decode cX8_isWhole 13 = .ok (.if_icmp .lt 14, 3) := by decide +kernel
theorem dX8_isWhole_16 : decode cX8_isWhole 16 = .ok (.aload_n 0, 1) := by decide +kernel
theorem dX8_isWhole_17 : decode cX8_isWhole 17 = .ok (.invokevirtual 61, 3) := by decide +kernel
theorem dX8_isWhole_20 : decode cX8_isWhole 20 = .ok (.ifCond .ne 7, 3) := by decide +kernel
theorem dX8_isWhole_23 : decode cX8_isWhole 23 = .ok (.iconst 1, 1) := by decide +kernel
theorem dX8_isWhole_24 : decode cX8_isWhole 24 = .ok (.goto 4, 3) := by decide +kernel
theorem dX8_isWhole_27 : decode cX8_isWhole 27 = .ok (.iconst 0, 1) := by decide +kernel
theorem dX8_isWhole_28 : decode cX8_isWhole 28 = .ok (.ireturn, 1) := by decide +kernel
theorem dX8_hasSharedPlace_0 : decode cX8_hasSharedPlace 0 = .ok (.iconst 0, 1) := by decide +kernel
theorem dX8_hasSharedPlace_1 : decode cX8_hasSharedPlace 1 = .ok (.istore_n 1, 1) := by decide +kernel
theorem dX8_hasSharedPlace_2 : decode cX8_hasSharedPlace 2 = .ok (.iload_n 1, 1) := by decide +kernel
theorem dX8_hasSharedPlace_3 : decode cX8_hasSharedPlace 3 = .ok (.aload_n 0, 1) := by decide +kernel
theorem dX8_hasSharedPlace_4 : decode cX8_hasSharedPlace 4 = .ok (.invokevirtual 54, 3) := by decide +kernel
theorem dX8_hasSharedPlace_7 : decode cX8_hasSharedPlace 7 = .ok (.if_icmp .ge 33, 3) := by decide +kernel
theorem dX8_hasSharedPlace_10 : decode cX8_hasSharedPlace 10 = .ok (.iconst 0, 1) := by decide +kernel
theorem dX8_hasSharedPlace_11 : decode cX8_hasSharedPlace 11 = .ok (.istore_n 2, 1) := by decide +kernel
theorem dX8_hasSharedPlace_12 : decode cX8_hasSharedPlace 12 = .ok (.iload_n 2, 1) := by decide +kernel
theorem dX8_hasSharedPlace_13 : decode cX8_hasSharedPlace 13 = .ok (.iload_n 1, 1) := by decide +kernel
theorem dX8_hasSharedPlace_14 : decode cX8_hasSharedPlace 14 = .ok (.if_icmp .ge 20, 3) := by decide +kernel
theorem dX8_hasSharedPlace_17 : decode cX8_hasSharedPlace 17 = .ok (.aload_n 0, 1) := by decide +kernel
theorem dX8_hasSharedPlace_18 : decode cX8_hasSharedPlace 18 = .ok (.iload_n 1, 1) := by decide +kernel
theorem dX8_hasSharedPlace_19 : decode cX8_hasSharedPlace 19 = .ok (.iload_n 2, 1) := by decide +kernel
theorem dX8_hasSharedPlace_20 : decode cX8_hasSharedPlace 20 = .ok (.invokevirtual 65, 3) := by decide +kernel
theorem dX8_hasSharedPlace_23 : decode cX8_hasSharedPlace 23 = .ok (.ifCond .ne 5, 3) := by decide +kernel
theorem dX8_hasSharedPlace_26 : decode cX8_hasSharedPlace 26 = .ok (.iconst 1, 1) := by decide +kernel
theorem dX8_hasSharedPlace_27 : decode cX8_hasSharedPlace 27 = .ok (.ireturn, 1) := by decide +kernel
theorem dX8_hasSharedPlace_28 : decode cX8_hasSharedPlace 28 = .ok (.iinc 2 1, 3) := by decide +kernel
theorem dX8_hasSharedPlace_31 : decode cX8_hasSharedPlace 31 = .ok (.goto (-19), 3) := by decide +kernel
theorem dX8_hasSharedPlace_34 : decode cX8_hasSharedPlace 34 = .ok (.iinc 1 1, 3) := by decide +kernel
theorem dX8_hasSharedPlace_37 : decode cX8_hasSharedPlace 37 = .ok (.goto (-35), 3) := by decide +kernel
theorem dX8_hasSharedPlace_40 : decode cX8_hasSharedPlace 40 = .ok (.iconst 0, 1) := by decide +kernel
theorem dX8_hasSharedPlace_41 : decode cX8_hasSharedPlace 41 = .ok (.ireturn, 1) := by decide +kernel
theorem dX8_isTold_0 : decode cX8_isTold 0 = .ok (.aload_n 0, 1) := by decide +kernel
theorem dX8_isTold_1 : decode cX8_isTold 1 = .ok (.invokevirtual 54, 3) := by decide +kernel
theorem dX8_isTold_4 : decode cX8_isTold 4 = .ok (.ifCond .le 7, 3) := by decide +kernel
theorem dX8_isTold_7 : decode cX8_isTold 7 = .ok (.iconst 1, 1) := by decide +kernel
theorem dX8_isTold_8 : decode cX8_isTold 8 = .ok (.goto 4, 3) := by decide +kernel
theorem dX8_isTold_11 : decode cX8_isTold 11 = .ok (.iconst 0, 1) := by decide +kernel
theorem dX8_isTold_12 : decode cX8_isTold 12 = .ok (.ireturn, 1) := by decide +kernel
theorem dX8_isHouse_0 : decode cX8_isHouse 0 = .ok (.iload_n 1, 1) := by decide +kernel
theorem dX8_isHouse_1 : decode cX8_isHouse 1 = .ok (.ifCond .lt 15, 3) := by decide +kernel
theorem dX8_isHouse_4 : decode cX8_isHouse 4 = .ok (.iload_n 1, 1) := by decide +kernel
theorem dX8_isHouse_5 : decode cX8_isHouse 5 = .ok (.aload_n 0, 1) := by decide +kernel
theorem dX8_isHouse_6 : decode cX8_isHouse 6 = .ok (.invokevirtual 54, 3) := by decide +kernel
theorem dX8_isHouse_9 : decode cX8_isHouse 9 = .ok (.if_icmp .ge 7, 3) := by decide +kernel
theorem dX8_isHouse_12 : decode cX8_isHouse 12 = .ok (.iconst 1, 1) := by decide +kernel
theorem dX8_isHouse_13 : decode cX8_isHouse 13 = .ok (.goto 4, 3) := by decide +kernel
theorem dX8_isHouse_16 : decode cX8_isHouse 16 = .ok (.iconst 0, 1) := by decide +kernel
theorem dX8_isHouse_17 : decode cX8_isHouse 17 = .ok (.ireturn, 1) := by decide +kernel
theorem dX8_houses_0 : decode cX8_houses 0 = .ok (.aload_n 0, 1) := by decide +kernel
theorem dX8_houses_1 : decode cX8_houses 1 = .ok (.getfield 15, 3) := by decide +kernel
theorem dX8_houses_4 : decode cX8_houses 4 = .ok (.iconst 1, 1) := by decide +kernel
theorem dX8_houses_5 : decode cX8_houses 5 = .ok (.invokestatic 35, 3) := by decide +kernel
theorem dX8_houses_8 : decode cX8_houses 8 = .ok (.ireturn, 1) := by decide +kernel
theorem dX8_bearers_0 : decode cX8_bearers 0 = .ok (.aload_n 0, 1) := by decide +kernel
theorem dX8_bearers_1 : decode cX8_bearers 1 = .ok (.getfield 15, 3) := by decide +kernel
theorem dX8_bearers_4 : decode cX8_bearers 4 = .ok (.iconst 2, 1) := by decide +kernel
theorem dX8_bearers_5 : decode cX8_bearers 5 = .ok (.invokestatic 35, 3) := by decide +kernel
theorem dX8_bearers_8 : decode cX8_bearers 8 = .ok (.ireturn, 1) := by decide +kernel
theorem dX8_timeThereIs_0 : decode cX8_timeThereIs 0 = .ok (.aload_n 0, 1) := by decide +kernel
theorem dX8_timeThereIs_1 : decode cX8_timeThereIs 1 = .ok (.getfield 9, 3) := by decide +kernel
theorem dX8_timeThereIs_4 : decode cX8_timeThereIs 4 = .ok (.iconst 0, 1) := by decide +kernel
theorem dX8_timeThereIs_5 : decode cX8_timeThereIs 5 = .ok (.invokestatic 35, 3) := by decide +kernel
theorem dX8_timeThereIs_8 : decode cX8_timeThereIs 8 = .ok (.ireturn, 1) := by decide +kernel
theorem dX8_toldCoins_0 : decode cX8_toldCoins 0 = .ok (.aload_n 0, 1) := by decide +kernel
theorem dX8_toldCoins_1 : decode cX8_toldCoins 1 = .ok (.getfield 9, 3) := by decide +kernel
theorem dX8_toldCoins_4 : decode cX8_toldCoins 4 = .ok (.iconst 1, 1) := by decide +kernel
theorem dX8_toldCoins_5 : decode cX8_toldCoins 5 = .ok (.invokestatic 35, 3) := by decide +kernel
theorem dX8_toldCoins_8 : decode cX8_toldCoins 8 = .ok (.ireturn, 1) := by decide +kernel
theorem dX8_growth_0 : decode cX8_growth 0 = .ok (.aload_n 0, 1) := by decide +kernel
theorem dX8_growth_1 : decode cX8_growth 1 = .ok (.getfield 9, 3) := by decide +kernel
theorem dX8_growth_4 : decode cX8_growth 4 = .ok (.iconst 2, 1) := by decide +kernel
theorem dX8_growth_5 : decode cX8_growth 5 = .ok (.invokestatic 35, 3) := by decide +kernel
theorem dX8_growth_8 : decode cX8_growth 8 = .ok (.ireturn, 1) := by decide +kernel
theorem dX8_ofHouse_0 : decode cX8_ofHouse 0 = .ok (.iload_n 1, 1) := by decide +kernel
theorem dX8_ofHouse_1 : decode cX8_ofHouse 1 = .ok (.ifCond .lt 18, 3) := by decide +kernel
theorem dX8_ofHouse_4 : decode cX8_ofHouse 4 = .ok (.iload_n 1, 1) := by decide +kernel
theorem dX8_ofHouse_5 : decode cX8_ofHouse 5 = .ok (.bipush 7, 2) := by decide +kernel
theorem dX8_ofHouse_7 : decode cX8_ofHouse 7 = .ok (.if_icmp .ge 12, 3) := by decide +kernel
theorem dX8_ofHouse_10 : decode cX8_ofHouse 10 = .ok (.iload_n 2, 1) := by decide +kernel
theorem dX8_ofHouse_11 : decode cX8_ofHouse 11 = .ok (.ifCond .lt 8, 3) := by decide +kernel
theorem dX8_ofHouse_14 : decode cX8_ofHouse 14 = .ok (.iload_n 2, 1) := by decide +kernel
theorem dX8_ofHouse_15 : decode cX8_ofHouse 15 = .ok (.iconst 4, 1) := by decide +kernel
theorem dX8_ofHouse_16 : decode cX8_ofHouse 16 = .ok (.if_icmp .lt 5, 3) := by decide +kernel
theorem dX8_ofHouse_19 : decode cX8_ofHouse 19 = .ok (.iconst 0, 1) := by decide +kernel
theorem dX8_ofHouse_20 : decode cX8_ofHouse 20 = .ok (.ireturn, 1) := by decide +kernel
theorem dX8_ofHouse_21 : decode cX8_ofHouse 21 = .ok (.iconst 3, 1) := by decide +kernel
theorem dX8_ofHouse_22 : decode cX8_ofHouse 22 = .ok (.iload_n 1, 1) := by decide +kernel
theorem dX8_ofHouse_23 : decode cX8_ofHouse 23 = .ok (.iconst 4, 1) := by decide +kernel
theorem dX8_ofHouse_24 : decode cX8_ofHouse 24 = .ok (.imul, 1) := by decide +kernel
theorem dX8_ofHouse_25 : decode cX8_ofHouse 25 = .ok (.iadd, 1) := by decide +kernel
theorem dX8_ofHouse_26 : decode cX8_ofHouse 26 = .ok (.iload_n 2, 1) := by decide +kernel
theorem dX8_ofHouse_27 : decode cX8_ofHouse 27 = .ok (.iadd, 1) := by decide +kernel
theorem dX8_ofHouse_28 : decode cX8_ofHouse 28 = .ok (.istore_n 3, 1) := by decide +kernel
theorem dX8_ofHouse_29 : decode cX8_ofHouse 29 = .ok (.iload_n 3, 1) := by decide +kernel
theorem dX8_ofHouse_30 : decode cX8_ofHouse 30 = .ok (.aload_n 0, 1) := by decide +kernel
theorem dX8_ofHouse_31 : decode cX8_ofHouse 31 = .ok (.getfield 9, 3) := by decide +kernel
theorem dX8_ofHouse_34 : decode cX8_ofHouse 34 = .ok (.arraylength, 1) := by decide +kernel
theorem dX8_ofHouse_35 : decode cX8_ofHouse 35 = .ok (.if_icmp .ge 12, 3) := by decide +kernel
theorem dX8_ofHouse_38 : decode cX8_ofHouse 38 = .ok (.aload_n 0, 1) := by decide +kernel
theorem dX8_ofHouse_39 : decode cX8_ofHouse 39 = .ok (.getfield 9, 3) := by decide +kernel
theorem dX8_ofHouse_42 : decode cX8_ofHouse 42 = .ok (.iload_n 3, 1) := by decide +kernel
theorem dX8_ofHouse_43 : decode cX8_ofHouse 43 = .ok (.iaload, 1) := by decide +kernel
theorem dX8_ofHouse_44 : decode cX8_ofHouse 44 = .ok (.goto 4, 3) := by decide +kernel
theorem dX8_ofHouse_47 : decode cX8_ofHouse 47 = .ok (.iconst 0, 1) := by decide +kernel
theorem dX8_ofHouse_48 : decode cX8_ofHouse 48 = .ok (.ireturn, 1) := by decide +kernel
theorem dX8_xOf_0 : decode cX8_xOf 0 = .ok (.aload_n 0, 1) := by decide +kernel
theorem dX8_xOf_1 : decode cX8_xOf 1 = .ok (.iload_n 1, 1) := by decide +kernel
theorem dX8_xOf_2 : decode cX8_xOf 2 = .ok (.iconst 0, 1) := by decide +kernel
theorem dX8_xOf_3 : decode cX8_xOf 3 = .ok (.invokevirtual 69, 3) := by decide +kernel
theorem dX8_xOf_6 : decode cX8_xOf 6 = .ok (.ireturn, 1) := by decide +kernel
theorem dX8_yOf_0 : decode cX8_yOf 0 = .ok (.aload_n 0, 1) := by decide +kernel
theorem dX8_yOf_1 : decode cX8_yOf 1 = .ok (.iload_n 1, 1) := by decide +kernel
theorem dX8_yOf_2 : decode cX8_yOf 2 = .ok (.iconst 1, 1) := by decide +kernel
theorem dX8_yOf_3 : decode cX8_yOf 3 = .ok (.invokevirtual 69, 3) := by decide +kernel
theorem dX8_yOf_6 : decode cX8_yOf 6 = .ok (.ireturn, 1) := by decide +kernel
theorem dX8_toldGrievance_0 : decode cX8_toldGrievance 0 = .ok (.aload_n 0, 1) := by decide +kernel
theorem dX8_toldGrievance_1 : decode cX8_toldGrievance 1 = .ok (.iload_n 1, 1) := by decide +kernel
theorem dX8_toldGrievance_2 : decode cX8_toldGrievance 2 = .ok (.iconst 2, 1) := by decide +kernel
theorem dX8_toldGrievance_3 : decode cX8_toldGrievance 3 = .ok (.invokevirtual 69, 3) := by decide +kernel
theorem dX8_toldGrievance_6 : decode cX8_toldGrievance 6 = .ok (.ireturn, 1) := by decide +kernel
theorem dX8_isThankful_0 : decode cX8_isThankful 0 = .ok (.aload_n 0, 1) := by decide +kernel
theorem dX8_isThankful_1 : decode cX8_isThankful 1 = .ok (.iload_n 1, 1) := by decide +kernel
theorem dX8_isThankful_2 : decode cX8_isThankful 2 = .ok (.iconst 3, 1) := by decide +kernel
theorem dX8_isThankful_3 : decode cX8_isThankful 3 = .ok (.invokevirtual 69, 3) := by decide +kernel
theorem dX8_isThankful_6 : decode cX8_isThankful 6 = .ok (.iconst 1, 1) := by decide +kernel
theorem dX8_isThankful_7 : decode cX8_isThankful 7 = .ok (.if_icmp .ne 7, 3) := by decide +kernel
theorem dX8_isThankful_10 : decode cX8_isThankful 10 = .ok (.iconst 1, 1) := by decide +kernel
theorem dX8_isThankful_11 : decode cX8_isThankful 11 = .ok (.goto 4, 3) := by decide +kernel
theorem dX8_isThankful_14 : decode cX8_isThankful 14 = .ok (.iconst 0, 1) := by decide +kernel
theorem dX8_isThankful_15 : decode cX8_isThankful 15 = .ok (.ireturn, 1) := by decide +kernel
theorem dX8_distance_0 : decode cX8_distance 0 = .ok (.aload_n 0, 1) := by decide +kernel
theorem dX8_distance_1 : decode cX8_distance 1 = .ok (.iload_n 1, 1) := by decide +kernel
theorem dX8_distance_2 : decode cX8_distance 2 = .ok (.invokevirtual 72, 3) := by decide +kernel
theorem dX8_distance_5 : decode cX8_distance 5 = .ok (.aload_n 0, 1) := by decide +kernel
theorem dX8_distance_6 : decode cX8_distance 6 = .ok (.iload_n 2, 1) := by decide +kernel
theorem dX8_distance_7 : decode cX8_distance 7 = .ok (.invokevirtual 72, 3) := by decide +kernel
theorem dX8_distance_10 : decode cX8_distance 10 = .ok (.isub, 1) := by decide +kernel
theorem dX8_distance_11 : decode cX8_distance 11 = .ok (.invokestatic 76, 3) := by decide +kernel
theorem dX8_distance_14 : decode cX8_distance 14 = .ok (.aload_n 0, 1) := by decide +kernel
theorem dX8_distance_15 : decode cX8_distance 15 = .ok (.iload_n 1, 1) := by decide +kernel
theorem dX8_distance_16 : decode cX8_distance 16 = .ok (.invokevirtual 81, 3) := by decide +kernel
theorem dX8_distance_19 : decode cX8_distance 19 = .ok (.aload_n 0, 1) := by decide +kernel
theorem dX8_distance_20 : decode cX8_distance 20 = .ok (.iload_n 2, 1) := by decide +kernel
theorem dX8_distance_21 : decode cX8_distance 21 = .ok (.invokevirtual 81, 3) := by decide +kernel
theorem dX8_distance_24 : decode cX8_distance 24 = .ok (.isub, 1) := by decide +kernel
theorem dX8_distance_25 : decode cX8_distance 25 = .ok (.invokestatic 76, 3) := by decide +kernel
theorem dX8_distance_28 : decode cX8_distance 28 = .ok (.iadd, 1) := by decide +kernel
theorem dX8_distance_29 : decode cX8_distance 29 = .ok (.ireturn, 1) := by decide +kernel
theorem dX8_strengthOf_0 : decode cX8_strengthOf 0 = .ok (.iload_n 1, 1) := by decide +kernel
theorem dX8_strengthOf_1 : decode cX8_strengthOf 1 = .ok (.ifCond .lt 25, 3) := by decide +kernel
theorem dX8_strengthOf_4 : decode cX8_strengthOf 4 = .ok (.iload_n 1, 1) := by decide +kernel
theorem dX8_strengthOf_5 : decode cX8_strengthOf 5 = .ok (.aload_n 0, 1) := by decide +kernel
theorem dX8_strengthOf_6 : decode cX8_strengthOf 6 = .ok (.invokevirtual 58, 3) := by decide +kernel
theorem dX8_strengthOf_9 : decode cX8_strengthOf 9 = .ok (.if_icmp .ge 17, 3) := by decide +kernel
theorem dX8_strengthOf_12 : decode cX8_strengthOf 12 = .ok (.aload_n 0, 1) := by decide +kernel
theorem dX8_strengthOf_13 : decode cX8_strengthOf 13 = .ok (.getfield 9, 3) := by decide +kernel
theorem dX8_strengthOf_16 : decode cX8_strengthOf 16 = .ok (.bipush 31, 2) := by decide +kernel
theorem dX8_strengthOf_18 : decode cX8_strengthOf 18 = .ok (.iload_n 1, 1) := by decide +kernel
theorem dX8_strengthOf_19 : decode cX8_strengthOf 19 = .ok (.iadd, 1) := by decide +kernel
theorem dX8_strengthOf_20 : decode cX8_strengthOf 20 = .ok (.invokestatic 35, 3) := by decide +kernel
theorem dX8_strengthOf_23 : decode cX8_strengthOf 23 = .ok (.goto 4, 3) := by decide +kernel
theorem dX8_strengthOf_26 : decode cX8_strengthOf 26 = .ok (.iconst 0, 1) := by decide +kernel
theorem dX8_strengthOf_27 : decode cX8_strengthOf 27 = .ok (.ireturn, 1) := by decide +kernel
theorem dX8_strength_0 : decode cX8_strength 0 = .ok (.iconst 0, 1) := by decide +kernel
theorem dX8_strength_1 : decode cX8_strength 1 = .ok (.istore_n 1, 1) := by decide +kernel
theorem dX8_strength_2 : decode cX8_strength 2 = .ok (.iconst 0, 1) := by decide +kernel
theorem dX8_strength_3 : decode cX8_strength 3 = .ok (.istore_n 2, 1) := by decide +kernel
theorem dX8_strength_4 : decode cX8_strength 4 = .ok (.iload_n 2, 1) := by decide +kernel
theorem dX8_strength_5 : decode cX8_strength 5 = .ok (.aload_n 0, 1) := by decide +kernel
theorem dX8_strength_6 : decode cX8_strength 6 = .ok (.invokevirtual 58, 3) := by decide +kernel
theorem dX8_strength_9 : decode cX8_strength 9 = .ok (.if_icmp .ge 17, 3) := by decide +kernel
theorem dX8_strength_12 : decode cX8_strength 12 = .ok (.iload_n 1, 1) := by decide +kernel
theorem dX8_strength_13 : decode cX8_strength 13 = .ok (.aload_n 0, 1) := by decide +kernel
theorem dX8_strength_14 : decode cX8_strength 14 = .ok (.iload_n 2, 1) := by decide +kernel
theorem dX8_strength_15 : decode cX8_strength 15 = .ok (.invokevirtual 84, 3) := by decide +kernel
theorem dX8_strength_18 : decode cX8_strength 18 = .ok (.iadd, 1) := by decide +kernel
theorem dX8_strength_19 : decode cX8_strength 19 = .ok (.istore_n 1, 1) := by decide +kernel
theorem dX8_strength_20 : decode cX8_strength 20 = .ok (.iinc 2 1, 3) := by decide +kernel
theorem dX8_strength_23 : decode cX8_strength 23 = .ok (.goto (-19), 3) := by decide +kernel
theorem dX8_strength_26 : decode cX8_strength 26 = .ok (.iload_n 1, 1) := by decide +kernel
theorem dX8_strength_27 : decode cX8_strength 27 = .ok (.ireturn, 1) := by decide +kernel
theorem dX9_init_0 : decode cX9_init 0 = .ok (.aload_n 0, 1) := by decide +kernel
theorem dX9_init_1 : decode cX9_init 1 = .ok (.invokespecial 3, 3) := by decide +kernel
theorem dX9_init_4 : decode cX9_init 4 = .ok (.aload_n 0, 1) := by decide +kernel
theorem dX9_init_5 : decode cX9_init 5 = .ok (.aload_n 1, 1) := by decide +kernel
theorem dX9_init_6 : decode cX9_init 6 = .ok (.putfield 9, 3) := by decide +kernel
theorem dX9_init_9 : decode cX9_init 9 = .ok (.aload_n 0, 1) := by decide +kernel
theorem dX9_init_10 : decode cX9_init 10 = .ok (.new 15, 3) := by decide +kernel
theorem dX9_init_13 : decode cX9_init 13 = .ok (.dup, 1) := by decide +kernel
theorem dX9_init_14 : decode cX9_init 14 = .ok (.invokespecial 17, 3) := by decide +kernel
theorem dX9_init_17 : decode cX9_init 17 = .ok (.putfield 18, 3) := by decide +kernel
theorem dX9_init_20 : decode cX9_init 20 = .ok (.return_, 1) := by decide +kernel
theorem dX9_draft_0 : decode cX9_draft 0 = .ok (.aload_n 0, 1) := by decide +kernel
theorem dX9_draft_1 : decode cX9_draft 1 = .ok (.getfield 18, 3) := by decide +kernel
theorem dX9_draft_4 : decode cX9_draft 4 = .ok (.areturn, 1) := by decide +kernel
theorem dX9_reads_0 : decode cX9_reads 0 = .ok (.aload_n 0, 1) := by decide +kernel
theorem dX9_reads_1 : decode cX9_reads 1 = .ok (.getfield 9, 3) := by decide +kernel
theorem dX9_reads_4 : decode cX9_reads 4 = .ok (.invokevirtual 22, 3) := by decide +kernel
theorem dX9_reads_7 : decode cX9_reads 7 = .ok (.aload_n 0, 1) := by decide +kernel
theorem dX9_reads_8 : decode cX9_reads 8 = .ok (.getfield 18, 3) := by decide +kernel
theorem dX9_reads_11 : decode cX9_reads 11 = .ok (.invokevirtual 27, 3) := by decide +kernel
theorem dX9_reads_14 : decode cX9_reads 14 = .ok (.iconst 0, 1) := by decide +kernel
theorem dX9_reads_15 : decode cX9_reads 15 = .ok (.istore_n 1, 1) := by decide +kernel
theorem dX9_reads_16 : decode cX9_reads 16 = .ok (.iload_n 1, 1) := by decide +kernel
theorem dX9_reads_17 : decode cX9_reads 17 = .ok (.sipush 240, 3) := by decide +kernel
theorem dX9_reads_20 : decode cX9_reads 20 = .ok (.if_icmp .ge 69, 3) := by decide +kernel
theorem dX9_reads_23 : decode cX9_reads 23 = .ok (.aload_n 0, 1) := by decide +kernel
theorem dX9_reads_24 : decode cX9_reads 24 = .ok (.invokevirtual 30, 3) := by decide +kernel
theorem dX9_reads_27 : decode cX9_reads 27 = .ok (.ifCond .ne 5, 3) := by decide +kernel
theorem dX9_reads_30 : decode cX9_reads 30 = .ok (.iconst 0, 1) := by decide +kernel
theorem dX9_reads_31 : decode cX9_reads 31 = .ok (.ireturn, 1) := by decide +kernel
theorem dX9_reads_32 : decode cX9_reads 32 = .ok (.aload_n 0, 1) := by decide +kernel
theorem dX9_reads_33 : decode cX9_reads 33 = .ok (.getfield 9, 3) := by decide +kernel
theorem dX9_reads_36 : decode cX9_reads 36 = .ok (.invokevirtual 34, 3) := by decide +kernel
theorem dX9_reads_39 : decode cX9_reads 39 = .ok (.iconst (-1), 1) := by decide +kernel
theorem dX9_reads_40 : decode cX9_reads 40 = .ok (.if_icmp .ne 29, 3) := by decide +kernel
theorem dX9_reads_43 : decode cX9_reads 43 = .ok (.aload_n 0, 1) := by decide +kernel
theorem dX9_reads_44 : decode cX9_reads 44 = .ok (.getfield 18, 3) := by decide +kernel
theorem dX9_reads_47 : decode cX9_reads 47 = .ok (.invokevirtual 38, 3) := by decide +kernel
theorem dX9_reads_50 : decode cX9_reads 50 = .ok (.ifCond .ne 13, 3) := by decide +kernel
theorem dX9_reads_53 : decode cX9_reads 53 = .ok (.aload_n 0, 1) := by decide +kernel
theorem dX9_reads_54 : decode cX9_reads 54 = .ok (.getfield 9, 3) := by decide +kernel
theorem dX9_reads_57 : decode cX9_reads 57 = .ok (.invokevirtual 41, 3) := by decide +kernel
theorem dX9_reads_60 : decode cX9_reads 60 = .ok (.ifCond .eq 7, 3) := by decide +kernel
theorem dX9_reads_63 : decode cX9_reads 63 = .ok (.iconst 1, 1) := by decide +kernel
theorem dX9_reads_64 : decode cX9_reads 64 = .ok (.goto 4, 3) := by decide +kernel
theorem dX9_reads_67 : decode cX9_reads 67 = .ok (.iconst 0, 1) := by decide +kernel
theorem dX9_reads_68 : decode cX9_reads 68 = .ok (.ireturn, 1) := by decide +kernel
theorem dX9_reads_69 : decode cX9_reads 69 = .ok (.aload_n 0, 1) := by decide +kernel
theorem dX9_reads_70 : decode cX9_reads 70 = .ok (.getfield 9, 3) := by decide +kernel
theorem dX9_reads_73 : decode cX9_reads 73 = .ok (.bipush 59, 2) := by decide +kernel
theorem dX9_reads_75 : decode cX9_reads 75 = .ok (.invokevirtual 44, 3) := by decide +kernel
theorem dX9_reads_78 : decode cX9_reads 78 = .ok (.ifCond .ne 5, 3) := by decide +kernel
theorem dX9_reads_81 : decode cX9_reads 81 = .ok (.iconst 0, 1) := by decide +kernel
theorem dX9_reads_82 : decode cX9_reads 82 = .ok (.ireturn, 1) := by decide +kernel
theorem dX9_reads_83 : decode cX9_reads 83 = .ok (.iinc 1 1, 3) := by decide +kernel
theorem dX9_reads_86 : decode cX9_reads 86 = .ok (.goto (-70), 3) := by decide +kernel
theorem dX9_reads_89 : decode cX9_reads 89 = .ok (.aload_n 0, 1) := by decide +kernel
theorem dX9_reads_90 : decode cX9_reads 90 = .ok (.getfield 9, 3) := by decide +kernel
theorem dX9_reads_93 : decode cX9_reads 93 = .ok (.invokevirtual 48, 3) := by decide +kernel
theorem dX9_reads_96 : decode cX9_reads 96 = .ok (.ireturn, 1) := by decide +kernel
theorem dX9_readsClause_0 : decode cX9_readsClause 0 = .ok (.getstatic 51, 3) := by decide +kernel
theorem dX9_readsClause_3 : decode cX9_readsClause 3 = .ok (.aload_n 0, 1) := by decide +kernel
theorem dX9_readsClause_4 : decode cX9_readsClause 4 = .ok (.getfield 9, 3) := by decide +kernel
theorem dX9_readsClause_7 : decode cX9_readsClause 7 = .ok (.invokevirtual 34, 3) := by decide +kernel
theorem dX9_readsClause_10 : decode cX9_readsClause 10 = .ok (.invokestatic 55, 3) := by decide +kernel
theorem dX9_readsClause_13 : decode cX9_readsClause 13 = .ok (.istore_n 1, 1) := by decide +kernel
theorem dX9_readsClause_14 : decode cX9_readsClause 14 = .ok (.aload_n 0, 1) := by decide +kernel
theorem dX9_readsClause_15 : decode cX9_readsClause 15 = .ok (.getfield 18, 3) := by decide +kernel
theorem dX9_readsClause_18 : decode cX9_readsClause 18 = .ok (.iload_n 1, 1) := by decide +kernel
theorem dX9_readsClause_19 : decode cX9_readsClause 19 = .ok (.invokevirtual 59, 3) := by decide +kernel
theorem dX9_readsClause_22 : decode cX9_readsClause 22 = .ok (.istore_n 2, 1) := by decide +kernel
theorem dX9_readsClause_23 : decode cX9_readsClause 23 = .ok (.iload_n 2, 1) := by decide +kernel
theorem dX9_readsClause_24 : decode cX9_readsClause 24 = .ok (.iconst (-1), 1) := by decide +kernel
theorem dX9_readsClause_25 : decode cX9_readsClause 25 = .ok (.if_icmp .ne 11, 3) := by decide +kernel
theorem dX9_readsClause_28 : decode cX9_readsClause 28 = .ok (.aload_n 0, 1) := by decide +kernel
theorem dX9_readsClause_29 : decode cX9_readsClause 29 = .ok (.getfield 9, 3) := by decide +kernel
theorem dX9_readsClause_32 : decode cX9_readsClause 32 = .ok (.invokevirtual 48, 3) := by decide +kernel
theorem dX9_readsClause_35 : decode cX9_readsClause 35 = .ok (.ireturn, 1) := by decide +kernel
theorem dX9_readsClause_36 : decode cX9_readsClause 36 = .ok (.aload_n 0, 1) := by decide +kernel
theorem dX9_readsClause_37 : decode cX9_readsClause 37 = .ok (.getfield 9, 3) := by decide +kernel
theorem dX9_readsClause_40 : decode cX9_readsClause 40 = .ok (.invokevirtual 63, 3) := by decide +kernel
theorem dX9_readsClause_43 : decode cX9_readsClause 43 = .ok (.iconst 0, 1) := by decide +kernel
theorem dX9_readsClause_44 : decode cX9_readsClause 44 = .ok (.istore_n 3, 1) := by decide +kernel
theorem dX9_readsClause_45 : decode cX9_readsClause 45 = .ok (.iconst 0, 1) := by decide +kernel
theorem dX9_readsClause_46 : decode cX9_readsClause 46 = .ok (.istore 4, 2) := by decide +kernel
theorem dX9_readsClause_48 : decode cX9_readsClause 48 = .ok (.iload 4, 2) := by decide +kernel
theorem dX9_readsClause_50 : decode cX9_readsClause 50 = .ok (.iconst 4, 1) := by decide +kernel
theorem dX9_readsClause_51 : decode cX9_readsClause 51 = .ok (.if_icmp .gt 101, 3) := by decide +kernel
theorem dX9_readsClause_54 : decode cX9_readsClause 54 = .ok (.aload_n 0, 1) := by decide +kernel
theorem dX9_readsClause_55 : decode cX9_readsClause 55 = .ok (.getfield 9, 3) := by decide +kernel
theorem dX9_readsClause_58 : decode cX9_readsClause 58 = .ok (.invokevirtual 34, 3) := by decide +kernel
theorem dX9_readsClause_61 : decode cX9_readsClause 61 = .ok (.istore 5, 2) := by decide +kernel
theorem dX9_readsClause_63 : decode cX9_readsClause 63 = .ok (.iload 5, 2) := by decide +kernel
theorem dX9_readsClause_65 : decode cX9_readsClause 65 = .ok (.iconst (-1), 1) := by decide +kernel
theorem dX9_readsClause_66 : decode cX9_readsClause 66 = .ok (.if_icmp .eq 10, 3) := by decide +kernel
theorem dX9_readsClause_69 : decode cX9_readsClause 69 = .ok (.iload 5, 2) := by decide +kernel
theorem dX9_readsClause_71 : decode cX9_readsClause 71 = .ok (.bipush 59, 2) := by decide +kernel
theorem dX9_readsClause_73 : decode cX9_readsClause 73 = .ok (.if_icmp .ne 5, 3) := by decide +kernel
theorem dX9_readsClause_76 : decode cX9_readsClause 76 = .ok (.iconst 1, 1) := by decide +kernel
theorem dX9_readsClause_77 : decode cX9_readsClause 77 = .ok (.ireturn, 1) := by decide +kernel
theorem dX9_readsClause_78 : decode cX9_readsClause 78 = .ok (.iload_n 1, 1) := by decide +kernel
theorem dX9_readsClause_79 : decode cX9_readsClause 79 = .ok (.iload 5, 2) := by decide +kernel
theorem dX9_readsClause_81 : decode cX9_readsClause 81 = .ok (.invokestatic 66, 3) := by decide +kernel
theorem dX9_readsClause_84 : decode cX9_readsClause 84 = .ok (.istore 6, 2) := by decide +kernel
theorem dX9_readsClause_86 : decode cX9_readsClause 86 = .ok (.iload 6, 2) := by decide +kernel
theorem dX9_readsClause_88 : decode cX9_readsClause 88 = .ok (.iconst (-1), 1) := by decide +kernel
theorem dX9_readsClause_89 : decode cX9_readsClause 89 = .ok (.if_icmp .eq 12, 3) := by decide +kernel
theorem dX9_readsClause_92 : decode cX9_readsClause 92 = .ok (.iload_n 3, 1) := by decide +kernel
theorem dX9_readsClause_93 : decode cX9_readsClause 93 = .ok (.iload 6, 2) := by decide +kernel
theorem dX9_readsClause_95 : decode cX9_readsClause 95 = .ok (.invokestatic 70, 3) := by decide +kernel
theorem dX9_readsClause_98 : decode cX9_readsClause 98 = .ok (.ifCond .eq 11, 3) := by decide +kernel
theorem dX9_readsClause_101 : decode cX9_readsClause 101 = .ok (.aload_n 0, 1) := by decide +kernel
theorem dX9_readsClause_102 : decode cX9_readsClause 102 = .ok (.getfield 9, 3) := by decide +kernel
theorem dX9_readsClause_105 : decode cX9_readsClause 105 = .ok (.invokevirtual 48, 3) := by decide +kernel
theorem dX9_readsClause_108 : decode cX9_readsClause 108 = .ok (.ireturn, 1) := by decide +kernel
theorem dX9_readsClause_109 : decode cX9_readsClause 109 = .ok (.iload_n 3, 1) := by decide +kernel
theorem dX9_readsClause_110 : decode cX9_readsClause 110 = .ok (.iconst 1, 1) := by decide +kernel
theorem dX9_readsClause_111 : decode cX9_readsClause 111 = .ok (.iload 6, 2) := by decide +kernel
theorem dX9_readsClause_113 : decode cX9_readsClause 113 = .ok (.ishl, 1) := by decide +kernel
theorem dX9_readsClause_114 : decode cX9_readsClause 114 = .ok (.ior, 1) := by decide +kernel
theorem dX9_readsClause_115 : decode cX9_readsClause 115 = .ok (.istore_n 3, 1) := by decide +kernel
theorem dX9_readsClause_116 : decode cX9_readsClause 116 = .ok (.aload_n 0, 1) := by decide +kernel
theorem dX9_readsClause_117 : decode cX9_readsClause 117 = .ok (.getfield 9, 3) := by decide +kernel
theorem dX9_readsClause_120 : decode cX9_readsClause 120 = .ok (.invokevirtual 63, 3) := by decide +kernel
theorem dX9_readsClause_123 : decode cX9_readsClause 123 = .ok (.aload_n 0, 1) := by decide +kernel
theorem dX9_readsClause_124 : decode cX9_readsClause 124 = .ok (.iload_n 2, 1) := by decide +kernel
theorem dX9_readsClause_125 : decode cX9_readsClause 125 = .ok (.iload 6, 2) := by decide +kernel
theorem dX9_readsClause_127 : decode cX9_readsClause 127 = .ok (.iadd, 1) := by decide +kernel
theorem dX9_readsClause_128 : decode cX9_readsClause 128 = .ok (.getstatic 74, 3) := by decide +kernel
theorem dX9_readsClause_131 : decode cX9_readsClause 131 = .ok (.iload_n 1, 1) := by decide +kernel
theorem dX9_readsClause_132 : decode cX9_readsClause 132 = .ok (.invokestatic 77, 3) := by decide +kernel
theorem dX9_readsClause_135 : decode cX9_readsClause 135 = .ok (.iload 6, 2) := by decide +kernel
theorem dX9_readsClause_137 : decode cX9_readsClause 137 = .ok (.iadd, 1) := by decide +kernel
theorem dX9_readsClause_138 : decode cX9_readsClause 138 = .ok (.invokevirtual 80, 3) := by decide +kernel
theorem dX9_readsClause_141 : decode cX9_readsClause 141 = .ok (.ifCond .ne 5, 3) := by decide +kernel
theorem dX9_readsClause_144 : decode cX9_readsClause 144 = .ok (.iconst 0, 1) := by decide +kernel
theorem dX9_readsClause_145 : decode cX9_readsClause 145 = .ok (.ireturn, 1) := by decide +kernel
theorem dX9_readsClause_146 : decode cX9_readsClause 146 = .ok (.iinc 4 1, 3) := by decide +kernel
theorem dX9_readsClause_149 : decode cX9_readsClause 149 = .ok (.goto (-101), 3) := by decide +kernel
theorem dX9_readsClause_152 : decode cX9_readsClause 152 = .ok (.aload_n 0, 1) := by decide +kernel
theorem dX9_readsClause_153 : decode cX9_readsClause 153 = .ok (.getfield 9, 3) := by decide +kernel
theorem dX9_readsClause_156 : decode cX9_readsClause 156 = .ok (.invokevirtual 48, 3) := by decide +kernel
theorem dX9_readsClause_159 : decode cX9_readsClause 159 = .ok (.ireturn, 1) := by decide +kernel
theorem dX9_itemOf_0 : decode cX9_itemOf 0 = .ok (.iconst 0, 1) := by decide +kernel
theorem dX9_itemOf_1 : decode cX9_itemOf 1 = .ok (.istore_n 2, 1) := by decide +kernel
theorem dX9_itemOf_2 : decode cX9_itemOf 2 = .ok (.iload_n 2, 1) := by decide +kernel
theorem dX9_itemOf_3 : decode cX9_itemOf 3 = .ok (.getstatic 83, 3) := by decide +kernel
theorem dX9_itemOf_6 : decode cX9_itemOf 6 = .ok (.iload_n 0, 1) := by decide +kernel
theorem dX9_itemOf_7 : decode cX9_itemOf 7 = .ok (.invokestatic 77, 3) := by decide +kernel
theorem dX9_itemOf_10 : decode cX9_itemOf 10 = .ok (.if_icmp .ge 30, 3) := by decide +kernel
theorem dX9_itemOf_13 : decode cX9_itemOf 13 = .ok (.getstatic 86, 3) := by decide +kernel
theorem dX9_itemOf_16 : decode cX9_itemOf 16 = .ok (.getstatic 74, 3) := by decide +kernel
theorem dX9_itemOf_19 : decode cX9_itemOf 19 = .ok (.iload_n 0, 1) := by decide +kernel
theorem dX9_itemOf_20 : decode cX9_itemOf 20 = .ok (.invokestatic 77, 3) := by decide +kernel
theorem dX9_itemOf_23 : decode cX9_itemOf 23 = .ok (.iload_n 2, 1) := by decide +kernel
theorem dX9_itemOf_24 : decode cX9_itemOf 24 = .ok (.iadd, 1) := by decide +kernel
theorem dX9_itemOf_25 : decode cX9_itemOf 25 = .ok (.invokestatic 77, 3) := by decide +kernel
theorem dX9_itemOf_28 : decode cX9_itemOf 28 = .ok (.iload_n 1, 1) := by decide +kernel
theorem dX9_itemOf_29 : decode cX9_itemOf 29 = .ok (.if_icmp .ne 5, 3) := by decide +kernel
theorem dX9_itemOf_32 : decode cX9_itemOf 32 = .ok (.iload_n 2, 1) := by decide +kernel
theorem dX9_itemOf_33 : decode cX9_itemOf 33 = .ok (.ireturn, 1) := by decide +kernel
theorem dX9_itemOf_34 : decode cX9_itemOf 34 = .ok (.iinc 2 1, 3) := by decide +kernel
theorem dX9_itemOf_37 : decode cX9_itemOf 37 = .ok (.goto (-35), 3) := by decide +kernel
theorem dX9_itemOf_40 : decode cX9_itemOf 40 = .ok (.iconst (-1), 1) := by decide +kernel
theorem dX9_itemOf_41 : decode cX9_itemOf 41 = .ok (.ireturn, 1) := by decide +kernel
theorem dX9_readsNumber_0 : decode cX9_readsNumber 0 = .ok (.aload_n 0, 1) := by decide +kernel
theorem dX9_readsNumber_1 : decode cX9_readsNumber 1 = .ok (.getfield 9, 3) := by decide +kernel
theorem dX9_readsNumber_4 : decode cX9_readsNumber 4 = .ok (.iconst 2, 1) := by decide +kernel
theorem dX9_readsNumber_5 : decode cX9_readsNumber 5 = .ok (.invokevirtual 89, 3) := by decide +kernel
theorem dX9_readsNumber_8 : decode cX9_readsNumber 8 = .ok (.istore_n 3, 1) := by decide +kernel
theorem dX9_readsNumber_9 : decode cX9_readsNumber 9 = .ok (.iload_n 3, 1) := by decide +kernel
theorem dX9_readsNumber_10 : decode cX9_readsNumber 10 = .ok (.iconst (-1), 1) := by decide +kernel
theorem dX9_readsNumber_11 : decode cX9_readsNumber 11 = .ok (.if_icmp .ne 5, 3) := by decide +kernel
theorem dX9_readsNumber_14 : decode cX9_readsNumber 14 = .ok (.iconst 0, 1) := by decide +kernel
theorem dX9_readsNumber_15 : decode cX9_readsNumber 15 = .ok (.ireturn, 1) := by decide +kernel
theorem dX9_readsNumber_16 : decode cX9_readsNumber 16 = .ok (.iload_n 3, 1) := by decide +kernel
theorem dX9_readsNumber_17 : decode cX9_readsNumber 17 = .ok (.getstatic 92, 3) := by decide +kernel
theorem dX9_readsNumber_20 : decode cX9_readsNumber 20 = .ok (.iload_n 2, 1) := by decide +kernel
theorem dX9_readsNumber_21 : decode cX9_readsNumber 21 = .ok (.invokestatic 77, 3) := by decide +kernel
theorem dX9_readsNumber_24 : decode cX9_readsNumber 24 = .ok (.if_icmp .lt 14, 3) := by decide +kernel
theorem dX9_readsNumber_27 : decode cX9_readsNumber 27 = .ok (.iload_n 3, 1) := by decide +kernel
theorem dX9_readsNumber_28 : decode cX9_readsNumber 28 = .ok (.getstatic 95, 3) := by decide +kernel
theorem dX9_readsNumber_31 : decode cX9_readsNumber 31 = .ok (.iload_n 2, 1) := by decide +kernel
theorem dX9_readsNumber_32 : decode cX9_readsNumber 32 = .ok (.invokestatic 77, 3) := by decide +kernel
theorem dX9_readsNumber_35 : decode cX9_readsNumber 35 = .ok (.if_icmp .le 11, 3) := by decide +kernel
theorem dX9_readsNumber_38 : decode cX9_readsNumber 38 = .ok (.aload_n 0, 1) := by decide +kernel
theorem dX9_readsNumber_39 : decode cX9_readsNumber 39 = .ok (.getfield 9, 3) := by decide +kernel
theorem dX9_readsNumber_42 : decode cX9_readsNumber 42 = .ok (.invokevirtual 98, 3) := by decide +kernel
theorem dX9_readsNumber_45 : decode cX9_readsNumber 45 = .ok (.ireturn, 1) := by decide +kernel
theorem dX9_readsNumber_46 : decode cX9_readsNumber 46 = .ok (.aload_n 0, 1) := by decide +kernel
theorem dX9_readsNumber_47 : decode cX9_readsNumber 47 = .ok (.getfield 18, 3) := by decide +kernel
theorem dX9_readsNumber_50 : decode cX9_readsNumber 50 = .ok (.iload_n 1, 1) := by decide +kernel
theorem dX9_readsNumber_51 : decode cX9_readsNumber 51 = .ok (.iload_n 3, 1) := by decide +kernel
theorem dX9_readsNumber_52 : decode cX9_readsNumber 52 = .ok (.invokevirtual 101, 3) := by decide +kernel
theorem dX9_readsNumber_55 : decode cX9_readsNumber 55 = .ok (.iconst 1, 1) := by decide +kernel
theorem dX9_readsNumber_56 : decode cX9_readsNumber 56 = .ok (.ireturn, 1) := by decide +kernel
theorem dX10_init_0 : decode cX10_init 0 = .ok (.aload_n 0, 1) := by decide +kernel
theorem dX10_init_1 : decode cX10_init 1 = .ok (.invokespecial 3, 3) := by decide +kernel
theorem dX10_init_4 : decode cX10_init 4 = .ok (.aload_n 0, 1) := by decide +kernel
theorem dX10_init_5 : decode cX10_init 5 = .ok (.bipush 30, 2) := by decide +kernel
theorem dX10_init_7 : decode cX10_init 7 = .ok (.newarray .int, 2) := by decide +kernel
theorem dX10_init_9 : decode cX10_init 9 = .ok (.putfield 11, 3) := by decide +kernel
theorem dX10_init_12 : decode cX10_init 12 = .ok (.aload_n 0, 1) := by decide +kernel
theorem dX10_init_13 : decode cX10_init 13 = .ok (.bipush 30, 2) := by decide +kernel
theorem dX10_init_15 : decode cX10_init 15 = .ok (.newarray .int, 2) := by decide +kernel
theorem dX10_init_17 : decode cX10_init 17 = .ok (.putfield 15, 3) := by decide +kernel
theorem dX10_init_20 : decode cX10_init 20 = .ok (.return_, 1) := by decide +kernel
theorem dX10_forget_0 : decode cX10_forget 0 = .ok (.aload_n 0, 1) := by decide +kernel
theorem dX10_forget_1 : decode cX10_forget 1 = .ok (.iconst 0, 1) := by decide +kernel
theorem dX10_forget_2 : decode cX10_forget 2 = .ok (.putfield 18, 3) := by decide +kernel
theorem dX10_forget_5 : decode cX10_forget 5 = .ok (.aload_n 0, 1) := by decide +kernel
theorem dX10_forget_6 : decode cX10_forget 6 = .ok (.iconst 0, 1) := by decide +kernel
theorem dX10_forget_7 : decode cX10_forget 7 = .ok (.putfield 22, 3) := by decide +kernel
theorem dX10_forget_10 : decode cX10_forget 10 = .ok (.return_, 1) := by decide +kernel
theorem dX10_tellStood_0 : decode cX10_tellStood 0 = .ok (.aload_n 0, 1) := by decide +kernel
theorem dX10_tellStood_1 : decode cX10_tellStood 1 = .ok (.getfield 18, 3) := by decide +kernel
theorem dX10_tellStood_4 : decode cX10_tellStood 4 = .ok (.bipush 10, 2) := by decide +kernel
theorem dX10_tellStood_6 : decode cX10_tellStood 6 = .ok (.if_icmp .lt 5, 3) := by decide +kernel
theorem dX10_tellStood_9 : decode cX10_tellStood 9 = .ok (.iconst (-1), 1) := by decide +kernel
theorem dX10_tellStood_10 : decode cX10_tellStood 10 = .ok (.ireturn, 1) := by decide +kernel
theorem dX10_tellStood_11 : decode cX10_tellStood 11 = .ok (.aload_n 0, 1) := by decide +kernel
theorem dX10_tellStood_12 : decode cX10_tellStood 12 = .ok (.getfield 11, 3) := by decide +kernel
theorem dX10_tellStood_15 : decode cX10_tellStood 15 = .ok (.aload_n 0, 1) := by decide +kernel
theorem dX10_tellStood_16 : decode cX10_tellStood 16 = .ok (.getfield 18, 3) := by decide +kernel
theorem dX10_tellStood_19 : decode cX10_tellStood 19 = .ok (.iload_n 1, 1) := by decide +kernel
theorem dX10_tellStood_20 : decode cX10_tellStood 20 = .ok (.iload_n 2, 1) := by decide +kernel
theorem dX10_tellStood_21 : decode cX10_tellStood 21 = .ok (.iload_n 3, 1) := by decide +kernel
theorem dX10_tellStood_22 : decode cX10_tellStood 22 = .ok (.invokestatic 25, 3) := by decide +kernel
theorem dX10_tellStood_25 : decode cX10_tellStood 25 = .ok (.aload_n 0, 1) := by decide +kernel
theorem dX10_tellStood_26 : decode cX10_tellStood 26 = .ok (.dup, 1) := by decide +kernel
theorem dX10_tellStood_27 : decode cX10_tellStood 27 = .ok (.getfield 18, 3) := by decide +kernel
theorem dX10_tellStood_30 : decode cX10_tellStood 30 = .ok (.iconst 1, 1) := by decide +kernel
theorem dX10_tellStood_31 : decode cX10_tellStood 31 = .ok (.iadd, 1) := by decide +kernel
theorem dX10_tellStood_32 : decode cX10_tellStood 32 = .ok (.putfield 18, 3) := by decide +kernel
theorem dX10_tellStood_35 : decode cX10_tellStood 35 = .ok (.aload_n 0, 1) := by decide +kernel
theorem dX10_tellStood_36 : decode cX10_tellStood 36 = .ok (.getfield 18, 3) := by decide +kernel
theorem dX10_tellStood_39 : decode cX10_tellStood 39 = .ok (.ireturn, 1) := by decide +kernel
theorem dX10_tellSeen_0 : decode cX10_tellSeen 0 = .ok (.aload_n 0, 1) := by decide +kernel
theorem dX10_tellSeen_1 : decode cX10_tellSeen 1 = .ok (.getfield 22, 3) := by decide +kernel
theorem dX10_tellSeen_4 : decode cX10_tellSeen 4 = .ok (.bipush 10, 2) := by decide +kernel
theorem dX10_tellSeen_6 : decode cX10_tellSeen 6 = .ok (.if_icmp .lt 5, 3) := by decide +kernel
theorem dX10_tellSeen_9 : decode cX10_tellSeen 9 = .ok (.iconst (-1), 1) := by decide +kernel
theorem dX10_tellSeen_10 : decode cX10_tellSeen 10 = .ok (.ireturn, 1) := by decide +kernel
theorem dX10_tellSeen_11 : decode cX10_tellSeen 11 = .ok (.aload_n 0, 1) := by decide +kernel
theorem dX10_tellSeen_12 : decode cX10_tellSeen 12 = .ok (.getfield 15, 3) := by decide +kernel
theorem dX10_tellSeen_15 : decode cX10_tellSeen 15 = .ok (.aload_n 0, 1) := by decide +kernel
theorem dX10_tellSeen_16 : decode cX10_tellSeen 16 = .ok (.getfield 22, 3) := by decide +kernel
theorem dX10_tellSeen_19 : decode cX10_tellSeen 19 = .ok (.iload_n 1, 1) := by decide +kernel
theorem dX10_tellSeen_20 : decode cX10_tellSeen 20 = .ok (.iload_n 2, 1) := by decide +kernel
theorem dX10_tellSeen_21 : decode cX10_tellSeen 21 = .ok (.iload_n 3, 1) := by decide +kernel
theorem dX10_tellSeen_22 : decode cX10_tellSeen 22 = .ok (.ifCond .eq 7, 3) := by decide +kernel
theorem dX10_tellSeen_25 : decode cX10_tellSeen 25 = .ok (.iconst 1, 1) := by decide +kernel
theorem dX10_tellSeen_26 : decode cX10_tellSeen 26 = .ok (.goto 4, 3) := by decide +kernel
theorem dX10_tellSeen_29 : decode cX10_tellSeen 29 = .ok (.iconst 0, 1) := by decide +kernel
theorem dX10_tellSeen_30 : decode cX10_tellSeen 30 = .ok (.invokestatic 25, 3) := by decide +kernel
theorem dX10_tellSeen_33 : decode cX10_tellSeen 33 = .ok (.aload_n 0, 1) := by decide +kernel
theorem dX10_tellSeen_34 : decode cX10_tellSeen 34 = .ok (.dup, 1) := by decide +kernel
theorem dX10_tellSeen_35 : decode cX10_tellSeen 35 = .ok (.getfield 22, 3) := by decide +kernel
theorem dX10_tellSeen_38 : decode cX10_tellSeen 38 = .ok (.iconst 1, 1) := by decide +kernel
theorem dX10_tellSeen_39 : decode cX10_tellSeen 39 = .ok (.iadd, 1) := by decide +kernel
theorem dX10_tellSeen_40 : decode cX10_tellSeen 40 = .ok (.putfield 22, 3) := by decide +kernel
theorem dX10_tellSeen_43 : decode cX10_tellSeen 43 = .ok (.aload_n 0, 1) := by decide +kernel
theorem dX10_tellSeen_44 : decode cX10_tellSeen 44 = .ok (.getfield 22, 3) := by decide +kernel
theorem dX10_tellSeen_47 : decode cX10_tellSeen 47 = .ok (.ireturn, 1) := by decide +kernel
theorem dX10_tell_0 : decode cX10_tell 0 = .ok (.aload_n 0, 1) := by decide +kernel
theorem dX10_tell_1 : decode cX10_tell 1 = .ok (.iload_n 1, 1) := by decide +kernel
theorem dX10_tell_2 : decode cX10_tell 2 = .ok (.iconst 3, 1) := by decide +kernel
theorem dX10_tell_3 : decode cX10_tell 3 = .ok (.imul, 1) := by decide +kernel
theorem dX10_tell_4 : decode cX10_tell 4 = .ok (.iload_n 2, 1) := by decide +kernel
theorem dX10_tell_5 : decode cX10_tell 5 = .ok (.invokestatic 29, 3) := by decide +kernel
theorem dX10_tell_8 : decode cX10_tell 8 = .ok (.aload_n 0, 1) := by decide +kernel
theorem dX10_tell_9 : decode cX10_tell 9 = .ok (.iload_n 1, 1) := by decide +kernel
theorem dX10_tell_10 : decode cX10_tell 10 = .ok (.iconst 3, 1) := by decide +kernel
theorem dX10_tell_11 : decode cX10_tell 11 = .ok (.imul, 1) := by decide +kernel
theorem dX10_tell_12 : decode cX10_tell 12 = .ok (.iconst 1, 1) := by decide +kernel
theorem dX10_tell_13 : decode cX10_tell 13 = .ok (.iadd, 1) := by decide +kernel
theorem dX10_tell_14 : decode cX10_tell 14 = .ok (.iload_n 3, 1) := by decide +kernel
theorem dX10_tell_15 : decode cX10_tell 15 = .ok (.invokestatic 29, 3) := by decide +kernel
theorem dX10_tell_18 : decode cX10_tell 18 = .ok (.aload_n 0, 1) := by decide +kernel
theorem dX10_tell_19 : decode cX10_tell 19 = .ok (.iload_n 1, 1) := by decide +kernel
theorem dX10_tell_20 : decode cX10_tell 20 = .ok (.iconst 3, 1) := by decide +kernel
theorem dX10_tell_21 : decode cX10_tell 21 = .ok (.imul, 1) := by decide +kernel
theorem dX10_tell_22 : decode cX10_tell 22 = .ok (.iconst 2, 1) := by decide +kernel
theorem dX10_tell_23 : decode cX10_tell 23 = .ok (.iadd, 1) := by decide +kernel
theorem dX10_tell_24 : decode cX10_tell 24 = .ok (.iload 4, 2) := by decide +kernel
theorem dX10_tell_26 : decode cX10_tell 26 = .ok (.invokestatic 29, 3) := by decide +kernel
theorem dX10_tell_29 : decode cX10_tell 29 = .ok (.return_, 1) := by decide +kernel
theorem dX10_stoods_0 : decode cX10_stoods 0 = .ok (.aload_n 0, 1) := by decide +kernel
theorem dX10_stoods_1 : decode cX10_stoods 1 = .ok (.getfield 18, 3) := by decide +kernel
theorem dX10_stoods_4 : decode cX10_stoods 4 = .ok (.ireturn, 1) := by decide +kernel
theorem dX10_stoodHouse_0 : decode cX10_stoodHouse 0 = .ok (.aload_n 0, 1) := by decide +kernel
theorem dX10_stoodHouse_1 : decode cX10_stoodHouse 1 = .ok (.getfield 11, 3) := by decide +kernel
theorem dX10_stoodHouse_4 : decode cX10_stoodHouse 4 = .ok (.iload_n 1, 1) := by decide +kernel
theorem dX10_stoodHouse_5 : decode cX10_stoodHouse 5 = .ok (.iconst 3, 1) := by decide +kernel
theorem dX10_stoodHouse_6 : decode cX10_stoodHouse 6 = .ok (.imul, 1) := by decide +kernel
theorem dX10_stoodHouse_7 : decode cX10_stoodHouse 7 = .ok (.invokestatic 33, 3) := by decide +kernel
theorem dX10_stoodHouse_10 : decode cX10_stoodHouse 10 = .ok (.ireturn, 1) := by decide +kernel
theorem dX10_stoodTime_0 : decode cX10_stoodTime 0 = .ok (.aload_n 0, 1) := by decide +kernel
theorem dX10_stoodTime_1 : decode cX10_stoodTime 1 = .ok (.getfield 11, 3) := by decide +kernel
theorem dX10_stoodTime_4 : decode cX10_stoodTime 4 = .ok (.iload_n 1, 1) := by decide +kernel
theorem dX10_stoodTime_5 : decode cX10_stoodTime 5 = .ok (.iconst 3, 1) := by decide +kernel
theorem dX10_stoodTime_6 : decode cX10_stoodTime 6 = .ok (.imul, 1) := by decide +kernel
theorem dX10_stoodTime_7 : decode cX10_stoodTime 7 = .ok (.iconst 1, 1) := by decide +kernel
theorem dX10_stoodTime_8 : decode cX10_stoodTime 8 = .ok (.iadd, 1) := by decide +kernel
theorem dX10_stoodTime_9 : decode cX10_stoodTime 9 = .ok (.invokestatic 33, 3) := by decide +kernel
theorem dX10_stoodTime_12 : decode cX10_stoodTime 12 = .ok (.ireturn, 1) := by decide +kernel
theorem dX10_stoodLong_0 : decode cX10_stoodLong 0 = .ok (.aload_n 0, 1) := by decide +kernel
theorem dX10_stoodLong_1 : decode cX10_stoodLong 1 = .ok (.getfield 11, 3) := by decide +kernel
theorem dX10_stoodLong_4 : decode cX10_stoodLong 4 = .ok (.iload_n 1, 1) := by decide +kernel
theorem dX10_stoodLong_5 : decode cX10_stoodLong 5 = .ok (.iconst 3, 1) := by decide +kernel
theorem dX10_stoodLong_6 : decode cX10_stoodLong 6 = .ok (.imul, 1) := by decide +kernel
theorem dX10_stoodLong_7 : decode cX10_stoodLong 7 = .ok (.iconst 2, 1) := by decide +kernel
theorem dX10_stoodLong_8 : decode cX10_stoodLong 8 = .ok (.iadd, 1) := by decide +kernel
theorem dX10_stoodLong_9 : decode cX10_stoodLong 9 = .ok (.invokestatic 33, 3) := by decide +kernel
theorem dX10_stoodLong_12 : decode cX10_stoodLong 12 = .ok (.ireturn, 1) := by decide +kernel
theorem dX10_seens_0 : decode cX10_seens 0 = .ok (.aload_n 0, 1) := by decide +kernel
theorem dX10_seens_1 : decode cX10_seens 1 = .ok (.getfield 22, 3) := by decide +kernel
theorem dX10_seens_4 : decode cX10_seens 4 = .ok (.ireturn, 1) := by decide +kernel
theorem dX10_seenPlace_0 : decode cX10_seenPlace 0 = .ok (.aload_n 0, 1) := by decide +kernel
theorem dX10_seenPlace_1 : decode cX10_seenPlace 1 = .ok (.getfield 15, 3) := by decide +kernel
theorem dX10_seenPlace_4 : decode cX10_seenPlace 4 = .ok (.iload_n 1, 1) := by decide +kernel
theorem dX10_seenPlace_5 : decode cX10_seenPlace 5 = .ok (.iconst 3, 1) := by decide +kernel
theorem dX10_seenPlace_6 : decode cX10_seenPlace 6 = .ok (.imul, 1) := by decide +kernel
theorem dX10_seenPlace_7 : decode cX10_seenPlace 7 = .ok (.invokestatic 33, 3) := by decide +kernel
theorem dX10_seenPlace_10 : decode cX10_seenPlace 10 = .ok (.ireturn, 1) := by decide +kernel
theorem dX10_seenHouse_0 : decode cX10_seenHouse 0 = .ok (.aload_n 0, 1) := by decide +kernel
theorem dX10_seenHouse_1 : decode cX10_seenHouse 1 = .ok (.getfield 15, 3) := by decide +kernel
theorem dX10_seenHouse_4 : decode cX10_seenHouse 4 = .ok (.iload_n 1, 1) := by decide +kernel
theorem dX10_seenHouse_5 : decode cX10_seenHouse 5 = .ok (.iconst 3, 1) := by decide +kernel
theorem dX10_seenHouse_6 : decode cX10_seenHouse 6 = .ok (.imul, 1) := by decide +kernel
theorem dX10_seenHouse_7 : decode cX10_seenHouse 7 = .ok (.iconst 1, 1) := by decide +kernel
theorem dX10_seenHouse_8 : decode cX10_seenHouse 8 = .ok (.iadd, 1) := by decide +kernel
theorem dX10_seenHouse_9 : decode cX10_seenHouse 9 = .ok (.invokestatic 33, 3) := by decide +kernel
theorem dX10_seenHouse_12 : decode cX10_seenHouse 12 = .ok (.ireturn, 1) := by decide +kernel
theorem dX10_seenIs_0 : decode cX10_seenIs 0 = .ok (.aload_n 0, 1) := by decide +kernel
theorem dX10_seenIs_1 : decode cX10_seenIs 1 = .ok (.getfield 15, 3) := by decide +kernel
theorem dX10_seenIs_4 : decode cX10_seenIs 4 = .ok (.iload_n 1, 1) := by decide +kernel
theorem dX10_seenIs_5 : decode cX10_seenIs 5 = .ok (.iconst 3, 1) := by decide +kernel
theorem dX10_seenIs_6 : decode cX10_seenIs 6 = .ok (.imul, 1) := by decide +kernel
theorem dX10_seenIs_7 : decode cX10_seenIs 7 = .ok (.iconst 2, 1) := by decide +kernel
theorem dX10_seenIs_8 : decode cX10_seenIs 8 = .ok (.iadd, 1) := by decide +kernel
theorem dX10_seenIs_9 : decode cX10_seenIs 9 = .ok (.invokestatic 33, 3) := by decide +kernel
theorem dX10_seenIs_12 : decode cX10_seenIs 12 = .ok (.iconst 1, 1) := by decide +kernel
theorem dX10_seenIs_13 : decode cX10_seenIs 13 = .ok (.if_icmp .ne 7, 3) := by decide +kernel
theorem dX10_seenIs_16 : decode cX10_seenIs 16 = .ok (.iconst 1, 1) := by decide +kernel
theorem dX10_seenIs_17 : decode cX10_seenIs 17 = .ok (.goto 4, 3) := by decide +kernel
theorem dX10_seenIs_20 : decode cX10_seenIs 20 = .ok (.iconst 0, 1) := by decide +kernel
theorem dX10_seenIs_21 : decode cX10_seenIs 21 = .ok (.ireturn, 1) := by decide +kernel
theorem dX11_init_0 : decode cX11_init 0 = .ok (.aload_n 0, 1) := by decide +kernel
theorem dX11_init_1 : decode cX11_init 1 = .ok (.invokespecial 3, 3) := by decide +kernel
theorem dX11_init_4 : decode cX11_init 4 = .ok (.aload_n 0, 1) := by decide +kernel
theorem dX11_init_5 : decode cX11_init 5 = .ok (.new 9, 3) := by decide +kernel
theorem dX11_init_8 : decode cX11_init 8 = .ok (.dup, 1) := by decide +kernel
theorem dX11_init_9 : decode cX11_init 9 = .ok (.invokespecial 11, 3) := by decide +kernel
theorem dX11_init_12 : decode cX11_init 12 = .ok (.putfield 12, 3) := by decide +kernel
theorem dX11_init_15 : decode cX11_init 15 = .ok (.aload_n 0, 1) := by decide +kernel
theorem dX11_init_16 : decode cX11_init 16 = .ok (.new 16, 3) := by decide +kernel
theorem dX11_init_19 : decode cX11_init 19 = .ok (.dup, 1) := by decide +kernel
theorem dX11_init_20 : decode cX11_init 20 = .ok (.aload_n 0, 1) := by decide +kernel
theorem dX11_init_21 : decode cX11_init 21 = .ok (.getfield 12, 3) := by decide +kernel
theorem dX11_init_24 : decode cX11_init 24 = .ok (.invokespecial 18, 3) := by decide +kernel
theorem dX11_init_27 : decode cX11_init 27 = .ok (.putfield 21, 3) := by decide +kernel
theorem dX11_init_30 : decode cX11_init 30 = .ok (.aload_n 0, 1) := by decide +kernel
theorem dX11_init_31 : decode cX11_init 31 = .ok (.new 25, 3) := by decide +kernel
theorem dX11_init_34 : decode cX11_init 34 = .ok (.dup, 1) := by decide +kernel
theorem dX11_init_35 : decode cX11_init 35 = .ok (.aload_n 0, 1) := by decide +kernel
theorem dX11_init_36 : decode cX11_init 36 = .ok (.getfield 12, 3) := by decide +kernel
theorem dX11_init_39 : decode cX11_init 39 = .ok (.invokespecial 27, 3) := by decide +kernel
theorem dX11_init_42 : decode cX11_init 42 = .ok (.putfield 28, 3) := by decide +kernel
theorem dX11_init_45 : decode cX11_init 45 = .ok (.aload_n 0, 1) := by decide +kernel
theorem dX11_init_46 : decode cX11_init 46 = .ok (.new 32, 3) := by decide +kernel
theorem dX11_init_49 : decode cX11_init 49 = .ok (.dup, 1) := by decide +kernel
theorem dX11_init_50 : decode cX11_init 50 = .ok (.invokespecial 34, 3) := by decide +kernel
theorem dX11_init_53 : decode cX11_init 53 = .ok (.putfield 35, 3) := by decide +kernel
theorem dX11_init_56 : decode cX11_init 56 = .ok (.aload_n 0, 1) := by decide +kernel
theorem dX11_init_57 : decode cX11_init 57 = .ok (.new 39, 3) := by decide +kernel
theorem dX11_init_60 : decode cX11_init 60 = .ok (.dup, 1) := by decide +kernel
theorem dX11_init_61 : decode cX11_init 61 = .ok (.invokespecial 41, 3) := by decide +kernel
theorem dX11_init_64 : decode cX11_init 64 = .ok (.putfield 42, 3) := by decide +kernel
theorem dX11_init_67 : decode cX11_init 67 = .ok (.aload_n 0, 1) := by decide +kernel
theorem dX11_init_68 : decode cX11_init 68 = .ok (.new 46, 3) := by decide +kernel
theorem dX11_init_71 : decode cX11_init 71 = .ok (.dup, 1) := by decide +kernel
theorem dX11_init_72 : decode cX11_init 72 = .ok (.invokespecial 48, 3) := by decide +kernel
theorem dX11_init_75 : decode cX11_init 75 = .ok (.putfield 49, 3) := by decide +kernel
theorem dX11_init_78 : decode cX11_init 78 = .ok (.aload_n 0, 1) := by decide +kernel
theorem dX11_init_79 : decode cX11_init 79 = .ok (.new 53, 3) := by decide +kernel
theorem dX11_init_82 : decode cX11_init 82 = .ok (.dup, 1) := by decide +kernel
theorem dX11_init_83 : decode cX11_init 83 = .ok (.invokespecial 55, 3) := by decide +kernel
theorem dX11_init_86 : decode cX11_init 86 = .ok (.putfield 56, 3) := by decide +kernel
theorem dX11_init_89 : decode cX11_init 89 = .ok (.aload_n 0, 1) := by decide +kernel
theorem dX11_init_90 : decode cX11_init 90 = .ok (.new 60, 3) := by decide +kernel
theorem dX11_init_93 : decode cX11_init 93 = .ok (.dup, 1) := by decide +kernel
theorem dX11_init_94 : decode cX11_init 94 = .ok (.aload_n 0, 1) := by decide +kernel
theorem dX11_init_95 : decode cX11_init 95 = .ok (.getfield 35, 3) := by decide +kernel
theorem dX11_init_98 : decode cX11_init 98 = .ok (.aload_n 0, 1) := by decide +kernel
theorem dX11_init_99 : decode cX11_init 99 = .ok (.getfield 42, 3) := by decide +kernel
theorem dX11_init_102 : decode cX11_init 102 = .ok (.aload_n 0, 1) := by decide +kernel
theorem dX11_init_103 : decode cX11_init 103 = .ok (.getfield 49, 3) := by decide +kernel
theorem dX11_init_106 : decode cX11_init 106 = .ok (.invokespecial 62, 3) := by decide +kernel
theorem dX11_init_109 : decode cX11_init 109 = .ok (.putfield 65, 3) := by decide +kernel
theorem dX11_init_112 : decode cX11_init 112 = .ok (.aload_n 0, 1) := by decide +kernel
theorem dX11_init_113 : decode cX11_init 113 = .ok (.new 69, 3) := by decide +kernel
theorem dX11_init_116 : decode cX11_init 116 = .ok (.dup, 1) := by decide +kernel
theorem dX11_init_117 : decode cX11_init 117 = .ok (.invokespecial 71, 3) := by decide +kernel
theorem dX11_init_120 : decode cX11_init 120 = .ok (.putfield 72, 3) := by decide +kernel
theorem dX11_init_123 : decode cX11_init 123 = .ok (.aload_n 0, 1) := by decide +kernel
theorem dX11_init_124 : decode cX11_init 124 = .ok (.new 76, 3) := by decide +kernel
theorem dX11_init_127 : decode cX11_init 127 = .ok (.dup, 1) := by decide +kernel
theorem dX11_init_128 : decode cX11_init 128 = .ok (.invokespecial 78, 3) := by decide +kernel
theorem dX11_init_131 : decode cX11_init 131 = .ok (.putfield 79, 3) := by decide +kernel
theorem dX11_init_134 : decode cX11_init 134 = .ok (.aload_n 0, 1) := by decide +kernel
theorem dX11_init_135 : decode cX11_init 135 = .ok (.iconst 5, 1) := by decide +kernel
theorem dX11_init_136 : decode cX11_init 136 = .ok (.newarray .int, 2) := by decide +kernel
theorem dX11_init_138 : decode cX11_init 138 = .ok (.putfield 83, 3) := by decide +kernel
theorem dX11_init_141 : decode cX11_init 141 = .ok (.aload_n 0, 1) := by decide +kernel
theorem dX11_init_142 : decode cX11_init 142 = .ok (.bipush 61, 2) := by decide +kernel
theorem dX11_init_144 : decode cX11_init 144 = .ok (.newarray .int, 2) := by decide +kernel
theorem dX11_init_146 : decode cX11_init 146 = .ok (.putfield 87, 3) := by decide +kernel
theorem dX11_init_149 : decode cX11_init 149 = .ok (.aload_n 0, 1) := by decide +kernel
theorem dX11_init_150 : decode cX11_init 150 = .ok (.bipush 10, 2) := by decide +kernel
theorem dX11_init_152 : decode cX11_init 152 = .ok (.newarray .int, 2) := by decide +kernel
theorem dX11_init_154 : decode cX11_init 154 = .ok (.putfield 90, 3) := by decide +kernel
theorem dX11_init_157 : decode cX11_init 157 = .ok (.aload_n 0, 1) := by decide +kernel
theorem dX11_init_158 : decode cX11_init 158 = .ok (.bipush 10, 2) := by decide +kernel
theorem dX11_init_160 : decode cX11_init 160 = .ok (.newarray .int, 2) := by decide +kernel
theorem dX11_init_162 : decode cX11_init 162 = .ok (.putfield 93, 3) := by decide +kernel
theorem dX11_init_165 : decode cX11_init 165 = .ok (.aload_n 0, 1) := by decide +kernel
theorem dX11_init_166 : decode cX11_init 166 = .ok (.bipush 7, 2) := by decide +kernel
theorem dX11_init_168 : decode cX11_init 168 = .ok (.putfield 96, 3) := by decide +kernel
theorem dX11_init_171 : decode cX11_init 171 = .ok (.return_, 1) := by decide +kernel
theorem dX11_feed_0 : decode cX11_feed 0 = .ok (.iload_n 1, 1) := by decide +kernel
theorem dX11_feed_1 : decode cX11_feed 1 = .ok (.invokestatic 100, 3) := by decide +kernel
theorem dX11_feed_4 : decode cX11_feed 4 = .ok (.iload_n 2, 1) := by decide +kernel
theorem dX11_feed_5 : decode cX11_feed 5 = .ok (.invokestatic 100, 3) := by decide +kernel
theorem dX11_feed_8 : decode cX11_feed 8 = .ok (.iadd, 1) := by decide +kernel
theorem dX11_feed_9 : decode cX11_feed 9 = .ok (.iload_n 3, 1) := by decide +kernel
theorem dX11_feed_10 : decode cX11_feed 10 = .ok (.invokestatic 100, 3) := by decide +kernel
theorem dX11_feed_13 : decode cX11_feed 13 = .ok (.iadd, 1) := by decide +kernel
theorem dX11_feed_14 : decode cX11_feed 14 = .ok (.iload 4, 2) := by decide +kernel
theorem dX11_feed_16 : decode cX11_feed 16 = .ok (.invokestatic 100, 3) := by decide +kernel
theorem dX11_feed_19 : decode cX11_feed 19 = .ok (.iadd, 1) := by decide +kernel
theorem dX11_feed_20 : decode cX11_feed 20 = .ok (.iload 5, 2) := by decide +kernel
theorem dX11_feed_22 : decode cX11_feed 22 = .ok (.invokestatic 100, 3) := by decide +kernel
theorem dX11_feed_25 : decode cX11_feed 25 = .ok (.iadd, 1) := by decide +kernel
theorem dX11_feed_26 : decode cX11_feed 26 = .ok (.istore 6, 2) := by decide +kernel
theorem dX11_feed_28 : decode cX11_feed 28 = .ok (.iload 6, 2) := by decide +kernel
theorem dX11_feed_30 : decode cX11_feed 30 = .ok (.sipush 240, 3) := by decide +kernel
theorem dX11_feed_33 : decode cX11_feed 33 = .ok (.aload_n 0, 1) := by decide +kernel
theorem dX11_feed_34 : decode cX11_feed 34 = .ok (.getfield 12, 3) := by decide +kernel
theorem dX11_feed_37 : decode cX11_feed 37 = .ok (.invokevirtual 104, 3) := by decide +kernel
theorem dX11_feed_40 : decode cX11_feed 40 = .ok (.isub, 1) := by decide +kernel
theorem dX11_feed_41 : decode cX11_feed 41 = .ok (.if_icmp .le 5, 3) := by decide +kernel
theorem dX11_feed_44 : decode cX11_feed 44 = .ok (.iconst (-1), 1) := by decide +kernel
theorem dX11_feed_45 : decode cX11_feed 45 = .ok (.ireturn, 1) := by decide +kernel
theorem dX11_feed_46 : decode cX11_feed 46 = .ok (.aload_n 0, 1) := by decide +kernel
theorem dX11_feed_47 : decode cX11_feed 47 = .ok (.getfield 12, 3) := by decide +kernel
theorem dX11_feed_50 : decode cX11_feed 50 = .ok (.iload_n 1, 1) := by decide +kernel
theorem dX11_feed_51 : decode cX11_feed 51 = .ok (.invokevirtual 108, 3) := by decide +kernel
theorem dX11_feed_54 : decode cX11_feed 54 = .ok (.aload_n 0, 1) := by decide +kernel
theorem dX11_feed_55 : decode cX11_feed 55 = .ok (.getfield 12, 3) := by decide +kernel
theorem dX11_feed_58 : decode cX11_feed 58 = .ok (.iload_n 2, 1) := by decide +kernel
theorem dX11_feed_59 : decode cX11_feed 59 = .ok (.invokevirtual 108, 3) := by decide +kernel
theorem dX11_feed_62 : decode cX11_feed 62 = .ok (.aload_n 0, 1) := by decide +kernel
theorem dX11_feed_63 : decode cX11_feed 63 = .ok (.getfield 12, 3) := by decide +kernel
theorem dX11_feed_66 : decode cX11_feed 66 = .ok (.iload_n 3, 1) := by decide +kernel
theorem dX11_feed_67 : decode cX11_feed 67 = .ok (.invokevirtual 108, 3) := by decide +kernel
theorem dX11_feed_70 : decode cX11_feed 70 = .ok (.aload_n 0, 1) := by decide +kernel
theorem dX11_feed_71 : decode cX11_feed 71 = .ok (.getfield 12, 3) := by decide +kernel
theorem dX11_feed_74 : decode cX11_feed 74 = .ok (.iload 4, 2) := by decide +kernel
theorem dX11_feed_76 : decode cX11_feed 76 = .ok (.invokevirtual 108, 3) := by decide +kernel
theorem dX11_feed_79 : decode cX11_feed 79 = .ok (.aload_n 0, 1) := by decide +kernel
theorem dX11_feed_80 : decode cX11_feed 80 = .ok (.getfield 12, 3) := by decide +kernel
theorem dX11_feed_83 : decode cX11_feed 83 = .ok (.iload 5, 2) := by decide +kernel
theorem dX11_feed_85 : decode cX11_feed 85 = .ok (.invokevirtual 108, 3) := by decide +kernel
theorem dX11_feed_88 : decode cX11_feed 88 = .ok (.aload_n 0, 1) := by decide +kernel
theorem dX11_feed_89 : decode cX11_feed 89 = .ok (.getfield 12, 3) := by decide +kernel
theorem dX11_feed_92 : decode cX11_feed 92 = .ok (.invokevirtual 104, 3) := by decide +kernel
theorem dX11_feed_95 : decode cX11_feed 95 = .ok (.ireturn, 1) := by decide +kernel
theorem dX11_end_0 : decode cX11_end 0 = .ok (.iload_n 1, 1) := by decide +kernel
theorem dX11_end_1 : decode cX11_end 1 = .ok (.ifCond .lt 14, 3) := by decide +kernel
theorem dX11_end_4 : decode cX11_end 4 = .ok (.iload_n 1, 1) := by decide +kernel
theorem dX11_end_5 : decode cX11_end 5 = .ok (.aload_n 0, 1) := by decide +kernel
theorem dX11_end_6 : decode cX11_end 6 = .ok (.getfield 12, 3) := by decide +kernel
theorem dX11_end_9 : decode cX11_end 9 = .ok (.invokevirtual 104, 3) := by decide +kernel
theorem dX11_end_12 : decode cX11_end 12 = .ok (.if_icmp .le 5, 3) := by decide +kernel
theorem dX11_end_15 : decode cX11_end 15 = .ok (.iconst 0, 1) := by decide +kernel
theorem dX11_end_16 : decode cX11_end 16 = .ok (.ireturn, 1) := by decide +kernel
theorem dX11_end_17 : decode cX11_end 17 = .ok (.aload_n 0, 1) := by decide +kernel
theorem dX11_end_18 : decode cX11_end 18 = .ok (.getfield 12, 3) := by decide +kernel
theorem dX11_end_21 : decode cX11_end 21 = .ok (.iload_n 1, 1) := by decide +kernel
theorem dX11_end_22 : decode cX11_end 22 = .ok (.invokevirtual 112, 3) := by decide +kernel
theorem dX11_end_25 : decode cX11_end 25 = .ok (.iconst 1, 1) := by decide +kernel
theorem dX11_end_26 : decode cX11_end 26 = .ok (.ireturn, 1) := by decide +kernel
theorem dX11_fault_0 : decode cX11_fault 0 = .ok (.iload_n 1, 1) := by decide +kernel
theorem dX11_fault_1 : decode cX11_fault 1 = .ok (.ifCond .eq 11, 3) := by decide +kernel
theorem dX11_fault_4 : decode cX11_fault 4 = .ok (.iload_n 1, 1) := by decide +kernel
theorem dX11_fault_5 : decode cX11_fault 5 = .ok (.iconst 1, 1) := by decide +kernel
theorem dX11_fault_6 : decode cX11_fault 6 = .ok (.if_icmp .eq 6, 3) := by decide +kernel
theorem dX11_fault_9 : decode cX11_fault 9 = .ok (.bipush (-2), 2) := by decide +kernel
theorem dX11_fault_11 : decode cX11_fault 11 = .ok (.ireturn, 1) := by decide +kernel
theorem dX11_fault_12 : decode cX11_fault 12 = .ok (.iload_n 1, 1) := by decide +kernel
theorem dX11_fault_13 : decode cX11_fault 13 = .ok (.ifCond .ne 13, 3) := by decide +kernel
theorem dX11_fault_16 : decode cX11_fault 16 = .ok (.aload_n 0, 1) := by decide +kernel
theorem dX11_fault_17 : decode cX11_fault 17 = .ok (.getfield 21, 3) := by decide +kernel
theorem dX11_fault_20 : decode cX11_fault 20 = .ok (.invokevirtual 115, 3) := by decide +kernel
theorem dX11_fault_23 : decode cX11_fault 23 = .ok (.goto 10, 3) := by decide +kernel
theorem dX11_fault_26 : decode cX11_fault 26 = .ok (.aload_n 0, 1) := by decide +kernel
theorem dX11_fault_27 : decode cX11_fault 27 = .ok (.getfield 28, 3) := by decide +kernel
theorem dX11_fault_30 : decode cX11_fault 30 = .ok (.invokevirtual 119, 3) := by decide +kernel
theorem dX11_fault_33 : decode cX11_fault 33 = .ok (.istore_n 2, 1) := by decide +kernel
theorem dX11_fault_34 : decode cX11_fault 34 = .ok (.iload_n 2, 1) := by decide +kernel
theorem dX11_fault_35 : decode cX11_fault 35 = .ok (.ifCond .eq 7, 3) := by decide +kernel
theorem dX11_fault_38 : decode cX11_fault 38 = .ok (.iconst (-1), 1) := by decide +kernel
theorem dX11_fault_39 : decode cX11_fault 39 = .ok (.goto 10, 3) := by decide +kernel
theorem dX11_fault_42 : decode cX11_fault 42 = .ok (.aload_n 0, 1) := by decide +kernel
theorem dX11_fault_43 : decode cX11_fault 43 = .ok (.getfield 12, 3) := by decide +kernel
theorem dX11_fault_46 : decode cX11_fault 46 = .ok (.invokevirtual 120, 3) := by decide +kernel
theorem dX11_fault_49 : decode cX11_fault 49 = .ok (.ireturn, 1) := by decide +kernel
theorem dX11_text_0 : decode cX11_text 0 = .ok (.iload_n 1, 1) := by decide +kernel
theorem dX11_text_1 : decode cX11_text 1 = .ok (.ifCond .ne 22, 3) := by decide +kernel
theorem dX11_text_4 : decode cX11_text 4 = .ok (.aload_n 0, 1) := by decide +kernel
theorem dX11_text_5 : decode cX11_text 5 = .ok (.getfield 21, 3) := by decide +kernel
theorem dX11_text_8 : decode cX11_text 8 = .ok (.invokevirtual 115, 3) := by decide +kernel
theorem dX11_text_11 : decode cX11_text 11 = .ok (.ifCond .eq 10, 3) := by decide +kernel
theorem dX11_text_14 : decode cX11_text 14 = .ok (.aload_n 0, 1) := by decide +kernel
theorem dX11_text_15 : decode cX11_text 15 = .ok (.invokevirtual 123, 3) := by decide +kernel
theorem dX11_text_18 : decode cX11_text 18 = .ok (.goto 4, 3) := by decide +kernel
theorem dX11_text_21 : decode cX11_text 21 = .ok (.iconst (-1), 1) := by decide +kernel
theorem dX11_text_22 : decode cX11_text 22 = .ok (.ireturn, 1) := by decide +kernel
theorem dX11_text_23 : decode cX11_text 23 = .ok (.iload_n 1, 1) := by decide +kernel
theorem dX11_text_24 : decode cX11_text 24 = .ok (.iconst 1, 1) := by decide +kernel
theorem dX11_text_25 : decode cX11_text 25 = .ok (.if_icmp .ne 47, 3) := by decide +kernel
theorem dX11_text_28 : decode cX11_text 28 = .ok (.aload_n 0, 1) := by decide +kernel
theorem dX11_text_29 : decode cX11_text 29 = .ok (.getfield 42, 3) := by decide +kernel
theorem dX11_text_32 : decode cX11_text 32 = .ok (.invokevirtual 126, 3) := by decide +kernel
theorem dX11_text_35 : decode cX11_text 35 = .ok (.iconst 4, 1) := by decide +kernel
theorem dX11_text_36 : decode cX11_text 36 = .ok (.if_icmp .ge 36, 3) := by decide +kernel
theorem dX11_text_39 : decode cX11_text 39 = .ok (.aload_n 0, 1) := by decide +kernel
theorem dX11_text_40 : decode cX11_text 40 = .ok (.getfield 28, 3) := by decide +kernel
theorem dX11_text_43 : decode cX11_text 43 = .ok (.invokevirtual 119, 3) := by decide +kernel
theorem dX11_text_46 : decode cX11_text 46 = .ok (.ifCond .eq 26, 3) := by decide +kernel
theorem dX11_text_49 : decode cX11_text 49 = .ok (.aload_n 0, 1) := by decide +kernel
theorem dX11_text_50 : decode cX11_text 50 = .ok (.getfield 12, 3) := by decide +kernel
theorem dX11_text_53 : decode cX11_text 53 = .ok (.iconst 0, 1) := by decide +kernel
theorem dX11_text_54 : decode cX11_text 54 = .ok (.invokevirtual 112, 3) := by decide +kernel
theorem dX11_text_57 : decode cX11_text 57 = .ok (.aload_n 0, 1) := by decide +kernel
theorem dX11_text_58 : decode cX11_text 58 = .ok (.getfield 42, 3) := by decide +kernel
theorem dX11_text_61 : decode cX11_text 61 = .ok (.aload_n 0, 1) := by decide +kernel
theorem dX11_text_62 : decode cX11_text 62 = .ok (.getfield 28, 3) := by decide +kernel
theorem dX11_text_65 : decode cX11_text 65 = .ok (.invokevirtual 129, 3) := by decide +kernel
theorem dX11_text_68 : decode cX11_text 68 = .ok (.invokevirtual 133, 3) := by decide +kernel
theorem dX11_text_71 : decode cX11_text 71 = .ok (.ireturn, 1) := by decide +kernel
theorem dX11_text_72 : decode cX11_text 72 = .ok (.iconst (-1), 1) := by decide +kernel
theorem dX11_text_73 : decode cX11_text 73 = .ok (.ireturn, 1) := by decide +kernel
theorem dX11_settle_0 : decode cX11_settle 0 = .ok (.aload_n 0, 1) := by decide +kernel
theorem dX11_settle_1 : decode cX11_settle 1 = .ok (.getfield 12, 3) := by decide +kernel
theorem dX11_settle_4 : decode cX11_settle 4 = .ok (.iconst 0, 1) := by decide +kernel
theorem dX11_settle_5 : decode cX11_settle 5 = .ok (.invokevirtual 112, 3) := by decide +kernel
theorem dX11_settle_8 : decode cX11_settle 8 = .ok (.aload_n 0, 1) := by decide +kernel
theorem dX11_settle_9 : decode cX11_settle 9 = .ok (.getfield 35, 3) := by decide +kernel
theorem dX11_settle_12 : decode cX11_settle 12 = .ok (.aload_n 0, 1) := by decide +kernel
theorem dX11_settle_13 : decode cX11_settle 13 = .ok (.getfield 21, 3) := by decide +kernel
theorem dX11_settle_16 : decode cX11_settle 16 = .ok (.invokevirtual 137, 3) := by decide +kernel
theorem dX11_settle_19 : decode cX11_settle 19 = .ok (.invokevirtual 140, 3) := by decide +kernel
theorem dX11_settle_22 : decode cX11_settle 22 = .ok (.aload_n 0, 1) := by decide +kernel
theorem dX11_settle_23 : decode cX11_settle 23 = .ok (.getfield 49, 3) := by decide +kernel
theorem dX11_settle_26 : decode cX11_settle 26 = .ok (.aload_n 0, 1) := by decide +kernel
theorem dX11_settle_27 : decode cX11_settle 27 = .ok (.getfield 35, 3) := by decide +kernel
theorem dX11_settle_30 : decode cX11_settle 30 = .ok (.invokevirtual 144, 3) := by decide +kernel
theorem dX11_settle_33 : decode cX11_settle 33 = .ok (.aload_n 0, 1) := by decide +kernel
theorem dX11_settle_34 : decode cX11_settle 34 = .ok (.getfield 56, 3) := by decide +kernel
theorem dX11_settle_37 : decode cX11_settle 37 = .ok (.invokevirtual 147, 3) := by decide +kernel
theorem dX11_settle_40 : decode cX11_settle 40 = .ok (.aload_n 0, 1) := by decide +kernel
theorem dX11_settle_41 : decode cX11_settle 41 = .ok (.getfield 72, 3) := by decide +kernel
theorem dX11_settle_44 : decode cX11_settle 44 = .ok (.invokevirtual 150, 3) := by decide +kernel
theorem dX11_settle_47 : decode cX11_settle 47 = .ok (.aload_n 0, 1) := by decide +kernel
theorem dX11_settle_48 : decode cX11_settle 48 = .ok (.getfield 35, 3) := by decide +kernel
theorem dX11_settle_51 : decode cX11_settle 51 = .ok (.invokevirtual 151, 3) := by decide +kernel
theorem dX11_settle_54 : decode cX11_settle 54 = .ok (.ireturn, 1) := by decide +kernel
theorem dX11_rule_0 : decode cX11_rule 0 = .ok (.aload_n 0, 1) := by decide +kernel
theorem dX11_rule_1 : decode cX11_rule 1 = .ok (.getfield 35, 3) := by decide +kernel
theorem dX11_rule_4 : decode cX11_rule 4 = .ok (.invokevirtual 154, 3) := by decide +kernel
theorem dX11_rule_7 : decode cX11_rule 7 = .ok (.ifCond .ne 5, 3) := by decide +kernel
theorem dX11_rule_10 : decode cX11_rule 10 = .ok (.iconst (-1), 1) := by decide +kernel
theorem dX11_rule_11 : decode cX11_rule 11 = .ok (.ireturn, 1) := by decide +kernel
theorem dX11_rule_12 : decode cX11_rule 12 = .ok (.iload_n 1, 1) := by decide +kernel
theorem dX11_rule_13 : decode cX11_rule 13 = .ok (.tableswitch 63 0 3 #[31, 39, 47, 55], 31) := by decide +kernel
theorem dX11_rule_44 : decode cX11_rule 44 = .ok (.aload_n 0, 1) := by decide +kernel
theorem dX11_rule_45 : decode cX11_rule 45 = .ok (.getfield 35, 3) := by decide +kernel
theorem dX11_rule_48 : decode cX11_rule 48 = .ok (.invokevirtual 157, 3) := by decide +kernel
theorem dX11_rule_51 : decode cX11_rule 51 = .ok (.ireturn, 1) := by decide +kernel
theorem dX11_rule_52 : decode cX11_rule 52 = .ok (.aload_n 0, 1) := by decide +kernel
theorem dX11_rule_53 : decode cX11_rule 53 = .ok (.getfield 49, 3) := by decide +kernel
theorem dX11_rule_56 : decode cX11_rule 56 = .ok (.getfield 160, 3) := by decide +kernel
theorem dX11_rule_59 : decode cX11_rule 59 = .ok (.ireturn, 1) := by decide +kernel
theorem dX11_rule_60 : decode cX11_rule 60 = .ok (.aload_n 0, 1) := by decide +kernel
theorem dX11_rule_61 : decode cX11_rule 61 = .ok (.getfield 35, 3) := by decide +kernel
theorem dX11_rule_64 : decode cX11_rule 64 = .ok (.invokevirtual 163, 3) := by decide +kernel
theorem dX11_rule_67 : decode cX11_rule 67 = .ok (.ireturn, 1) := by decide +kernel
theorem dX11_rule_68 : decode cX11_rule 68 = .ok (.aload_n 0, 1) := by decide +kernel
theorem dX11_rule_69 : decode cX11_rule 69 = .ok (.getfield 35, 3) := by decide +kernel
theorem dX11_rule_72 : decode cX11_rule 72 = .ok (.invokevirtual 166, 3) := by decide +kernel
theorem dX11_rule_75 : decode cX11_rule 75 = .ok (.ireturn, 1) := by decide +kernel
theorem dX11_rule_76 : decode cX11_rule 76 = .ok (.iconst (-1), 1) := by decide +kernel
theorem dX11_rule_77 : decode cX11_rule 77 = .ok (.ireturn, 1) := by decide +kernel
theorem dX11_house_0 : decode cX11_house 0 = .ok (.aload_n 0, 1) := by decide +kernel
theorem dX11_house_1 : decode cX11_house 1 = .ok (.getfield 35, 3) := by decide +kernel
theorem dX11_house_4 : decode cX11_house 4 = .ok (.iload_n 1, 1) := by decide +kernel
theorem dX11_house_5 : decode cX11_house 5 = .ok (.invokevirtual 169, 3) := by decide +kernel
theorem dX11_house_8 : decode cX11_house 8 = .ok (.ifCond .eq 12, 3) := by decide +kernel
theorem dX11_house_11 : decode cX11_house 11 = .ok (.iload_n 2, 1) := by decide +kernel
theorem dX11_house_12 : decode cX11_house 12 = .ok (.ifCond .lt 8, 3) := by decide +kernel
theorem dX11_house_15 : decode cX11_house 15 = .ok (.iload_n 2, 1) := by decide +kernel
theorem dX11_house_16 : decode cX11_house 16 = .ok (.iconst 4, 1) := by decide +kernel
theorem dX11_house_17 : decode cX11_house 17 = .ok (.if_icmp .le 11, 3) := by decide +kernel
theorem dX11_house_20 : decode cX11_house 20 = .ok (.new 173, 3) := by decide +kernel
theorem dX11_house_23 : decode cX11_house 23 = .ok (.dup, 1) := by decide +kernel
theorem dX11_house_24 : decode cX11_house 24 = .ok (.invokespecial 175, 3) := by decide +kernel
theorem dX11_house_27 : decode cX11_house 27 = .ok (.athrow, 1) := by decide +kernel
theorem dX11_house_28 : decode cX11_house 28 = .ok (.iload_n 2, 1) := by decide +kernel
theorem dX11_house_29 : decode cX11_house 29 = .ok (.tableswitch 75 0 3 #[31, 40, 49, 58], 31) := by decide +kernel
theorem dX11_house_60 : decode cX11_house 60 = .ok (.aload_n 0, 1) := by decide +kernel
theorem dX11_house_61 : decode cX11_house 61 = .ok (.getfield 35, 3) := by decide +kernel
theorem dX11_house_64 : decode cX11_house 64 = .ok (.iload_n 1, 1) := by decide +kernel
theorem dX11_house_65 : decode cX11_house 65 = .ok (.invokevirtual 176, 3) := by decide +kernel
theorem dX11_house_68 : decode cX11_house 68 = .ok (.ireturn, 1) := by decide +kernel
theorem dX11_house_69 : decode cX11_house 69 = .ok (.aload_n 0, 1) := by decide +kernel
theorem dX11_house_70 : decode cX11_house 70 = .ok (.getfield 35, 3) := by decide +kernel
theorem dX11_house_73 : decode cX11_house 73 = .ok (.iload_n 1, 1) := by decide +kernel
theorem dX11_house_74 : decode cX11_house 74 = .ok (.invokevirtual 179, 3) := by decide +kernel
theorem dX11_house_77 : decode cX11_house 77 = .ok (.ireturn, 1) := by decide +kernel
theorem dX11_house_78 : decode cX11_house 78 = .ok (.aload_n 0, 1) := by decide +kernel
theorem dX11_house_79 : decode cX11_house 79 = .ok (.getfield 49, 3) := by decide +kernel
theorem dX11_house_82 : decode cX11_house 82 = .ok (.iload_n 1, 1) := by decide +kernel
theorem dX11_house_83 : decode cX11_house 83 = .ok (.invokevirtual 182, 3) := by decide +kernel
theorem dX11_house_86 : decode cX11_house 86 = .ok (.ireturn, 1) := by decide +kernel
theorem dX11_house_87 : decode cX11_house 87 = .ok (.aload_n 0, 1) := by decide +kernel
theorem dX11_house_88 : decode cX11_house 88 = .ok (.getfield 35, 3) := by decide +kernel
theorem dX11_house_91 : decode cX11_house 91 = .ok (.iload_n 1, 1) := by decide +kernel
theorem dX11_house_92 : decode cX11_house 92 = .ok (.invokevirtual 185, 3) := by decide +kernel
theorem dX11_house_95 : decode cX11_house 95 = .ok (.ifCond .eq 7, 3) := by decide +kernel
theorem dX11_house_98 : decode cX11_house 98 = .ok (.iconst 1, 1) := by decide +kernel
theorem dX11_house_99 : decode cX11_house 99 = .ok (.goto 4, 3) := by decide +kernel
theorem dX11_house_102 : decode cX11_house 102 = .ok (.iconst 0, 1) := by decide +kernel
theorem dX11_house_103 : decode cX11_house 103 = .ok (.ireturn, 1) := by decide +kernel
theorem dX11_house_104 : decode cX11_house 104 = .ok (.aload_n 0, 1) := by decide +kernel
theorem dX11_house_105 : decode cX11_house 105 = .ok (.getfield 49, 3) := by decide +kernel
theorem dX11_house_108 : decode cX11_house 108 = .ok (.iload_n 1, 1) := by decide +kernel
theorem dX11_house_109 : decode cX11_house 109 = .ok (.invokevirtual 188, 3) := by decide +kernel
theorem dX11_house_112 : decode cX11_house 112 = .ok (.ifCond .eq 7, 3) := by decide +kernel
theorem dX11_house_115 : decode cX11_house 115 = .ok (.iconst 1, 1) := by decide +kernel
theorem dX11_house_116 : decode cX11_house 116 = .ok (.goto 4, 3) := by decide +kernel
theorem dX11_house_119 : decode cX11_house 119 = .ok (.iconst 0, 1) := by decide +kernel
theorem dX11_house_120 : decode cX11_house 120 = .ok (.ireturn, 1) := by decide +kernel
theorem dX11_bearer_0 : decode cX11_bearer 0 = .ok (.iload_n 1, 1) := by decide +kernel
theorem dX11_bearer_1 : decode cX11_bearer 1 = .ok (.ifCond .lt 25, 3) := by decide +kernel
theorem dX11_bearer_4 : decode cX11_bearer 4 = .ok (.iload_n 1, 1) := by decide +kernel
theorem dX11_bearer_5 : decode cX11_bearer 5 = .ok (.aload_n 0, 1) := by decide +kernel
theorem dX11_bearer_6 : decode cX11_bearer 6 = .ok (.getfield 35, 3) := by decide +kernel
theorem dX11_bearer_9 : decode cX11_bearer 9 = .ok (.invokevirtual 191, 3) := by decide +kernel
theorem dX11_bearer_12 : decode cX11_bearer 12 = .ok (.if_icmp .ge 14, 3) := by decide +kernel
theorem dX11_bearer_15 : decode cX11_bearer 15 = .ok (.aload_n 0, 1) := by decide +kernel
theorem dX11_bearer_16 : decode cX11_bearer 16 = .ok (.getfield 35, 3) := by decide +kernel
theorem dX11_bearer_19 : decode cX11_bearer 19 = .ok (.iload_n 1, 1) := by decide +kernel
theorem dX11_bearer_20 : decode cX11_bearer 20 = .ok (.invokevirtual 194, 3) := by decide +kernel
theorem dX11_bearer_23 : decode cX11_bearer 23 = .ok (.goto 4, 3) := by decide +kernel
theorem dX11_bearer_26 : decode cX11_bearer 26 = .ok (.iconst (-1), 1) := by decide +kernel
theorem dX11_bearer_27 : decode cX11_bearer 27 = .ok (.ireturn, 1) := by decide +kernel
theorem dX11_law_0 : decode cX11_law 0 = .ok (.aload_n 0, 1) := by decide +kernel
theorem dX11_law_1 : decode cX11_law 1 = .ok (.getfield 42, 3) := by decide +kernel
theorem dX11_law_4 : decode cX11_law 4 = .ok (.iload_n 1, 1) := by decide +kernel
theorem dX11_law_5 : decode cX11_law 5 = .ok (.invokevirtual 197, 3) := by decide +kernel
theorem dX11_law_8 : decode cX11_law 8 = .ok (.ireturn, 1) := by decide +kernel
theorem dX11_steps_0 : decode cX11_steps 0 = .ok (.iload_n 1, 1) := by decide +kernel
theorem dX11_steps_1 : decode cX11_steps 1 = .ok (.iconst (-1), 1) := by decide +kernel
theorem dX11_steps_2 : decode cX11_steps 2 = .ok (.if_icmp .eq 14, 3) := by decide +kernel
theorem dX11_steps_5 : decode cX11_steps 5 = .ok (.aload_n 0, 1) := by decide +kernel
theorem dX11_steps_6 : decode cX11_steps 6 = .ok (.getfield 35, 3) := by decide +kernel
theorem dX11_steps_9 : decode cX11_steps 9 = .ok (.iload_n 1, 1) := by decide +kernel
theorem dX11_steps_10 : decode cX11_steps 10 = .ok (.invokevirtual 169, 3) := by decide +kernel
theorem dX11_steps_13 : decode cX11_steps 13 = .ok (.ifCond .eq 14, 3) := by decide +kernel
theorem dX11_steps_16 : decode cX11_steps 16 = .ok (.aload_n 0, 1) := by decide +kernel
theorem dX11_steps_17 : decode cX11_steps 17 = .ok (.getfield 35, 3) := by decide +kernel
theorem dX11_steps_20 : decode cX11_steps 20 = .ok (.iload_n 2, 1) := by decide +kernel
theorem dX11_steps_21 : decode cX11_steps 21 = .ok (.invokevirtual 169, 3) := by decide +kernel
theorem dX11_steps_24 : decode cX11_steps 24 = .ok (.ifCond .ne 5, 3) := by decide +kernel
theorem dX11_steps_27 : decode cX11_steps 27 = .ok (.iconst (-1), 1) := by decide +kernel
theorem dX11_steps_28 : decode cX11_steps 28 = .ok (.ireturn, 1) := by decide +kernel
theorem dX11_steps_29 : decode cX11_steps 29 = .ok (.iload_n 1, 1) := by decide +kernel
theorem dX11_steps_30 : decode cX11_steps 30 = .ok (.iconst (-1), 1) := by decide +kernel
theorem dX11_steps_31 : decode cX11_steps 31 = .ok (.if_icmp .ne 11, 3) := by decide +kernel
theorem dX11_steps_34 : decode cX11_steps 34 = .ok (.aload_n 0, 1) := by decide +kernel
theorem dX11_steps_35 : decode cX11_steps 35 = .ok (.iload_n 2, 1) := by decide +kernel
theorem dX11_steps_36 : decode cX11_steps 36 = .ok (.invokevirtual 200, 3) := by decide +kernel
theorem dX11_steps_39 : decode cX11_steps 39 = .ok (.goto 12, 3) := by decide +kernel
theorem dX11_steps_42 : decode cX11_steps 42 = .ok (.aload_n 0, 1) := by decide +kernel
theorem dX11_steps_43 : decode cX11_steps 43 = .ok (.getfield 35, 3) := by decide +kernel
theorem dX11_steps_46 : decode cX11_steps 46 = .ok (.iload_n 1, 1) := by decide +kernel
theorem dX11_steps_47 : decode cX11_steps 47 = .ok (.iload_n 2, 1) := by decide +kernel
theorem dX11_steps_48 : decode cX11_steps 48 = .ok (.invokevirtual 203, 3) := by decide +kernel
theorem dX11_steps_51 : decode cX11_steps 51 = .ok (.ireturn, 1) := by decide +kernel
theorem dX11_stands_0 : decode cX11_stands 0 = .ok (.aload_n 0, 1) := by decide +kernel
theorem dX11_stands_1 : decode cX11_stands 1 = .ok (.getfield 35, 3) := by decide +kernel
theorem dX11_stands_4 : decode cX11_stands 4 = .ok (.iload_n 1, 1) := by decide +kernel
theorem dX11_stands_5 : decode cX11_stands 5 = .ok (.invokevirtual 169, 3) := by decide +kernel
theorem dX11_stands_8 : decode cX11_stands 8 = .ok (.ifCond .eq 19, 3) := by decide +kernel
theorem dX11_stands_11 : decode cX11_stands 11 = .ok (.aload_n 0, 1) := by decide +kernel
theorem dX11_stands_12 : decode cX11_stands 12 = .ok (.iload_n 1, 1) := by decide +kernel
theorem dX11_stands_13 : decode cX11_stands 13 = .ok (.aload_n 0, 1) := by decide +kernel
theorem dX11_stands_14 : decode cX11_stands 14 = .ok (.getfield 49, 3) := by decide +kernel
theorem dX11_stands_17 : decode cX11_stands 17 = .ok (.iload_n 1, 1) := by decide +kernel
theorem dX11_stands_18 : decode cX11_stands 18 = .ok (.invokevirtual 182, 3) := by decide +kernel
theorem dX11_stands_21 : decode cX11_stands 21 = .ok (.invokevirtual 207, 3) := by decide +kernel
theorem dX11_stands_24 : decode cX11_stands 24 = .ok (.goto 4, 3) := by decide +kernel
theorem dX11_stands_27 : decode cX11_stands 27 = .ok (.iconst (-1), 1) := by decide +kernel
theorem dX11_stands_28 : decode cX11_stands 28 = .ok (.ireturn, 1) := by decide +kernel
theorem dX11_stepsTo_0 : decode cX11_stepsTo 0 = .ok (.aload_n 0, 1) := by decide +kernel
theorem dX11_stepsTo_1 : decode cX11_stepsTo 1 = .ok (.getfield 35, 3) := by decide +kernel
theorem dX11_stepsTo_4 : decode cX11_stepsTo 4 = .ok (.aload_n 0, 1) := by decide +kernel
theorem dX11_stepsTo_5 : decode cX11_stepsTo 5 = .ok (.getfield 49, 3) := by decide +kernel
theorem dX11_stepsTo_8 : decode cX11_stepsTo 8 = .ok (.getfield 210, 3) := by decide +kernel
theorem dX11_stepsTo_11 : decode cX11_stepsTo 11 = .ok (.iload_n 1, 1) := by decide +kernel
theorem dX11_stepsTo_12 : decode cX11_stepsTo 12 = .ok (.invokevirtual 203, 3) := by decide +kernel
theorem dX11_stepsTo_15 : decode cX11_stepsTo 15 = .ok (.ireturn, 1) := by decide +kernel
theorem dX11_standsNow_0 : decode cX11_standsNow 0 = .ok (.aload_n 0, 1) := by decide +kernel
theorem dX11_standsNow_1 : decode cX11_standsNow 1 = .ok (.iload_n 1, 1) := by decide +kernel
theorem dX11_standsNow_2 : decode cX11_standsNow 2 = .ok (.invokevirtual 200, 3) := by decide +kernel
theorem dX11_standsNow_5 : decode cX11_standsNow 5 = .ok (.istore_n 3, 1) := by decide +kernel
theorem dX11_standsNow_6 : decode cX11_standsNow 6 = .ok (.aload_n 0, 1) := by decide +kernel
theorem dX11_standsNow_7 : decode cX11_standsNow 7 = .ok (.getfield 42, 3) := by decide +kernel
theorem dX11_standsNow_10 : decode cX11_standsNow 10 = .ok (.iload_n 2, 1) := by decide +kernel
theorem dX11_standsNow_11 : decode cX11_standsNow 11 = .ok (.aload_n 0, 1) := by decide +kernel
theorem dX11_standsNow_12 : decode cX11_standsNow 12 = .ok (.getfield 35, 3) := by decide +kernel
theorem dX11_standsNow_15 : decode cX11_standsNow 15 = .ok (.iload_n 1, 1) := by decide +kernel
theorem dX11_standsNow_16 : decode cX11_standsNow 16 = .ok (.invokevirtual 185, 3) := by decide +kernel
theorem dX11_standsNow_19 : decode cX11_standsNow 19 = .ok (.aload_n 0, 1) := by decide +kernel
theorem dX11_standsNow_20 : decode cX11_standsNow 20 = .ok (.getfield 49, 3) := by decide +kernel
theorem dX11_standsNow_23 : decode cX11_standsNow 23 = .ok (.getfield 213, 3) := by decide +kernel
theorem dX11_standsNow_26 : decode cX11_standsNow 26 = .ok (.iload_n 3, 1) := by decide +kernel
theorem dX11_standsNow_27 : decode cX11_standsNow 27 = .ok (.iadd, 1) := by decide +kernel
theorem dX11_standsNow_28 : decode cX11_standsNow 28 = .ok (.aload_n 0, 1) := by decide +kernel
theorem dX11_standsNow_29 : decode cX11_standsNow 29 = .ok (.getfield 49, 3) := by decide +kernel
theorem dX11_standsNow_32 : decode cX11_standsNow 32 = .ok (.invokevirtual 216, 3) := by decide +kernel
theorem dX11_standsNow_35 : decode cX11_standsNow 35 = .ok (.iload_n 3, 1) := by decide +kernel
theorem dX11_standsNow_36 : decode cX11_standsNow 36 = .ok (.aload_n 0, 1) := by decide +kernel
theorem dX11_standsNow_37 : decode cX11_standsNow 37 = .ok (.getfield 49, 3) := by decide +kernel
theorem dX11_standsNow_40 : decode cX11_standsNow 40 = .ok (.getfield 219, 3) := by decide +kernel
theorem dX11_standsNow_43 : decode cX11_standsNow 43 = .ok (.invokevirtual 222, 3) := by decide +kernel
theorem dX11_standsNow_46 : decode cX11_standsNow 46 = .ok (.ireturn, 1) := by decide +kernel
theorem dX11_carry_0 : decode cX11_carry 0 = .ok (.aload_n 0, 1) := by decide +kernel
theorem dX11_carry_1 : decode cX11_carry 1 = .ok (.getfield 35, 3) := by decide +kernel
theorem dX11_carry_4 : decode cX11_carry 4 = .ok (.iload_n 1, 1) := by decide +kernel
theorem dX11_carry_5 : decode cX11_carry 5 = .ok (.invokevirtual 169, 3) := by decide +kernel
theorem dX11_carry_8 : decode cX11_carry 8 = .ok (.ifCond .ne 9, 3) := by decide +kernel
theorem dX11_carry_11 : decode cX11_carry 11 = .ok (.aload_n 0, 1) := by decide +kernel
theorem dX11_carry_12 : decode cX11_carry 12 = .ok (.iconst 0, 1) := by decide +kernel
theorem dX11_carry_13 : decode cX11_carry 13 = .ok (.invokevirtual 226, 3) := by decide +kernel
theorem dX11_carry_16 : decode cX11_carry 16 = .ok (.ireturn, 1) := by decide +kernel
theorem dX11_carry_17 : decode cX11_carry 17 = .ok (.aload_n 0, 1) := by decide +kernel
theorem dX11_carry_18 : decode cX11_carry 18 = .ok (.getfield 49, 3) := by decide +kernel
theorem dX11_carry_21 : decode cX11_carry 21 = .ok (.getfield 210, 3) := by decide +kernel
theorem dX11_carry_24 : decode cX11_carry 24 = .ok (.iload_n 1, 1) := by decide +kernel
theorem dX11_carry_25 : decode cX11_carry 25 = .ok (.if_icmp .eq 14, 3) := by decide +kernel
theorem dX11_carry_28 : decode cX11_carry 28 = .ok (.aload_n 0, 1) := by decide +kernel
theorem dX11_carry_29 : decode cX11_carry 29 = .ok (.getfield 49, 3) := by decide +kernel
theorem dX11_carry_32 : decode cX11_carry 32 = .ok (.iload_n 1, 1) := by decide +kernel
theorem dX11_carry_33 : decode cX11_carry 33 = .ok (.invokevirtual 188, 3) := by decide +kernel
theorem dX11_carry_36 : decode cX11_carry 36 = .ok (.ifCond .eq 9, 3) := by decide +kernel
theorem dX11_carry_39 : decode cX11_carry 39 = .ok (.aload_n 0, 1) := by decide +kernel
theorem dX11_carry_40 : decode cX11_carry 40 = .ok (.iconst 2, 1) := by decide +kernel
theorem dX11_carry_41 : decode cX11_carry 41 = .ok (.invokevirtual 226, 3) := by decide +kernel
theorem dX11_carry_44 : decode cX11_carry 44 = .ok (.ireturn, 1) := by decide +kernel
theorem dX11_carry_45 : decode cX11_carry 45 = .ok (.aload_n 0, 1) := by decide +kernel
theorem dX11_carry_46 : decode cX11_carry 46 = .ok (.getfield 65, 3) := by decide +kernel
theorem dX11_carry_49 : decode cX11_carry 49 = .ok (.invokevirtual 229, 3) := by decide +kernel
theorem dX11_carry_52 : decode cX11_carry 52 = .ok (.aload_n 0, 1) := by decide +kernel
theorem dX11_carry_53 : decode cX11_carry 53 = .ok (.getfield 65, 3) := by decide +kernel
theorem dX11_carry_56 : decode cX11_carry 56 = .ok (.iload_n 1, 1) := by decide +kernel
theorem dX11_carry_57 : decode cX11_carry 57 = .ok (.invokevirtual 232, 3) := by decide +kernel
theorem dX11_carry_60 : decode cX11_carry 60 = .ok (.ifCond .ne 9, 3) := by decide +kernel
theorem dX11_carry_63 : decode cX11_carry 63 = .ok (.aload_n 0, 1) := by decide +kernel
theorem dX11_carry_64 : decode cX11_carry 64 = .ok (.iconst 4, 1) := by decide +kernel
theorem dX11_carry_65 : decode cX11_carry 65 = .ok (.invokevirtual 226, 3) := by decide +kernel
theorem dX11_carry_68 : decode cX11_carry 68 = .ok (.ireturn, 1) := by decide +kernel
theorem dX11_carry_69 : decode cX11_carry 69 = .ok (.aload_n 0, 1) := by decide +kernel
theorem dX11_carry_70 : decode cX11_carry 70 = .ok (.getfield 56, 3) := by decide +kernel
theorem dX11_carry_73 : decode cX11_carry 73 = .ok (.aload_n 0, 1) := by decide +kernel
theorem dX11_carry_74 : decode cX11_carry 74 = .ok (.getfield 49, 3) := by decide +kernel
theorem dX11_carry_77 : decode cX11_carry 77 = .ok (.invokevirtual 235, 3) := by decide +kernel
theorem dX11_carry_80 : decode cX11_carry 80 = .ok (.aload_n 0, 1) := by decide +kernel
theorem dX11_carry_81 : decode cX11_carry 81 = .ok (.iload_n 1, 1) := by decide +kernel
theorem dX11_carry_82 : decode cX11_carry 82 = .ok (.invokevirtual 239, 3) := by decide +kernel
theorem dX11_carry_85 : decode cX11_carry 85 = .ok (.ireturn, 1) := by decide +kernel
theorem dX11_arrived_0 : decode cX11_arrived 0 = .ok (.aload_n 0, 1) := by decide +kernel
theorem dX11_arrived_1 : decode cX11_arrived 1 = .ok (.getfield 65, 3) := by decide +kernel
theorem dX11_arrived_4 : decode cX11_arrived 4 = .ok (.getfield 242, 3) := by decide +kernel
theorem dX11_arrived_7 : decode cX11_arrived 7 = .ok (.istore_n 2, 1) := by decide +kernel
theorem dX11_arrived_8 : decode cX11_arrived 8 = .ok (.aload_n 0, 1) := by decide +kernel
theorem dX11_arrived_9 : decode cX11_arrived 9 = .ok (.getfield 49, 3) := by decide +kernel
theorem dX11_arrived_12 : decode cX11_arrived 12 = .ok (.aload_n 0, 1) := by decide +kernel
theorem dX11_arrived_13 : decode cX11_arrived 13 = .ok (.getfield 65, 3) := by decide +kernel
theorem dX11_arrived_16 : decode cX11_arrived 16 = .ok (.getfield 245, 3) := by decide +kernel
theorem dX11_arrived_19 : decode cX11_arrived 19 = .ok (.putfield 213, 3) := by decide +kernel
theorem dX11_arrived_22 : decode cX11_arrived 22 = .ok (.aload_n 0, 1) := by decide +kernel
theorem dX11_arrived_23 : decode cX11_arrived 23 = .ok (.getfield 49, 3) := by decide +kernel
theorem dX11_arrived_26 : decode cX11_arrived 26 = .ok (.aload_n 0, 1) := by decide +kernel
theorem dX11_arrived_27 : decode cX11_arrived 27 = .ok (.getfield 65, 3) := by decide +kernel
theorem dX11_arrived_30 : decode cX11_arrived 30 = .ok (.getfield 246, 3) := by decide +kernel
theorem dX11_arrived_33 : decode cX11_arrived 33 = .ok (.putfield 249, 3) := by decide +kernel
theorem dX11_arrived_36 : decode cX11_arrived 36 = .ok (.aload_n 0, 1) := by decide +kernel
theorem dX11_arrived_37 : decode cX11_arrived 37 = .ok (.getfield 49, 3) := by decide +kernel
theorem dX11_arrived_40 : decode cX11_arrived 40 = .ok (.aload_n 0, 1) := by decide +kernel
theorem dX11_arrived_41 : decode cX11_arrived 41 = .ok (.getfield 65, 3) := by decide +kernel
theorem dX11_arrived_44 : decode cX11_arrived 44 = .ok (.getfield 250, 3) := by decide +kernel
theorem dX11_arrived_47 : decode cX11_arrived 47 = .ok (.putfield 210, 3) := by decide +kernel
theorem dX11_arrived_50 : decode cX11_arrived 50 = .ok (.aload_n 0, 1) := by decide +kernel
theorem dX11_arrived_51 : decode cX11_arrived 51 = .ok (.getfield 49, 3) := by decide +kernel
theorem dX11_arrived_54 : decode cX11_arrived 54 = .ok (.aload_n 0, 1) := by decide +kernel
theorem dX11_arrived_55 : decode cX11_arrived 55 = .ok (.getfield 65, 3) := by decide +kernel
theorem dX11_arrived_58 : decode cX11_arrived 58 = .ok (.getfield 251, 3) := by decide +kernel
theorem dX11_arrived_61 : decode cX11_arrived 61 = .ok (.putfield 254, 3) := by decide +kernel
theorem dX11_arrived_64 : decode cX11_arrived 64 = .ok (.aload_n 0, 1) := by decide +kernel
theorem dX11_arrived_65 : decode cX11_arrived 65 = .ok (.getfield 49, 3) := by decide +kernel
theorem dX11_arrived_68 : decode cX11_arrived 68 = .ok (.iload_n 1, 1) := by decide +kernel
theorem dX11_arrived_69 : decode cX11_arrived 69 = .ok (.aload_n 0, 1) := by decide +kernel
theorem dX11_arrived_70 : decode cX11_arrived 70 = .ok (.getfield 49, 3) := by decide +kernel
theorem dX11_arrived_73 : decode cX11_arrived 73 = .ok (.iload_n 1, 1) := by decide +kernel
theorem dX11_arrived_74 : decode cX11_arrived 74 = .ok (.invokevirtual 182, 3) := by decide +kernel
theorem dX11_arrived_77 : decode cX11_arrived 77 = .ok (.iload_n 2, 1) := by decide +kernel
theorem dX11_arrived_78 : decode cX11_arrived 78 = .ok (.isub, 1) := by decide +kernel
theorem dX11_arrived_79 : decode cX11_arrived 79 = .ok (.invokevirtual 255, 3) := by decide +kernel
theorem dX11_arrived_82 : decode cX11_arrived 82 = .ok (.aload_n 0, 1) := by decide +kernel
theorem dX11_arrived_83 : decode cX11_arrived 83 = .ok (.getfield 49, 3) := by decide +kernel
theorem dX11_arrived_86 : decode cX11_arrived 86 = .ok (.dup, 1) := by decide +kernel
theorem dX11_arrived_87 : decode cX11_arrived 87 = .ok (.getfield 259, 3) := by decide +kernel
theorem dX11_arrived_90 : decode cX11_arrived 90 = .ok (.iload_n 2, 1) := by decide +kernel
theorem dX11_arrived_91 : decode cX11_arrived 91 = .ok (.iadd, 1) := by decide +kernel
theorem dX11_arrived_92 : decode cX11_arrived 92 = .ok (.putfield 259, 3) := by decide +kernel
theorem dX11_arrived_95 : decode cX11_arrived 95 = .ok (.aload_n 0, 1) := by decide +kernel
theorem dX11_arrived_96 : decode cX11_arrived 96 = .ok (.getfield 56, 3) := by decide +kernel
theorem dX11_arrived_99 : decode cX11_arrived 99 = .ok (.aload_n 0, 1) := by decide +kernel
theorem dX11_arrived_100 : decode cX11_arrived 100 = .ok (.getfield 49, 3) := by decide +kernel
theorem dX11_arrived_103 : decode cX11_arrived 103 = .ok (.iload_n 1, 1) := by decide +kernel
theorem dX11_arrived_104 : decode cX11_arrived 104 = .ok (.aload_n 0, 1) := by decide +kernel
theorem dX11_arrived_105 : decode cX11_arrived 105 = .ok (.getfield 65, 3) := by decide +kernel
theorem dX11_arrived_108 : decode cX11_arrived 108 = .ok (.getfield 262, 3) := by decide +kernel
theorem dX11_arrived_111 : decode cX11_arrived 111 = .ok (.iload_n 2, 1) := by decide +kernel
theorem dX11_arrived_112 : decode cX11_arrived 112 = .ok (.invokevirtual 265, 3) := by decide +kernel
theorem dX11_arrived_115 : decode cX11_arrived 115 = .ok (.iload_n 2, 1) := by decide +kernel
theorem dX11_arrived_116 : decode cX11_arrived 116 = .ok (.ireturn, 1) := by decide +kernel
theorem dX11_rest_0 : decode cX11_rest 0 = .ok (.aload_n 0, 1) := by decide +kernel
theorem dX11_rest_1 : decode cX11_rest 1 = .ok (.getfield 35, 3) := by decide +kernel
theorem dX11_rest_4 : decode cX11_rest 4 = .ok (.invokevirtual 154, 3) := by decide +kernel
theorem dX11_rest_7 : decode cX11_rest 7 = .ok (.ifCond .ne 9, 3) := by decide +kernel
theorem dX11_rest_10 : decode cX11_rest 10 = .ok (.aload_n 0, 1) := by decide +kernel
theorem dX11_rest_11 : decode cX11_rest 11 = .ok (.iconst 0, 1) := by decide +kernel
theorem dX11_rest_12 : decode cX11_rest 12 = .ok (.invokevirtual 226, 3) := by decide +kernel
theorem dX11_rest_15 : decode cX11_rest 15 = .ok (.ireturn, 1) := by decide +kernel
theorem dX11_rest_16 : decode cX11_rest 16 = .ok (.aload_n 0, 1) := by decide +kernel
theorem dX11_rest_17 : decode cX11_rest 17 = .ok (.getfield 49, 3) := by decide +kernel
theorem dX11_rest_20 : decode cX11_rest 20 = .ok (.getfield 249, 3) := by decide +kernel
theorem dX11_rest_23 : decode cX11_rest 23 = .ok (.ifCond .ne 9, 3) := by decide +kernel
theorem dX11_rest_26 : decode cX11_rest 26 = .ok (.aload_n 0, 1) := by decide +kernel
theorem dX11_rest_27 : decode cX11_rest 27 = .ok (.iconst 2, 1) := by decide +kernel
theorem dX11_rest_28 : decode cX11_rest 28 = .ok (.invokevirtual 226, 3) := by decide +kernel
theorem dX11_rest_31 : decode cX11_rest 31 = .ok (.ireturn, 1) := by decide +kernel
theorem dX11_rest_32 : decode cX11_rest 32 = .ok (.aload_n 0, 1) := by decide +kernel
theorem dX11_rest_33 : decode cX11_rest 33 = .ok (.getfield 49, 3) := by decide +kernel
theorem dX11_rest_36 : decode cX11_rest 36 = .ok (.getfield 213, 3) := by decide +kernel
theorem dX11_rest_39 : decode cX11_rest 39 = .ok (.iconst 5, 1) := by decide +kernel
theorem dX11_rest_40 : decode cX11_rest 40 = .ok (.iadd, 1) := by decide +kernel
theorem dX11_rest_41 : decode cX11_rest 41 = .ok (.aload_n 0, 1) := by decide +kernel
theorem dX11_rest_42 : decode cX11_rest 42 = .ok (.getfield 35, 3) := by decide +kernel
theorem dX11_rest_45 : decode cX11_rest 45 = .ok (.invokevirtual 157, 3) := by decide +kernel
theorem dX11_rest_48 : decode cX11_rest 48 = .ok (.if_icmp .le 9, 3) := by decide +kernel
theorem dX11_rest_51 : decode cX11_rest 51 = .ok (.aload_n 0, 1) := by decide +kernel
theorem dX11_rest_52 : decode cX11_rest 52 = .ok (.iconst 4, 1) := by decide +kernel
theorem dX11_rest_53 : decode cX11_rest 53 = .ok (.invokevirtual 226, 3) := by decide +kernel
theorem dX11_rest_56 : decode cX11_rest 56 = .ok (.ireturn, 1) := by decide +kernel
theorem dX11_rest_57 : decode cX11_rest 57 = .ok (.aload_n 0, 1) := by decide +kernel
theorem dX11_rest_58 : decode cX11_rest 58 = .ok (.getfield 56, 3) := by decide +kernel
theorem dX11_rest_61 : decode cX11_rest 61 = .ok (.aload_n 0, 1) := by decide +kernel
theorem dX11_rest_62 : decode cX11_rest 62 = .ok (.getfield 49, 3) := by decide +kernel
theorem dX11_rest_65 : decode cX11_rest 65 = .ok (.invokevirtual 235, 3) := by decide +kernel
theorem dX11_rest_68 : decode cX11_rest 68 = .ok (.aload_n 0, 1) := by decide +kernel
theorem dX11_rest_69 : decode cX11_rest 69 = .ok (.getfield 49, 3) := by decide +kernel
theorem dX11_rest_72 : decode cX11_rest 72 = .ok (.dup, 1) := by decide +kernel
theorem dX11_rest_73 : decode cX11_rest 73 = .ok (.getfield 213, 3) := by decide +kernel
theorem dX11_rest_76 : decode cX11_rest 76 = .ok (.iconst 5, 1) := by decide +kernel
theorem dX11_rest_77 : decode cX11_rest 77 = .ok (.iadd, 1) := by decide +kernel
theorem dX11_rest_78 : decode cX11_rest 78 = .ok (.putfield 213, 3) := by decide +kernel
theorem dX11_rest_81 : decode cX11_rest 81 = .ok (.aload_n 0, 1) := by decide +kernel
theorem dX11_rest_82 : decode cX11_rest 82 = .ok (.getfield 49, 3) := by decide +kernel
theorem dX11_rest_85 : decode cX11_rest 85 = .ok (.iconst 0, 1) := by decide +kernel
theorem dX11_rest_86 : decode cX11_rest 86 = .ok (.aload_n 0, 1) := by decide +kernel
theorem dX11_rest_87 : decode cX11_rest 87 = .ok (.getfield 49, 3) := by decide +kernel
theorem dX11_rest_90 : decode cX11_rest 90 = .ok (.getfield 249, 3) := by decide +kernel
theorem dX11_rest_93 : decode cX11_rest 93 = .ok (.bipush 10, 2) := by decide +kernel
theorem dX11_rest_95 : decode cX11_rest 95 = .ok (.isub, 1) := by decide +kernel
theorem dX11_rest_96 : decode cX11_rest 96 = .ok (.invokestatic 269, 3) := by decide +kernel
theorem dX11_rest_99 : decode cX11_rest 99 = .ok (.putfield 249, 3) := by decide +kernel
theorem dX11_rest_102 : decode cX11_rest 102 = .ok (.aload_n 0, 1) := by decide +kernel
theorem dX11_rest_103 : decode cX11_rest 103 = .ok (.getfield 49, 3) := by decide +kernel
theorem dX11_rest_106 : decode cX11_rest 106 = .ok (.getfield 249, 3) := by decide +kernel
theorem dX11_rest_109 : decode cX11_rest 109 = .ok (.ireturn, 1) := by decide +kernel
theorem dX11_gift_0 : decode cX11_gift 0 = .ok (.aload_n 0, 1) := by decide +kernel
theorem dX11_gift_1 : decode cX11_gift 1 = .ok (.getfield 35, 3) := by decide +kernel
theorem dX11_gift_4 : decode cX11_gift 4 = .ok (.iload_n 1, 1) := by decide +kernel
theorem dX11_gift_5 : decode cX11_gift 5 = .ok (.invokevirtual 169, 3) := by decide +kernel
theorem dX11_gift_8 : decode cX11_gift 8 = .ok (.ifCond .ne 9, 3) := by decide +kernel
theorem dX11_gift_11 : decode cX11_gift 11 = .ok (.aload_n 0, 1) := by decide +kernel
theorem dX11_gift_12 : decode cX11_gift 12 = .ok (.iconst 0, 1) := by decide +kernel
theorem dX11_gift_13 : decode cX11_gift 13 = .ok (.invokevirtual 226, 3) := by decide +kernel
theorem dX11_gift_16 : decode cX11_gift 16 = .ok (.ireturn, 1) := by decide +kernel
theorem dX11_gift_17 : decode cX11_gift 17 = .ok (.iload_n 2, 1) := by decide +kernel
theorem dX11_gift_18 : decode cX11_gift 18 = .ok (.iconst 1, 1) := by decide +kernel
theorem dX11_gift_19 : decode cX11_gift 19 = .ok (.if_icmp .lt 21, 3) := by decide +kernel
theorem dX11_gift_22 : decode cX11_gift 22 = .ok (.iload_n 2, 1) := by decide +kernel
theorem dX11_gift_23 : decode cX11_gift 23 = .ok (.bipush 30, 2) := by decide +kernel
theorem dX11_gift_25 : decode cX11_gift 25 = .ok (.if_icmp .gt 15, 3) := by decide +kernel
theorem dX11_gift_28 : decode cX11_gift 28 = .ok (.iload_n 2, 1) := by decide +kernel
theorem dX11_gift_29 : decode cX11_gift 29 = .ok (.aload_n 0, 1) := by decide +kernel
theorem dX11_gift_30 : decode cX11_gift 30 = .ok (.getfield 49, 3) := by decide +kernel
theorem dX11_gift_33 : decode cX11_gift 33 = .ok (.iload_n 1, 1) := by decide +kernel
theorem dX11_gift_34 : decode cX11_gift 34 = .ok (.invokevirtual 182, 3) := by decide +kernel
theorem dX11_gift_37 : decode cX11_gift 37 = .ok (.if_icmp .le 9, 3) := by decide +kernel
theorem dX11_gift_40 : decode cX11_gift 40 = .ok (.aload_n 0, 1) := by decide +kernel
theorem dX11_gift_41 : decode cX11_gift 41 = .ok (.iconst 1, 1) := by decide +kernel
theorem dX11_gift_42 : decode cX11_gift 42 = .ok (.invokevirtual 226, 3) := by decide +kernel
theorem dX11_gift_45 : decode cX11_gift 45 = .ok (.ireturn, 1) := by decide +kernel
theorem dX11_gift_46 : decode cX11_gift 46 = .ok (.iload_n 2, 1) := by decide +kernel
theorem dX11_gift_47 : decode cX11_gift 47 = .ok (.aload_n 0, 1) := by decide +kernel
theorem dX11_gift_48 : decode cX11_gift 48 = .ok (.getfield 49, 3) := by decide +kernel
theorem dX11_gift_51 : decode cX11_gift 51 = .ok (.getfield 160, 3) := by decide +kernel
theorem dX11_gift_54 : decode cX11_gift 54 = .ok (.if_icmp .le 9, 3) := by decide +kernel
theorem dX11_gift_57 : decode cX11_gift 57 = .ok (.aload_n 0, 1) := by decide +kernel
theorem dX11_gift_58 : decode cX11_gift 58 = .ok (.iconst 3, 1) := by decide +kernel
theorem dX11_gift_59 : decode cX11_gift 59 = .ok (.invokevirtual 226, 3) := by decide +kernel
theorem dX11_gift_62 : decode cX11_gift 62 = .ok (.ireturn, 1) := by decide +kernel
theorem dX11_gift_63 : decode cX11_gift 63 = .ok (.aload_n 0, 1) := by decide +kernel
theorem dX11_gift_64 : decode cX11_gift 64 = .ok (.getfield 56, 3) := by decide +kernel
theorem dX11_gift_67 : decode cX11_gift 67 = .ok (.aload_n 0, 1) := by decide +kernel
theorem dX11_gift_68 : decode cX11_gift 68 = .ok (.getfield 49, 3) := by decide +kernel
theorem dX11_gift_71 : decode cX11_gift 71 = .ok (.invokevirtual 235, 3) := by decide +kernel
theorem dX11_gift_74 : decode cX11_gift 74 = .ok (.aload_n 0, 1) := by decide +kernel
theorem dX11_gift_75 : decode cX11_gift 75 = .ok (.getfield 49, 3) := by decide +kernel
theorem dX11_gift_78 : decode cX11_gift 78 = .ok (.dup, 1) := by decide +kernel
theorem dX11_gift_79 : decode cX11_gift 79 = .ok (.getfield 160, 3) := by decide +kernel
theorem dX11_gift_82 : decode cX11_gift 82 = .ok (.iload_n 2, 1) := by decide +kernel
theorem dX11_gift_83 : decode cX11_gift 83 = .ok (.isub, 1) := by decide +kernel
theorem dX11_gift_84 : decode cX11_gift 84 = .ok (.putfield 160, 3) := by decide +kernel
theorem dX11_gift_87 : decode cX11_gift 87 = .ok (.aload_n 0, 1) := by decide +kernel
theorem dX11_gift_88 : decode cX11_gift 88 = .ok (.getfield 49, 3) := by decide +kernel
theorem dX11_gift_91 : decode cX11_gift 91 = .ok (.iload_n 1, 1) := by decide +kernel
theorem dX11_gift_92 : decode cX11_gift 92 = .ok (.aload_n 0, 1) := by decide +kernel
theorem dX11_gift_93 : decode cX11_gift 93 = .ok (.getfield 49, 3) := by decide +kernel
theorem dX11_gift_96 : decode cX11_gift 96 = .ok (.iload_n 1, 1) := by decide +kernel
theorem dX11_gift_97 : decode cX11_gift 97 = .ok (.invokevirtual 182, 3) := by decide +kernel
theorem dX11_gift_100 : decode cX11_gift 100 = .ok (.iload_n 2, 1) := by decide +kernel
theorem dX11_gift_101 : decode cX11_gift 101 = .ok (.isub, 1) := by decide +kernel
theorem dX11_gift_102 : decode cX11_gift 102 = .ok (.invokevirtual 255, 3) := by decide +kernel
theorem dX11_gift_105 : decode cX11_gift 105 = .ok (.aload_n 0, 1) := by decide +kernel
theorem dX11_gift_106 : decode cX11_gift 106 = .ok (.getfield 49, 3) := by decide +kernel
theorem dX11_gift_109 : decode cX11_gift 109 = .ok (.iload_n 1, 1) := by decide +kernel
theorem dX11_gift_110 : decode cX11_gift 110 = .ok (.invokevirtual 182, 3) := by decide +kernel
theorem dX11_gift_113 : decode cX11_gift 113 = .ok (.ireturn, 1) := by decide +kernel
theorem dX11_give_0 : decode cX11_give 0 = .ok (.aload_n 0, 1) := by decide +kernel
theorem dX11_give_1 : decode cX11_give 1 = .ok (.getfield 35, 3) := by decide +kernel
theorem dX11_give_4 : decode cX11_give 4 = .ok (.invokevirtual 154, 3) := by decide +kernel
theorem dX11_give_7 : decode cX11_give 7 = .ok (.ifCond .ne 9, 3) := by decide +kernel
theorem dX11_give_10 : decode cX11_give 10 = .ok (.aload_n 0, 1) := by decide +kernel
theorem dX11_give_11 : decode cX11_give 11 = .ok (.iconst 0, 1) := by decide +kernel
theorem dX11_give_12 : decode cX11_give 12 = .ok (.invokevirtual 226, 3) := by decide +kernel
theorem dX11_give_15 : decode cX11_give 15 = .ok (.ireturn, 1) := by decide +kernel
theorem dX11_give_16 : decode cX11_give 16 = .ok (.iload_n 1, 1) := by decide +kernel
theorem dX11_give_17 : decode cX11_give 17 = .ok (.iconst 1, 1) := by decide +kernel
theorem dX11_give_18 : decode cX11_give 18 = .ok (.if_icmp .lt 24, 3) := by decide +kernel
theorem dX11_give_21 : decode cX11_give 21 = .ok (.iload_n 1, 1) := by decide +kernel
theorem dX11_give_22 : decode cX11_give 22 = .ok (.bipush 50, 2) := by decide +kernel
theorem dX11_give_24 : decode cX11_give 24 = .ok (.if_icmp .gt 18, 3) := by decide +kernel
theorem dX11_give_27 : decode cX11_give 27 = .ok (.iload_n 1, 1) := by decide +kernel
theorem dX11_give_28 : decode cX11_give 28 = .ok (.sipush 999, 3) := by decide +kernel
theorem dX11_give_31 : decode cX11_give 31 = .ok (.aload_n 0, 1) := by decide +kernel
theorem dX11_give_32 : decode cX11_give 32 = .ok (.getfield 49, 3) := by decide +kernel
theorem dX11_give_35 : decode cX11_give 35 = .ok (.getfield 160, 3) := by decide +kernel
theorem dX11_give_38 : decode cX11_give 38 = .ok (.isub, 1) := by decide +kernel
theorem dX11_give_39 : decode cX11_give 39 = .ok (.if_icmp .le 9, 3) := by decide +kernel
theorem dX11_give_42 : decode cX11_give 42 = .ok (.aload_n 0, 1) := by decide +kernel
theorem dX11_give_43 : decode cX11_give 43 = .ok (.iconst 1, 1) := by decide +kernel
theorem dX11_give_44 : decode cX11_give 44 = .ok (.invokevirtual 226, 3) := by decide +kernel
theorem dX11_give_47 : decode cX11_give 47 = .ok (.ireturn, 1) := by decide +kernel
theorem dX11_give_48 : decode cX11_give 48 = .ok (.aload_n 0, 1) := by decide +kernel
theorem dX11_give_49 : decode cX11_give 49 = .ok (.getfield 56, 3) := by decide +kernel
theorem dX11_give_52 : decode cX11_give 52 = .ok (.aload_n 0, 1) := by decide +kernel
theorem dX11_give_53 : decode cX11_give 53 = .ok (.getfield 49, 3) := by decide +kernel
theorem dX11_give_56 : decode cX11_give 56 = .ok (.invokevirtual 235, 3) := by decide +kernel
theorem dX11_give_59 : decode cX11_give 59 = .ok (.aload_n 0, 1) := by decide +kernel
theorem dX11_give_60 : decode cX11_give 60 = .ok (.getfield 49, 3) := by decide +kernel
theorem dX11_give_63 : decode cX11_give 63 = .ok (.dup, 1) := by decide +kernel
theorem dX11_give_64 : decode cX11_give 64 = .ok (.getfield 160, 3) := by decide +kernel
theorem dX11_give_67 : decode cX11_give 67 = .ok (.iload_n 1, 1) := by decide +kernel
theorem dX11_give_68 : decode cX11_give 68 = .ok (.iadd, 1) := by decide +kernel
theorem dX11_give_69 : decode cX11_give 69 = .ok (.putfield 160, 3) := by decide +kernel
theorem dX11_give_72 : decode cX11_give 72 = .ok (.aload_n 0, 1) := by decide +kernel
theorem dX11_give_73 : decode cX11_give 73 = .ok (.getfield 49, 3) := by decide +kernel
theorem dX11_give_76 : decode cX11_give 76 = .ok (.getfield 160, 3) := by decide +kernel
theorem dX11_give_79 : decode cX11_give 79 = .ok (.ireturn, 1) := by decide +kernel
theorem dX11_year_0 : decode cX11_year 0 = .ok (.aload_n 0, 1) := by decide +kernel
theorem dX11_year_1 : decode cX11_year 1 = .ok (.getfield 35, 3) := by decide +kernel
theorem dX11_year_4 : decode cX11_year 4 = .ok (.invokevirtual 154, 3) := by decide +kernel
theorem dX11_year_7 : decode cX11_year 7 = .ok (.ifCond .ne 9, 3) := by decide +kernel
theorem dX11_year_10 : decode cX11_year 10 = .ok (.aload_n 0, 1) := by decide +kernel
theorem dX11_year_11 : decode cX11_year 11 = .ok (.iconst 0, 1) := by decide +kernel
theorem dX11_year_12 : decode cX11_year 12 = .ok (.invokevirtual 226, 3) := by decide +kernel
theorem dX11_year_15 : decode cX11_year 15 = .ok (.ireturn, 1) := by decide +kernel
theorem dX11_year_16 : decode cX11_year 16 = .ok (.aload_n 0, 1) := by decide +kernel
theorem dX11_year_17 : decode cX11_year 17 = .ok (.getfield 49, 3) := by decide +kernel
theorem dX11_year_20 : decode cX11_year 20 = .ok (.getfield 219, 3) := by decide +kernel
theorem dX11_year_23 : decode cX11_year 23 = .ok (.sipush 999, 3) := by decide +kernel
theorem dX11_year_26 : decode cX11_year 26 = .ok (.if_icmp .lt 9, 3) := by decide +kernel
theorem dX11_year_29 : decode cX11_year 29 = .ok (.aload_n 0, 1) := by decide +kernel
theorem dX11_year_30 : decode cX11_year 30 = .ok (.iconst 4, 1) := by decide +kernel
theorem dX11_year_31 : decode cX11_year 31 = .ok (.invokevirtual 226, 3) := by decide +kernel
theorem dX11_year_34 : decode cX11_year 34 = .ok (.ireturn, 1) := by decide +kernel
theorem dX11_year_35 : decode cX11_year 35 = .ok (.aload_n 0, 1) := by decide +kernel
theorem dX11_year_36 : decode cX11_year 36 = .ok (.getfield 56, 3) := by decide +kernel
theorem dX11_year_39 : decode cX11_year 39 = .ok (.aload_n 0, 1) := by decide +kernel
theorem dX11_year_40 : decode cX11_year 40 = .ok (.getfield 49, 3) := by decide +kernel
theorem dX11_year_43 : decode cX11_year 43 = .ok (.invokevirtual 235, 3) := by decide +kernel
theorem dX11_year_46 : decode cX11_year 46 = .ok (.aload_n 0, 1) := by decide +kernel
theorem dX11_year_47 : decode cX11_year 47 = .ok (.invokevirtual 274, 3) := by decide +kernel
theorem dX11_year_50 : decode cX11_year 50 = .ok (.aload_n 0, 1) := by decide +kernel
theorem dX11_year_51 : decode cX11_year 51 = .ok (.getfield 49, 3) := by decide +kernel
theorem dX11_year_54 : decode cX11_year 54 = .ok (.getfield 219, 3) := by decide +kernel
theorem dX11_year_57 : decode cX11_year 57 = .ok (.ireturn, 1) := by decide +kernel
theorem dX11_goBy_0 : decode cX11_goBy 0 = .ok (.aload_n 0, 1) := by decide +kernel
theorem dX11_goBy_1 : decode cX11_goBy 1 = .ok (.getfield 49, 3) := by decide +kernel
theorem dX11_goBy_4 : decode cX11_goBy 4 = .ok (.dup, 1) := by decide +kernel
theorem dX11_goBy_5 : decode cX11_goBy 5 = .ok (.getfield 219, 3) := by decide +kernel
theorem dX11_goBy_8 : decode cX11_goBy 8 = .ok (.iconst 1, 1) := by decide +kernel
theorem dX11_goBy_9 : decode cX11_goBy 9 = .ok (.iadd, 1) := by decide +kernel
theorem dX11_goBy_10 : decode cX11_goBy 10 = .ok (.putfield 219, 3) := by decide +kernel
theorem dX11_goBy_13 : decode cX11_goBy 13 = .ok (.aload_n 0, 1) := by decide +kernel
theorem dX11_goBy_14 : decode cX11_goBy 14 = .ok (.getfield 49, 3) := by decide +kernel
theorem dX11_goBy_17 : decode cX11_goBy 17 = .ok (.invokevirtual 277, 3) := by decide +kernel
theorem dX11_goBy_20 : decode cX11_goBy 20 = .ok (.iconst 0, 1) := by decide +kernel
theorem dX11_goBy_21 : decode cX11_goBy 21 = .ok (.istore_n 1, 1) := by decide +kernel
theorem dX11_goBy_22 : decode cX11_goBy 22 = .ok (.iload_n 1, 1) := by decide +kernel
theorem dX11_goBy_23 : decode cX11_goBy 23 = .ok (.aload_n 0, 1) := by decide +kernel
theorem dX11_goBy_24 : decode cX11_goBy 24 = .ok (.getfield 35, 3) := by decide +kernel
theorem dX11_goBy_27 : decode cX11_goBy 27 = .ok (.invokevirtual 151, 3) := by decide +kernel
theorem dX11_goBy_30 : decode cX11_goBy 30 = .ok (.if_icmp .ge 23, 3) := by decide +kernel
theorem dX11_goBy_33 : decode cX11_goBy 33 = .ok (.aload_n 0, 1) := by decide +kernel
theorem dX11_goBy_34 : decode cX11_goBy 34 = .ok (.getfield 49, 3) := by decide +kernel
theorem dX11_goBy_37 : decode cX11_goBy 37 = .ok (.iload_n 1, 1) := by decide +kernel
theorem dX11_goBy_38 : decode cX11_goBy 38 = .ok (.aload_n 0, 1) := by decide +kernel
theorem dX11_goBy_39 : decode cX11_goBy 39 = .ok (.iload_n 1, 1) := by decide +kernel
theorem dX11_goBy_40 : decode cX11_goBy 40 = .ok (.iconst 1, 1) := by decide +kernel
theorem dX11_goBy_41 : decode cX11_goBy 41 = .ok (.invokevirtual 280, 3) := by decide +kernel
theorem dX11_goBy_44 : decode cX11_goBy 44 = .ok (.invokevirtual 255, 3) := by decide +kernel
theorem dX11_goBy_47 : decode cX11_goBy 47 = .ok (.iinc 1 1, 3) := by decide +kernel
theorem dX11_goBy_50 : decode cX11_goBy 50 = .ok (.goto (-28), 3) := by decide +kernel
theorem dX11_goBy_53 : decode cX11_goBy 53 = .ok (.return_, 1) := by decide +kernel
theorem dX11_grown_0 : decode cX11_grown 0 = .ok (.aload_n 0, 1) := by decide +kernel
theorem dX11_grown_1 : decode cX11_grown 1 = .ok (.getfield 49, 3) := by decide +kernel
theorem dX11_grown_4 : decode cX11_grown 4 = .ok (.iload_n 1, 1) := by decide +kernel
theorem dX11_grown_5 : decode cX11_grown 5 = .ok (.invokevirtual 182, 3) := by decide +kernel
theorem dX11_grown_8 : decode cX11_grown 8 = .ok (.istore_n 3, 1) := by decide +kernel
theorem dX11_grown_9 : decode cX11_grown 9 = .ok (.aload_n 0, 1) := by decide +kernel
theorem dX11_grown_10 : decode cX11_grown 10 = .ok (.getfield 35, 3) := by decide +kernel
theorem dX11_grown_13 : decode cX11_grown 13 = .ok (.iload_n 1, 1) := by decide +kernel
theorem dX11_grown_14 : decode cX11_grown 14 = .ok (.invokevirtual 185, 3) := by decide +kernel
theorem dX11_grown_17 : decode cX11_grown 17 = .ok (.ifCond .eq 5, 3) := by decide +kernel
theorem dX11_grown_20 : decode cX11_grown 20 = .ok (.iload_n 3, 1) := by decide +kernel
theorem dX11_grown_21 : decode cX11_grown 21 = .ok (.ireturn, 1) := by decide +kernel
theorem dX11_grown_22 : decode cX11_grown 22 = .ok (.bipush 30, 2) := by decide +kernel
theorem dX11_grown_24 : decode cX11_grown 24 = .ok (.iload_n 3, 1) := by decide +kernel
theorem dX11_grown_25 : decode cX11_grown 25 = .ok (.iload_n 2, 1) := by decide +kernel
theorem dX11_grown_26 : decode cX11_grown 26 = .ok (.aload_n 0, 1) := by decide +kernel
theorem dX11_grown_27 : decode cX11_grown 27 = .ok (.getfield 35, 3) := by decide +kernel
theorem dX11_grown_30 : decode cX11_grown 30 = .ok (.invokevirtual 163, 3) := by decide +kernel
theorem dX11_grown_33 : decode cX11_grown 33 = .ok (.imul, 1) := by decide +kernel
theorem dX11_grown_34 : decode cX11_grown 34 = .ok (.iadd, 1) := by decide +kernel
theorem dX11_grown_35 : decode cX11_grown 35 = .ok (.invokestatic 283, 3) := by decide +kernel
theorem dX11_grown_38 : decode cX11_grown 38 = .ok (.ireturn, 1) := by decide +kernel
theorem dX11_refused_0 : decode cX11_refused 0 = .ok (.iload_n 1, 1) := by decide +kernel
theorem dX11_refused_1 : decode cX11_refused 1 = .ok (.ifCond .lt 22, 3) := by decide +kernel
theorem dX11_refused_4 : decode cX11_refused 4 = .ok (.iload_n 1, 1) := by decide +kernel
theorem dX11_refused_5 : decode cX11_refused 5 = .ok (.aload_n 0, 1) := by decide +kernel
theorem dX11_refused_6 : decode cX11_refused 6 = .ok (.getfield 83, 3) := by decide +kernel
theorem dX11_refused_9 : decode cX11_refused 9 = .ok (.arraylength, 1) := by decide +kernel
theorem dX11_refused_10 : decode cX11_refused 10 = .ok (.if_icmp .ge 13, 3) := by decide +kernel
theorem dX11_refused_13 : decode cX11_refused 13 = .ok (.aload_n 0, 1) := by decide +kernel
theorem dX11_refused_14 : decode cX11_refused 14 = .ok (.getfield 83, 3) := by decide +kernel
theorem dX11_refused_17 : decode cX11_refused 17 = .ok (.iload_n 1, 1) := by decide +kernel
theorem dX11_refused_18 : decode cX11_refused 18 = .ok (.dup2, 1) := by decide +kernel
theorem dX11_refused_19 : decode cX11_refused 19 = .ok (.iaload, 1) := by decide +kernel
theorem dX11_refused_20 : decode cX11_refused 20 = .ok (.iconst 1, 1) := by decide +kernel
theorem dX11_refused_21 : decode cX11_refused 21 = .ok (.iadd, 1) := by decide +kernel
theorem dX11_refused_22 : decode cX11_refused 22 = .ok (.iastore, 1) := by decide +kernel
theorem dX11_refused_23 : decode cX11_refused 23 = .ok (.iconst (-1), 1) := by decide +kernel
theorem dX11_refused_24 : decode cX11_refused 24 = .ok (.ireturn, 1) := by decide +kernel
theorem dX11_faith_0 : decode cX11_faith 0 = .ok (.iload_n 1, 1) := by decide +kernel
theorem dX11_faith_1 : decode cX11_faith 1 = .ok (.ifCond .lt 17, 3) := by decide +kernel
theorem dX11_faith_4 : decode cX11_faith 4 = .ok (.iload_n 1, 1) := by decide +kernel
theorem dX11_faith_5 : decode cX11_faith 5 = .ok (.bipush 9, 2) := by decide +kernel
theorem dX11_faith_7 : decode cX11_faith 7 = .ok (.if_icmp .gt 11, 3) := by decide +kernel
theorem dX11_faith_10 : decode cX11_faith 10 = .ok (.iload_n 1, 1) := by decide +kernel
theorem dX11_faith_11 : decode cX11_faith 11 = .ok (.aload_n 0, 1) := by decide +kernel
theorem dX11_faith_12 : decode cX11_faith 12 = .ok (.getfield 96, 3) := by decide +kernel
theorem dX11_faith_15 : decode cX11_faith 15 = .ok (.if_icmp .ne 5, 3) := by decide +kernel
theorem dX11_faith_18 : decode cX11_faith 18 = .ok (.iconst 0, 1) := by decide +kernel
theorem dX11_faith_19 : decode cX11_faith 19 = .ok (.ireturn, 1) := by decide +kernel
theorem dX11_faith_20 : decode cX11_faith 20 = .ok (.aload_n 0, 1) := by decide +kernel
theorem dX11_faith_21 : decode cX11_faith 21 = .ok (.iload_n 1, 1) := by decide +kernel
theorem dX11_faith_22 : decode cX11_faith 22 = .ok (.putfield 96, 3) := by decide +kernel
theorem dX11_faith_25 : decode cX11_faith 25 = .ok (.iconst 1, 1) := by decide +kernel
theorem dX11_faith_26 : decode cX11_faith 26 = .ok (.ireturn, 1) := by decide +kernel
theorem dX11_decades_0 : decode cX11_decades 0 = .ok (.aload_n 0, 1) := by decide +kernel
theorem dX11_decades_1 : decode cX11_decades 1 = .ok (.getfield 35, 3) := by decide +kernel
theorem dX11_decades_4 : decode cX11_decades 4 = .ok (.invokevirtual 154, 3) := by decide +kernel
theorem dX11_decades_7 : decode cX11_decades 7 = .ok (.ifCond .eq 14, 3) := by decide +kernel
theorem dX11_decades_10 : decode cX11_decades 10 = .ok (.iload_n 1, 1) := by decide +kernel
theorem dX11_decades_11 : decode cX11_decades 11 = .ok (.iconst 1, 1) := by decide +kernel
theorem dX11_decades_12 : decode cX11_decades 12 = .ok (.if_icmp .lt 9, 3) := by decide +kernel
theorem dX11_decades_15 : decode cX11_decades 15 = .ok (.iload_n 1, 1) := by decide +kernel
theorem dX11_decades_16 : decode cX11_decades 16 = .ok (.bipush 60, 2) := by decide +kernel
theorem dX11_decades_18 : decode cX11_decades 18 = .ok (.if_icmp .le 5, 3) := by decide +kernel
theorem dX11_decades_21 : decode cX11_decades 21 = .ok (.iconst (-1), 1) := by decide +kernel
theorem dX11_decades_22 : decode cX11_decades 22 = .ok (.ireturn, 1) := by decide +kernel
theorem dX11_decades_23 : decode cX11_decades 23 = .ok (.aload_n 0, 1) := by decide +kernel
theorem dX11_decades_24 : decode cX11_decades 24 = .ok (.lload_n 2, 1) := by decide +kernel
theorem dX11_decades_25 : decode cX11_decades 25 = .ok (.putfield 286, 3) := by decide +kernel
theorem dX11_decades_28 : decode cX11_decades 28 = .ok (.iconst 0, 1) := by decide +kernel
theorem dX11_decades_29 : decode cX11_decades 29 = .ok (.istore 4, 2) := by decide +kernel
theorem dX11_decades_31 : decode cX11_decades 31 = .ok (.iconst 0, 1) := by decide +kernel
theorem dX11_decades_32 : decode cX11_decades 32 = .ok (.istore 5, 2) := by decide +kernel
theorem dX11_decades_34 : decode cX11_decades 34 = .ok (.iload 5, 2) := by decide +kernel
theorem dX11_decades_36 : decode cX11_decades 36 = .ok (.iload_n 1, 1) := by decide +kernel
theorem dX11_decades_37 : decode cX11_decades 37 = .ok (.if_icmp .ge 73, 3) := by decide +kernel
theorem dX11_decades_40 : decode cX11_decades 40 = .ok (.aload_n 0, 1) := by decide +kernel
theorem dX11_decades_41 : decode cX11_decades 41 = .ok (.getfield 56, 3) := by decide +kernel
theorem dX11_decades_44 : decode cX11_decades 44 = .ok (.aload_n 0, 1) := by decide +kernel
theorem dX11_decades_45 : decode cX11_decades 45 = .ok (.getfield 49, 3) := by decide +kernel
theorem dX11_decades_48 : decode cX11_decades 48 = .ok (.invokevirtual 235, 3) := by decide +kernel
theorem dX11_decades_51 : decode cX11_decades 51 = .ok (.aload_n 0, 1) := by decide +kernel
theorem dX11_decades_52 : decode cX11_decades 52 = .ok (.bipush 10, 2) := by decide +kernel
theorem dX11_decades_54 : decode cX11_decades 54 = .ok (.invokevirtual 290, 3) := by decide +kernel
theorem dX11_decades_57 : decode cX11_decades 57 = .ok (.aload_n 0, 1) := by decide +kernel
theorem dX11_decades_58 : decode cX11_decades 58 = .ok (.getfield 96, 3) := by decide +kernel
theorem dX11_decades_61 : decode cX11_decades 61 = .ok (.if_icmp .ge 26, 3) := by decide +kernel
theorem dX11_decades_64 : decode cX11_decades 64 = .ok (.iload 4, 2) := by decide +kernel
theorem dX11_decades_66 : decode cX11_decades 66 = .ok (.aload_n 0, 1) := by decide +kernel
theorem dX11_decades_67 : decode cX11_decades 67 = .ok (.aload_n 0, 1) := by decide +kernel
theorem dX11_decades_68 : decode cX11_decades 68 = .ok (.aload_n 0, 1) := by decide +kernel
theorem dX11_decades_69 : decode cX11_decades 69 = .ok (.getfield 35, 3) := by decide +kernel
theorem dX11_decades_72 : decode cX11_decades 72 = .ok (.invokevirtual 151, 3) := by decide +kernel
theorem dX11_decades_75 : decode cX11_decades 75 = .ok (.invokevirtual 290, 3) := by decide +kernel
theorem dX11_decades_78 : decode cX11_decades 78 = .ok (.invokevirtual 293, 3) := by decide +kernel
theorem dX11_decades_81 : decode cX11_decades 81 = .ok (.iadd, 1) := by decide +kernel
theorem dX11_decades_82 : decode cX11_decades 82 = .ok (.istore 4, 2) := by decide +kernel
theorem dX11_decades_84 : decode cX11_decades 84 = .ok (.goto 20, 3) := by decide +kernel
theorem dX11_decades_87 : decode cX11_decades 87 = .ok (.aload_n 0, 1) := by decide +kernel
theorem dX11_decades_88 : decode cX11_decades 88 = .ok (.getfield 49, 3) := by decide +kernel
theorem dX11_decades_91 : decode cX11_decades 91 = .ok (.getfield 219, 3) := by decide +kernel
theorem dX11_decades_94 : decode cX11_decades 94 = .ok (.sipush 999, 3) := by decide +kernel
theorem dX11_decades_97 : decode cX11_decades 97 = .ok (.if_icmp .ge 7, 3) := by decide +kernel
theorem dX11_decades_100 : decode cX11_decades 100 = .ok (.aload_n 0, 1) := by decide +kernel
theorem dX11_decades_101 : decode cX11_decades 101 = .ok (.invokevirtual 274, 3) := by decide +kernel
theorem dX11_decades_104 : decode cX11_decades 104 = .ok (.iinc 5 1, 3) := by decide +kernel
theorem dX11_decades_107 : decode cX11_decades 107 = .ok (.goto (-73), 3) := by decide +kernel
theorem dX11_decades_110 : decode cX11_decades 110 = .ok (.iload 4, 2) := by decide +kernel
theorem dX11_decades_112 : decode cX11_decades 112 = .ok (.ireturn, 1) := by decide +kernel
theorem dX11_triedDoor_0 : decode cX11_triedDoor 0 = .ok (.aload_n 0, 1) := by decide +kernel
theorem dX11_triedDoor_1 : decode cX11_triedDoor 1 = .ok (.getfield 65, 3) := by decide +kernel
theorem dX11_triedDoor_4 : decode cX11_triedDoor 4 = .ok (.invokevirtual 229, 3) := by decide +kernel
theorem dX11_triedDoor_7 : decode cX11_triedDoor 7 = .ok (.aload_n 0, 1) := by decide +kernel
theorem dX11_triedDoor_8 : decode cX11_triedDoor 8 = .ok (.getfield 65, 3) := by decide +kernel
theorem dX11_triedDoor_11 : decode cX11_triedDoor 11 = .ok (.iload_n 1, 1) := by decide +kernel
theorem dX11_triedDoor_12 : decode cX11_triedDoor 12 = .ok (.invokevirtual 232, 3) := by decide +kernel
theorem dX11_triedDoor_15 : decode cX11_triedDoor 15 = .ok (.ifCond .ne 5, 3) := by decide +kernel
theorem dX11_triedDoor_18 : decode cX11_triedDoor 18 = .ok (.iconst 0, 1) := by decide +kernel
theorem dX11_triedDoor_19 : decode cX11_triedDoor 19 = .ok (.ireturn, 1) := by decide +kernel
theorem dX11_triedDoor_20 : decode cX11_triedDoor 20 = .ok (.aload_n 0, 1) := by decide +kernel
theorem dX11_triedDoor_21 : decode cX11_triedDoor 21 = .ok (.iload_n 1, 1) := by decide +kernel
theorem dX11_triedDoor_22 : decode cX11_triedDoor 22 = .ok (.invokevirtual 239, 3) := by decide +kernel
theorem dX11_triedDoor_25 : decode cX11_triedDoor 25 = .ok (.pop, 1) := by decide +kernel
theorem dX11_triedDoor_26 : decode cX11_triedDoor 26 = .ok (.iconst 1, 1) := by decide +kernel
theorem dX11_triedDoor_27 : decode cX11_triedDoor 27 = .ok (.ireturn, 1) := by decide +kernel
theorem dX11_draw_0 : decode cX11_draw 0 = .ok (.aload_n 0, 1) := by decide +kernel
theorem dX11_draw_1 : decode cX11_draw 1 = .ok (.aload_n 0, 1) := by decide +kernel
theorem dX11_draw_2 : decode cX11_draw 2 = .ok (.getfield 286, 3) := by decide +kernel
theorem dX11_draw_5 : decode cX11_draw 5 = .ok (.ldc2_w 296, 3) := by decide +kernel
theorem dX11_draw_8 : decode cX11_draw 8 = .ok (.lmul, 1) := by decide +kernel
theorem dX11_draw_9 : decode cX11_draw 9 = .ok (.ldc2_w 298, 3) := by decide +kernel
theorem dX11_draw_12 : decode cX11_draw 12 = .ok (.ladd, 1) := by decide +kernel
theorem dX11_draw_13 : decode cX11_draw 13 = .ok (.putfield 286, 3) := by decide +kernel
theorem dX11_draw_16 : decode cX11_draw 16 = .ok (.iload_n 1, 1) := by decide +kernel
theorem dX11_draw_17 : decode cX11_draw 17 = .ok (.ifCond .gt 7, 3) := by decide +kernel
theorem dX11_draw_20 : decode cX11_draw 20 = .ok (.iconst 0, 1) := by decide +kernel
theorem dX11_draw_21 : decode cX11_draw 21 = .ok (.goto 14, 3) := by decide +kernel
theorem dX11_draw_24 : decode cX11_draw 24 = .ok (.aload_n 0, 1) := by decide +kernel
theorem dX11_draw_25 : decode cX11_draw 25 = .ok (.getfield 286, 3) := by decide +kernel
theorem dX11_draw_28 : decode cX11_draw 28 = .ok (.bipush 33, 2) := by decide +kernel
theorem dX11_draw_30 : decode cX11_draw 30 = .ok (.lushr, 1) := by decide +kernel
theorem dX11_draw_31 : decode cX11_draw 31 = .ok (.iload_n 1, 1) := by decide +kernel
theorem dX11_draw_32 : decode cX11_draw 32 = .ok (.i2l, 1) := by decide +kernel
theorem dX11_draw_33 : decode cX11_draw 33 = .ok (.lrem, 1) := by decide +kernel
theorem dX11_draw_34 : decode cX11_draw 34 = .ok (.l2i, 1) := by decide +kernel
theorem dX11_draw_35 : decode cX11_draw 35 = .ok (.ireturn, 1) := by decide +kernel
theorem dX11_status_0 : decode cX11_status 0 = .ok (.iload_n 1, 1) := by decide +kernel
theorem dX11_status_1 : decode cX11_status 1 = .ok (.ifCond .lt 21, 3) := by decide +kernel
theorem dX11_status_4 : decode cX11_status 4 = .ok (.iload_n 1, 1) := by decide +kernel
theorem dX11_status_5 : decode cX11_status 5 = .ok (.aload_n 0, 1) := by decide +kernel
theorem dX11_status_6 : decode cX11_status 6 = .ok (.getfield 83, 3) := by decide +kernel
theorem dX11_status_9 : decode cX11_status 9 = .ok (.arraylength, 1) := by decide +kernel
theorem dX11_status_10 : decode cX11_status 10 = .ok (.if_icmp .ge 12, 3) := by decide +kernel
theorem dX11_status_13 : decode cX11_status 13 = .ok (.aload_n 0, 1) := by decide +kernel
theorem dX11_status_14 : decode cX11_status 14 = .ok (.getfield 83, 3) := by decide +kernel
theorem dX11_status_17 : decode cX11_status 17 = .ok (.iload_n 1, 1) := by decide +kernel
theorem dX11_status_18 : decode cX11_status 18 = .ok (.iaload, 1) := by decide +kernel
theorem dX11_status_19 : decode cX11_status 19 = .ok (.goto 4, 3) := by decide +kernel
theorem dX11_status_22 : decode cX11_status 22 = .ok (.iconst (-1), 1) := by decide +kernel
theorem dX11_status_23 : decode cX11_status 23 = .ok (.ireturn, 1) := by decide +kernel
theorem dX11_undo_0 : decode cX11_undo 0 = .ok (.aload_n 0, 1) := by decide +kernel
theorem dX11_undo_1 : decode cX11_undo 1 = .ok (.getfield 56, 3) := by decide +kernel
theorem dX11_undo_4 : decode cX11_undo 4 = .ok (.aload_n 0, 1) := by decide +kernel
theorem dX11_undo_5 : decode cX11_undo 5 = .ok (.getfield 49, 3) := by decide +kernel
theorem dX11_undo_8 : decode cX11_undo 8 = .ok (.invokevirtual 300, 3) := by decide +kernel
theorem dX11_undo_11 : decode cX11_undo 11 = .ok (.ifCond .eq 13, 3) := by decide +kernel
theorem dX11_undo_14 : decode cX11_undo 14 = .ok (.aload_n 0, 1) := by decide +kernel
theorem dX11_undo_15 : decode cX11_undo 15 = .ok (.getfield 56, 3) := by decide +kernel
theorem dX11_undo_18 : decode cX11_undo 18 = .ok (.invokevirtual 304, 3) := by decide +kernel
theorem dX11_undo_21 : decode cX11_undo 21 = .ok (.goto 4, 3) := by decide +kernel
theorem dX11_undo_24 : decode cX11_undo 24 = .ok (.iconst (-1), 1) := by decide +kernel
theorem dX11_undo_25 : decode cX11_undo 25 = .ok (.ireturn, 1) := by decide +kernel
theorem dX11_log_0 : decode cX11_log 0 = .ok (.aload_n 0, 1) := by decide +kernel
theorem dX11_log_1 : decode cX11_log 1 = .ok (.getfield 56, 3) := by decide +kernel
theorem dX11_log_4 : decode cX11_log 4 = .ok (.aload_n 0, 1) := by decide +kernel
theorem dX11_log_5 : decode cX11_log 5 = .ok (.getfield 49, 3) := by decide +kernel
theorem dX11_log_8 : decode cX11_log 8 = .ok (.iload_n 1, 1) := by decide +kernel
theorem dX11_log_9 : decode cX11_log 9 = .ok (.iload_n 2, 1) := by decide +kernel
theorem dX11_log_10 : decode cX11_log 10 = .ok (.invokevirtual 307, 3) := by decide +kernel
theorem dX11_log_13 : decode cX11_log 13 = .ok (.ireturn, 1) := by decide +kernel
theorem dX11_route_0 : decode cX11_route 0 = .ok (.aload_n 0, 1) := by decide +kernel
theorem dX11_route_1 : decode cX11_route 1 = .ok (.getfield 35, 3) := by decide +kernel
theorem dX11_route_4 : decode cX11_route 4 = .ok (.invokevirtual 154, 3) := by decide +kernel
theorem dX11_route_7 : decode cX11_route 7 = .ok (.ifCond .eq 12, 3) := by decide +kernel
theorem dX11_route_10 : decode cX11_route 10 = .ok (.iload_n 1, 1) := by decide +kernel
theorem dX11_route_11 : decode cX11_route 11 = .ok (.ifCond .lt 8, 3) := by decide +kernel
theorem dX11_route_14 : decode cX11_route 14 = .ok (.iload_n 1, 1) := by decide +kernel
theorem dX11_route_15 : decode cX11_route 15 = .ok (.iconst 2, 1) := by decide +kernel
theorem dX11_route_16 : decode cX11_route 16 = .ok (.if_icmp .le 5, 3) := by decide +kernel
theorem dX11_route_19 : decode cX11_route 19 = .ok (.iconst (-1), 1) := by decide +kernel
theorem dX11_route_20 : decode cX11_route 20 = .ok (.ireturn, 1) := by decide +kernel
theorem dX11_route_21 : decode cX11_route 21 = .ok (.aload_n 0, 1) := by decide +kernel
theorem dX11_route_22 : decode cX11_route 22 = .ok (.getfield 65, 3) := by decide +kernel
theorem dX11_route_25 : decode cX11_route 25 = .ok (.invokevirtual 311, 3) := by decide +kernel
theorem dX11_route_28 : decode cX11_route 28 = .ok (.iload_n 1, 1) := by decide +kernel
theorem dX11_route_29 : decode cX11_route 29 = .ok (.ifCond .ne 25, 3) := by decide +kernel
theorem dX11_route_32 : decode cX11_route 32 = .ok (.aload_n 0, 1) := by decide +kernel
theorem dX11_route_33 : decode cX11_route 33 = .ok (.getfield 65, 3) := by decide +kernel
theorem dX11_route_36 : decode cX11_route 36 = .ok (.getfield 314, 3) := by decide +kernel
theorem dX11_route_39 : decode cX11_route 39 = .ok (.ifCond .ne 7, 3) := by decide +kernel
theorem dX11_route_42 : decode cX11_route 42 = .ok (.iconst (-1), 1) := by decide +kernel
theorem dX11_route_43 : decode cX11_route 43 = .ok (.goto 10, 3) := by decide +kernel
theorem dX11_route_46 : decode cX11_route 46 = .ok (.aload_n 0, 1) := by decide +kernel
theorem dX11_route_47 : decode cX11_route 47 = .ok (.getfield 65, 3) := by decide +kernel
theorem dX11_route_50 : decode cX11_route 50 = .ok (.getfield 317, 3) := by decide +kernel
theorem dX11_route_53 : decode cX11_route 53 = .ok (.ireturn, 1) := by decide +kernel
theorem dX11_route_54 : decode cX11_route 54 = .ok (.iload_n 1, 1) := by decide +kernel
theorem dX11_route_55 : decode cX11_route 55 = .ok (.iconst 1, 1) := by decide +kernel
theorem dX11_route_56 : decode cX11_route 56 = .ok (.if_icmp .ne 13, 3) := by decide +kernel
theorem dX11_route_59 : decode cX11_route 59 = .ok (.aload_n 0, 1) := by decide +kernel
theorem dX11_route_60 : decode cX11_route 60 = .ok (.getfield 65, 3) := by decide +kernel
theorem dX11_route_63 : decode cX11_route 63 = .ok (.getfield 320, 3) := by decide +kernel
theorem dX11_route_66 : decode cX11_route 66 = .ok (.goto 10, 3) := by decide +kernel
theorem dX11_route_69 : decode cX11_route 69 = .ok (.aload_n 0, 1) := by decide +kernel
theorem dX11_route_70 : decode cX11_route 70 = .ok (.getfield 65, 3) := by decide +kernel
theorem dX11_route_73 : decode cX11_route 73 = .ok (.getfield 323, 3) := by decide +kernel
theorem dX11_route_76 : decode cX11_route 76 = .ok (.ireturn, 1) := by decide +kernel
theorem dX11_order_0 : decode cX11_order 0 = .ok (.aload_n 0, 1) := by decide +kernel
theorem dX11_order_1 : decode cX11_order 1 = .ok (.getfield 35, 3) := by decide +kernel
theorem dX11_order_4 : decode cX11_order 4 = .ok (.invokevirtual 154, 3) := by decide +kernel
theorem dX11_order_7 : decode cX11_order 7 = .ok (.ifCond .eq 12, 3) := by decide +kernel
theorem dX11_order_10 : decode cX11_order 10 = .ok (.iload_n 1, 1) := by decide +kernel
theorem dX11_order_11 : decode cX11_order 11 = .ok (.ifCond .lt 8, 3) := by decide +kernel
theorem dX11_order_14 : decode cX11_order 14 = .ok (.iload_n 1, 1) := by decide +kernel
theorem dX11_order_15 : decode cX11_order 15 = .ok (.iconst 1, 1) := by decide +kernel
theorem dX11_order_16 : decode cX11_order 16 = .ok (.if_icmp .le 5, 3) := by decide +kernel
theorem dX11_order_19 : decode cX11_order 19 = .ok (.iconst (-1), 1) := by decide +kernel
theorem dX11_order_20 : decode cX11_order 20 = .ok (.ireturn, 1) := by decide +kernel
theorem dX11_order_21 : decode cX11_order 21 = .ok (.aload_n 0, 1) := by decide +kernel
theorem dX11_order_22 : decode cX11_order 22 = .ok (.invokevirtual 326, 3) := by decide +kernel
theorem dX11_order_25 : decode cX11_order 25 = .ok (.iload_n 1, 1) := by decide +kernel
theorem dX11_order_26 : decode cX11_order 26 = .ok (.ifCond .ne 25, 3) := by decide +kernel
theorem dX11_order_29 : decode cX11_order 29 = .ok (.aload_n 0, 1) := by decide +kernel
theorem dX11_order_30 : decode cX11_order 30 = .ok (.getfield 79, 3) := by decide +kernel
theorem dX11_order_33 : decode cX11_order 33 = .ok (.invokevirtual 329, 3) := by decide +kernel
theorem dX11_order_36 : decode cX11_order 36 = .ok (.ifCond .ne 7, 3) := by decide +kernel
theorem dX11_order_39 : decode cX11_order 39 = .ok (.iconst (-1), 1) := by decide +kernel
theorem dX11_order_40 : decode cX11_order 40 = .ok (.goto 10, 3) := by decide +kernel
theorem dX11_order_43 : decode cX11_order 43 = .ok (.aload_n 0, 1) := by decide +kernel
theorem dX11_order_44 : decode cX11_order 44 = .ok (.getfield 79, 3) := by decide +kernel
theorem dX11_order_47 : decode cX11_order 47 = .ok (.invokevirtual 330, 3) := by decide +kernel
theorem dX11_order_50 : decode cX11_order 50 = .ok (.ireturn, 1) := by decide +kernel
theorem dX11_order_51 : decode cX11_order 51 = .ok (.aload_n 0, 1) := by decide +kernel
theorem dX11_order_52 : decode cX11_order 52 = .ok (.getfield 65, 3) := by decide +kernel
theorem dX11_order_55 : decode cX11_order 55 = .ok (.invokevirtual 229, 3) := by decide +kernel
theorem dX11_order_58 : decode cX11_order 58 = .ok (.iconst 0, 1) := by decide +kernel
theorem dX11_order_59 : decode cX11_order 59 = .ok (.istore_n 2, 1) := by decide +kernel
theorem dX11_order_60 : decode cX11_order 60 = .ok (.iload_n 2, 1) := by decide +kernel
theorem dX11_order_61 : decode cX11_order 61 = .ok (.aload_n 0, 1) := by decide +kernel
theorem dX11_order_62 : decode cX11_order 62 = .ok (.getfield 79, 3) := by decide +kernel
theorem dX11_order_65 : decode cX11_order 65 = .ok (.invokevirtual 329, 3) := by decide +kernel
theorem dX11_order_68 : decode cX11_order 68 = .ok (.if_icmp .ge 29, 3) := by decide +kernel
theorem dX11_order_71 : decode cX11_order 71 = .ok (.aload_n 0, 1) := by decide +kernel
theorem dX11_order_72 : decode cX11_order 72 = .ok (.getfield 65, 3) := by decide +kernel
theorem dX11_order_75 : decode cX11_order 75 = .ok (.aload_n 0, 1) := by decide +kernel
theorem dX11_order_76 : decode cX11_order 76 = .ok (.getfield 79, 3) := by decide +kernel
theorem dX11_order_79 : decode cX11_order 79 = .ok (.iload_n 2, 1) := by decide +kernel
theorem dX11_order_80 : decode cX11_order 80 = .ok (.invokevirtual 333, 3) := by decide +kernel
theorem dX11_order_83 : decode cX11_order 83 = .ok (.invokevirtual 232, 3) := by decide +kernel
theorem dX11_order_86 : decode cX11_order 86 = .ok (.ifCond .ne 5, 3) := by decide +kernel
theorem dX11_order_89 : decode cX11_order 89 = .ok (.iload_n 2, 1) := by decide +kernel
theorem dX11_order_90 : decode cX11_order 90 = .ok (.ireturn, 1) := by decide +kernel
theorem dX11_order_91 : decode cX11_order 91 = .ok (.iinc 2 1, 3) := by decide +kernel
theorem dX11_order_94 : decode cX11_order 94 = .ok (.goto (-34), 3) := by decide +kernel
theorem dX11_order_97 : decode cX11_order 97 = .ok (.aload_n 0, 1) := by decide +kernel
theorem dX11_order_98 : decode cX11_order 98 = .ok (.getfield 79, 3) := by decide +kernel
theorem dX11_order_101 : decode cX11_order 101 = .ok (.invokevirtual 329, 3) := by decide +kernel
theorem dX11_order_104 : decode cX11_order 104 = .ok (.ireturn, 1) := by decide +kernel
theorem dX11_orderNow_0 : decode cX11_orderNow 0 = .ok (.aload_n 0, 1) := by decide +kernel
theorem dX11_orderNow_1 : decode cX11_orderNow 1 = .ok (.getfield 79, 3) := by decide +kernel
theorem dX11_orderNow_4 : decode cX11_orderNow 4 = .ok (.invokevirtual 336, 3) := by decide +kernel
theorem dX11_orderNow_7 : decode cX11_orderNow 7 = .ok (.iconst 0, 1) := by decide +kernel
theorem dX11_orderNow_8 : decode cX11_orderNow 8 = .ok (.istore_n 1, 1) := by decide +kernel
theorem dX11_orderNow_9 : decode cX11_orderNow 9 = .ok (.iload_n 1, 1) := by decide +kernel
theorem dX11_orderNow_10 : decode cX11_orderNow 10 = .ok (.aload_n 0, 1) := by decide +kernel
theorem dX11_orderNow_11 : decode cX11_orderNow 11 = .ok (.getfield 35, 3) := by decide +kernel
theorem dX11_orderNow_14 : decode cX11_orderNow 14 = .ok (.invokevirtual 151, 3) := by decide +kernel
theorem dX11_orderNow_17 : decode cX11_orderNow 17 = .ok (.if_icmp .ge 36, 3) := by decide +kernel
theorem dX11_orderNow_20 : decode cX11_orderNow 20 = .ok (.aload_n 0, 1) := by decide +kernel
theorem dX11_orderNow_21 : decode cX11_orderNow 21 = .ok (.getfield 49, 3) := by decide +kernel
theorem dX11_orderNow_24 : decode cX11_orderNow 24 = .ok (.iload_n 1, 1) := by decide +kernel
theorem dX11_orderNow_25 : decode cX11_orderNow 25 = .ok (.invokevirtual 188, 3) := by decide +kernel
theorem dX11_orderNow_28 : decode cX11_orderNow 28 = .ok (.ifCond .ne 19, 3) := by decide +kernel
theorem dX11_orderNow_31 : decode cX11_orderNow 31 = .ok (.aload_n 0, 1) := by decide +kernel
theorem dX11_orderNow_32 : decode cX11_orderNow 32 = .ok (.getfield 79, 3) := by decide +kernel
theorem dX11_orderNow_35 : decode cX11_orderNow 35 = .ok (.iload_n 1, 1) := by decide +kernel
theorem dX11_orderNow_36 : decode cX11_orderNow 36 = .ok (.aload_n 0, 1) := by decide +kernel
theorem dX11_orderNow_37 : decode cX11_orderNow 37 = .ok (.getfield 49, 3) := by decide +kernel
theorem dX11_orderNow_40 : decode cX11_orderNow 40 = .ok (.iload_n 1, 1) := by decide +kernel
theorem dX11_orderNow_41 : decode cX11_orderNow 41 = .ok (.invokevirtual 182, 3) := by decide +kernel
theorem dX11_orderNow_44 : decode cX11_orderNow 44 = .ok (.invokevirtual 339, 3) := by decide +kernel
theorem dX11_orderNow_47 : decode cX11_orderNow 47 = .ok (.iinc 1 1, 3) := by decide +kernel
theorem dX11_orderNow_50 : decode cX11_orderNow 50 = .ok (.goto (-41), 3) := by decide +kernel
theorem dX11_orderNow_53 : decode cX11_orderNow 53 = .ok (.return_, 1) := by decide +kernel
theorem dX11_shorter_0 : decode cX11_shorter 0 = .ok (.aload_n 0, 1) := by decide +kernel
theorem dX11_shorter_1 : decode cX11_shorter 1 = .ok (.getfield 35, 3) := by decide +kernel
theorem dX11_shorter_4 : decode cX11_shorter 4 = .ok (.iload_n 1, 1) := by decide +kernel
theorem dX11_shorter_5 : decode cX11_shorter 5 = .ok (.invokevirtual 169, 3) := by decide +kernel
theorem dX11_shorter_8 : decode cX11_shorter 8 = .ok (.ifCond .eq 13, 3) := by decide +kernel
theorem dX11_shorter_11 : decode cX11_shorter 11 = .ok (.iload_n 2, 1) := by decide +kernel
theorem dX11_shorter_12 : decode cX11_shorter 12 = .ok (.ifCond .lt 9, 3) := by decide +kernel
theorem dX11_shorter_15 : decode cX11_shorter 15 = .ok (.iload_n 2, 1) := by decide +kernel
theorem dX11_shorter_16 : decode cX11_shorter 16 = .ok (.bipush 60, 2) := by decide +kernel
theorem dX11_shorter_18 : decode cX11_shorter 18 = .ok (.if_icmp .le 5, 3) := by decide +kernel
theorem dX11_shorter_21 : decode cX11_shorter 21 = .ok (.iconst (-1), 1) := by decide +kernel
theorem dX11_shorter_22 : decode cX11_shorter 22 = .ok (.ireturn, 1) := by decide +kernel
theorem dX11_shorter_23 : decode cX11_shorter 23 = .ok (.aload_n 0, 1) := by decide +kernel
theorem dX11_shorter_24 : decode cX11_shorter 24 = .ok (.getfield 49, 3) := by decide +kernel
theorem dX11_shorter_27 : decode cX11_shorter 27 = .ok (.iload_n 1, 1) := by decide +kernel
theorem dX11_shorter_28 : decode cX11_shorter 28 = .ok (.invokevirtual 182, 3) := by decide +kernel
theorem dX11_shorter_31 : decode cX11_shorter 31 = .ok (.istore_n 3, 1) := by decide +kernel
theorem dX11_shorter_32 : decode cX11_shorter 32 = .ok (.iconst 0, 1) := by decide +kernel
theorem dX11_shorter_33 : decode cX11_shorter 33 = .ok (.istore 4, 2) := by decide +kernel
theorem dX11_shorter_35 : decode cX11_shorter 35 = .ok (.iload 4, 2) := by decide +kernel
theorem dX11_shorter_37 : decode cX11_shorter 37 = .ok (.iload_n 3, 1) := by decide +kernel
theorem dX11_shorter_38 : decode cX11_shorter 38 = .ok (.if_icmp .gt 25, 3) := by decide +kernel
theorem dX11_shorter_41 : decode cX11_shorter 41 = .ok (.aload_n 0, 1) := by decide +kernel
theorem dX11_shorter_42 : decode cX11_shorter 42 = .ok (.iload_n 1, 1) := by decide +kernel
theorem dX11_shorter_43 : decode cX11_shorter 43 = .ok (.iload_n 3, 1) := by decide +kernel
theorem dX11_shorter_44 : decode cX11_shorter 44 = .ok (.iload 4, 2) := by decide +kernel
theorem dX11_shorter_46 : decode cX11_shorter 46 = .ok (.isub, 1) := by decide +kernel
theorem dX11_shorter_47 : decode cX11_shorter 47 = .ok (.invokevirtual 207, 3) := by decide +kernel
theorem dX11_shorter_50 : decode cX11_shorter 50 = .ok (.iload_n 2, 1) := by decide +kernel
theorem dX11_shorter_51 : decode cX11_shorter 51 = .ok (.if_icmp .gt 6, 3) := by decide +kernel
theorem dX11_shorter_54 : decode cX11_shorter 54 = .ok (.iload 4, 2) := by decide +kernel
theorem dX11_shorter_56 : decode cX11_shorter 56 = .ok (.ireturn, 1) := by decide +kernel
theorem dX11_shorter_57 : decode cX11_shorter 57 = .ok (.iinc 4 1, 3) := by decide +kernel
theorem dX11_shorter_60 : decode cX11_shorter 60 = .ok (.goto (-25), 3) := by decide +kernel
theorem dX11_shorter_63 : decode cX11_shorter 63 = .ok (.iconst (-1), 1) := by decide +kernel
theorem dX11_shorter_64 : decode cX11_shorter 64 = .ok (.ireturn, 1) := by decide +kernel
theorem dX11_roster_0 : decode cX11_roster 0 = .ok (.aload_n 0, 1) := by decide +kernel
theorem dX11_roster_1 : decode cX11_roster 1 = .ok (.getfield 35, 3) := by decide +kernel
theorem dX11_roster_4 : decode cX11_roster 4 = .ok (.invokevirtual 154, 3) := by decide +kernel
theorem dX11_roster_7 : decode cX11_roster 7 = .ok (.ifCond .eq 15, 3) := by decide +kernel
theorem dX11_roster_10 : decode cX11_roster 10 = .ok (.iload_n 1, 1) := by decide +kernel
theorem dX11_roster_11 : decode cX11_roster 11 = .ok (.iconst 1, 1) := by decide +kernel
theorem dX11_roster_12 : decode cX11_roster 12 = .ok (.if_icmp .lt 10, 3) := by decide +kernel
theorem dX11_roster_15 : decode cX11_roster 15 = .ok (.iload_n 1, 1) := by decide +kernel
theorem dX11_roster_16 : decode cX11_roster 16 = .ok (.sipush 200, 3) := by decide +kernel
theorem dX11_roster_19 : decode cX11_roster 19 = .ok (.if_icmp .le 5, 3) := by decide +kernel
theorem dX11_roster_22 : decode cX11_roster 22 = .ok (.iconst (-1), 1) := by decide +kernel
theorem dX11_roster_23 : decode cX11_roster 23 = .ok (.ireturn, 1) := by decide +kernel
theorem dX11_roster_24 : decode cX11_roster 24 = .ok (.iconst (-1), 1) := by decide +kernel
theorem dX11_roster_25 : decode cX11_roster 25 = .ok (.istore_n 2, 1) := by decide +kernel
theorem dX11_roster_26 : decode cX11_roster 26 = .ok (.iconst 1, 1) := by decide +kernel
