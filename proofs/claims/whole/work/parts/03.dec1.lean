theorem dX0_init_0 : decode cX0_init 0 = .ok (.aload_n 0, 1) := by decide +kernel
theorem dX0_init_1 : decode cX0_init 1 = .ok (.invokespecial 3, 3) := by decide +kernel
theorem dX0_init_4 : decode cX0_init 4 = .ok (.aload_n 0, 1) := by decide +kernel
theorem dX0_init_5 : decode cX0_init 5 = .ok (.aload_n 1, 1) := by decide +kernel
theorem dX0_init_6 : decode cX0_init 6 = .ok (.putfield 9, 3) := by decide +kernel
theorem dX0_init_9 : decode cX0_init 9 = .ok (.aload_n 0, 1) := by decide +kernel
theorem dX0_init_10 : decode cX0_init 10 = .ok (.aload_n 2, 1) := by decide +kernel
theorem dX0_init_11 : decode cX0_init 11 = .ok (.putfield 15, 3) := by decide +kernel
theorem dX0_init_14 : decode cX0_init 14 = .ok (.return_, 1) := by decide +kernel
theorem dX0_find_0 : decode cX0_find 0 = .ok (.aload_n 0, 1) := by decide +kernel
theorem dX0_find_1 : decode cX0_find 1 = .ok (.iconst 0, 1) := by decide +kernel
theorem dX0_find_2 : decode cX0_find 2 = .ok (.putfield 19, 3) := by decide +kernel
theorem dX0_find_5 : decode cX0_find 5 = .ok (.aload_n 0, 1) := by decide +kernel
theorem dX0_find_6 : decode cX0_find 6 = .ok (.getfield 15, 3) := by decide +kernel
theorem dX0_find_9 : decode cX0_find 9 = .ok (.getfield 23, 3) := by decide +kernel
theorem dX0_find_12 : decode cX0_find 12 = .ok (.bipush 8, 2) := by decide +kernel
theorem dX0_find_14 : decode cX0_find 14 = .ok (.if_icmp .lt 5, 3) := by decide +kernel
theorem dX0_find_17 : decode cX0_find 17 = .ok (.iconst 0, 1) := by decide +kernel
theorem dX0_find_18 : decode cX0_find 18 = .ok (.ireturn, 1) := by decide +kernel
theorem dX0_find_19 : decode cX0_find 19 = .ok (.iconst 2, 1) := by decide +kernel
theorem dX0_find_20 : decode cX0_find 20 = .ok (.istore_n 1, 1) := by decide +kernel
theorem dX0_find_21 : decode cX0_find 21 = .ok (.iload_n 1, 1) := by decide +kernel
theorem dX0_find_22 : decode cX0_find 22 = .ok (.iconst 4, 1) := by decide +kernel
theorem dX0_find_23 : decode cX0_find 23 = .ok (.if_icmp .gt 28, 3) := by decide +kernel
theorem dX0_find_26 : decode cX0_find 26 = .ok (.iconst (-1), 1) := by decide +kernel
theorem dX0_find_27 : decode cX0_find 27 = .ok (.istore_n 2, 1) := by decide +kernel
theorem dX0_find_28 : decode cX0_find 28 = .ok (.iload_n 2, 1) := by decide +kernel
theorem dX0_find_29 : decode cX0_find 29 = .ok (.iload_n 1, 1) := by decide +kernel
theorem dX0_find_30 : decode cX0_find 30 = .ok (.if_icmp .ge 15, 3) := by decide +kernel
theorem dX0_find_33 : decode cX0_find 33 = .ok (.aload_n 0, 1) := by decide +kernel
theorem dX0_find_34 : decode cX0_find 34 = .ok (.iload_n 1, 1) := by decide +kernel
theorem dX0_find_35 : decode cX0_find 35 = .ok (.iload_n 2, 1) := by decide +kernel
theorem dX0_find_36 : decode cX0_find 36 = .ok (.invokevirtual 28, 3) := by decide +kernel
theorem dX0_find_39 : decode cX0_find 39 = .ok (.iinc 2 1, 3) := by decide +kernel
theorem dX0_find_42 : decode cX0_find 42 = .ok (.goto (-14), 3) := by decide +kernel
theorem dX0_find_45 : decode cX0_find 45 = .ok (.iinc 1 1, 3) := by decide +kernel
theorem dX0_find_48 : decode cX0_find 48 = .ok (.goto (-27), 3) := by decide +kernel
theorem dX0_find_51 : decode cX0_find 51 = .ok (.aload_n 0, 1) := by decide +kernel
theorem dX0_find_52 : decode cX0_find 52 = .ok (.getfield 19, 3) := by decide +kernel
theorem dX0_find_55 : decode cX0_find 55 = .ok (.ifCond .le 7, 3) := by decide +kernel
theorem dX0_find_58 : decode cX0_find 58 = .ok (.iconst 1, 1) := by decide +kernel
theorem dX0_find_59 : decode cX0_find 59 = .ok (.goto 4, 3) := by decide +kernel
theorem dX0_find_62 : decode cX0_find 62 = .ok (.iconst 0, 1) := by decide +kernel
theorem dX0_find_63 : decode cX0_find 63 = .ok (.ireturn, 1) := by decide +kernel
theorem dX0_tryAll_0 : decode cX0_tryAll 0 = .ok (.iconst 0, 1) := by decide +kernel
theorem dX0_tryAll_1 : decode cX0_tryAll 1 = .ok (.istore_n 3, 1) := by decide +kernel
theorem dX0_tryAll_2 : decode cX0_tryAll 2 = .ok (.iload_n 3, 1) := by decide +kernel
theorem dX0_tryAll_3 : decode cX0_tryAll 3 = .ok (.aload_n 0, 1) := by decide +kernel
theorem dX0_tryAll_4 : decode cX0_tryAll 4 = .ok (.getfield 9, 3) := by decide +kernel
theorem dX0_tryAll_7 : decode cX0_tryAll 7 = .ok (.getfield 32, 3) := by decide +kernel
theorem dX0_tryAll_10 : decode cX0_tryAll 10 = .ok (.getfield 38, 3) := by decide +kernel
theorem dX0_tryAll_13 : decode cX0_tryAll 13 = .ok (.if_icmp .ge 83, 3) := by decide +kernel
theorem dX0_tryAll_16 : decode cX0_tryAll 16 = .ok (.aload_n 0, 1) := by decide +kernel
theorem dX0_tryAll_17 : decode cX0_tryAll 17 = .ok (.getfield 9, 3) := by decide +kernel
theorem dX0_tryAll_20 : decode cX0_tryAll 20 = .ok (.iload_n 3, 1) := by decide +kernel
theorem dX0_tryAll_21 : decode cX0_tryAll 21 = .ok (.iload_n 1, 1) := by decide +kernel
theorem dX0_tryAll_22 : decode cX0_tryAll 22 = .ok (.invokevirtual 43, 3) := by decide +kernel
theorem dX0_tryAll_25 : decode cX0_tryAll 25 = .ok (.ifCond .eq 65, 3) := by decide +kernel
theorem dX0_tryAll_28 : decode cX0_tryAll 28 = .ok (.aload_n 0, 1) := by decide +kernel
theorem dX0_tryAll_29 : decode cX0_tryAll 29 = .ok (.getfield 9, 3) := by decide +kernel
theorem dX0_tryAll_32 : decode cX0_tryAll 32 = .ok (.iload_n 3, 1) := by decide +kernel
theorem dX0_tryAll_33 : decode cX0_tryAll 33 = .ok (.iload_n 1, 1) := by decide +kernel
theorem dX0_tryAll_34 : decode cX0_tryAll 34 = .ok (.iload_n 2, 1) := by decide +kernel
theorem dX0_tryAll_35 : decode cX0_tryAll 35 = .ok (.invokevirtual 47, 3) := by decide +kernel
theorem dX0_tryAll_38 : decode cX0_tryAll 38 = .ok (.aload_n 0, 1) := by decide +kernel
theorem dX0_tryAll_39 : decode cX0_tryAll 39 = .ok (.getfield 19, 3) := by decide +kernel
theorem dX0_tryAll_42 : decode cX0_tryAll 42 = .ok (.if_icmp .gt 6, 3) := by decide +kernel
theorem dX0_tryAll_45 : decode cX0_tryAll 45 = .ok (.goto 45, 3) := by decide +kernel
theorem dX0_tryAll_48 : decode cX0_tryAll 48 = .ok (.aload_n 0, 1) := by decide +kernel
theorem dX0_tryAll_49 : decode cX0_tryAll 49 = .ok (.getfield 9, 3) := by decide +kernel
theorem dX0_tryAll_52 : decode cX0_tryAll 52 = .ok (.iload_n 3, 1) := by decide +kernel
theorem dX0_tryAll_53 : decode cX0_tryAll 53 = .ok (.iload_n 1, 1) := by decide +kernel
theorem dX0_tryAll_54 : decode cX0_tryAll 54 = .ok (.iload_n 2, 1) := by decide +kernel
theorem dX0_tryAll_55 : decode cX0_tryAll 55 = .ok (.invokevirtual 51, 3) := by decide +kernel
theorem dX0_tryAll_58 : decode cX0_tryAll 58 = .ok (.istore 4, 2) := by decide +kernel
theorem dX0_tryAll_60 : decode cX0_tryAll 60 = .ok (.iload 4, 2) := by decide +kernel
theorem dX0_tryAll_62 : decode cX0_tryAll 62 = .ok (.aload_n 0, 1) := by decide +kernel
theorem dX0_tryAll_63 : decode cX0_tryAll 63 = .ok (.getfield 19, 3) := by decide +kernel
theorem dX0_tryAll_66 : decode cX0_tryAll 66 = .ok (.if_icmp .le 24, 3) := by decide +kernel
theorem dX0_tryAll_69 : decode cX0_tryAll 69 = .ok (.aload_n 0, 1) := by decide +kernel
theorem dX0_tryAll_70 : decode cX0_tryAll 70 = .ok (.iload 4, 2) := by decide +kernel
theorem dX0_tryAll_72 : decode cX0_tryAll 72 = .ok (.putfield 19, 3) := by decide +kernel
theorem dX0_tryAll_75 : decode cX0_tryAll 75 = .ok (.aload_n 0, 1) := by decide +kernel
theorem dX0_tryAll_76 : decode cX0_tryAll 76 = .ok (.iload_n 3, 1) := by decide +kernel
theorem dX0_tryAll_77 : decode cX0_tryAll 77 = .ok (.putfield 54, 3) := by decide +kernel
theorem dX0_tryAll_80 : decode cX0_tryAll 80 = .ok (.aload_n 0, 1) := by decide +kernel
theorem dX0_tryAll_81 : decode cX0_tryAll 81 = .ok (.iload_n 1, 1) := by decide +kernel
theorem dX0_tryAll_82 : decode cX0_tryAll 82 = .ok (.putfield 57, 3) := by decide +kernel
theorem dX0_tryAll_85 : decode cX0_tryAll 85 = .ok (.aload_n 0, 1) := by decide +kernel
theorem dX0_tryAll_86 : decode cX0_tryAll 86 = .ok (.iload_n 2, 1) := by decide +kernel
theorem dX0_tryAll_87 : decode cX0_tryAll 87 = .ok (.putfield 60, 3) := by decide +kernel
theorem dX0_tryAll_90 : decode cX0_tryAll 90 = .ok (.iinc 3 1, 3) := by decide +kernel
theorem dX0_tryAll_93 : decode cX0_tryAll 93 = .ok (.goto (-91), 3) := by decide +kernel
theorem dX0_tryAll_96 : decode cX0_tryAll 96 = .ok (.return_, 1) := by decide +kernel
theorem dX1_init_0 : decode cX1_init 0 = .ok (.aload_n 0, 1) := by decide +kernel
theorem dX1_init_1 : decode cX1_init 1 = .ok (.invokespecial 3, 3) := by decide +kernel
theorem dX1_init_4 : decode cX1_init 4 = .ok (.aload_n 0, 1) := by decide +kernel
theorem dX1_init_5 : decode cX1_init 5 = .ok (.iconst 4, 1) := by decide +kernel
theorem dX1_init_6 : decode cX1_init 6 = .ok (.newarray .int, 2) := by decide +kernel
theorem dX1_init_8 : decode cX1_init 8 = .ok (.putfield 9, 3) := by decide +kernel
theorem dX1_init_11 : decode cX1_init 11 = .ok (.aload_n 0, 1) := by decide +kernel
theorem dX1_init_12 : decode cX1_init 12 = .ok (.iconst 4, 1) := by decide +kernel
theorem dX1_init_13 : decode cX1_init 13 = .ok (.newarray .int, 2) := by decide +kernel
theorem dX1_init_15 : decode cX1_init 15 = .ok (.putfield 15, 3) := by decide +kernel
theorem dX1_init_18 : decode cX1_init 18 = .ok (.return_, 1) := by decide +kernel
theorem dX1_take_0 : decode cX1_take 0 = .ok (.aload_n 0, 1) := by decide +kernel
theorem dX1_take_1 : decode cX1_take 1 = .ok (.iload_n 3, 1) := by decide +kernel
theorem dX1_take_2 : decode cX1_take 2 = .ok (.putfield 18, 3) := by decide +kernel
theorem dX1_take_5 : decode cX1_take 5 = .ok (.aload_n 0, 1) := by decide +kernel
theorem dX1_take_6 : decode cX1_take 6 = .ok (.iload 4, 2) := by decide +kernel
theorem dX1_take_8 : decode cX1_take 8 = .ok (.ifCond .ge 8, 3) := by decide +kernel
theorem dX1_take_11 : decode cX1_take 11 = .ok (.bipush (-4), 2) := by decide +kernel
theorem dX1_take_13 : decode cX1_take 13 = .ok (.goto 5, 3) := by decide +kernel
theorem dX1_take_16 : decode cX1_take 16 = .ok (.iload 4, 2) := by decide +kernel
theorem dX1_take_18 : decode cX1_take 18 = .ok (.putfield 22, 3) := by decide +kernel
theorem dX1_take_21 : decode cX1_take 21 = .ok (.iconst 0, 1) := by decide +kernel
theorem dX1_take_22 : decode cX1_take 22 = .ok (.istore 5, 2) := by decide +kernel
theorem dX1_take_24 : decode cX1_take 24 = .ok (.iload 5, 2) := by decide +kernel
theorem dX1_take_26 : decode cX1_take 26 = .ok (.iload_n 3, 1) := by decide +kernel
theorem dX1_take_27 : decode cX1_take 27 = .ok (.if_icmp .ge 41, 3) := by decide +kernel
theorem dX1_take_30 : decode cX1_take 30 = .ok (.aload_n 0, 1) := by decide +kernel
theorem dX1_take_31 : decode cX1_take 31 = .ok (.getfield 9, 3) := by decide +kernel
theorem dX1_take_34 : decode cX1_take 34 = .ok (.iload 5, 2) := by decide +kernel
theorem dX1_take_36 : decode cX1_take 36 = .ok (.aload_n 1, 1) := by decide +kernel
theorem dX1_take_37 : decode cX1_take 37 = .ok (.getfield 25, 3) := by decide +kernel
theorem dX1_take_40 : decode cX1_take 40 = .ok (.iload_n 2, 1) := by decide +kernel
theorem dX1_take_41 : decode cX1_take 41 = .ok (.iload 5, 2) := by decide +kernel
theorem dX1_take_43 : decode cX1_take 43 = .ok (.iadd, 1) := by decide +kernel
theorem dX1_take_44 : decode cX1_take 44 = .ok (.iaload, 1) := by decide +kernel
theorem dX1_take_45 : decode cX1_take 45 = .ok (.iastore, 1) := by decide +kernel
theorem dX1_take_46 : decode cX1_take 46 = .ok (.aload_n 0, 1) := by decide +kernel
theorem dX1_take_47 : decode cX1_take 47 = .ok (.getfield 15, 3) := by decide +kernel
theorem dX1_take_50 : decode cX1_take 50 = .ok (.iload 5, 2) := by decide +kernel
theorem dX1_take_52 : decode cX1_take 52 = .ok (.aload_n 1, 1) := by decide +kernel
theorem dX1_take_53 : decode cX1_take 53 = .ok (.getfield 28, 3) := by decide +kernel
theorem dX1_take_56 : decode cX1_take 56 = .ok (.iload_n 2, 1) := by decide +kernel
theorem dX1_take_57 : decode cX1_take 57 = .ok (.iload 5, 2) := by decide +kernel
theorem dX1_take_59 : decode cX1_take 59 = .ok (.iadd, 1) := by decide +kernel
theorem dX1_take_60 : decode cX1_take 60 = .ok (.iaload, 1) := by decide +kernel
theorem dX1_take_61 : decode cX1_take 61 = .ok (.iastore, 1) := by decide +kernel
theorem dX1_take_62 : decode cX1_take 62 = .ok (.iinc 5 1, 3) := by decide +kernel
theorem dX1_take_65 : decode cX1_take 65 = .ok (.goto (-41), 3) := by decide +kernel
theorem dX1_take_68 : decode cX1_take 68 = .ok (.return_, 1) := by decide +kernel
theorem dX1_copy_0 : decode cX1_copy 0 = .ok (.aload_n 0, 1) := by decide +kernel
theorem dX1_copy_1 : decode cX1_copy 1 = .ok (.aload_n 1, 1) := by decide +kernel
theorem dX1_copy_2 : decode cX1_copy 2 = .ok (.getfield 18, 3) := by decide +kernel
theorem dX1_copy_5 : decode cX1_copy 5 = .ok (.putfield 18, 3) := by decide +kernel
theorem dX1_copy_8 : decode cX1_copy 8 = .ok (.aload_n 0, 1) := by decide +kernel
theorem dX1_copy_9 : decode cX1_copy 9 = .ok (.aload_n 1, 1) := by decide +kernel
theorem dX1_copy_10 : decode cX1_copy 10 = .ok (.getfield 22, 3) := by decide +kernel
theorem dX1_copy_13 : decode cX1_copy 13 = .ok (.putfield 22, 3) := by decide +kernel
theorem dX1_copy_16 : decode cX1_copy 16 = .ok (.iconst 0, 1) := by decide +kernel
theorem dX1_copy_17 : decode cX1_copy 17 = .ok (.istore_n 2, 1) := by decide +kernel
theorem dX1_copy_18 : decode cX1_copy 18 = .ok (.iload_n 2, 1) := by decide +kernel
theorem dX1_copy_19 : decode cX1_copy 19 = .ok (.iconst 4, 1) := by decide +kernel
theorem dX1_copy_20 : decode cX1_copy 20 = .ok (.if_icmp .ge 33, 3) := by decide +kernel
theorem dX1_copy_23 : decode cX1_copy 23 = .ok (.aload_n 0, 1) := by decide +kernel
theorem dX1_copy_24 : decode cX1_copy 24 = .ok (.getfield 9, 3) := by decide +kernel
theorem dX1_copy_27 : decode cX1_copy 27 = .ok (.iload_n 2, 1) := by decide +kernel
theorem dX1_copy_28 : decode cX1_copy 28 = .ok (.aload_n 1, 1) := by decide +kernel
theorem dX1_copy_29 : decode cX1_copy 29 = .ok (.getfield 9, 3) := by decide +kernel
theorem dX1_copy_32 : decode cX1_copy 32 = .ok (.iload_n 2, 1) := by decide +kernel
theorem dX1_copy_33 : decode cX1_copy 33 = .ok (.iaload, 1) := by decide +kernel
theorem dX1_copy_34 : decode cX1_copy 34 = .ok (.iastore, 1) := by decide +kernel
theorem dX1_copy_35 : decode cX1_copy 35 = .ok (.aload_n 0, 1) := by decide +kernel
theorem dX1_copy_36 : decode cX1_copy 36 = .ok (.getfield 15, 3) := by decide +kernel
theorem dX1_copy_39 : decode cX1_copy 39 = .ok (.iload_n 2, 1) := by decide +kernel
theorem dX1_copy_40 : decode cX1_copy 40 = .ok (.aload_n 1, 1) := by decide +kernel
theorem dX1_copy_41 : decode cX1_copy 41 = .ok (.getfield 15, 3) := by decide +kernel
theorem dX1_copy_44 : decode cX1_copy 44 = .ok (.iload_n 2, 1) := by decide +kernel
theorem dX1_copy_45 : decode cX1_copy 45 = .ok (.iaload, 1) := by decide +kernel
theorem dX1_copy_46 : decode cX1_copy 46 = .ok (.iastore, 1) := by decide +kernel
theorem dX1_copy_47 : decode cX1_copy 47 = .ok (.iinc 2 1, 3) := by decide +kernel
theorem dX1_copy_50 : decode cX1_copy 50 = .ok (.goto (-32), 3) := by decide +kernel
theorem dX1_copy_53 : decode cX1_copy 53 = .ok (.return_, 1) := by decide +kernel
theorem dX1_fits_0 : decode cX1_fits 0 = .ok (.iload_n 2, 1) := by decide +kernel
theorem dX1_fits_1 : decode cX1_fits 1 = .ok (.ifCond .lt 16, 3) := by decide +kernel
theorem dX1_fits_4 : decode cX1_fits 4 = .ok (.iload_n 2, 1) := by decide +kernel
theorem dX1_fits_5 : decode cX1_fits 5 = .ok (.aload_n 1, 1) := by decide +kernel
theorem dX1_fits_6 : decode cX1_fits 6 = .ok (.getfield 29, 3) := by decide +kernel
theorem dX1_fits_9 : decode cX1_fits 9 = .ok (.aload_n 0, 1) := by decide +kernel
theorem dX1_fits_10 : decode cX1_fits 10 = .ok (.getfield 18, 3) := by decide +kernel
theorem dX1_fits_13 : decode cX1_fits 13 = .ok (.isub, 1) := by decide +kernel
theorem dX1_fits_14 : decode cX1_fits 14 = .ok (.if_icmp .le 5, 3) := by decide +kernel
theorem dX1_fits_17 : decode cX1_fits 17 = .ok (.iconst 0, 1) := by decide +kernel
theorem dX1_fits_18 : decode cX1_fits 18 = .ok (.ireturn, 1) := by decide +kernel
theorem dX1_fits_19 : decode cX1_fits 19 = .ok (.iconst 0, 1) := by decide +kernel
theorem dX1_fits_20 : decode cX1_fits 20 = .ok (.istore_n 3, 1) := by decide +kernel
theorem dX1_fits_21 : decode cX1_fits 21 = .ok (.iload_n 3, 1) := by decide +kernel
theorem dX1_fits_22 : decode cX1_fits 22 = .ok (.aload_n 0, 1) := by decide +kernel
theorem dX1_fits_23 : decode cX1_fits 23 = .ok (.getfield 18, 3) := by decide +kernel
theorem dX1_fits_26 : decode cX1_fits 26 = .ok (.if_icmp .ge 55, 3) := by decide +kernel
theorem dX1_fits_29 : decode cX1_fits 29 = .ok (.aload_n 0, 1) := by decide +kernel
theorem dX1_fits_30 : decode cX1_fits 30 = .ok (.getfield 9, 3) := by decide +kernel
theorem dX1_fits_33 : decode cX1_fits 33 = .ok (.iload_n 3, 1) := by decide +kernel
theorem dX1_fits_34 : decode cX1_fits 34 = .ok (.iaload, 1) := by decide +kernel
theorem dX1_fits_35 : decode cX1_fits 35 = .ok (.aload_n 1, 1) := by decide +kernel
theorem dX1_fits_36 : decode cX1_fits 36 = .ok (.getfield 25, 3) := by decide +kernel
theorem dX1_fits_39 : decode cX1_fits 39 = .ok (.iload_n 2, 1) := by decide +kernel
theorem dX1_fits_40 : decode cX1_fits 40 = .ok (.iload_n 3, 1) := by decide +kernel
theorem dX1_fits_41 : decode cX1_fits 41 = .ok (.iadd, 1) := by decide +kernel
theorem dX1_fits_42 : decode cX1_fits 42 = .ok (.iaload, 1) := by decide +kernel
theorem dX1_fits_43 : decode cX1_fits 43 = .ok (.if_icmp .eq 5, 3) := by decide +kernel
theorem dX1_fits_46 : decode cX1_fits 46 = .ok (.iconst 0, 1) := by decide +kernel
theorem dX1_fits_47 : decode cX1_fits 47 = .ok (.ireturn, 1) := by decide +kernel
theorem dX1_fits_48 : decode cX1_fits 48 = .ok (.iload_n 3, 1) := by decide +kernel
theorem dX1_fits_49 : decode cX1_fits 49 = .ok (.aload_n 0, 1) := by decide +kernel
theorem dX1_fits_50 : decode cX1_fits 50 = .ok (.getfield 22, 3) := by decide +kernel
theorem dX1_fits_53 : decode cX1_fits 53 = .ok (.if_icmp .eq 22, 3) := by decide +kernel
theorem dX1_fits_56 : decode cX1_fits 56 = .ok (.aload_n 0, 1) := by decide +kernel
theorem dX1_fits_57 : decode cX1_fits 57 = .ok (.getfield 15, 3) := by decide +kernel
theorem dX1_fits_60 : decode cX1_fits 60 = .ok (.iload_n 3, 1) := by decide +kernel
theorem dX1_fits_61 : decode cX1_fits 61 = .ok (.iaload, 1) := by decide +kernel
theorem dX1_fits_62 : decode cX1_fits 62 = .ok (.aload_n 1, 1) := by decide +kernel
theorem dX1_fits_63 : decode cX1_fits 63 = .ok (.getfield 28, 3) := by decide +kernel
theorem dX1_fits_66 : decode cX1_fits 66 = .ok (.iload_n 2, 1) := by decide +kernel
theorem dX1_fits_67 : decode cX1_fits 67 = .ok (.iload_n 3, 1) := by decide +kernel
theorem dX1_fits_68 : decode cX1_fits 68 = .ok (.iadd, 1) := by decide +kernel
theorem dX1_fits_69 : decode cX1_fits 69 = .ok (.iaload, 1) := by decide +kernel
theorem dX1_fits_70 : decode cX1_fits 70 = .ok (.if_icmp .eq 5, 3) := by decide +kernel
theorem dX1_fits_73 : decode cX1_fits 73 = .ok (.iconst 0, 1) := by decide +kernel
theorem dX1_fits_74 : decode cX1_fits 74 = .ok (.ireturn, 1) := by decide +kernel
theorem dX1_fits_75 : decode cX1_fits 75 = .ok (.iinc 3 1, 3) := by decide +kernel
theorem dX1_fits_78 : decode cX1_fits 78 = .ok (.goto (-57), 3) := by decide +kernel
theorem dX1_fits_81 : decode cX1_fits 81 = .ok (.iconst 1, 1) := by decide +kernel
theorem dX1_fits_82 : decode cX1_fits 82 = .ok (.ireturn, 1) := by decide +kernel
theorem dX2_init_0 : decode cX2_init 0 = .ok (.aload_n 0, 1) := by decide +kernel
theorem dX2_init_1 : decode cX2_init 1 = .ok (.invokespecial 3, 3) := by decide +kernel
theorem dX2_init_4 : decode cX2_init 4 = .ok (.aload_n 0, 1) := by decide +kernel
theorem dX2_init_5 : decode cX2_init 5 = .ok (.bipush 6, 2) := by decide +kernel
theorem dX2_init_7 : decode cX2_init 7 = .ok (.anewarray 9, 3) := by decide +kernel
theorem dX2_init_10 : decode cX2_init 10 = .ok (.putfield 11, 3) := by decide +kernel
theorem dX2_init_13 : decode cX2_init 13 = .ok (.iconst 0, 1) := by decide +kernel
theorem dX2_init_14 : decode cX2_init 14 = .ok (.istore_n 1, 1) := by decide +kernel
theorem dX2_init_15 : decode cX2_init 15 = .ok (.iload_n 1, 1) := by decide +kernel
theorem dX2_init_16 : decode cX2_init 16 = .ok (.bipush 6, 2) := by decide +kernel
theorem dX2_init_18 : decode cX2_init 18 = .ok (.if_icmp .ge 22, 3) := by decide +kernel
theorem dX2_init_21 : decode cX2_init 21 = .ok (.aload_n 0, 1) := by decide +kernel
theorem dX2_init_22 : decode cX2_init 22 = .ok (.getfield 11, 3) := by decide +kernel
theorem dX2_init_25 : decode cX2_init 25 = .ok (.iload_n 1, 1) := by decide +kernel
theorem dX2_init_26 : decode cX2_init 26 = .ok (.new 9, 3) := by decide +kernel
theorem dX2_init_29 : decode cX2_init 29 = .ok (.dup, 1) := by decide +kernel
theorem dX2_init_30 : decode cX2_init 30 = .ok (.invokespecial 17, 3) := by decide +kernel
theorem dX2_init_33 : decode cX2_init 33 = .ok (.aastore, 1) := by decide +kernel
theorem dX2_init_34 : decode cX2_init 34 = .ok (.iinc 1 1, 3) := by decide +kernel
theorem dX2_init_37 : decode cX2_init 37 = .ok (.goto (-22), 3) := by decide +kernel
theorem dX2_init_40 : decode cX2_init 40 = .ok (.return_, 1) := by decide +kernel
theorem dX2_keep_0 : decode cX2_keep 0 = .ok (.aload_n 0, 1) := by decide +kernel
theorem dX2_keep_1 : decode cX2_keep 1 = .ok (.getfield 18, 3) := by decide +kernel
theorem dX2_keep_4 : decode cX2_keep 4 = .ok (.bipush 6, 2) := by decide +kernel
theorem dX2_keep_6 : decode cX2_keep 6 = .ok (.if_icmp .ne 44, 3) := by decide +kernel
theorem dX2_keep_9 : decode cX2_keep 9 = .ok (.iconst 1, 1) := by decide +kernel
theorem dX2_keep_10 : decode cX2_keep 10 = .ok (.istore_n 2, 1) := by decide +kernel
theorem dX2_keep_11 : decode cX2_keep 11 = .ok (.iload_n 2, 1) := by decide +kernel
theorem dX2_keep_12 : decode cX2_keep 12 = .ok (.bipush 6, 2) := by decide +kernel
theorem dX2_keep_14 : decode cX2_keep 14 = .ok (.if_icmp .ge 26, 3) := by decide +kernel
theorem dX2_keep_17 : decode cX2_keep 17 = .ok (.aload_n 0, 1) := by decide +kernel
theorem dX2_keep_18 : decode cX2_keep 18 = .ok (.getfield 11, 3) := by decide +kernel
theorem dX2_keep_21 : decode cX2_keep 21 = .ok (.iload_n 2, 1) := by decide +kernel
theorem dX2_keep_22 : decode cX2_keep 22 = .ok (.iconst 1, 1) := by decide +kernel
theorem dX2_keep_23 : decode cX2_keep 23 = .ok (.isub, 1) := by decide +kernel
theorem dX2_keep_24 : decode cX2_keep 24 = .ok (.aaload, 1) := by decide +kernel
theorem dX2_keep_25 : decode cX2_keep 25 = .ok (.aload_n 0, 1) := by decide +kernel
theorem dX2_keep_26 : decode cX2_keep 26 = .ok (.getfield 11, 3) := by decide +kernel
theorem dX2_keep_29 : decode cX2_keep 29 = .ok (.iload_n 2, 1) := by decide +kernel
theorem dX2_keep_30 : decode cX2_keep 30 = .ok (.aaload, 1) := by decide +kernel
theorem dX2_keep_31 : decode cX2_keep 31 = .ok (.invokevirtual 22, 3) := by decide +kernel
theorem dX2_keep_34 : decode cX2_keep 34 = .ok (.iinc 2 1, 3) := by decide +kernel
theorem dX2_keep_37 : decode cX2_keep 37 = .ok (.goto (-26), 3) := by decide +kernel
theorem dX2_keep_40 : decode cX2_keep 40 = .ok (.aload_n 0, 1) := by decide +kernel
theorem dX2_keep_41 : decode cX2_keep 41 = .ok (.dup, 1) := by decide +kernel
theorem dX2_keep_42 : decode cX2_keep 42 = .ok (.getfield 18, 3) := by decide +kernel
theorem dX2_keep_45 : decode cX2_keep 45 = .ok (.iconst 1, 1) := by decide +kernel
theorem dX2_keep_46 : decode cX2_keep 46 = .ok (.isub, 1) := by decide +kernel
theorem dX2_keep_47 : decode cX2_keep 47 = .ok (.putfield 18, 3) := by decide +kernel
theorem dX2_keep_50 : decode cX2_keep 50 = .ok (.aload_n 0, 1) := by decide +kernel
theorem dX2_keep_51 : decode cX2_keep 51 = .ok (.getfield 11, 3) := by decide +kernel
theorem dX2_keep_54 : decode cX2_keep 54 = .ok (.aload_n 0, 1) := by decide +kernel
theorem dX2_keep_55 : decode cX2_keep 55 = .ok (.getfield 18, 3) := by decide +kernel
theorem dX2_keep_58 : decode cX2_keep 58 = .ok (.aaload, 1) := by decide +kernel
theorem dX2_keep_59 : decode cX2_keep 59 = .ok (.aload_n 1, 1) := by decide +kernel
theorem dX2_keep_60 : decode cX2_keep 60 = .ok (.invokevirtual 22, 3) := by decide +kernel
theorem dX2_keep_63 : decode cX2_keep 63 = .ok (.aload_n 0, 1) := by decide +kernel
theorem dX2_keep_64 : decode cX2_keep 64 = .ok (.dup, 1) := by decide +kernel
theorem dX2_keep_65 : decode cX2_keep 65 = .ok (.getfield 18, 3) := by decide +kernel
theorem dX2_keep_68 : decode cX2_keep 68 = .ok (.iconst 1, 1) := by decide +kernel
theorem dX2_keep_69 : decode cX2_keep 69 = .ok (.iadd, 1) := by decide +kernel
theorem dX2_keep_70 : decode cX2_keep 70 = .ok (.putfield 18, 3) := by decide +kernel
theorem dX2_keep_73 : decode cX2_keep 73 = .ok (.return_, 1) := by decide +kernel
theorem dX2_giveBack_0 : decode cX2_giveBack 0 = .ok (.aload_n 0, 1) := by decide +kernel
theorem dX2_giveBack_1 : decode cX2_giveBack 1 = .ok (.getfield 18, 3) := by decide +kernel
theorem dX2_giveBack_4 : decode cX2_giveBack 4 = .ok (.ifCond .le 26, 3) := by decide +kernel
theorem dX2_giveBack_7 : decode cX2_giveBack 7 = .ok (.aload_n 0, 1) := by decide +kernel
theorem dX2_giveBack_8 : decode cX2_giveBack 8 = .ok (.dup, 1) := by decide +kernel
theorem dX2_giveBack_9 : decode cX2_giveBack 9 = .ok (.getfield 18, 3) := by decide +kernel
theorem dX2_giveBack_12 : decode cX2_giveBack 12 = .ok (.iconst 1, 1) := by decide +kernel
theorem dX2_giveBack_13 : decode cX2_giveBack 13 = .ok (.isub, 1) := by decide +kernel
theorem dX2_giveBack_14 : decode cX2_giveBack 14 = .ok (.putfield 18, 3) := by decide +kernel
theorem dX2_giveBack_17 : decode cX2_giveBack 17 = .ok (.aload_n 1, 1) := by decide +kernel
theorem dX2_giveBack_18 : decode cX2_giveBack 18 = .ok (.aload_n 0, 1) := by decide +kernel
theorem dX2_giveBack_19 : decode cX2_giveBack 19 = .ok (.getfield 11, 3) := by decide +kernel
theorem dX2_giveBack_22 : decode cX2_giveBack 22 = .ok (.aload_n 0, 1) := by decide +kernel
theorem dX2_giveBack_23 : decode cX2_giveBack 23 = .ok (.getfield 18, 3) := by decide +kernel
theorem dX2_giveBack_26 : decode cX2_giveBack 26 = .ok (.aaload, 1) := by decide +kernel
theorem dX2_giveBack_27 : decode cX2_giveBack 27 = .ok (.invokevirtual 22, 3) := by decide +kernel
theorem dX2_giveBack_30 : decode cX2_giveBack 30 = .ok (.return_, 1) := by decide +kernel
theorem dX3_init_0 : decode cX3_init 0 = .ok (.aload_n 0, 1) := by decide +kernel
theorem dX3_init_1 : decode cX3_init 1 = .ok (.invokespecial 3, 3) := by decide +kernel
theorem dX3_init_4 : decode cX3_init 4 = .ok (.aload_n 0, 1) := by decide +kernel
theorem dX3_init_5 : decode cX3_init 5 = .ok (.bipush 48, 2) := by decide +kernel
theorem dX3_init_7 : decode cX3_init 7 = .ok (.newarray .int, 2) := by decide +kernel
theorem dX3_init_9 : decode cX3_init 9 = .ok (.putfield 9, 3) := by decide +kernel
theorem dX3_init_12 : decode cX3_init 12 = .ok (.aload_n 0, 1) := by decide +kernel
theorem dX3_init_13 : decode cX3_init 13 = .ok (.bipush 48, 2) := by decide +kernel
theorem dX3_init_15 : decode cX3_init 15 = .ok (.iconst 5, 1) := by decide +kernel
theorem dX3_init_16 : decode cX3_init 16 = .ok (.multianewarray 15 2, 4) := by decide +kernel
theorem dX3_init_20 : decode cX3_init 20 = .ok (.putfield 17, 3) := by decide +kernel
theorem dX3_init_23 : decode cX3_init 23 = .ok (.aload_n 0, 1) := by decide +kernel
theorem dX3_init_24 : decode cX3_init 24 = .ok (.bipush 49, 2) := by decide +kernel
theorem dX3_init_26 : decode cX3_init 26 = .ok (.newarray .int, 2) := by decide +kernel
theorem dX3_init_28 : decode cX3_init 28 = .ok (.putfield 20, 3) := by decide +kernel
theorem dX3_init_31 : decode cX3_init 31 = .ok (.aload_n 0, 1) := by decide +kernel
theorem dX3_init_32 : decode cX3_init 32 = .ok (.bipush 48, 2) := by decide +kernel
theorem dX3_init_34 : decode cX3_init 34 = .ok (.newarray .int, 2) := by decide +kernel
theorem dX3_init_36 : decode cX3_init 36 = .ok (.putfield 23, 3) := by decide +kernel
theorem dX3_init_39 : decode cX3_init 39 = .ok (.aload_n 0, 1) := by decide +kernel
theorem dX3_init_40 : decode cX3_init 40 = .ok (.bipush 49, 2) := by decide +kernel
theorem dX3_init_42 : decode cX3_init 42 = .ok (.newarray .int, 2) := by decide +kernel
theorem dX3_init_44 : decode cX3_init 44 = .ok (.putfield 26, 3) := by decide +kernel
theorem dX3_init_47 : decode cX3_init 47 = .ok (.aload_n 0, 1) := by decide +kernel
theorem dX3_init_48 : decode cX3_init 48 = .ok (.new 29, 3) := by decide +kernel
theorem dX3_init_51 : decode cX3_init 51 = .ok (.dup, 1) := by decide +kernel
theorem dX3_init_52 : decode cX3_init 52 = .ok (.invokespecial 31, 3) := by decide +kernel
theorem dX3_init_55 : decode cX3_init 55 = .ok (.putfield 32, 3) := by decide +kernel
theorem dX3_init_58 : decode cX3_init 58 = .ok (.aload_n 0, 1) := by decide +kernel
theorem dX3_init_59 : decode cX3_init 59 = .ok (.bipush 48, 2) := by decide +kernel
theorem dX3_init_61 : decode cX3_init 61 = .ok (.newarray .int, 2) := by decide +kernel
theorem dX3_init_63 : decode cX3_init 63 = .ok (.putfield 36, 3) := by decide +kernel
theorem dX3_init_66 : decode cX3_init 66 = .ok (.aload_n 0, 1) := by decide +kernel
theorem dX3_init_67 : decode cX3_init 67 = .ok (.bipush 48, 2) := by decide +kernel
theorem dX3_init_69 : decode cX3_init 69 = .ok (.newarray .int, 2) := by decide +kernel
theorem dX3_init_71 : decode cX3_init 71 = .ok (.putfield 39, 3) := by decide +kernel
theorem dX3_init_74 : decode cX3_init 74 = .ok (.aload_n 0, 1) := by decide +kernel
theorem dX3_init_75 : decode cX3_init 75 = .ok (.bipush 48, 2) := by decide +kernel
theorem dX3_init_77 : decode cX3_init 77 = .ok (.newarray .int, 2) := by decide +kernel
theorem dX3_init_79 : decode cX3_init 79 = .ok (.putfield 42, 3) := by decide +kernel
theorem dX3_init_82 : decode cX3_init 82 = .ok (.aload_n 0, 1) := by decide +kernel
theorem dX3_init_83 : decode cX3_init 83 = .ok (.bipush 48, 2) := by decide +kernel
theorem dX3_init_85 : decode cX3_init 85 = .ok (.newarray .int, 2) := by decide +kernel
theorem dX3_init_87 : decode cX3_init 87 = .ok (.putfield 45, 3) := by decide +kernel
theorem dX3_init_90 : decode cX3_init 90 = .ok (.aload_n 0, 1) := by decide +kernel
theorem dX3_init_91 : decode cX3_init 91 = .ok (.sipush 192, 3) := by decide +kernel
theorem dX3_init_94 : decode cX3_init 94 = .ok (.newarray .int, 2) := by decide +kernel
theorem dX3_init_96 : decode cX3_init 96 = .ok (.putfield 48, 3) := by decide +kernel
theorem dX3_init_99 : decode cX3_init 99 = .ok (.aload_n 0, 1) := by decide +kernel
theorem dX3_init_100 : decode cX3_init 100 = .ok (.aload_n 1, 1) := by decide +kernel
theorem dX3_init_101 : decode cX3_init 101 = .ok (.putfield 51, 3) := by decide +kernel
theorem dX3_init_104 : decode cX3_init 104 = .ok (.aload_n 0, 1) := by decide +kernel
theorem dX3_init_105 : decode cX3_init 105 = .ok (.aload_n 2, 1) := by decide +kernel
theorem dX3_init_106 : decode cX3_init 106 = .ok (.putfield 55, 3) := by decide +kernel
theorem dX3_init_109 : decode cX3_init 109 = .ok (.return_, 1) := by decide +kernel
theorem dX3_reckon_0 : decode cX3_reckon 0 = .ok (.aload_n 0, 1) := by decide +kernel
theorem dX3_reckon_1 : decode cX3_reckon 1 = .ok (.aload_n 0, 1) := by decide +kernel
theorem dX3_reckon_2 : decode cX3_reckon 2 = .ok (.getfield 55, 3) := by decide +kernel
theorem dX3_reckon_5 : decode cX3_reckon 5 = .ok (.getfield 59, 3) := by decide +kernel
theorem dX3_reckon_8 : decode cX3_reckon 8 = .ok (.iconst 4, 1) := by decide +kernel
theorem dX3_reckon_9 : decode cX3_reckon 9 = .ok (.if_icmp .ne 7, 3) := by decide +kernel
theorem dX3_reckon_12 : decode cX3_reckon 12 = .ok (.iconst 2, 1) := by decide +kernel
theorem dX3_reckon_13 : decode cX3_reckon 13 = .ok (.goto 20, 3) := by decide +kernel
theorem dX3_reckon_16 : decode cX3_reckon 16 = .ok (.aload_n 0, 1) := by decide +kernel
theorem dX3_reckon_17 : decode cX3_reckon 17 = .ok (.getfield 55, 3) := by decide +kernel
theorem dX3_reckon_20 : decode cX3_reckon 20 = .ok (.getfield 59, 3) := by decide +kernel
theorem dX3_reckon_23 : decode cX3_reckon 23 = .ok (.bipush 8, 2) := by decide +kernel
theorem dX3_reckon_25 : decode cX3_reckon 25 = .ok (.if_icmp .ne 7, 3) := by decide +kernel
theorem dX3_reckon_28 : decode cX3_reckon 28 = .ok (.iconst 3, 1) := by decide +kernel
theorem dX3_reckon_29 : decode cX3_reckon 29 = .ok (.goto 4, 3) := by decide +kernel
theorem dX3_reckon_32 : decode cX3_reckon 32 = .ok (.iconst 4, 1) := by decide +kernel
theorem dX3_reckon_33 : decode cX3_reckon 33 = .ok (.putfield 65, 3) := by decide +kernel
theorem dX3_reckon_36 : decode cX3_reckon 36 = .ok (.aload_n 0, 1) := by decide +kernel
theorem dX3_reckon_37 : decode cX3_reckon 37 = .ok (.aload_n 0, 1) := by decide +kernel
theorem dX3_reckon_38 : decode cX3_reckon 38 = .ok (.getfield 51, 3) := by decide +kernel
theorem dX3_reckon_41 : decode cX3_reckon 41 = .ok (.getfield 68, 3) := by decide +kernel
theorem dX3_reckon_44 : decode cX3_reckon 44 = .ok (.aload_n 0, 1) := by decide +kernel
theorem dX3_reckon_45 : decode cX3_reckon 45 = .ok (.getfield 55, 3) := by decide +kernel
theorem dX3_reckon_48 : decode cX3_reckon 48 = .ok (.getfield 59, 3) := by decide +kernel
theorem dX3_reckon_51 : decode cX3_reckon 51 = .ok (.iadd, 1) := by decide +kernel
theorem dX3_reckon_52 : decode cX3_reckon 52 = .ok (.iconst 1, 1) := by decide +kernel
theorem dX3_reckon_53 : decode cX3_reckon 53 = .ok (.isub, 1) := by decide +kernel
theorem dX3_reckon_54 : decode cX3_reckon 54 = .ok (.aload_n 0, 1) := by decide +kernel
theorem dX3_reckon_55 : decode cX3_reckon 55 = .ok (.getfield 65, 3) := by decide +kernel
theorem dX3_reckon_58 : decode cX3_reckon 58 = .ok (.ishr, 1) := by decide +kernel
theorem dX3_reckon_59 : decode cX3_reckon 59 = .ok (.putfield 73, 3) := by decide +kernel
theorem dX3_reckon_62 : decode cX3_reckon 62 = .ok (.aload_n 0, 1) := by decide +kernel
theorem dX3_reckon_63 : decode cX3_reckon 63 = .ok (.invokevirtual 76, 3) := by decide +kernel
theorem dX3_reckon_66 : decode cX3_reckon 66 = .ok (.aload_n 0, 1) := by decide +kernel
theorem dX3_reckon_67 : decode cX3_reckon 67 = .ok (.invokevirtual 79, 3) := by decide +kernel
theorem dX3_reckon_70 : decode cX3_reckon 70 = .ok (.aload_n 0, 1) := by decide +kernel
theorem dX3_reckon_71 : decode cX3_reckon 71 = .ok (.invokevirtual 82, 3) := by decide +kernel
theorem dX3_reckon_74 : decode cX3_reckon 74 = .ok (.aload_n 0, 1) := by decide +kernel
theorem dX3_reckon_75 : decode cX3_reckon 75 = .ok (.invokevirtual 85, 3) := by decide +kernel
theorem dX3_reckon_78 : decode cX3_reckon 78 = .ok (.return_, 1) := by decide +kernel
theorem dX3_measureReaches_0 : decode cX3_measureReaches 0 = .ok (.aload_n 0, 1) := by decide +kernel
theorem dX3_measureReaches_1 : decode cX3_measureReaches 1 = .ok (.getfield 51, 3) := by decide +kernel
theorem dX3_measureReaches_4 : decode cX3_measureReaches 4 = .ok (.getfield 68, 3) := by decide +kernel
theorem dX3_measureReaches_7 : decode cX3_measureReaches 7 = .ok (.iconst 1, 1) := by decide +kernel
theorem dX3_measureReaches_8 : decode cX3_measureReaches 8 = .ok (.isub, 1) := by decide +kernel
theorem dX3_measureReaches_9 : decode cX3_measureReaches 9 = .ok (.istore_n 1, 1) := by decide +kernel
theorem dX3_measureReaches_10 : decode cX3_measureReaches 10 = .ok (.iload_n 1, 1) := by decide +kernel
theorem dX3_measureReaches_11 : decode cX3_measureReaches 11 = .ok (.ifCond .lt 72, 3) := by decide +kernel
theorem dX3_measureReaches_14 : decode cX3_measureReaches 14 = .ok (.aload_n 0, 1) := by decide +kernel
theorem dX3_measureReaches_15 : decode cX3_measureReaches 15 = .ok (.getfield 51, 3) := by decide +kernel
theorem dX3_measureReaches_18 : decode cX3_measureReaches 18 = .ok (.getfield 88, 3) := by decide +kernel
theorem dX3_measureReaches_21 : decode cX3_measureReaches 21 = .ok (.iload_n 1, 1) := by decide +kernel
theorem dX3_measureReaches_22 : decode cX3_measureReaches 22 = .ok (.iaload, 1) := by decide +kernel
theorem dX3_measureReaches_23 : decode cX3_measureReaches 23 = .ok (.invokestatic 91, 3) := by decide +kernel
theorem dX3_measureReaches_26 : decode cX3_measureReaches 26 = .ok (.ifCond .ne 13, 3) := by decide +kernel
theorem dX3_measureReaches_29 : decode cX3_measureReaches 29 = .ok (.aload_n 0, 1) := by decide +kernel
theorem dX3_measureReaches_30 : decode cX3_measureReaches 30 = .ok (.getfield 9, 3) := by decide +kernel
theorem dX3_measureReaches_33 : decode cX3_measureReaches 33 = .ok (.iload_n 1, 1) := by decide +kernel
theorem dX3_measureReaches_34 : decode cX3_measureReaches 34 = .ok (.iconst 0, 1) := by decide +kernel
theorem dX3_measureReaches_35 : decode cX3_measureReaches 35 = .ok (.iastore, 1) := by decide +kernel
theorem dX3_measureReaches_36 : decode cX3_measureReaches 36 = .ok (.goto 41, 3) := by decide +kernel
theorem dX3_measureReaches_39 : decode cX3_measureReaches 39 = .ok (.aload_n 0, 1) := by decide +kernel
theorem dX3_measureReaches_40 : decode cX3_measureReaches 40 = .ok (.iload_n 1, 1) := by decide +kernel
theorem dX3_measureReaches_41 : decode cX3_measureReaches 41 = .ok (.invokevirtual 95, 3) := by decide +kernel
theorem dX3_measureReaches_44 : decode cX3_measureReaches 44 = .ok (.ifCond .eq 26, 3) := by decide +kernel
theorem dX3_measureReaches_47 : decode cX3_measureReaches 47 = .ok (.aload_n 0, 1) := by decide +kernel
theorem dX3_measureReaches_48 : decode cX3_measureReaches 48 = .ok (.getfield 9, 3) := by decide +kernel
theorem dX3_measureReaches_51 : decode cX3_measureReaches 51 = .ok (.iload_n 1, 1) := by decide +kernel
theorem dX3_measureReaches_52 : decode cX3_measureReaches 52 = .ok (.iconst 4, 1) := by decide +kernel
theorem dX3_measureReaches_53 : decode cX3_measureReaches 53 = .ok (.iconst 1, 1) := by decide +kernel
theorem dX3_measureReaches_54 : decode cX3_measureReaches 54 = .ok (.aload_n 0, 1) := by decide +kernel
theorem dX3_measureReaches_55 : decode cX3_measureReaches 55 = .ok (.getfield 9, 3) := by decide +kernel
theorem dX3_measureReaches_58 : decode cX3_measureReaches 58 = .ok (.iload_n 1, 1) := by decide +kernel
theorem dX3_measureReaches_59 : decode cX3_measureReaches 59 = .ok (.iconst 1, 1) := by decide +kernel
theorem dX3_measureReaches_60 : decode cX3_measureReaches 60 = .ok (.iadd, 1) := by decide +kernel
theorem dX3_measureReaches_61 : decode cX3_measureReaches 61 = .ok (.iaload, 1) := by decide +kernel
theorem dX3_measureReaches_62 : decode cX3_measureReaches 62 = .ok (.iadd, 1) := by decide +kernel
theorem dX3_measureReaches_63 : decode cX3_measureReaches 63 = .ok (.invokestatic 98, 3) := by decide +kernel
theorem dX3_measureReaches_66 : decode cX3_measureReaches 66 = .ok (.iastore, 1) := by decide +kernel
theorem dX3_measureReaches_67 : decode cX3_measureReaches 67 = .ok (.goto 10, 3) := by decide +kernel
theorem dX3_measureReaches_70 : decode cX3_measureReaches 70 = .ok (.aload_n 0, 1) := by decide +kernel
theorem dX3_measureReaches_71 : decode cX3_measureReaches 71 = .ok (.getfield 9, 3) := by decide +kernel
theorem dX3_measureReaches_74 : decode cX3_measureReaches 74 = .ok (.iload_n 1, 1) := by decide +kernel
theorem dX3_measureReaches_75 : decode cX3_measureReaches 75 = .ok (.iconst 1, 1) := by decide +kernel
theorem dX3_measureReaches_76 : decode cX3_measureReaches 76 = .ok (.iastore, 1) := by decide +kernel
theorem dX3_measureReaches_77 : decode cX3_measureReaches 77 = .ok (.iinc 1 (-1), 3) := by decide +kernel
theorem dX3_measureReaches_80 : decode cX3_measureReaches 80 = .ok (.goto (-70), 3) := by decide +kernel
theorem dX3_measureReaches_83 : decode cX3_measureReaches 83 = .ok (.return_, 1) := by decide +kernel
theorem dX3_leadsOn_0 : decode cX3_leadsOn 0 = .ok (.aload_n 0, 1) := by decide +kernel
theorem dX3_leadsOn_1 : decode cX3_leadsOn 1 = .ok (.getfield 51, 3) := by decide +kernel
theorem dX3_leadsOn_4 : decode cX3_leadsOn 4 = .ok (.iload_n 1, 1) := by decide +kernel
theorem dX3_leadsOn_5 : decode cX3_leadsOn 5 = .ok (.iconst 1, 1) := by decide +kernel
theorem dX3_leadsOn_6 : decode cX3_leadsOn 6 = .ok (.iadd, 1) := by decide +kernel
theorem dX3_leadsOn_7 : decode cX3_leadsOn 7 = .ok (.invokevirtual 104, 3) := by decide +kernel
theorem dX3_leadsOn_10 : decode cX3_leadsOn 10 = .ok (.ifCond .eq 53, 3) := by decide +kernel
theorem dX3_leadsOn_13 : decode cX3_leadsOn 13 = .ok (.aload_n 0, 1) := by decide +kernel
theorem dX3_leadsOn_14 : decode cX3_leadsOn 14 = .ok (.iload_n 1, 1) := by decide +kernel
theorem dX3_leadsOn_15 : decode cX3_leadsOn 15 = .ok (.invokevirtual 107, 3) := by decide +kernel
theorem dX3_leadsOn_18 : decode cX3_leadsOn 18 = .ok (.aload_n 0, 1) := by decide +kernel
theorem dX3_leadsOn_19 : decode cX3_leadsOn 19 = .ok (.iload_n 1, 1) := by decide +kernel
theorem dX3_leadsOn_20 : decode cX3_leadsOn 20 = .ok (.iconst 1, 1) := by decide +kernel
theorem dX3_leadsOn_21 : decode cX3_leadsOn 21 = .ok (.iadd, 1) := by decide +kernel
theorem dX3_leadsOn_22 : decode cX3_leadsOn 22 = .ok (.invokevirtual 107, 3) := by decide +kernel
theorem dX3_leadsOn_25 : decode cX3_leadsOn 25 = .ok (.if_icmp .ne 38, 3) := by decide +kernel
theorem dX3_leadsOn_28 : decode cX3_leadsOn 28 = .ok (.aload_n 0, 1) := by decide +kernel
theorem dX3_leadsOn_29 : decode cX3_leadsOn 29 = .ok (.getfield 51, 3) := by decide +kernel
theorem dX3_leadsOn_32 : decode cX3_leadsOn 32 = .ok (.getfield 88, 3) := by decide +kernel
theorem dX3_leadsOn_35 : decode cX3_leadsOn 35 = .ok (.iload_n 1, 1) := by decide +kernel
theorem dX3_leadsOn_36 : decode cX3_leadsOn 36 = .ok (.iconst 1, 1) := by decide +kernel
theorem dX3_leadsOn_37 : decode cX3_leadsOn 37 = .ok (.iadd, 1) := by decide +kernel
theorem dX3_leadsOn_38 : decode cX3_leadsOn 38 = .ok (.iaload, 1) := by decide +kernel
theorem dX3_leadsOn_39 : decode cX3_leadsOn 39 = .ok (.invokestatic 91, 3) := by decide +kernel
theorem dX3_leadsOn_42 : decode cX3_leadsOn 42 = .ok (.ifCond .eq 21, 3) := by decide +kernel
theorem dX3_leadsOn_45 : decode cX3_leadsOn 45 = .ok (.aload_n 0, 1) := by decide +kernel
theorem dX3_leadsOn_46 : decode cX3_leadsOn 46 = .ok (.getfield 51, 3) := by decide +kernel
theorem dX3_leadsOn_49 : decode cX3_leadsOn 49 = .ok (.getfield 111, 3) := by decide +kernel
theorem dX3_leadsOn_52 : decode cX3_leadsOn 52 = .ok (.iload_n 1, 1) := by decide +kernel
theorem dX3_leadsOn_53 : decode cX3_leadsOn 53 = .ok (.iconst 1, 1) := by decide +kernel
theorem dX3_leadsOn_54 : decode cX3_leadsOn 54 = .ok (.iadd, 1) := by decide +kernel
theorem dX3_leadsOn_55 : decode cX3_leadsOn 55 = .ok (.baload, 1) := by decide +kernel
theorem dX3_leadsOn_56 : decode cX3_leadsOn 56 = .ok (.ifCond .ne 7, 3) := by decide +kernel
theorem dX3_leadsOn_59 : decode cX3_leadsOn 59 = .ok (.iconst 1, 1) := by decide +kernel
theorem dX3_leadsOn_60 : decode cX3_leadsOn 60 = .ok (.goto 4, 3) := by decide +kernel
theorem dX3_leadsOn_63 : decode cX3_leadsOn 63 = .ok (.iconst 0, 1) := by decide +kernel
theorem dX3_leadsOn_64 : decode cX3_leadsOn 64 = .ok (.ireturn, 1) := by decide +kernel
theorem dX3_findBest_0 : decode cX3_findBest 0 = .ok (.aload_n 0, 1) := by decide +kernel
theorem dX3_findBest_1 : decode cX3_findBest 1 = .ok (.getfield 20, 3) := by decide +kernel
theorem dX3_findBest_4 : decode cX3_findBest 4 = .ok (.aload_n 0, 1) := by decide +kernel
theorem dX3_findBest_5 : decode cX3_findBest 5 = .ok (.getfield 51, 3) := by decide +kernel
theorem dX3_findBest_8 : decode cX3_findBest 8 = .ok (.getfield 68, 3) := by decide +kernel
theorem dX3_findBest_11 : decode cX3_findBest 11 = .ok (.iconst 0, 1) := by decide +kernel
theorem dX3_findBest_12 : decode cX3_findBest 12 = .ok (.iastore, 1) := by decide +kernel
theorem dX3_findBest_13 : decode cX3_findBest 13 = .ok (.aload_n 0, 1) := by decide +kernel
theorem dX3_findBest_14 : decode cX3_findBest 14 = .ok (.getfield 51, 3) := by decide +kernel
theorem dX3_findBest_17 : decode cX3_findBest 17 = .ok (.getfield 68, 3) := by decide +kernel
theorem dX3_findBest_20 : decode cX3_findBest 20 = .ok (.iconst 1, 1) := by decide +kernel
theorem dX3_findBest_21 : decode cX3_findBest 21 = .ok (.isub, 1) := by decide +kernel
theorem dX3_findBest_22 : decode cX3_findBest 22 = .ok (.istore_n 1, 1) := by decide +kernel
theorem dX3_findBest_23 : decode cX3_findBest 23 = .ok (.iload_n 1, 1) := by decide +kernel
theorem dX3_findBest_24 : decode cX3_findBest 24 = .ok (.ifCond .lt 91, 3) := by decide +kernel
theorem dX3_findBest_27 : decode cX3_findBest 27 = .ok (.iconst 2, 1) := by decide +kernel
theorem dX3_findBest_28 : decode cX3_findBest 28 = .ok (.istore_n 2, 1) := by decide +kernel
theorem dX3_findBest_29 : decode cX3_findBest 29 = .ok (.iload_n 2, 1) := by decide +kernel
theorem dX3_findBest_30 : decode cX3_findBest 30 = .ok (.iconst 4, 1) := by decide +kernel
theorem dX3_findBest_31 : decode cX3_findBest 31 = .ok (.if_icmp .gt 18, 3) := by decide +kernel
theorem dX3_findBest_34 : decode cX3_findBest 34 = .ok (.aload_n 0, 1) := by decide +kernel
theorem dX3_findBest_35 : decode cX3_findBest 35 = .ok (.getfield 17, 3) := by decide +kernel
theorem dX3_findBest_38 : decode cX3_findBest 38 = .ok (.iload_n 1, 1) := by decide +kernel
theorem dX3_findBest_39 : decode cX3_findBest 39 = .ok (.aaload, 1) := by decide +kernel
theorem dX3_findBest_40 : decode cX3_findBest 40 = .ok (.iload_n 2, 1) := by decide +kernel
theorem dX3_findBest_41 : decode cX3_findBest 41 = .ok (.iconst 0, 1) := by decide +kernel
theorem dX3_findBest_42 : decode cX3_findBest 42 = .ok (.iastore, 1) := by decide +kernel
theorem dX3_findBest_43 : decode cX3_findBest 43 = .ok (.iinc 2 1, 3) := by decide +kernel
theorem dX3_findBest_46 : decode cX3_findBest 46 = .ok (.goto (-17), 3) := by decide +kernel
theorem dX3_findBest_49 : decode cX3_findBest 49 = .ok (.aload_n 0, 1) := by decide +kernel
theorem dX3_findBest_50 : decode cX3_findBest 50 = .ok (.getfield 20, 3) := by decide +kernel
theorem dX3_findBest_53 : decode cX3_findBest 53 = .ok (.iload_n 1, 1) := by decide +kernel
theorem dX3_findBest_54 : decode cX3_findBest 54 = .ok (.aload_n 0, 1) := by decide +kernel
theorem dX3_findBest_55 : decode cX3_findBest 55 = .ok (.getfield 51, 3) := by decide +kernel
theorem dX3_findBest_58 : decode cX3_findBest 58 = .ok (.getfield 88, 3) := by decide +kernel
theorem dX3_findBest_61 : decode cX3_findBest 61 = .ok (.iload_n 1, 1) := by decide +kernel
theorem dX3_findBest_62 : decode cX3_findBest 62 = .ok (.iaload, 1) := by decide +kernel
theorem dX3_findBest_63 : decode cX3_findBest 63 = .ok (.invokestatic 115, 3) := by decide +kernel
theorem dX3_findBest_66 : decode cX3_findBest 66 = .ok (.aload_n 0, 1) := by decide +kernel
theorem dX3_findBest_67 : decode cX3_findBest 67 = .ok (.getfield 20, 3) := by decide +kernel
theorem dX3_findBest_70 : decode cX3_findBest 70 = .ok (.iload_n 1, 1) := by decide +kernel
theorem dX3_findBest_71 : decode cX3_findBest 71 = .ok (.iconst 1, 1) := by decide +kernel
theorem dX3_findBest_72 : decode cX3_findBest 72 = .ok (.iadd, 1) := by decide +kernel
theorem dX3_findBest_73 : decode cX3_findBest 73 = .ok (.iaload, 1) := by decide +kernel
theorem dX3_findBest_74 : decode cX3_findBest 74 = .ok (.iadd, 1) := by decide +kernel
theorem dX3_findBest_75 : decode cX3_findBest 75 = .ok (.iastore, 1) := by decide +kernel
theorem dX3_findBest_76 : decode cX3_findBest 76 = .ok (.aload_n 0, 1) := by decide +kernel
theorem dX3_findBest_77 : decode cX3_findBest 77 = .ok (.getfield 23, 3) := by decide +kernel
theorem dX3_findBest_80 : decode cX3_findBest 80 = .ok (.iload_n 1, 1) := by decide +kernel
theorem dX3_findBest_81 : decode cX3_findBest 81 = .ok (.bipush (-4), 2) := by decide +kernel
theorem dX3_findBest_83 : decode cX3_findBest 83 = .ok (.iastore, 1) := by decide +kernel
theorem dX3_findBest_84 : decode cX3_findBest 84 = .ok (.iconst 0, 1) := by decide +kernel
theorem dX3_findBest_85 : decode cX3_findBest 85 = .ok (.istore_n 2, 1) := by decide +kernel
theorem dX3_findBest_86 : decode cX3_findBest 86 = .ok (.iload_n 2, 1) := by decide +kernel
theorem dX3_findBest_87 : decode cX3_findBest 87 = .ok (.aload_n 0, 1) := by decide +kernel
theorem dX3_findBest_88 : decode cX3_findBest 88 = .ok (.getfield 55, 3) := by decide +kernel
theorem dX3_findBest_91 : decode cX3_findBest 91 = .ok (.getfield 118, 3) := by decide +kernel
theorem dX3_findBest_94 : decode cX3_findBest 94 = .ok (.if_icmp .ge 15, 3) := by decide +kernel
theorem dX3_findBest_97 : decode cX3_findBest 97 = .ok (.aload_n 0, 1) := by decide +kernel
theorem dX3_findBest_98 : decode cX3_findBest 98 = .ok (.iload_n 1, 1) := by decide +kernel
theorem dX3_findBest_99 : decode cX3_findBest 99 = .ok (.iload_n 2, 1) := by decide +kernel
theorem dX3_findBest_100 : decode cX3_findBest 100 = .ok (.invokevirtual 121, 3) := by decide +kernel
theorem dX3_findBest_103 : decode cX3_findBest 103 = .ok (.iinc 2 1, 3) := by decide +kernel
theorem dX3_findBest_106 : decode cX3_findBest 106 = .ok (.goto (-20), 3) := by decide +kernel
theorem dX3_findBest_109 : decode cX3_findBest 109 = .ok (.iinc 1 (-1), 3) := by decide +kernel
theorem dX3_findBest_112 : decode cX3_findBest 112 = .ok (.goto (-89), 3) := by decide +kernel
theorem dX3_findBest_115 : decode cX3_findBest 115 = .ok (.return_, 1) := by decide +kernel
theorem dX3_offer_0 : decode cX3_offer 0 = .ok (.aload_n 0, 1) := by decide +kernel
theorem dX3_offer_1 : decode cX3_offer 1 = .ok (.getfield 55, 3) := by decide +kernel
theorem dX3_offer_4 : decode cX3_offer 4 = .ok (.getfield 125, 3) := by decide +kernel
theorem dX3_offer_7 : decode cX3_offer 7 = .ok (.iload_n 2, 1) := by decide +kernel
theorem dX3_offer_8 : decode cX3_offer 8 = .ok (.aaload, 1) := by decide +kernel
theorem dX3_offer_9 : decode cX3_offer 9 = .ok (.astore_n 3, 1) := by decide +kernel
theorem dX3_offer_10 : decode cX3_offer 10 = .ok (.aload_n 0, 1) := by decide +kernel
theorem dX3_offer_11 : decode cX3_offer 11 = .ok (.aload_n 3, 1) := by decide +kernel
theorem dX3_offer_12 : decode cX3_offer 12 = .ok (.iload_n 1, 1) := by decide +kernel
theorem dX3_offer_13 : decode cX3_offer 13 = .ok (.invokevirtual 129, 3) := by decide +kernel
theorem dX3_offer_16 : decode cX3_offer 16 = .ok (.ifCond .ne 4, 3) := by decide +kernel
theorem dX3_offer_19 : decode cX3_offer 19 = .ok (.return_, 1) := by decide +kernel
theorem dX3_offer_20 : decode cX3_offer 20 = .ok (.aload_n 3, 1) := by decide +kernel
theorem dX3_offer_21 : decode cX3_offer 21 = .ok (.getfield 133, 3) := by decide +kernel
theorem dX3_offer_24 : decode cX3_offer 24 = .ok (.invokestatic 136, 3) := by decide +kernel
theorem dX3_offer_27 : decode cX3_offer 27 = .ok (.istore 4, 2) := by decide +kernel
theorem dX3_offer_29 : decode cX3_offer 29 = .ok (.aload_n 0, 1) := by decide +kernel
theorem dX3_offer_30 : decode cX3_offer 30 = .ok (.getfield 17, 3) := by decide +kernel
theorem dX3_offer_33 : decode cX3_offer 33 = .ok (.iload_n 1, 1) := by decide +kernel
theorem dX3_offer_34 : decode cX3_offer 34 = .ok (.aaload, 1) := by decide +kernel
theorem dX3_offer_35 : decode cX3_offer 35 = .ok (.aload_n 3, 1) := by decide +kernel
theorem dX3_offer_36 : decode cX3_offer 36 = .ok (.getfield 139, 3) := by decide +kernel
theorem dX3_offer_39 : decode cX3_offer 39 = .ok (.iaload, 1) := by decide +kernel
theorem dX3_offer_40 : decode cX3_offer 40 = .ok (.istore 5, 2) := by decide +kernel
theorem dX3_offer_42 : decode cX3_offer 42 = .ok (.iload 5, 2) := by decide +kernel
theorem dX3_offer_44 : decode cX3_offer 44 = .ok (.ifCond .eq 10, 3) := by decide +kernel
theorem dX3_offer_47 : decode cX3_offer 47 = .ok (.iload 4, 2) := by decide +kernel
theorem dX3_offer_49 : decode cX3_offer 49 = .ok (.iload 5, 2) := by decide +kernel
theorem dX3_offer_51 : decode cX3_offer 51 = .ok (.if_icmp .ge 16, 3) := by decide +kernel
theorem dX3_offer_54 : decode cX3_offer 54 = .ok (.aload_n 0, 1) := by decide +kernel
theorem dX3_offer_55 : decode cX3_offer 55 = .ok (.getfield 17, 3) := by decide +kernel
theorem dX3_offer_58 : decode cX3_offer 58 = .ok (.iload_n 1, 1) := by decide +kernel
theorem dX3_offer_59 : decode cX3_offer 59 = .ok (.aaload, 1) := by decide +kernel
theorem dX3_offer_60 : decode cX3_offer 60 = .ok (.aload_n 3, 1) := by decide +kernel
theorem dX3_offer_61 : decode cX3_offer 61 = .ok (.getfield 139, 3) := by decide +kernel
theorem dX3_offer_64 : decode cX3_offer 64 = .ok (.iload 4, 2) := by decide +kernel
theorem dX3_offer_66 : decode cX3_offer 66 = .ok (.iastore, 1) := by decide +kernel
theorem dX3_offer_67 : decode cX3_offer 67 = .ok (.iload 4, 2) := by decide +kernel
theorem dX3_offer_69 : decode cX3_offer 69 = .ok (.aload_n 0, 1) := by decide +kernel
theorem dX3_offer_70 : decode cX3_offer 70 = .ok (.getfield 20, 3) := by decide +kernel
theorem dX3_offer_73 : decode cX3_offer 73 = .ok (.iload_n 1, 1) := by decide +kernel
theorem dX3_offer_74 : decode cX3_offer 74 = .ok (.aload_n 3, 1) := by decide +kernel
theorem dX3_offer_75 : decode cX3_offer 75 = .ok (.getfield 139, 3) := by decide +kernel
theorem dX3_offer_78 : decode cX3_offer 78 = .ok (.iadd, 1) := by decide +kernel
theorem dX3_offer_79 : decode cX3_offer 79 = .ok (.iaload, 1) := by decide +kernel
theorem dX3_offer_80 : decode cX3_offer 80 = .ok (.iadd, 1) := by decide +kernel
theorem dX3_offer_81 : decode cX3_offer 81 = .ok (.istore 6, 2) := by decide +kernel
theorem dX3_offer_83 : decode cX3_offer 83 = .ok (.iload 6, 2) := by decide +kernel
theorem dX3_offer_85 : decode cX3_offer 85 = .ok (.aload_n 0, 1) := by decide +kernel
theorem dX3_offer_86 : decode cX3_offer 86 = .ok (.getfield 20, 3) := by decide +kernel
theorem dX3_offer_89 : decode cX3_offer 89 = .ok (.iload_n 1, 1) := by decide +kernel
theorem dX3_offer_90 : decode cX3_offer 90 = .ok (.iaload, 1) := by decide +kernel
theorem dX3_offer_91 : decode cX3_offer 91 = .ok (.if_icmp .ge 18, 3) := by decide +kernel
theorem dX3_offer_94 : decode cX3_offer 94 = .ok (.aload_n 0, 1) := by decide +kernel
theorem dX3_offer_95 : decode cX3_offer 95 = .ok (.getfield 20, 3) := by decide +kernel
theorem dX3_offer_98 : decode cX3_offer 98 = .ok (.iload_n 1, 1) := by decide +kernel
theorem dX3_offer_99 : decode cX3_offer 99 = .ok (.iload 6, 2) := by decide +kernel
theorem dX3_offer_101 : decode cX3_offer 101 = .ok (.iastore, 1) := by decide +kernel
theorem dX3_offer_102 : decode cX3_offer 102 = .ok (.aload_n 0, 1) := by decide +kernel
theorem dX3_offer_103 : decode cX3_offer 103 = .ok (.getfield 23, 3) := by decide +kernel
theorem dX3_offer_106 : decode cX3_offer 106 = .ok (.iload_n 1, 1) := by decide +kernel
theorem dX3_offer_107 : decode cX3_offer 107 = .ok (.iload_n 2, 1) := by decide +kernel
theorem dX3_offer_108 : decode cX3_offer 108 = .ok (.iastore, 1) := by decide +kernel
theorem dX3_offer_109 : decode cX3_offer 109 = .ok (.return_, 1) := by decide +kernel
theorem dX3_placeAll_0 : decode cX3_placeAll 0 = .ok (.bipush (-4), 2) := by decide +kernel
theorem dX3_placeAll_2 : decode cX3_placeAll 2 = .ok (.istore_n 1, 1) := by decide +kernel
theorem dX3_placeAll_3 : decode cX3_placeAll 3 = .ok (.iconst 0, 1) := by decide +kernel
theorem dX3_placeAll_4 : decode cX3_placeAll 4 = .ok (.istore_n 2, 1) := by decide +kernel
theorem dX3_placeAll_5 : decode cX3_placeAll 5 = .ok (.iconst 0, 1) := by decide +kernel
theorem dX3_placeAll_6 : decode cX3_placeAll 6 = .ok (.istore_n 3, 1) := by decide +kernel
theorem dX3_placeAll_7 : decode cX3_placeAll 7 = .ok (.aload_n 0, 1) := by decide +kernel
theorem dX3_placeAll_8 : decode cX3_placeAll 8 = .ok (.iconst 0, 1) := by decide +kernel
theorem dX3_placeAll_9 : decode cX3_placeAll 9 = .ok (.putfield 142, 3) := by decide +kernel
theorem dX3_placeAll_12 : decode cX3_placeAll 12 = .ok (.iconst 0, 1) := by decide +kernel
theorem dX3_placeAll_13 : decode cX3_placeAll 13 = .ok (.istore 4, 2) := by decide +kernel
theorem dX3_placeAll_15 : decode cX3_placeAll 15 = .ok (.iload 4, 2) := by decide +kernel
theorem dX3_placeAll_17 : decode cX3_placeAll 17 = .ok (.aload_n 0, 1) := by decide +kernel
theorem dX3_placeAll_18 : decode cX3_placeAll 18 = .ok (.getfield 51, 3) := by decide +kernel
theorem dX3_placeAll_21 : decode cX3_placeAll 21 = .ok (.getfield 68, 3) := by decide +kernel
theorem dX3_placeAll_24 : decode cX3_placeAll 24 = .ok (.if_icmp .ge 176, 3) := by decide +kernel
theorem dX3_placeAll_27 : decode cX3_placeAll 27 = .ok (.iload_n 3, 1) := by decide +kernel
theorem dX3_placeAll_28 : decode cX3_placeAll 28 = .ok (.ifCond .ne 7, 3) := by decide +kernel
theorem dX3_placeAll_31 : decode cX3_placeAll 31 = .ok (.iconst 1, 1) := by decide +kernel
theorem dX3_placeAll_32 : decode cX3_placeAll 32 = .ok (.goto 4, 3) := by decide +kernel
theorem dX3_placeAll_35 : decode cX3_placeAll 35 = .ok (.iconst 0, 1) := by decide +kernel
theorem dX3_placeAll_36 : decode cX3_placeAll 36 = .ok (.istore 5, 2) := by decide +kernel
theorem dX3_placeAll_38 : decode cX3_placeAll 38 = .ok (.aload_n 0, 1) := by decide +kernel
theorem dX3_placeAll_39 : decode cX3_placeAll 39 = .ok (.getfield 42, 3) := by decide +kernel
theorem dX3_placeAll_42 : decode cX3_placeAll 42 = .ok (.iload 4, 2) := by decide +kernel
theorem dX3_placeAll_44 : decode cX3_placeAll 44 = .ok (.iload 5, 2) := by decide +kernel
theorem dX3_placeAll_46 : decode cX3_placeAll 46 = .ok (.ifCond .eq 10, 3) := by decide +kernel
theorem dX3_placeAll_49 : decode cX3_placeAll 49 = .ok (.aload_n 0, 1) := by decide +kernel
theorem dX3_placeAll_50 : decode cX3_placeAll 50 = .ok (.getfield 142, 3) := by decide +kernel
theorem dX3_placeAll_53 : decode cX3_placeAll 53 = .ok (.goto 5, 3) := by decide +kernel
theorem dX3_placeAll_56 : decode cX3_placeAll 56 = .ok (.bipush (-4), 2) := by decide +kernel
theorem dX3_placeAll_58 : decode cX3_placeAll 58 = .ok (.iastore, 1) := by decide +kernel
theorem dX3_placeAll_59 : decode cX3_placeAll 59 = .ok (.iload 5, 2) := by decide +kernel
theorem dX3_placeAll_61 : decode cX3_placeAll 61 = .ok (.ifCond .eq 91, 3) := by decide +kernel
theorem dX3_placeAll_64 : decode cX3_placeAll 64 = .ok (.aload_n 0, 1) := by decide +kernel
theorem dX3_placeAll_65 : decode cX3_placeAll 65 = .ok (.getfield 23, 3) := by decide +kernel
theorem dX3_placeAll_68 : decode cX3_placeAll 68 = .ok (.iload 4, 2) := by decide +kernel
theorem dX3_placeAll_70 : decode cX3_placeAll 70 = .ok (.iaload, 1) := by decide +kernel
theorem dX3_placeAll_71 : decode cX3_placeAll 71 = .ok (.istore_n 1, 1) := by decide +kernel
theorem dX3_placeAll_72 : decode cX3_placeAll 72 = .ok (.iconst 0, 1) := by decide +kernel
theorem dX3_placeAll_73 : decode cX3_placeAll 73 = .ok (.istore_n 2, 1) := by decide +kernel
theorem dX3_placeAll_74 : decode cX3_placeAll 74 = .ok (.iload_n 1, 1) := by decide +kernel
theorem dX3_placeAll_75 : decode cX3_placeAll 75 = .ok (.ifCond .ge 7, 3) := by decide +kernel
theorem dX3_placeAll_78 : decode cX3_placeAll 78 = .ok (.iconst 1, 1) := by decide +kernel
theorem dX3_placeAll_79 : decode cX3_placeAll 79 = .ok (.goto 4, 3) := by decide +kernel
theorem dX3_placeAll_82 : decode cX3_placeAll 82 = .ok (.iconst 0, 1) := by decide +kernel
theorem dX3_placeAll_83 : decode cX3_placeAll 83 = .ok (.istore 6, 2) := by decide +kernel
theorem dX3_placeAll_85 : decode cX3_placeAll 85 = .ok (.iload 6, 2) := by decide +kernel
theorem dX3_placeAll_87 : decode cX3_placeAll 87 = .ok (.ifCond .eq 7, 3) := by decide +kernel
theorem dX3_placeAll_90 : decode cX3_placeAll 90 = .ok (.iconst 1, 1) := by decide +kernel
theorem dX3_placeAll_91 : decode cX3_placeAll 91 = .ok (.goto 15, 3) := by decide +kernel
theorem dX3_placeAll_94 : decode cX3_placeAll 94 = .ok (.aload_n 0, 1) := by decide +kernel
theorem dX3_placeAll_95 : decode cX3_placeAll 95 = .ok (.getfield 55, 3) := by decide +kernel
theorem dX3_placeAll_98 : decode cX3_placeAll 98 = .ok (.getfield 125, 3) := by decide +kernel
theorem dX3_placeAll_101 : decode cX3_placeAll 101 = .ok (.iload_n 1, 1) := by decide +kernel
theorem dX3_placeAll_102 : decode cX3_placeAll 102 = .ok (.aaload, 1) := by decide +kernel
theorem dX3_placeAll_103 : decode cX3_placeAll 103 = .ok (.getfield 139, 3) := by decide +kernel
theorem dX3_placeAll_106 : decode cX3_placeAll 106 = .ok (.istore_n 3, 1) := by decide +kernel
theorem dX3_placeAll_107 : decode cX3_placeAll 107 = .ok (.aload_n 0, 1) := by decide +kernel
theorem dX3_placeAll_108 : decode cX3_placeAll 108 = .ok (.dup, 1) := by decide +kernel
theorem dX3_placeAll_109 : decode cX3_placeAll 109 = .ok (.getfield 142, 3) := by decide +kernel
theorem dX3_placeAll_112 : decode cX3_placeAll 112 = .ok (.iload 6, 2) := by decide +kernel
theorem dX3_placeAll_114 : decode cX3_placeAll 114 = .ok (.ifCond .eq 19, 3) := by decide +kernel
theorem dX3_placeAll_117 : decode cX3_placeAll 117 = .ok (.aload_n 0, 1) := by decide +kernel
theorem dX3_placeAll_118 : decode cX3_placeAll 118 = .ok (.getfield 51, 3) := by decide +kernel
theorem dX3_placeAll_121 : decode cX3_placeAll 121 = .ok (.getfield 88, 3) := by decide +kernel
theorem dX3_placeAll_124 : decode cX3_placeAll 124 = .ok (.iload 4, 2) := by decide +kernel
theorem dX3_placeAll_126 : decode cX3_placeAll 126 = .ok (.iaload, 1) := by decide +kernel
theorem dX3_placeAll_127 : decode cX3_placeAll 127 = .ok (.invokestatic 115, 3) := by decide +kernel
theorem dX3_placeAll_130 : decode cX3_placeAll 130 = .ok (.goto 18, 3) := by decide +kernel
theorem dX3_placeAll_133 : decode cX3_placeAll 133 = .ok (.aload_n 0, 1) := by decide +kernel
theorem dX3_placeAll_134 : decode cX3_placeAll 134 = .ok (.getfield 55, 3) := by decide +kernel
theorem dX3_placeAll_137 : decode cX3_placeAll 137 = .ok (.getfield 125, 3) := by decide +kernel
theorem dX3_placeAll_140 : decode cX3_placeAll 140 = .ok (.iload_n 1, 1) := by decide +kernel
theorem dX3_placeAll_141 : decode cX3_placeAll 141 = .ok (.aaload, 1) := by decide +kernel
theorem dX3_placeAll_142 : decode cX3_placeAll 142 = .ok (.getfield 133, 3) := by decide +kernel
theorem dX3_placeAll_145 : decode cX3_placeAll 145 = .ok (.invokestatic 136, 3) := by decide +kernel
theorem dX3_placeAll_148 : decode cX3_placeAll 148 = .ok (.iadd, 1) := by decide +kernel
theorem dX3_placeAll_149 : decode cX3_placeAll 149 = .ok (.putfield 142, 3) := by decide +kernel
theorem dX3_placeAll_152 : decode cX3_placeAll 152 = .ok (.aload_n 0, 1) := by decide +kernel
theorem dX3_placeAll_153 : decode cX3_placeAll 153 = .ok (.getfield 36, 3) := by decide +kernel
theorem dX3_placeAll_156 : decode cX3_placeAll 156 = .ok (.iload 4, 2) := by decide +kernel
theorem dX3_placeAll_158 : decode cX3_placeAll 158 = .ok (.iload_n 1, 1) := by decide +kernel
theorem dX3_placeAll_159 : decode cX3_placeAll 159 = .ok (.iastore, 1) := by decide +kernel
theorem dX3_placeAll_160 : decode cX3_placeAll 160 = .ok (.aload_n 0, 1) := by decide +kernel
theorem dX3_placeAll_161 : decode cX3_placeAll 161 = .ok (.getfield 39, 3) := by decide +kernel
theorem dX3_placeAll_164 : decode cX3_placeAll 164 = .ok (.iload 4, 2) := by decide +kernel
theorem dX3_placeAll_166 : decode cX3_placeAll 166 = .ok (.iload_n 1, 1) := by decide +kernel
theorem dX3_placeAll_167 : decode cX3_placeAll 167 = .ok (.ifCond .ge 8, 3) := by decide +kernel
theorem dX3_placeAll_170 : decode cX3_placeAll 170 = .ok (.bipush (-4), 2) := by decide +kernel
theorem dX3_placeAll_172 : decode cX3_placeAll 172 = .ok (.goto 4, 3) := by decide +kernel
theorem dX3_placeAll_175 : decode cX3_placeAll 175 = .ok (.iload_n 2, 1) := by decide +kernel
theorem dX3_placeAll_176 : decode cX3_placeAll 176 = .ok (.iastore, 1) := by decide +kernel
theorem dX3_placeAll_177 : decode cX3_placeAll 177 = .ok (.aload_n 0, 1) := by decide +kernel
theorem dX3_placeAll_178 : decode cX3_placeAll 178 = .ok (.getfield 45, 3) := by decide +kernel
theorem dX3_placeAll_181 : decode cX3_placeAll 181 = .ok (.iload 4, 2) := by decide +kernel
theorem dX3_placeAll_183 : decode cX3_placeAll 183 = .ok (.aload_n 0, 1) := by decide +kernel
theorem dX3_placeAll_184 : decode cX3_placeAll 184 = .ok (.getfield 142, 3) := by decide +kernel
theorem dX3_placeAll_187 : decode cX3_placeAll 187 = .ok (.iastore, 1) := by decide +kernel
theorem dX3_placeAll_188 : decode cX3_placeAll 188 = .ok (.iinc 2 1, 3) := by decide +kernel
theorem dX3_placeAll_191 : decode cX3_placeAll 191 = .ok (.iinc 3 (-1), 3) := by decide +kernel
theorem dX3_placeAll_194 : decode cX3_placeAll 194 = .ok (.iinc 4 1, 3) := by decide +kernel
theorem dX3_placeAll_197 : decode cX3_placeAll 197 = .ok (.goto (-182), 3) := by decide +kernel
theorem dX3_placeAll_200 : decode cX3_placeAll 200 = .ok (.return_, 1) := by decide +kernel
theorem dX3_layNibbles_0 : decode cX3_layNibbles 0 = .ok (.iconst 0, 1) := by decide +kernel
theorem dX3_layNibbles_1 : decode cX3_layNibbles 1 = .ok (.istore_n 1, 1) := by decide +kernel
theorem dX3_layNibbles_2 : decode cX3_layNibbles 2 = .ok (.iload_n 1, 1) := by decide +kernel
theorem dX3_layNibbles_3 : decode cX3_layNibbles 3 = .ok (.aload_n 0, 1) := by decide +kernel
theorem dX3_layNibbles_4 : decode cX3_layNibbles 4 = .ok (.getfield 51, 3) := by decide +kernel
theorem dX3_layNibbles_7 : decode cX3_layNibbles 7 = .ok (.getfield 68, 3) := by decide +kernel
theorem dX3_layNibbles_10 : decode cX3_layNibbles 10 = .ok (.if_icmp .ge 49, 3) := by decide +kernel
theorem dX3_layNibbles_13 : decode cX3_layNibbles 13 = .ok (.aload_n 0, 1) := by decide +kernel
theorem dX3_layNibbles_14 : decode cX3_layNibbles 14 = .ok (.getfield 42, 3) := by decide +kernel
theorem dX3_layNibbles_17 : decode cX3_layNibbles 17 = .ok (.iload_n 1, 1) := by decide +kernel
theorem dX3_layNibbles_18 : decode cX3_layNibbles 18 = .ok (.iaload, 1) := by decide +kernel
theorem dX3_layNibbles_19 : decode cX3_layNibbles 19 = .ok (.ifCond .lt 20, 3) := by decide +kernel
theorem dX3_layNibbles_22 : decode cX3_layNibbles 22 = .ok (.aload_n 0, 1) := by decide +kernel
theorem dX3_layNibbles_23 : decode cX3_layNibbles 23 = .ok (.getfield 36, 3) := by decide +kernel
theorem dX3_layNibbles_26 : decode cX3_layNibbles 26 = .ok (.iload_n 1, 1) := by decide +kernel
theorem dX3_layNibbles_27 : decode cX3_layNibbles 27 = .ok (.iaload, 1) := by decide +kernel
theorem dX3_layNibbles_28 : decode cX3_layNibbles 28 = .ok (.ifCond .lt 11, 3) := by decide +kernel
theorem dX3_layNibbles_31 : decode cX3_layNibbles 31 = .ok (.aload_n 0, 1) := by decide +kernel
theorem dX3_layNibbles_32 : decode cX3_layNibbles 32 = .ok (.iload_n 1, 1) := by decide +kernel
theorem dX3_layNibbles_33 : decode cX3_layNibbles 33 = .ok (.invokevirtual 143, 3) := by decide +kernel
theorem dX3_layNibbles_36 : decode cX3_layNibbles 36 = .ok (.goto 17, 3) := by decide +kernel
theorem dX3_layNibbles_39 : decode cX3_layNibbles 39 = .ok (.aload_n 0, 1) := by decide +kernel
theorem dX3_layNibbles_40 : decode cX3_layNibbles 40 = .ok (.getfield 42, 3) := by decide +kernel
theorem dX3_layNibbles_43 : decode cX3_layNibbles 43 = .ok (.iload_n 1, 1) := by decide +kernel
theorem dX3_layNibbles_44 : decode cX3_layNibbles 44 = .ok (.iaload, 1) := by decide +kernel
theorem dX3_layNibbles_45 : decode cX3_layNibbles 45 = .ok (.ifCond .lt 8, 3) := by decide +kernel
theorem dX3_layNibbles_48 : decode cX3_layNibbles 48 = .ok (.aload_n 0, 1) := by decide +kernel
theorem dX3_layNibbles_49 : decode cX3_layNibbles 49 = .ok (.iload_n 1, 1) := by decide +kernel
theorem dX3_layNibbles_50 : decode cX3_layNibbles 50 = .ok (.invokevirtual 147, 3) := by decide +kernel
theorem dX3_layNibbles_53 : decode cX3_layNibbles 53 = .ok (.iinc 1 1, 3) := by decide +kernel
theorem dX3_layNibbles_56 : decode cX3_layNibbles 56 = .ok (.goto (-54), 3) := by decide +kernel
theorem dX3_layNibbles_59 : decode cX3_layNibbles 59 = .ok (.return_, 1) := by decide +kernel
theorem dX3_layReference_0 : decode cX3_layReference 0 = .ok (.aload_n 0, 1) := by decide +kernel
theorem dX3_layReference_1 : decode cX3_layReference 1 = .ok (.getfield 42, 3) := by decide +kernel
theorem dX3_layReference_4 : decode cX3_layReference 4 = .ok (.iload_n 1, 1) := by decide +kernel
theorem dX3_layReference_5 : decode cX3_layReference 5 = .ok (.iaload, 1) := by decide +kernel
theorem dX3_layReference_6 : decode cX3_layReference 6 = .ok (.istore_n 2, 1) := by decide +kernel
theorem dX3_layReference_7 : decode cX3_layReference 7 = .ok (.aload_n 0, 1) := by decide +kernel
theorem dX3_layReference_8 : decode cX3_layReference 8 = .ok (.getfield 55, 3) := by decide +kernel
theorem dX3_layReference_11 : decode cX3_layReference 11 = .ok (.getfield 125, 3) := by decide +kernel
theorem dX3_layReference_14 : decode cX3_layReference 14 = .ok (.aload_n 0, 1) := by decide +kernel
theorem dX3_layReference_15 : decode cX3_layReference 15 = .ok (.getfield 36, 3) := by decide +kernel
theorem dX3_layReference_18 : decode cX3_layReference 18 = .ok (.iload_n 1, 1) := by decide +kernel
theorem dX3_layReference_19 : decode cX3_layReference 19 = .ok (.iaload, 1) := by decide +kernel
theorem dX3_layReference_20 : decode cX3_layReference 20 = .ok (.aaload, 1) := by decide +kernel
theorem dX3_layReference_21 : decode cX3_layReference 21 = .ok (.getfield 133, 3) := by decide +kernel
theorem dX3_layReference_24 : decode cX3_layReference 24 = .ok (.istore_n 3, 1) := by decide +kernel
theorem dX3_layReference_25 : decode cX3_layReference 25 = .ok (.aload_n 0, 1) := by decide +kernel
theorem dX3_layReference_26 : decode cX3_layReference 26 = .ok (.getfield 48, 3) := by decide +kernel
theorem dX3_layReference_29 : decode cX3_layReference 29 = .ok (.iload_n 2, 1) := by decide +kernel
theorem dX3_layReference_30 : decode cX3_layReference 30 = .ok (.bipush 15, 2) := by decide +kernel
theorem dX3_layReference_32 : decode cX3_layReference 32 = .ok (.iastore, 1) := by decide +kernel
theorem dX3_layReference_33 : decode cX3_layReference 33 = .ok (.aload_n 0, 1) := by decide +kernel
theorem dX3_layReference_34 : decode cX3_layReference 34 = .ok (.getfield 48, 3) := by decide +kernel
theorem dX3_layReference_37 : decode cX3_layReference 37 = .ok (.iload_n 2, 1) := by decide +kernel
theorem dX3_layReference_38 : decode cX3_layReference 38 = .ok (.iconst 1, 1) := by decide +kernel
theorem dX3_layReference_39 : decode cX3_layReference 39 = .ok (.iadd, 1) := by decide +kernel
theorem dX3_layReference_40 : decode cX3_layReference 40 = .ok (.aload_n 0, 1) := by decide +kernel
theorem dX3_layReference_41 : decode cX3_layReference 41 = .ok (.getfield 36, 3) := by decide +kernel
theorem dX3_layReference_44 : decode cX3_layReference 44 = .ok (.iload_n 1, 1) := by decide +kernel
theorem dX3_layReference_45 : decode cX3_layReference 45 = .ok (.iaload, 1) := by decide +kernel
theorem dX3_layReference_46 : decode cX3_layReference 46 = .ok (.iastore, 1) := by decide +kernel
theorem dX3_layReference_47 : decode cX3_layReference 47 = .ok (.iload_n 3, 1) := by decide +kernel
theorem dX3_layReference_48 : decode cX3_layReference 48 = .ok (.ifCond .lt 22, 3) := by decide +kernel
theorem dX3_layReference_51 : decode cX3_layReference 51 = .ok (.aload_n 0, 1) := by decide +kernel
theorem dX3_layReference_52 : decode cX3_layReference 52 = .ok (.getfield 48, 3) := by decide +kernel
theorem dX3_layReference_55 : decode cX3_layReference 55 = .ok (.iload_n 2, 1) := by decide +kernel
theorem dX3_layReference_56 : decode cX3_layReference 56 = .ok (.iconst 2, 1) := by decide +kernel
theorem dX3_layReference_57 : decode cX3_layReference 57 = .ok (.iadd, 1) := by decide +kernel
theorem dX3_layReference_58 : decode cX3_layReference 58 = .ok (.aload_n 0, 1) := by decide +kernel
theorem dX3_layReference_59 : decode cX3_layReference 59 = .ok (.getfield 51, 3) := by decide +kernel
theorem dX3_layReference_62 : decode cX3_layReference 62 = .ok (.getfield 150, 3) := by decide +kernel
theorem dX3_layReference_65 : decode cX3_layReference 65 = .ok (.iload_n 1, 1) := by decide +kernel
theorem dX3_layReference_66 : decode cX3_layReference 66 = .ok (.iload_n 3, 1) := by decide +kernel
theorem dX3_layReference_67 : decode cX3_layReference 67 = .ok (.iadd, 1) := by decide +kernel
theorem dX3_layReference_68 : decode cX3_layReference 68 = .ok (.iaload, 1) := by decide +kernel
theorem dX3_layReference_69 : decode cX3_layReference 69 = .ok (.iastore, 1) := by decide +kernel
theorem dX3_layReference_70 : decode cX3_layReference 70 = .ok (.return_, 1) := by decide +kernel
theorem dX3_layAlone_0 : decode cX3_layAlone 0 = .ok (.aload_n 0, 1) := by decide +kernel
theorem dX3_layAlone_1 : decode cX3_layAlone 1 = .ok (.getfield 42, 3) := by decide +kernel
theorem dX3_layAlone_4 : decode cX3_layAlone 4 = .ok (.iload_n 1, 1) := by decide +kernel
theorem dX3_layAlone_5 : decode cX3_layAlone 5 = .ok (.iaload, 1) := by decide +kernel
theorem dX3_layAlone_6 : decode cX3_layAlone 6 = .ok (.istore_n 2, 1) := by decide +kernel
theorem dX3_layAlone_7 : decode cX3_layAlone 7 = .ok (.aload_n 0, 1) := by decide +kernel
theorem dX3_layAlone_8 : decode cX3_layAlone 8 = .ok (.getfield 51, 3) := by decide +kernel
theorem dX3_layAlone_11 : decode cX3_layAlone 11 = .ok (.getfield 88, 3) := by decide +kernel
theorem dX3_layAlone_14 : decode cX3_layAlone 14 = .ok (.iload_n 1, 1) := by decide +kernel
theorem dX3_layAlone_15 : decode cX3_layAlone 15 = .ok (.iaload, 1) := by decide +kernel
theorem dX3_layAlone_16 : decode cX3_layAlone 16 = .ok (.istore_n 3, 1) := by decide +kernel
theorem dX3_layAlone_17 : decode cX3_layAlone 17 = .ok (.aload_n 0, 1) := by decide +kernel
theorem dX3_layAlone_18 : decode cX3_layAlone 18 = .ok (.getfield 48, 3) := by decide +kernel
theorem dX3_layAlone_21 : decode cX3_layAlone 21 = .ok (.iload_n 2, 1) := by decide +kernel
theorem dX3_layAlone_22 : decode cX3_layAlone 22 = .ok (.iload_n 3, 1) := by decide +kernel
theorem dX3_layAlone_23 : decode cX3_layAlone 23 = .ok (.iastore, 1) := by decide +kernel
theorem dX3_layAlone_24 : decode cX3_layAlone 24 = .ok (.iload_n 3, 1) := by decide +kernel
theorem dX3_layAlone_25 : decode cX3_layAlone 25 = .ok (.invokestatic 91, 3) := by decide +kernel
theorem dX3_layAlone_28 : decode cX3_layAlone 28 = .ok (.ifCond .eq 23, 3) := by decide +kernel
theorem dX3_layAlone_31 : decode cX3_layAlone 31 = .ok (.aload_n 0, 1) := by decide +kernel
theorem dX3_layAlone_32 : decode cX3_layAlone 32 = .ok (.getfield 48, 3) := by decide +kernel
theorem dX3_layAlone_35 : decode cX3_layAlone 35 = .ok (.iload_n 2, 1) := by decide +kernel
theorem dX3_layAlone_36 : decode cX3_layAlone 36 = .ok (.iconst 1, 1) := by decide +kernel
theorem dX3_layAlone_37 : decode cX3_layAlone 37 = .ok (.iadd, 1) := by decide +kernel
theorem dX3_layAlone_38 : decode cX3_layAlone 38 = .ok (.aload_n 0, 1) := by decide +kernel
theorem dX3_layAlone_39 : decode cX3_layAlone 39 = .ok (.getfield 51, 3) := by decide +kernel
theorem dX3_layAlone_42 : decode cX3_layAlone 42 = .ok (.getfield 150, 3) := by decide +kernel
theorem dX3_layAlone_45 : decode cX3_layAlone 45 = .ok (.iload_n 1, 1) := by decide +kernel
theorem dX3_layAlone_46 : decode cX3_layAlone 46 = .ok (.iaload, 1) := by decide +kernel
theorem dX3_layAlone_47 : decode cX3_layAlone 47 = .ok (.iastore, 1) := by decide +kernel
theorem dX3_layAlone_48 : decode cX3_layAlone 48 = .ok (.goto 89, 3) := by decide +kernel
theorem dX3_layAlone_51 : decode cX3_layAlone 51 = .ok (.iload_n 3, 1) := by decide +kernel
theorem dX3_layAlone_52 : decode cX3_layAlone 52 = .ok (.invokestatic 153, 3) := by decide +kernel
theorem dX3_layAlone_55 : decode cX3_layAlone 55 = .ok (.ifCond .eq 82, 3) := by decide +kernel
theorem dX3_layAlone_58 : decode cX3_layAlone 58 = .ok (.aload_n 0, 1) := by decide +kernel
theorem dX3_layAlone_59 : decode cX3_layAlone 59 = .ok (.getfield 51, 3) := by decide +kernel
theorem dX3_layAlone_62 : decode cX3_layAlone 62 = .ok (.aload_n 0, 1) := by decide +kernel
theorem dX3_layAlone_63 : decode cX3_layAlone 63 = .ok (.getfield 51, 3) := by decide +kernel
theorem dX3_layAlone_66 : decode cX3_layAlone 66 = .ok (.getfield 150, 3) := by decide +kernel
theorem dX3_layAlone_69 : decode cX3_layAlone 69 = .ok (.iload_n 1, 1) := by decide +kernel
theorem dX3_layAlone_70 : decode cX3_layAlone 70 = .ok (.iaload, 1) := by decide +kernel
theorem dX3_layAlone_71 : decode cX3_layAlone 71 = .ok (.invokevirtual 104, 3) := by decide +kernel
theorem dX3_layAlone_74 : decode cX3_layAlone 74 = .ok (.ifCond .eq 63, 3) := by decide +kernel
theorem dX3_layAlone_77 : decode cX3_layAlone 77 = .ok (.aload_n 0, 1) := by decide +kernel
theorem dX3_layAlone_78 : decode cX3_layAlone 78 = .ok (.getfield 42, 3) := by decide +kernel
theorem dX3_layAlone_81 : decode cX3_layAlone 81 = .ok (.aload_n 0, 1) := by decide +kernel
theorem dX3_layAlone_82 : decode cX3_layAlone 82 = .ok (.getfield 51, 3) := by decide +kernel
theorem dX3_layAlone_85 : decode cX3_layAlone 85 = .ok (.getfield 150, 3) := by decide +kernel
theorem dX3_layAlone_88 : decode cX3_layAlone 88 = .ok (.iload_n 1, 1) := by decide +kernel
theorem dX3_layAlone_89 : decode cX3_layAlone 89 = .ok (.iaload, 1) := by decide +kernel
theorem dX3_layAlone_90 : decode cX3_layAlone 90 = .ok (.iaload, 1) := by decide +kernel
theorem dX3_layAlone_91 : decode cX3_layAlone 91 = .ok (.istore 4, 2) := by decide +kernel
theorem dX3_layAlone_93 : decode cX3_layAlone 93 = .ok (.aload_n 0, 1) := by decide +kernel
theorem dX3_layAlone_94 : decode cX3_layAlone 94 = .ok (.getfield 48, 3) := by decide +kernel
theorem dX3_layAlone_97 : decode cX3_layAlone 97 = .ok (.iload_n 2, 1) := by decide +kernel
theorem dX3_layAlone_98 : decode cX3_layAlone 98 = .ok (.iconst 1, 1) := by decide +kernel
theorem dX3_layAlone_99 : decode cX3_layAlone 99 = .ok (.iadd, 1) := by decide +kernel
theorem dX3_layAlone_100 : decode cX3_layAlone 100 = .ok (.iload 4, 2) := by decide +kernel
theorem dX3_layAlone_102 : decode cX3_layAlone 102 = .ok (.bipush 8, 2) := by decide +kernel
theorem dX3_layAlone_104 : decode cX3_layAlone 104 = .ok (.ishr, 1) := by decide +kernel
theorem dX3_layAlone_105 : decode cX3_layAlone 105 = .ok (.bipush 15, 2) := by decide +kernel
theorem dX3_layAlone_107 : decode cX3_layAlone 107 = .ok (.iand, 1) := by decide +kernel
theorem dX3_layAlone_108 : decode cX3_layAlone 108 = .ok (.iastore, 1) := by decide +kernel
theorem dX3_layAlone_109 : decode cX3_layAlone 109 = .ok (.aload_n 0, 1) := by decide +kernel
theorem dX3_layAlone_110 : decode cX3_layAlone 110 = .ok (.getfield 48, 3) := by decide +kernel
theorem dX3_layAlone_113 : decode cX3_layAlone 113 = .ok (.iload_n 2, 1) := by decide +kernel
theorem dX3_layAlone_114 : decode cX3_layAlone 114 = .ok (.iconst 2, 1) := by decide +kernel
theorem dX3_layAlone_115 : decode cX3_layAlone 115 = .ok (.iadd, 1) := by decide +kernel
theorem dX3_layAlone_116 : decode cX3_layAlone 116 = .ok (.iload 4, 2) := by decide +kernel
theorem dX3_layAlone_118 : decode cX3_layAlone 118 = .ok (.iconst 4, 1) := by decide +kernel
theorem dX3_layAlone_119 : decode cX3_layAlone 119 = .ok (.ishr, 1) := by decide +kernel
theorem dX3_layAlone_120 : decode cX3_layAlone 120 = .ok (.bipush 15, 2) := by decide +kernel
theorem dX3_layAlone_122 : decode cX3_layAlone 122 = .ok (.iand, 1) := by decide +kernel
theorem dX3_layAlone_123 : decode cX3_layAlone 123 = .ok (.iastore, 1) := by decide +kernel
theorem dX3_layAlone_124 : decode cX3_layAlone 124 = .ok (.aload_n 0, 1) := by decide +kernel
theorem dX3_layAlone_125 : decode cX3_layAlone 125 = .ok (.getfield 48, 3) := by decide +kernel
theorem dX3_layAlone_128 : decode cX3_layAlone 128 = .ok (.iload_n 2, 1) := by decide +kernel
theorem dX3_layAlone_129 : decode cX3_layAlone 129 = .ok (.iconst 3, 1) := by decide +kernel
theorem dX3_layAlone_130 : decode cX3_layAlone 130 = .ok (.iadd, 1) := by decide +kernel
theorem dX3_layAlone_131 : decode cX3_layAlone 131 = .ok (.iload 4, 2) := by decide +kernel
theorem dX3_layAlone_133 : decode cX3_layAlone 133 = .ok (.bipush 15, 2) := by decide +kernel
theorem dX3_layAlone_135 : decode cX3_layAlone 135 = .ok (.iand, 1) := by decide +kernel
theorem dX3_layAlone_136 : decode cX3_layAlone 136 = .ok (.iastore, 1) := by decide +kernel
theorem dX3_layAlone_137 : decode cX3_layAlone 137 = .ok (.return_, 1) := by decide +kernel
theorem dX3_isSequence_0 : decode cX3_isSequence 0 = .ok (.aload_n 0, 1) := by decide +kernel
theorem dX3_isSequence_1 : decode cX3_isSequence 1 = .ok (.getfield 51, 3) := by decide +kernel
theorem dX3_isSequence_4 : decode cX3_isSequence 4 = .ok (.iload_n 1, 1) := by decide +kernel
theorem dX3_isSequence_5 : decode cX3_isSequence 5 = .ok (.invokevirtual 104, 3) := by decide +kernel
theorem dX3_isSequence_8 : decode cX3_isSequence 8 = .ok (.ifCond .eq 22, 3) := by decide +kernel
theorem dX3_isSequence_11 : decode cX3_isSequence 11 = .ok (.iload_n 2, 1) := by decide +kernel
theorem dX3_isSequence_12 : decode cX3_isSequence 12 = .ok (.iconst 2, 1) := by decide +kernel
theorem dX3_isSequence_13 : decode cX3_isSequence 13 = .ok (.if_icmp .lt 17, 3) := by decide +kernel
theorem dX3_isSequence_16 : decode cX3_isSequence 16 = .ok (.iload_n 2, 1) := by decide +kernel
theorem dX3_isSequence_17 : decode cX3_isSequence 17 = .ok (.aload_n 0, 1) := by decide +kernel
theorem dX3_isSequence_18 : decode cX3_isSequence 18 = .ok (.getfield 9, 3) := by decide +kernel
theorem dX3_isSequence_21 : decode cX3_isSequence 21 = .ok (.iload_n 1, 1) := by decide +kernel
theorem dX3_isSequence_22 : decode cX3_isSequence 22 = .ok (.iaload, 1) := by decide +kernel
theorem dX3_isSequence_23 : decode cX3_isSequence 23 = .ok (.if_icmp .gt 7, 3) := by decide +kernel
theorem dX3_isSequence_26 : decode cX3_isSequence 26 = .ok (.iconst 1, 1) := by decide +kernel
theorem dX3_isSequence_27 : decode cX3_isSequence 27 = .ok (.goto 4, 3) := by decide +kernel
theorem dX3_isSequence_30 : decode cX3_isSequence 30 = .ok (.iconst 0, 1) := by decide +kernel
theorem dX3_isSequence_31 : decode cX3_isSequence 31 = .ok (.ireturn, 1) := by decide +kernel
theorem dX3_matches_0 : decode cX3_matches 0 = .ok (.aload_n 1, 1) := by decide +kernel
theorem dX3_matches_1 : decode cX3_matches 1 = .ok (.getfield 139, 3) := by decide +kernel
theorem dX3_matches_4 : decode cX3_matches 4 = .ok (.aload_n 0, 1) := by decide +kernel
theorem dX3_matches_5 : decode cX3_matches 5 = .ok (.getfield 9, 3) := by decide +kernel
theorem dX3_matches_8 : decode cX3_matches 8 = .ok (.iload_n 2, 1) := by decide +kernel
theorem dX3_matches_9 : decode cX3_matches 9 = .ok (.iaload, 1) := by decide +kernel
theorem dX3_matches_10 : decode cX3_matches 10 = .ok (.if_icmp .gt 19, 3) := by decide +kernel
theorem dX3_matches_13 : decode cX3_matches 13 = .ok (.aload_n 1, 1) := by decide +kernel
theorem dX3_matches_14 : decode cX3_matches 14 = .ok (.aload_n 0, 1) := by decide +kernel
theorem dX3_matches_15 : decode cX3_matches 15 = .ok (.getfield 51, 3) := by decide +kernel
theorem dX3_matches_18 : decode cX3_matches 18 = .ok (.iload_n 2, 1) := by decide +kernel
theorem dX3_matches_19 : decode cX3_matches 19 = .ok (.invokevirtual 156, 3) := by decide +kernel
theorem dX3_matches_22 : decode cX3_matches 22 = .ok (.ifCond .eq 7, 3) := by decide +kernel
theorem dX3_matches_25 : decode cX3_matches 25 = .ok (.iconst 1, 1) := by decide +kernel
theorem dX3_matches_26 : decode cX3_matches 26 = .ok (.goto 4, 3) := by decide +kernel
theorem dX3_matches_29 : decode cX3_matches 29 = .ok (.iconst 0, 1) := by decide +kernel
theorem dX3_matches_30 : decode cX3_matches 30 = .ok (.ireturn, 1) := by decide +kernel
theorem dX3_gainOf_0 : decode cX3_gainOf 0 = .ok (.aload_n 0, 1) := by decide +kernel
theorem dX3_gainOf_1 : decode cX3_gainOf 1 = .ok (.getfield 32, 3) := by decide +kernel
theorem dX3_gainOf_4 : decode cX3_gainOf 4 = .ok (.aload_n 0, 1) := by decide +kernel
theorem dX3_gainOf_5 : decode cX3_gainOf 5 = .ok (.getfield 51, 3) := by decide +kernel
theorem dX3_gainOf_8 : decode cX3_gainOf 8 = .ok (.iload_n 1, 1) := by decide +kernel
theorem dX3_gainOf_9 : decode cX3_gainOf 9 = .ok (.iload_n 2, 1) := by decide +kernel
theorem dX3_gainOf_10 : decode cX3_gainOf 10 = .ok (.iload_n 3, 1) := by decide +kernel
theorem dX3_gainOf_11 : decode cX3_gainOf 11 = .ok (.invokevirtual 160, 3) := by decide +kernel
theorem dX3_gainOf_14 : decode cX3_gainOf 14 = .ok (.aload_n 0, 1) := by decide +kernel
theorem dX3_gainOf_15 : decode cX3_gainOf 15 = .ok (.getfield 142, 3) := by decide +kernel
theorem dX3_gainOf_18 : decode cX3_gainOf 18 = .ok (.aload_n 0, 1) := by decide +kernel
theorem dX3_gainOf_19 : decode cX3_gainOf 19 = .ok (.invokevirtual 164, 3) := by decide +kernel
theorem dX3_gainOf_22 : decode cX3_gainOf 22 = .ok (.isub, 1) := by decide +kernel
theorem dX3_gainOf_23 : decode cX3_gainOf 23 = .ok (.iload_n 2, 1) := by decide +kernel
theorem dX3_gainOf_24 : decode cX3_gainOf 24 = .ok (.invokestatic 168, 3) := by decide +kernel
theorem dX3_gainOf_27 : decode cX3_gainOf 27 = .ok (.isub, 1) := by decide +kernel
theorem dX3_gainOf_28 : decode cX3_gainOf 28 = .ok (.ireturn, 1) := by decide +kernel
theorem dX3_fewestWithCandidate_0 : decode cX3_fewestWithCandidate 0 = .ok (.aload_n 0, 1) := by decide +kernel
theorem dX3_fewestWithCandidate_1 : decode cX3_fewestWithCandidate 1 = .ok (.getfield 32, 3) := by decide +kernel
theorem dX3_fewestWithCandidate_4 : decode cX3_fewestWithCandidate 4 = .ok (.getfield 133, 3) := by decide +kernel
theorem dX3_fewestWithCandidate_7 : decode cX3_fewestWithCandidate 7 = .ok (.invokestatic 136, 3) := by decide +kernel
theorem dX3_fewestWithCandidate_10 : decode cX3_fewestWithCandidate 10 = .ok (.istore_n 1, 1) := by decide +kernel
theorem dX3_fewestWithCandidate_11 : decode cX3_fewestWithCandidate 11 = .ok (.aload_n 0, 1) := by decide +kernel
theorem dX3_fewestWithCandidate_12 : decode cX3_fewestWithCandidate 12 = .ok (.getfield 26, 3) := by decide +kernel
theorem dX3_fewestWithCandidate_15 : decode cX3_fewestWithCandidate 15 = .ok (.aload_n 0, 1) := by decide +kernel
theorem dX3_fewestWithCandidate_16 : decode cX3_fewestWithCandidate 16 = .ok (.getfield 51, 3) := by decide +kernel
theorem dX3_fewestWithCandidate_19 : decode cX3_fewestWithCandidate 19 = .ok (.getfield 68, 3) := by decide +kernel
theorem dX3_fewestWithCandidate_22 : decode cX3_fewestWithCandidate 22 = .ok (.iconst 0, 1) := by decide +kernel
theorem dX3_fewestWithCandidate_23 : decode cX3_fewestWithCandidate 23 = .ok (.iastore, 1) := by decide +kernel
theorem dX3_fewestWithCandidate_24 : decode cX3_fewestWithCandidate 24 = .ok (.aload_n 0, 1) := by decide +kernel
theorem dX3_fewestWithCandidate_25 : decode cX3_fewestWithCandidate 25 = .ok (.getfield 51, 3) := by decide +kernel
theorem dX3_fewestWithCandidate_28 : decode cX3_fewestWithCandidate 28 = .ok (.getfield 68, 3) := by decide +kernel
theorem dX3_fewestWithCandidate_31 : decode cX3_fewestWithCandidate 31 = .ok (.iconst 1, 1) := by decide +kernel
theorem dX3_fewestWithCandidate_32 : decode cX3_fewestWithCandidate 32 = .ok (.isub, 1) := by decide +kernel
theorem dX3_fewestWithCandidate_33 : decode cX3_fewestWithCandidate 33 = .ok (.istore_n 2, 1) := by decide +kernel
theorem dX3_fewestWithCandidate_34 : decode cX3_fewestWithCandidate 34 = .ok (.iload_n 2, 1) := by decide +kernel
theorem dX3_fewestWithCandidate_35 : decode cX3_fewestWithCandidate 35 = .ok (.ifCond .lt 127, 3) := by decide +kernel
theorem dX3_fewestWithCandidate_38 : decode cX3_fewestWithCandidate 38 = .ok (.aload_n 0, 1) := by decide +kernel
theorem dX3_fewestWithCandidate_39 : decode cX3_fewestWithCandidate 39 = .ok (.getfield 51, 3) := by decide +kernel
theorem dX3_fewestWithCandidate_42 : decode cX3_fewestWithCandidate 42 = .ok (.getfield 88, 3) := by decide +kernel
theorem dX3_fewestWithCandidate_45 : decode cX3_fewestWithCandidate 45 = .ok (.iload_n 2, 1) := by decide +kernel
theorem dX3_fewestWithCandidate_46 : decode cX3_fewestWithCandidate 46 = .ok (.iaload, 1) := by decide +kernel
theorem dX3_fewestWithCandidate_47 : decode cX3_fewestWithCandidate 47 = .ok (.invokestatic 115, 3) := by decide +kernel
theorem dX3_fewestWithCandidate_50 : decode cX3_fewestWithCandidate 50 = .ok (.aload_n 0, 1) := by decide +kernel
theorem dX3_fewestWithCandidate_51 : decode cX3_fewestWithCandidate 51 = .ok (.getfield 26, 3) := by decide +kernel
theorem dX3_fewestWithCandidate_54 : decode cX3_fewestWithCandidate 54 = .ok (.iload_n 2, 1) := by decide +kernel
theorem dX3_fewestWithCandidate_55 : decode cX3_fewestWithCandidate 55 = .ok (.iconst 1, 1) := by decide +kernel
theorem dX3_fewestWithCandidate_56 : decode cX3_fewestWithCandidate 56 = .ok (.iadd, 1) := by decide +kernel
theorem dX3_fewestWithCandidate_57 : decode cX3_fewestWithCandidate 57 = .ok (.iaload, 1) := by decide +kernel
theorem dX3_fewestWithCandidate_58 : decode cX3_fewestWithCandidate 58 = .ok (.iadd, 1) := by decide +kernel
theorem dX3_fewestWithCandidate_59 : decode cX3_fewestWithCandidate 59 = .ok (.istore_n 3, 1) := by decide +kernel
theorem dX3_fewestWithCandidate_60 : decode cX3_fewestWithCandidate 60 = .ok (.iconst 2, 1) := by decide +kernel
theorem dX3_fewestWithCandidate_61 : decode cX3_fewestWithCandidate 61 = .ok (.istore 4, 2) := by decide +kernel
theorem dX3_fewestWithCandidate_63 : decode cX3_fewestWithCandidate 63 = .ok (.iload 4, 2) := by decide +kernel
theorem dX3_fewestWithCandidate_65 : decode cX3_fewestWithCandidate 65 = .ok (.aload_n 0, 1) := by decide +kernel
theorem dX3_fewestWithCandidate_66 : decode cX3_fewestWithCandidate 66 = .ok (.getfield 9, 3) := by decide +kernel
theorem dX3_fewestWithCandidate_69 : decode cX3_fewestWithCandidate 69 = .ok (.iload_n 2, 1) := by decide +kernel
theorem dX3_fewestWithCandidate_70 : decode cX3_fewestWithCandidate 70 = .ok (.iaload, 1) := by decide +kernel
theorem dX3_fewestWithCandidate_71 : decode cX3_fewestWithCandidate 71 = .ok (.if_icmp .gt 45, 3) := by decide +kernel
theorem dX3_fewestWithCandidate_74 : decode cX3_fewestWithCandidate 74 = .ok (.aload_n 0, 1) := by decide +kernel
theorem dX3_fewestWithCandidate_75 : decode cX3_fewestWithCandidate 75 = .ok (.getfield 17, 3) := by decide +kernel
theorem dX3_fewestWithCandidate_78 : decode cX3_fewestWithCandidate 78 = .ok (.iload_n 2, 1) := by decide +kernel
theorem dX3_fewestWithCandidate_79 : decode cX3_fewestWithCandidate 79 = .ok (.aaload, 1) := by decide +kernel
theorem dX3_fewestWithCandidate_80 : decode cX3_fewestWithCandidate 80 = .ok (.iload 4, 2) := by decide +kernel
theorem dX3_fewestWithCandidate_82 : decode cX3_fewestWithCandidate 82 = .ok (.iaload, 1) := by decide +kernel
theorem dX3_fewestWithCandidate_83 : decode cX3_fewestWithCandidate 83 = .ok (.ifCond .le 27, 3) := by decide +kernel
theorem dX3_fewestWithCandidate_86 : decode cX3_fewestWithCandidate 86 = .ok (.iload_n 3, 1) := by decide +kernel
theorem dX3_fewestWithCandidate_87 : decode cX3_fewestWithCandidate 87 = .ok (.aload_n 0, 1) := by decide +kernel
theorem dX3_fewestWithCandidate_88 : decode cX3_fewestWithCandidate 88 = .ok (.getfield 17, 3) := by decide +kernel
theorem dX3_fewestWithCandidate_91 : decode cX3_fewestWithCandidate 91 = .ok (.iload_n 2, 1) := by decide +kernel
theorem dX3_fewestWithCandidate_92 : decode cX3_fewestWithCandidate 92 = .ok (.aaload, 1) := by decide +kernel
theorem dX3_fewestWithCandidate_93 : decode cX3_fewestWithCandidate 93 = .ok (.iload 4, 2) := by decide +kernel
theorem dX3_fewestWithCandidate_95 : decode cX3_fewestWithCandidate 95 = .ok (.iaload, 1) := by decide +kernel
theorem dX3_fewestWithCandidate_96 : decode cX3_fewestWithCandidate 96 = .ok (.aload_n 0, 1) := by decide +kernel
theorem dX3_fewestWithCandidate_97 : decode cX3_fewestWithCandidate 97 = .ok (.getfield 26, 3) := by decide +kernel
theorem dX3_fewestWithCandidate_100 : decode cX3_fewestWithCandidate 100 = .ok (.iload_n 2, 1) := by decide +kernel
theorem dX3_fewestWithCandidate_101 : decode cX3_fewestWithCandidate 101 = .ok (.iload 4, 2) := by decide +kernel
theorem dX3_fewestWithCandidate_103 : decode cX3_fewestWithCandidate 103 = .ok (.iadd, 1) := by decide +kernel
theorem dX3_fewestWithCandidate_104 : decode cX3_fewestWithCandidate 104 = .ok (.iaload, 1) := by decide +kernel
theorem dX3_fewestWithCandidate_105 : decode cX3_fewestWithCandidate 105 = .ok (.iadd, 1) := by decide +kernel
theorem dX3_fewestWithCandidate_106 : decode cX3_fewestWithCandidate 106 = .ok (.invokestatic 98, 3) := by decide +kernel
theorem dX3_fewestWithCandidate_109 : decode cX3_fewestWithCandidate 109 = .ok (.istore_n 3, 1) := by decide +kernel
theorem dX3_fewestWithCandidate_110 : decode cX3_fewestWithCandidate 110 = .ok (.iinc 4 1, 3) := by decide +kernel
theorem dX3_fewestWithCandidate_113 : decode cX3_fewestWithCandidate 113 = .ok (.goto (-50), 3) := by decide +kernel
theorem dX3_fewestWithCandidate_116 : decode cX3_fewestWithCandidate 116 = .ok (.aload_n 0, 1) := by decide +kernel
theorem dX3_fewestWithCandidate_117 : decode cX3_fewestWithCandidate 117 = .ok (.aload_n 0, 1) := by decide +kernel
theorem dX3_fewestWithCandidate_118 : decode cX3_fewestWithCandidate 118 = .ok (.getfield 32, 3) := by decide +kernel
theorem dX3_fewestWithCandidate_121 : decode cX3_fewestWithCandidate 121 = .ok (.iload_n 2, 1) := by decide +kernel
theorem dX3_fewestWithCandidate_122 : decode cX3_fewestWithCandidate 122 = .ok (.invokevirtual 129, 3) := by decide +kernel
theorem dX3_fewestWithCandidate_125 : decode cX3_fewestWithCandidate 125 = .ok (.ifCond .eq 24, 3) := by decide +kernel
theorem dX3_fewestWithCandidate_128 : decode cX3_fewestWithCandidate 128 = .ok (.iload_n 3, 1) := by decide +kernel
theorem dX3_fewestWithCandidate_129 : decode cX3_fewestWithCandidate 129 = .ok (.iload_n 1, 1) := by decide +kernel
theorem dX3_fewestWithCandidate_130 : decode cX3_fewestWithCandidate 130 = .ok (.aload_n 0, 1) := by decide +kernel
theorem dX3_fewestWithCandidate_131 : decode cX3_fewestWithCandidate 131 = .ok (.getfield 26, 3) := by decide +kernel
theorem dX3_fewestWithCandidate_134 : decode cX3_fewestWithCandidate 134 = .ok (.iload_n 2, 1) := by decide +kernel
theorem dX3_fewestWithCandidate_135 : decode cX3_fewestWithCandidate 135 = .ok (.aload_n 0, 1) := by decide +kernel
theorem dX3_fewestWithCandidate_136 : decode cX3_fewestWithCandidate 136 = .ok (.getfield 32, 3) := by decide +kernel
theorem dX3_fewestWithCandidate_139 : decode cX3_fewestWithCandidate 139 = .ok (.getfield 139, 3) := by decide +kernel
theorem dX3_fewestWithCandidate_142 : decode cX3_fewestWithCandidate 142 = .ok (.iadd, 1) := by decide +kernel
theorem dX3_fewestWithCandidate_143 : decode cX3_fewestWithCandidate 143 = .ok (.iaload, 1) := by decide +kernel
theorem dX3_fewestWithCandidate_144 : decode cX3_fewestWithCandidate 144 = .ok (.iadd, 1) := by decide +kernel
theorem dX3_fewestWithCandidate_145 : decode cX3_fewestWithCandidate 145 = .ok (.invokestatic 98, 3) := by decide +kernel
theorem dX3_fewestWithCandidate_148 : decode cX3_fewestWithCandidate 148 = .ok (.istore_n 3, 1) := by decide +kernel
theorem dX3_fewestWithCandidate_149 : decode cX3_fewestWithCandidate 149 = .ok (.aload_n 0, 1) := by decide +kernel
theorem dX3_fewestWithCandidate_150 : decode cX3_fewestWithCandidate 150 = .ok (.getfield 26, 3) := by decide +kernel
theorem dX3_fewestWithCandidate_153 : decode cX3_fewestWithCandidate 153 = .ok (.iload_n 2, 1) := by decide +kernel
theorem dX3_fewestWithCandidate_154 : decode cX3_fewestWithCandidate 154 = .ok (.iload_n 3, 1) := by decide +kernel
theorem dX3_fewestWithCandidate_155 : decode cX3_fewestWithCandidate 155 = .ok (.iastore, 1) := by decide +kernel
theorem dX3_fewestWithCandidate_156 : decode cX3_fewestWithCandidate 156 = .ok (.iinc 2 (-1), 3) := by decide +kernel
theorem dX3_fewestWithCandidate_159 : decode cX3_fewestWithCandidate 159 = .ok (.goto (-125), 3) := by decide +kernel
theorem dX3_fewestWithCandidate_162 : decode cX3_fewestWithCandidate 162 = .ok (.aload_n 0, 1) := by decide +kernel
theorem dX3_fewestWithCandidate_163 : decode cX3_fewestWithCandidate 163 = .ok (.getfield 26, 3) := by decide +kernel
theorem dX3_fewestWithCandidate_166 : decode cX3_fewestWithCandidate 166 = .ok (.iconst 0, 1) := by decide +kernel
theorem dX3_fewestWithCandidate_167 : decode cX3_fewestWithCandidate 167 = .ok (.iaload, 1) := by decide +kernel
theorem dX3_fewestWithCandidate_168 : decode cX3_fewestWithCandidate 168 = .ok (.ireturn, 1) := by decide +kernel
theorem dX3_mostGainOf_0 : decode cX3_mostGainOf 0 = .ok (.aload_n 0, 1) := by decide +kernel
theorem dX3_mostGainOf_1 : decode cX3_mostGainOf 1 = .ok (.getfield 32, 3) := by decide +kernel
theorem dX3_mostGainOf_4 : decode cX3_mostGainOf 4 = .ok (.aload_n 0, 1) := by decide +kernel
theorem dX3_mostGainOf_5 : decode cX3_mostGainOf 5 = .ok (.getfield 51, 3) := by decide +kernel
theorem dX3_mostGainOf_8 : decode cX3_mostGainOf 8 = .ok (.iload_n 1, 1) := by decide +kernel
theorem dX3_mostGainOf_9 : decode cX3_mostGainOf 9 = .ok (.iload_n 2, 1) := by decide +kernel
theorem dX3_mostGainOf_10 : decode cX3_mostGainOf 10 = .ok (.iload_n 3, 1) := by decide +kernel
theorem dX3_mostGainOf_11 : decode cX3_mostGainOf 11 = .ok (.invokevirtual 160, 3) := by decide +kernel
theorem dX3_mostGainOf_14 : decode cX3_mostGainOf 14 = .ok (.iconst 2, 1) := by decide +kernel
theorem dX3_mostGainOf_15 : decode cX3_mostGainOf 15 = .ok (.iload_n 2, 1) := by decide +kernel
theorem dX3_mostGainOf_16 : decode cX3_mostGainOf 16 = .ok (.imul, 1) := by decide +kernel
theorem dX3_mostGainOf_17 : decode cX3_mostGainOf 17 = .ok (.aload_n 0, 1) := by decide +kernel
theorem dX3_mostGainOf_18 : decode cX3_mostGainOf 18 = .ok (.getfield 32, 3) := by decide +kernel
theorem dX3_mostGainOf_21 : decode cX3_mostGainOf 21 = .ok (.getfield 133, 3) := by decide +kernel
theorem dX3_mostGainOf_24 : decode cX3_mostGainOf 24 = .ok (.invokestatic 136, 3) := by decide +kernel
theorem dX3_mostGainOf_27 : decode cX3_mostGainOf 27 = .ok (.isub, 1) := by decide +kernel
theorem dX3_mostGainOf_28 : decode cX3_mostGainOf 28 = .ok (.istore 4, 2) := by decide +kernel
theorem dX3_mostGainOf_30 : decode cX3_mostGainOf 30 = .ok (.iload 4, 2) := by decide +kernel
theorem dX3_mostGainOf_32 : decode cX3_mostGainOf 32 = .ok (.aload_n 0, 1) := by decide +kernel
theorem dX3_mostGainOf_33 : decode cX3_mostGainOf 33 = .ok (.aload_n 0, 1) := by decide +kernel
theorem dX3_mostGainOf_34 : decode cX3_mostGainOf 34 = .ok (.getfield 32, 3) := by decide +kernel
theorem dX3_mostGainOf_37 : decode cX3_mostGainOf 37 = .ok (.invokevirtual 171, 3) := by decide +kernel
theorem dX3_mostGainOf_40 : decode cX3_mostGainOf 40 = .ok (.imul, 1) := by decide +kernel
theorem dX3_mostGainOf_41 : decode cX3_mostGainOf 41 = .ok (.iload_n 2, 1) := by decide +kernel
theorem dX3_mostGainOf_42 : decode cX3_mostGainOf 42 = .ok (.invokestatic 168, 3) := by decide +kernel
theorem dX3_mostGainOf_45 : decode cX3_mostGainOf 45 = .ok (.isub, 1) := by decide +kernel
theorem dX3_mostGainOf_46 : decode cX3_mostGainOf 46 = .ok (.ireturn, 1) := by decide +kernel
theorem dX3_matchesOf_0 : decode cX3_matchesOf 0 = .ok (.iconst 0, 1) := by decide +kernel
theorem dX3_matchesOf_1 : decode cX3_matchesOf 1 = .ok (.istore_n 2, 1) := by decide +kernel
theorem dX3_matchesOf_2 : decode cX3_matchesOf 2 = .ok (.iconst 0, 1) := by decide +kernel
theorem dX3_matchesOf_3 : decode cX3_matchesOf 3 = .ok (.istore_n 3, 1) := by decide +kernel
theorem dX3_matchesOf_4 : decode cX3_matchesOf 4 = .ok (.iload_n 3, 1) := by decide +kernel
theorem dX3_matchesOf_5 : decode cX3_matchesOf 5 = .ok (.aload_n 0, 1) := by decide +kernel
theorem dX3_matchesOf_6 : decode cX3_matchesOf 6 = .ok (.getfield 51, 3) := by decide +kernel
theorem dX3_matchesOf_9 : decode cX3_matchesOf 9 = .ok (.getfield 68, 3) := by decide +kernel
theorem dX3_matchesOf_12 : decode cX3_matchesOf 12 = .ok (.if_icmp .ge 21, 3) := by decide +kernel
theorem dX3_matchesOf_15 : decode cX3_matchesOf 15 = .ok (.aload_n 0, 1) := by decide +kernel
theorem dX3_matchesOf_16 : decode cX3_matchesOf 16 = .ok (.aload_n 1, 1) := by decide +kernel
theorem dX3_matchesOf_17 : decode cX3_matchesOf 17 = .ok (.iload_n 3, 1) := by decide +kernel
theorem dX3_matchesOf_18 : decode cX3_matchesOf 18 = .ok (.invokevirtual 129, 3) := by decide +kernel
theorem dX3_matchesOf_21 : decode cX3_matchesOf 21 = .ok (.ifCond .eq 6, 3) := by decide +kernel
theorem dX3_matchesOf_24 : decode cX3_matchesOf 24 = .ok (.iinc 2 1, 3) := by decide +kernel
theorem dX3_matchesOf_27 : decode cX3_matchesOf 27 = .ok (.iinc 3 1, 3) := by decide +kernel
theorem dX3_matchesOf_30 : decode cX3_matchesOf 30 = .ok (.goto (-26), 3) := by decide +kernel
theorem dX3_matchesOf_33 : decode cX3_matchesOf 33 = .ok (.iload_n 2, 1) := by decide +kernel
theorem dX3_matchesOf_34 : decode cX3_matchesOf 34 = .ok (.ireturn, 1) := by decide +kernel
theorem dX3_referencesTo_0 : decode cX3_referencesTo 0 = .ok (.iconst 0, 1) := by decide +kernel
theorem dX3_referencesTo_1 : decode cX3_referencesTo 1 = .ok (.istore_n 2, 1) := by decide +kernel
theorem dX3_referencesTo_2 : decode cX3_referencesTo 2 = .ok (.iconst 0, 1) := by decide +kernel
theorem dX3_referencesTo_3 : decode cX3_referencesTo 3 = .ok (.istore_n 3, 1) := by decide +kernel
theorem dX3_referencesTo_4 : decode cX3_referencesTo 4 = .ok (.iload_n 3, 1) := by decide +kernel
theorem dX3_referencesTo_5 : decode cX3_referencesTo 5 = .ok (.aload_n 0, 1) := by decide +kernel
theorem dX3_referencesTo_6 : decode cX3_referencesTo 6 = .ok (.getfield 51, 3) := by decide +kernel
theorem dX3_referencesTo_9 : decode cX3_referencesTo 9 = .ok (.getfield 68, 3) := by decide +kernel
theorem dX3_referencesTo_12 : decode cX3_referencesTo 12 = .ok (.if_icmp .ge 31, 3) := by decide +kernel
theorem dX3_referencesTo_15 : decode cX3_referencesTo 15 = .ok (.aload_n 0, 1) := by decide +kernel
theorem dX3_referencesTo_16 : decode cX3_referencesTo 16 = .ok (.getfield 36, 3) := by decide +kernel
theorem dX3_referencesTo_19 : decode cX3_referencesTo 19 = .ok (.iload_n 3, 1) := by decide +kernel
theorem dX3_referencesTo_20 : decode cX3_referencesTo 20 = .ok (.iaload, 1) := by decide +kernel
theorem dX3_referencesTo_21 : decode cX3_referencesTo 21 = .ok (.iload_n 1, 1) := by decide +kernel
theorem dX3_referencesTo_22 : decode cX3_referencesTo 22 = .ok (.if_icmp .ne 15, 3) := by decide +kernel
theorem dX3_referencesTo_25 : decode cX3_referencesTo 25 = .ok (.aload_n 0, 1) := by decide +kernel
theorem dX3_referencesTo_26 : decode cX3_referencesTo 26 = .ok (.getfield 39, 3) := by decide +kernel
theorem dX3_referencesTo_29 : decode cX3_referencesTo 29 = .ok (.iload_n 3, 1) := by decide +kernel
theorem dX3_referencesTo_30 : decode cX3_referencesTo 30 = .ok (.iaload, 1) := by decide +kernel
theorem dX3_referencesTo_31 : decode cX3_referencesTo 31 = .ok (.ifCond .ne 6, 3) := by decide +kernel
theorem dX3_referencesTo_34 : decode cX3_referencesTo 34 = .ok (.iinc 2 1, 3) := by decide +kernel
theorem dX3_referencesTo_37 : decode cX3_referencesTo 37 = .ok (.iinc 3 1, 3) := by decide +kernel
theorem dX3_referencesTo_40 : decode cX3_referencesTo 40 = .ok (.goto (-36), 3) := by decide +kernel
theorem dX3_referencesTo_43 : decode cX3_referencesTo 43 = .ok (.iload_n 2, 1) := by decide +kernel
theorem dX3_referencesTo_44 : decode cX3_referencesTo 44 = .ok (.ireturn, 1) := by decide +kernel
theorem dX3_references_0 : decode cX3_references 0 = .ok (.iconst 0, 1) := by decide +kernel
theorem dX3_references_1 : decode cX3_references 1 = .ok (.istore_n 3, 1) := by decide +kernel
theorem dX3_references_2 : decode cX3_references 2 = .ok (.iload_n 1, 1) := by decide +kernel
theorem dX3_references_3 : decode cX3_references 3 = .ok (.istore 4, 2) := by decide +kernel
theorem dX3_references_5 : decode cX3_references 5 = .ok (.iload 4, 2) := by decide +kernel
theorem dX3_references_7 : decode cX3_references 7 = .ok (.iload_n 2, 1) := by decide +kernel
theorem dX3_references_8 : decode cX3_references 8 = .ok (.if_icmp .ge 34, 3) := by decide +kernel
theorem dX3_references_11 : decode cX3_references 11 = .ok (.iload 4, 2) := by decide +kernel
theorem dX3_references_13 : decode cX3_references 13 = .ok (.aload_n 0, 1) := by decide +kernel
theorem dX3_references_14 : decode cX3_references 14 = .ok (.getfield 51, 3) := by decide +kernel
theorem dX3_references_17 : decode cX3_references 17 = .ok (.getfield 68, 3) := by decide +kernel
theorem dX3_references_20 : decode cX3_references 20 = .ok (.if_icmp .ge 22, 3) := by decide +kernel
theorem dX3_references_23 : decode cX3_references 23 = .ok (.aload_n 0, 1) := by decide +kernel
theorem dX3_references_24 : decode cX3_references 24 = .ok (.getfield 39, 3) := by decide +kernel
theorem dX3_references_27 : decode cX3_references 27 = .ok (.iload 4, 2) := by decide +kernel
theorem dX3_references_29 : decode cX3_references 29 = .ok (.iaload, 1) := by decide +kernel
theorem dX3_references_30 : decode cX3_references 30 = .ok (.ifCond .ne 6, 3) := by decide +kernel
theorem dX3_references_33 : decode cX3_references 33 = .ok (.iinc 3 1, 3) := by decide +kernel
theorem dX3_references_36 : decode cX3_references 36 = .ok (.iinc 4 1, 3) := by decide +kernel
theorem dX3_references_39 : decode cX3_references 39 = .ok (.goto (-34), 3) := by decide +kernel
theorem dX3_references_42 : decode cX3_references 42 = .ok (.iload_n 3, 1) := by decide +kernel
theorem dX3_references_43 : decode cX3_references 43 = .ok (.ireturn, 1) := by decide +kernel
theorem dX3_instructionOf_0 : decode cX3_instructionOf 0 = .ok (.iconst 0, 1) := by decide +kernel
theorem dX3_instructionOf_1 : decode cX3_instructionOf 1 = .ok (.istore_n 2, 1) := by decide +kernel
theorem dX3_instructionOf_2 : decode cX3_instructionOf 2 = .ok (.iload_n 2, 1) := by decide +kernel
theorem dX3_instructionOf_3 : decode cX3_instructionOf 3 = .ok (.aload_n 0, 1) := by decide +kernel
theorem dX3_instructionOf_4 : decode cX3_instructionOf 4 = .ok (.getfield 51, 3) := by decide +kernel
theorem dX3_instructionOf_7 : decode cX3_instructionOf 7 = .ok (.getfield 68, 3) := by decide +kernel
theorem dX3_instructionOf_10 : decode cX3_instructionOf 10 = .ok (.if_icmp .ge 21, 3) := by decide +kernel
theorem dX3_instructionOf_13 : decode cX3_instructionOf 13 = .ok (.aload_n 0, 1) := by decide +kernel
theorem dX3_instructionOf_14 : decode cX3_instructionOf 14 = .ok (.getfield 42, 3) := by decide +kernel
theorem dX3_instructionOf_17 : decode cX3_instructionOf 17 = .ok (.iload_n 2, 1) := by decide +kernel
theorem dX3_instructionOf_18 : decode cX3_instructionOf 18 = .ok (.iaload, 1) := by decide +kernel
theorem dX3_instructionOf_19 : decode cX3_instructionOf 19 = .ok (.iload_n 1, 1) := by decide +kernel
theorem dX3_instructionOf_20 : decode cX3_instructionOf 20 = .ok (.if_icmp .ne 5, 3) := by decide +kernel
theorem dX3_instructionOf_23 : decode cX3_instructionOf 23 = .ok (.iload_n 2, 1) := by decide +kernel
theorem dX3_instructionOf_24 : decode cX3_instructionOf 24 = .ok (.ireturn, 1) := by decide +kernel
theorem dX3_instructionOf_25 : decode cX3_instructionOf 25 = .ok (.iinc 2 1, 3) := by decide +kernel
theorem dX3_instructionOf_28 : decode cX3_instructionOf 28 = .ok (.goto (-26), 3) := by decide +kernel
theorem dX3_instructionOf_31 : decode cX3_instructionOf 31 = .ok (.bipush (-4), 2) := by decide +kernel
theorem dX3_instructionOf_33 : decode cX3_instructionOf 33 = .ok (.ireturn, 1) := by decide +kernel
theorem dX3_lineOf_0 : decode cX3_lineOf 0 = .ok (.iload_n 1, 1) := by decide +kernel
theorem dX3_lineOf_1 : decode cX3_lineOf 1 = .ok (.aload_n 0, 1) := by decide +kernel
theorem dX3_lineOf_2 : decode cX3_lineOf 2 = .ok (.getfield 65, 3) := by decide +kernel
theorem dX3_lineOf_5 : decode cX3_lineOf 5 = .ok (.ishr, 1) := by decide +kernel
theorem dX3_lineOf_6 : decode cX3_lineOf 6 = .ok (.ireturn, 1) := by decide +kernel
theorem dX3_firstOf_0 : decode cX3_firstOf 0 = .ok (.iload_n 1, 1) := by decide +kernel
theorem dX3_firstOf_1 : decode cX3_firstOf 1 = .ok (.aload_n 0, 1) := by decide +kernel
theorem dX3_firstOf_2 : decode cX3_firstOf 2 = .ok (.getfield 65, 3) := by decide +kernel
theorem dX3_firstOf_5 : decode cX3_firstOf 5 = .ok (.ishl, 1) := by decide +kernel
theorem dX3_firstOf_6 : decode cX3_firstOf 6 = .ok (.ireturn, 1) := by decide +kernel
theorem dX3_lineAddress_0 : decode cX3_lineAddress 0 = .ok (.aload_n 0, 1) := by decide +kernel
theorem dX3_lineAddress_1 : decode cX3_lineAddress 1 = .ok (.iload_n 1, 1) := by decide +kernel
theorem dX3_lineAddress_2 : decode cX3_lineAddress 2 = .ok (.invokevirtual 175, 3) := by decide +kernel
theorem dX3_lineAddress_5 : decode cX3_lineAddress 5 = .ok (.istore_n 2, 1) := by decide +kernel
theorem dX3_lineAddress_6 : decode cX3_lineAddress 6 = .ok (.aload_n 0, 1) := by decide +kernel
theorem dX3_lineAddress_7 : decode cX3_lineAddress 7 = .ok (.getfield 51, 3) := by decide +kernel
theorem dX3_lineAddress_10 : decode cX3_lineAddress 10 = .ok (.iload_n 2, 1) := by decide +kernel
theorem dX3_lineAddress_11 : decode cX3_lineAddress 11 = .ok (.invokevirtual 104, 3) := by decide +kernel
theorem dX3_lineAddress_14 : decode cX3_lineAddress 14 = .ok (.ifCond .eq 12, 3) := by decide +kernel
theorem dX3_lineAddress_17 : decode cX3_lineAddress 17 = .ok (.aload_n 0, 1) := by decide +kernel
theorem dX3_lineAddress_18 : decode cX3_lineAddress 18 = .ok (.getfield 42, 3) := by decide +kernel
theorem dX3_lineAddress_21 : decode cX3_lineAddress 21 = .ok (.iload_n 2, 1) := by decide +kernel
theorem dX3_lineAddress_22 : decode cX3_lineAddress 22 = .ok (.iaload, 1) := by decide +kernel
theorem dX3_lineAddress_23 : decode cX3_lineAddress 23 = .ok (.goto 7, 3) := by decide +kernel
theorem dX3_lineAddress_26 : decode cX3_lineAddress 26 = .ok (.aload_n 0, 1) := by decide +kernel
theorem dX3_lineAddress_27 : decode cX3_lineAddress 27 = .ok (.getfield 142, 3) := by decide +kernel
theorem dX3_lineAddress_30 : decode cX3_lineAddress 30 = .ok (.ireturn, 1) := by decide +kernel
theorem dX3_lineNibbles_0 : decode cX3_lineNibbles 0 = .ok (.aload_n 0, 1) := by decide +kernel
theorem dX3_lineNibbles_1 : decode cX3_lineNibbles 1 = .ok (.iload_n 1, 1) := by decide +kernel
theorem dX3_lineNibbles_2 : decode cX3_lineNibbles 2 = .ok (.iconst 1, 1) := by decide +kernel
theorem dX3_lineNibbles_3 : decode cX3_lineNibbles 3 = .ok (.iadd, 1) := by decide +kernel
theorem dX3_lineNibbles_4 : decode cX3_lineNibbles 4 = .ok (.invokevirtual 178, 3) := by decide +kernel
theorem dX3_lineNibbles_7 : decode cX3_lineNibbles 7 = .ok (.aload_n 0, 1) := by decide +kernel
theorem dX3_lineNibbles_8 : decode cX3_lineNibbles 8 = .ok (.iload_n 1, 1) := by decide +kernel
theorem dX3_lineNibbles_9 : decode cX3_lineNibbles 9 = .ok (.invokevirtual 178, 3) := by decide +kernel
theorem dX3_lineNibbles_12 : decode cX3_lineNibbles 12 = .ok (.isub, 1) := by decide +kernel
theorem dX3_lineNibbles_13 : decode cX3_lineNibbles 13 = .ok (.ireturn, 1) := by decide +kernel
theorem dX4_init_0 : decode cX4_init 0 = .ok (.aload_n 0, 1) := by decide +kernel
theorem dX4_init_1 : decode cX4_init 1 = .ok (.invokespecial 3, 3) := by decide +kernel
theorem dX4_init_4 : decode cX4_init 4 = .ok (.aload_n 0, 1) := by decide +kernel
theorem dX4_init_5 : decode cX4_init 5 = .ok (.bipush 48, 2) := by decide +kernel
theorem dX4_init_7 : decode cX4_init 7 = .ok (.newarray .int, 2) := by decide +kernel
theorem dX4_init_9 : decode cX4_init 9 = .ok (.putfield 9, 3) := by decide +kernel
theorem dX4_init_12 : decode cX4_init 12 = .ok (.aload_n 0, 1) := by decide +kernel
theorem dX4_init_13 : decode cX4_init 13 = .ok (.bipush 48, 2) := by decide +kernel
theorem dX4_init_15 : decode cX4_init 15 = .ok (.newarray .int, 2) := by decide +kernel
theorem dX4_init_17 : decode cX4_init 17 = .ok (.putfield 15, 3) := by decide +kernel
theorem dX4_init_20 : decode cX4_init 20 = .ok (.aload_n 0, 1) := by decide +kernel
theorem dX4_init_21 : decode cX4_init 21 = .ok (.bipush 48, 2) := by decide +kernel
theorem dX4_init_23 : decode cX4_init 23 = .ok (.newarray .boolean, 2) := by decide +kernel
theorem dX4_init_25 : decode cX4_init 25 = .ok (.putfield 18, 3) := by decide +kernel
theorem dX4_init_28 : decode cX4_init 28 = .ok (.return_, 1) := by decide +kernel
theorem dX4_take_0 : decode cX4_take 0 = .ok (.aload_n 0, 1) := by decide +kernel
theorem dX4_take_1 : decode cX4_take 1 = .ok (.aload_n 1, 1) := by decide +kernel
theorem dX4_take_2 : decode cX4_take 2 = .ok (.getfield 22, 3) := by decide +kernel
theorem dX4_take_5 : decode cX4_take 5 = .ok (.putfield 28, 3) := by decide +kernel
theorem dX4_take_8 : decode cX4_take 8 = .ok (.iconst 0, 1) := by decide +kernel
theorem dX4_take_9 : decode cX4_take 9 = .ok (.istore_n 2, 1) := by decide +kernel
theorem dX4_take_10 : decode cX4_take 10 = .ok (.iload_n 2, 1) := by decide +kernel
theorem dX4_take_11 : decode cX4_take 11 = .ok (.aload_n 0, 1) := by decide +kernel
theorem dX4_take_12 : decode cX4_take 12 = .ok (.getfield 28, 3) := by decide +kernel
theorem dX4_take_15 : decode cX4_take 15 = .ok (.if_icmp .ge 38, 3) := by decide +kernel
theorem dX4_take_18 : decode cX4_take 18 = .ok (.aload_n 0, 1) := by decide +kernel
theorem dX4_take_19 : decode cX4_take 19 = .ok (.getfield 9, 3) := by decide +kernel
theorem dX4_take_22 : decode cX4_take 22 = .ok (.iload_n 2, 1) := by decide +kernel
theorem dX4_take_23 : decode cX4_take 23 = .ok (.aload_n 1, 1) := by decide +kernel
theorem dX4_take_24 : decode cX4_take 24 = .ok (.iload_n 2, 1) := by decide +kernel
theorem dX4_take_25 : decode cX4_take 25 = .ok (.invokevirtual 31, 3) := by decide +kernel
theorem dX4_take_28 : decode cX4_take 28 = .ok (.iastore, 1) := by decide +kernel
theorem dX4_take_29 : decode cX4_take 29 = .ok (.aload_n 0, 1) := by decide +kernel
theorem dX4_take_30 : decode cX4_take 30 = .ok (.getfield 15, 3) := by decide +kernel
theorem dX4_take_33 : decode cX4_take 33 = .ok (.iload_n 2, 1) := by decide +kernel
theorem dX4_take_34 : decode cX4_take 34 = .ok (.aload_n 1, 1) := by decide +kernel
theorem dX4_take_35 : decode cX4_take 35 = .ok (.iload_n 2, 1) := by decide +kernel
theorem dX4_take_36 : decode cX4_take 36 = .ok (.invokevirtual 35, 3) := by decide +kernel
theorem dX4_take_39 : decode cX4_take 39 = .ok (.iastore, 1) := by decide +kernel
theorem dX4_take_40 : decode cX4_take 40 = .ok (.aload_n 0, 1) := by decide +kernel
theorem dX4_take_41 : decode cX4_take 41 = .ok (.getfield 18, 3) := by decide +kernel
theorem dX4_take_44 : decode cX4_take 44 = .ok (.iload_n 2, 1) := by decide +kernel
theorem dX4_take_45 : decode cX4_take 45 = .ok (.iconst 0, 1) := by decide +kernel
theorem dX4_take_46 : decode cX4_take 46 = .ok (.bastore, 1) := by decide +kernel
theorem dX4_take_47 : decode cX4_take 47 = .ok (.iinc 2 1, 3) := by decide +kernel
theorem dX4_take_50 : decode cX4_take 50 = .ok (.goto (-40), 3) := by decide +kernel
theorem dX4_take_53 : decode cX4_take 53 = .ok (.iconst 0, 1) := by decide +kernel
theorem dX4_take_54 : decode cX4_take 54 = .ok (.istore_n 2, 1) := by decide +kernel
theorem dX4_take_55 : decode cX4_take 55 = .ok (.iload_n 2, 1) := by decide +kernel
theorem dX4_take_56 : decode cX4_take 56 = .ok (.aload_n 0, 1) := by decide +kernel
theorem dX4_take_57 : decode cX4_take 57 = .ok (.getfield 28, 3) := by decide +kernel
theorem dX4_take_60 : decode cX4_take 60 = .ok (.if_icmp .ge 46, 3) := by decide +kernel
theorem dX4_take_63 : decode cX4_take 63 = .ok (.aload_n 0, 1) := by decide +kernel
theorem dX4_take_64 : decode cX4_take 64 = .ok (.getfield 9, 3) := by decide +kernel
theorem dX4_take_67 : decode cX4_take 67 = .ok (.iload_n 2, 1) := by decide +kernel
theorem dX4_take_68 : decode cX4_take 68 = .ok (.iaload, 1) := by decide +kernel
theorem dX4_take_69 : decode cX4_take 69 = .ok (.invokestatic 38, 3) := by decide +kernel
theorem dX4_take_72 : decode cX4_take 72 = .ok (.ifCond .eq 28, 3) := by decide +kernel
theorem dX4_take_75 : decode cX4_take 75 = .ok (.aload_n 0, 1) := by decide +kernel
theorem dX4_take_76 : decode cX4_take 76 = .ok (.aload_n 0, 1) := by decide +kernel
theorem dX4_take_77 : decode cX4_take 77 = .ok (.getfield 15, 3) := by decide +kernel
theorem dX4_take_80 : decode cX4_take 80 = .ok (.iload_n 2, 1) := by decide +kernel
theorem dX4_take_81 : decode cX4_take 81 = .ok (.iaload, 1) := by decide +kernel
theorem dX4_take_82 : decode cX4_take 82 = .ok (.invokevirtual 42, 3) := by decide +kernel
theorem dX4_take_85 : decode cX4_take 85 = .ok (.ifCond .eq 15, 3) := by decide +kernel
theorem dX4_take_88 : decode cX4_take 88 = .ok (.aload_n 0, 1) := by decide +kernel
theorem dX4_take_89 : decode cX4_take 89 = .ok (.getfield 18, 3) := by decide +kernel
theorem dX4_take_92 : decode cX4_take 92 = .ok (.aload_n 0, 1) := by decide +kernel
theorem dX4_take_93 : decode cX4_take 93 = .ok (.getfield 15, 3) := by decide +kernel
theorem dX4_take_96 : decode cX4_take 96 = .ok (.iload_n 2, 1) := by decide +kernel
theorem dX4_take_97 : decode cX4_take 97 = .ok (.iaload, 1) := by decide +kernel
theorem dX4_take_98 : decode cX4_take 98 = .ok (.iconst 1, 1) := by decide +kernel
theorem dX4_take_99 : decode cX4_take 99 = .ok (.bastore, 1) := by decide +kernel
theorem dX4_take_100 : decode cX4_take 100 = .ok (.iinc 2 1, 3) := by decide +kernel
theorem dX4_take_103 : decode cX4_take 103 = .ok (.goto (-48), 3) := by decide +kernel
theorem dX4_take_106 : decode cX4_take 106 = .ok (.return_, 1) := by decide +kernel
theorem dX4_has_0 : decode cX4_has 0 = .ok (.iload_n 1, 1) := by decide +kernel
theorem dX4_has_1 : decode cX4_has 1 = .ok (.ifCond .lt 15, 3) := by decide +kernel
theorem dX4_has_4 : decode cX4_has 4 = .ok (.iload_n 1, 1) := by decide +kernel
theorem dX4_has_5 : decode cX4_has 5 = .ok (.aload_n 0, 1) := by decide +kernel
theorem dX4_has_6 : decode cX4_has 6 = .ok (.getfield 28, 3) := by decide +kernel
theorem dX4_has_9 : decode cX4_has 9 = .ok (.if_icmp .ge 7, 3) := by decide +kernel
theorem dX4_has_12 : decode cX4_has 12 = .ok (.iconst 1, 1) := by decide +kernel
theorem dX4_has_13 : decode cX4_has 13 = .ok (.goto 4, 3) := by decide +kernel
theorem dX4_has_16 : decode cX4_has 16 = .ok (.iconst 0, 1) := by decide +kernel
theorem dX4_has_17 : decode cX4_has 17 = .ok (.ireturn, 1) := by decide +kernel
theorem dX4_targetCount_0 : decode cX4_targetCount 0 = .ok (.iconst 0, 1) := by decide +kernel
theorem dX4_targetCount_1 : decode cX4_targetCount 1 = .ok (.istore_n 1, 1) := by decide +kernel
theorem dX4_targetCount_2 : decode cX4_targetCount 2 = .ok (.iconst 0, 1) := by decide +kernel
theorem dX4_targetCount_3 : decode cX4_targetCount 3 = .ok (.istore_n 2, 1) := by decide +kernel
theorem dX4_targetCount_4 : decode cX4_targetCount 4 = .ok (.iload_n 2, 1) := by decide +kernel
theorem dX4_targetCount_5 : decode cX4_targetCount 5 = .ok (.aload_n 0, 1) := by decide +kernel
theorem dX4_targetCount_6 : decode cX4_targetCount 6 = .ok (.getfield 28, 3) := by decide +kernel
theorem dX4_targetCount_9 : decode cX4_targetCount 9 = .ok (.if_icmp .ge 21, 3) := by decide +kernel
theorem dX4_targetCount_12 : decode cX4_targetCount 12 = .ok (.aload_n 0, 1) := by decide +kernel
theorem dX4_targetCount_13 : decode cX4_targetCount 13 = .ok (.getfield 18, 3) := by decide +kernel
theorem dX4_targetCount_16 : decode cX4_targetCount 16 = .ok (.iload_n 2, 1) := by decide +kernel
theorem dX4_targetCount_17 : decode cX4_targetCount 17 = .ok (.baload, 1) := by decide +kernel
theorem dX4_targetCount_18 : decode cX4_targetCount 18 = .ok (.ifCond .eq 6, 3) := by decide +kernel
theorem dX4_targetCount_21 : decode cX4_targetCount 21 = .ok (.iinc 1 1, 3) := by decide +kernel
theorem dX4_targetCount_24 : decode cX4_targetCount 24 = .ok (.iinc 2 1, 3) := by decide +kernel
theorem dX4_targetCount_27 : decode cX4_targetCount 27 = .ok (.goto (-23), 3) := by decide +kernel
theorem dX4_targetCount_30 : decode cX4_targetCount 30 = .ok (.iload_n 1, 1) := by decide +kernel
theorem dX4_targetCount_31 : decode cX4_targetCount 31 = .ok (.ireturn, 1) := by decide +kernel
theorem dX4_plainNibbles_0 : decode cX4_plainNibbles 0 = .ok (.iconst 0, 1) := by decide +kernel
theorem dX4_plainNibbles_1 : decode cX4_plainNibbles 1 = .ok (.istore_n 1, 1) := by decide +kernel
theorem dX4_plainNibbles_2 : decode cX4_plainNibbles 2 = .ok (.iconst 0, 1) := by decide +kernel
theorem dX4_plainNibbles_3 : decode cX4_plainNibbles 3 = .ok (.istore_n 2, 1) := by decide +kernel
theorem dX4_plainNibbles_4 : decode cX4_plainNibbles 4 = .ok (.iload_n 2, 1) := by decide +kernel
theorem dX4_plainNibbles_5 : decode cX4_plainNibbles 5 = .ok (.aload_n 0, 1) := by decide +kernel
theorem dX4_plainNibbles_6 : decode cX4_plainNibbles 6 = .ok (.getfield 28, 3) := by decide +kernel
theorem dX4_plainNibbles_9 : decode cX4_plainNibbles 9 = .ok (.if_icmp .ge 21, 3) := by decide +kernel
theorem dX4_plainNibbles_12 : decode cX4_plainNibbles 12 = .ok (.iload_n 1, 1) := by decide +kernel
theorem dX4_plainNibbles_13 : decode cX4_plainNibbles 13 = .ok (.aload_n 0, 1) := by decide +kernel
theorem dX4_plainNibbles_14 : decode cX4_plainNibbles 14 = .ok (.getfield 9, 3) := by decide +kernel
theorem dX4_plainNibbles_17 : decode cX4_plainNibbles 17 = .ok (.iload_n 2, 1) := by decide +kernel
theorem dX4_plainNibbles_18 : decode cX4_plainNibbles 18 = .ok (.iaload, 1) := by decide +kernel
theorem dX4_plainNibbles_19 : decode cX4_plainNibbles 19 = .ok (.invokestatic 45, 3) := by decide +kernel
theorem dX4_plainNibbles_22 : decode cX4_plainNibbles 22 = .ok (.iadd, 1) := by decide +kernel
theorem dX4_plainNibbles_23 : decode cX4_plainNibbles 23 = .ok (.istore_n 1, 1) := by decide +kernel
theorem dX4_plainNibbles_24 : decode cX4_plainNibbles 24 = .ok (.iinc 2 1, 3) := by decide +kernel
theorem dX4_plainNibbles_27 : decode cX4_plainNibbles 27 = .ok (.goto (-23), 3) := by decide +kernel
theorem dX4_plainNibbles_30 : decode cX4_plainNibbles 30 = .ok (.iload_n 1, 1) := by decide +kernel
theorem dX4_plainNibbles_31 : decode cX4_plainNibbles 31 = .ok (.ireturn, 1) := by decide +kernel
theorem dX5_init_0 : decode cX5_init 0 = .ok (.aload_n 0, 1) := by decide +kernel
theorem dX5_init_1 : decode cX5_init 1 = .ok (.invokespecial 3, 3) := by decide +kernel
theorem dX5_init_4 : decode cX5_init 4 = .ok (.aload_n 0, 1) := by decide +kernel
theorem dX5_init_5 : decode cX5_init 5 = .ok (.bipush 10, 2) := by decide +kernel
theorem dX5_init_7 : decode cX5_init 7 = .ok (.newarray .int, 2) := by decide +kernel
theorem dX5_init_9 : decode cX5_init 9 = .ok (.putfield 9, 3) := by decide +kernel
theorem dX5_init_12 : decode cX5_init 12 = .ok (.aload_n 0, 1) := by decide +kernel
theorem dX5_init_13 : decode cX5_init 13 = .ok (.bipush 12, 2) := by decide +kernel
theorem dX5_init_15 : decode cX5_init 15 = .ok (.newarray .int, 2) := by decide +kernel
theorem dX5_init_17 : decode cX5_init 17 = .ok (.putfield 15, 3) := by decide +kernel
theorem dX5_init_20 : decode cX5_init 20 = .ok (.aload_n 0, 1) := by decide +kernel
theorem dX5_init_21 : decode cX5_init 21 = .ok (.iconst 4, 1) := by decide +kernel
theorem dX5_init_22 : decode cX5_init 22 = .ok (.newarray .int, 2) := by decide +kernel
theorem dX5_init_24 : decode cX5_init 24 = .ok (.putfield 18, 3) := by decide +kernel
theorem dX5_init_27 : decode cX5_init 27 = .ok (.aload_n 0, 1) := by decide +kernel
theorem dX5_init_28 : decode cX5_init 28 = .ok (.aload_n 1, 1) := by decide +kernel
theorem dX5_init_29 : decode cX5_init 29 = .ok (.putfield 21, 3) := by decide +kernel
theorem dX5_init_32 : decode cX5_init 32 = .ok (.aload_n 0, 1) := by decide +kernel
theorem dX5_init_33 : decode cX5_init 33 = .ok (.aload_n 2, 1) := by decide +kernel
theorem dX5_init_34 : decode cX5_init 34 = .ok (.putfield 25, 3) := by decide +kernel
theorem dX5_init_37 : decode cX5_init 37 = .ok (.return_, 1) := by decide +kernel
theorem dX5_begin_0 : decode cX5_begin 0 = .ok (.aload_n 0, 1) := by decide +kernel
theorem dX5_begin_1 : decode cX5_begin 1 = .ok (.iconst 1, 1) := by decide +kernel
theorem dX5_begin_2 : decode cX5_begin 2 = .ok (.putfield 29, 3) := by decide +kernel
theorem dX5_begin_5 : decode cX5_begin 5 = .ok (.aload_n 0, 1) := by decide +kernel
theorem dX5_begin_6 : decode cX5_begin 6 = .ok (.iconst 0, 1) := by decide +kernel
theorem dX5_begin_7 : decode cX5_begin 7 = .ok (.putfield 33, 3) := by decide +kernel
theorem dX5_begin_10 : decode cX5_begin 10 = .ok (.aload_n 0, 1) := by decide +kernel
theorem dX5_begin_11 : decode cX5_begin 11 = .ok (.iload_n 1, 1) := by decide +kernel
theorem dX5_begin_12 : decode cX5_begin 12 = .ok (.putfield 36, 3) := by decide +kernel
theorem dX5_begin_15 : decode cX5_begin 15 = .ok (.aload_n 0, 1) := by decide +kernel
theorem dX5_begin_16 : decode cX5_begin 16 = .ok (.iconst 0, 1) := by decide +kernel
theorem dX5_begin_17 : decode cX5_begin 17 = .ok (.putfield 39, 3) := by decide +kernel
theorem dX5_begin_20 : decode cX5_begin 20 = .ok (.aload_n 0, 1) := by decide +kernel
theorem dX5_begin_21 : decode cX5_begin 21 = .ok (.iconst 0, 1) := by decide +kernel
theorem dX5_begin_22 : decode cX5_begin 22 = .ok (.putfield 42, 3) := by decide +kernel
theorem dX5_begin_25 : decode cX5_begin 25 = .ok (.aload_n 0, 1) := by decide +kernel
theorem dX5_begin_26 : decode cX5_begin 26 = .ok (.iconst 0, 1) := by decide +kernel
theorem dX5_begin_27 : decode cX5_begin 27 = .ok (.putfield 46, 3) := by decide +kernel
theorem dX5_begin_30 : decode cX5_begin 30 = .ok (.aload_n 0, 1) := by decide +kernel
theorem dX5_begin_31 : decode cX5_begin 31 = .ok (.iconst 0, 1) := by decide +kernel
theorem dX5_begin_32 : decode cX5_begin 32 = .ok (.putfield 49, 3) := by decide +kernel
theorem dX5_begin_35 : decode cX5_begin 35 = .ok (.aload_n 0, 1) := by decide +kernel
theorem dX5_begin_36 : decode cX5_begin 36 = .ok (.iconst 0, 1) := by decide +kernel
theorem dX5_begin_37 : decode cX5_begin 37 = .ok (.putfield 52, 3) := by decide +kernel
theorem dX5_begin_40 : decode cX5_begin 40 = .ok (.aload_n 0, 1) := by decide +kernel
theorem dX5_begin_41 : decode cX5_begin 41 = .ok (.iload_n 2, 1) := by decide +kernel
theorem dX5_begin_42 : decode cX5_begin 42 = .ok (.iconst 4, 1) := by decide +kernel
theorem dX5_begin_43 : decode cX5_begin 43 = .ok (.invokestatic 55, 3) := by decide +kernel
theorem dX5_begin_46 : decode cX5_begin 46 = .ok (.putfield 61, 3) := by decide +kernel
theorem dX5_begin_49 : decode cX5_begin 49 = .ok (.aload_n 0, 1) := by decide +kernel
theorem dX5_begin_50 : decode cX5_begin 50 = .ok (.iconst 0, 1) := by decide +kernel
theorem dX5_begin_51 : decode cX5_begin 51 = .ok (.putfield 64, 3) := by decide +kernel
theorem dX5_begin_54 : decode cX5_begin 54 = .ok (.aload_n 0, 1) := by decide +kernel
theorem dX5_begin_55 : decode cX5_begin 55 = .ok (.iconst 0, 1) := by decide +kernel
theorem dX5_begin_56 : decode cX5_begin 56 = .ok (.putfield 67, 3) := by decide +kernel
theorem dX5_begin_59 : decode cX5_begin 59 = .ok (.aload_n 0, 1) := by decide +kernel
theorem dX5_begin_60 : decode cX5_begin 60 = .ok (.iconst 0, 1) := by decide +kernel
theorem dX5_begin_61 : decode cX5_begin 61 = .ok (.putfield 70, 3) := by decide +kernel
theorem dX5_begin_64 : decode cX5_begin 64 = .ok (.iconst 0, 1) := by decide +kernel
theorem dX5_begin_65 : decode cX5_begin 65 = .ok (.istore_n 3, 1) := by decide +kernel
theorem dX5_begin_66 : decode cX5_begin 66 = .ok (.iload_n 3, 1) := by decide +kernel
theorem dX5_begin_67 : decode cX5_begin 67 = .ok (.bipush 10, 2) := by decide +kernel
theorem dX5_begin_69 : decode cX5_begin 69 = .ok (.if_icmp .ge 16, 3) := by decide +kernel
theorem dX5_begin_72 : decode cX5_begin 72 = .ok (.aload_n 0, 1) := by decide +kernel
theorem dX5_begin_73 : decode cX5_begin 73 = .ok (.getfield 9, 3) := by decide +kernel
theorem dX5_begin_76 : decode cX5_begin 76 = .ok (.iload_n 3, 1) := by decide +kernel
theorem dX5_begin_77 : decode cX5_begin 77 = .ok (.iconst 0, 1) := by decide +kernel
theorem dX5_begin_78 : decode cX5_begin 78 = .ok (.iastore, 1) := by decide +kernel
theorem dX5_begin_79 : decode cX5_begin 79 = .ok (.iinc 3 1, 3) := by decide +kernel
theorem dX5_begin_82 : decode cX5_begin 82 = .ok (.goto (-16), 3) := by decide +kernel
theorem dX5_begin_85 : decode cX5_begin 85 = .ok (.return_, 1) := by decide +kernel
theorem dX5_end_0 : decode cX5_end 0 = .ok (.aload_n 0, 1) := by decide +kernel
theorem dX5_end_1 : decode cX5_end 1 = .ok (.iconst 0, 1) := by decide +kernel
theorem dX5_end_2 : decode cX5_end 2 = .ok (.putfield 29, 3) := by decide +kernel
theorem dX5_end_5 : decode cX5_end 5 = .ok (.return_, 1) := by decide +kernel
theorem dX5_go_0 : decode cX5_go 0 = .ok (.aload_n 0, 1) := by decide +kernel
theorem dX5_go_1 : decode cX5_go 1 = .ok (.getfield 49, 3) := by decide +kernel
theorem dX5_go_4 : decode cX5_go 4 = .ok (.istore_n 2, 1) := by decide +kernel
theorem dX5_go_5 : decode cX5_go 5 = .ok (.iconst 0, 1) := by decide +kernel
theorem dX5_go_6 : decode cX5_go 6 = .ok (.istore_n 3, 1) := by decide +kernel
theorem dX5_go_7 : decode cX5_go 7 = .ok (.iload_n 3, 1) := by decide +kernel
theorem dX5_go_8 : decode cX5_go 8 = .ok (.iload_n 1, 1) := by decide +kernel
theorem dX5_go_9 : decode cX5_go 9 = .ok (.if_icmp .ge 54, 3) := by decide +kernel
theorem dX5_go_12 : decode cX5_go 12 = .ok (.aload_n 0, 1) := by decide +kernel
theorem dX5_go_13 : decode cX5_go 13 = .ok (.getfield 33, 3) := by decide +kernel
theorem dX5_go_16 : decode cX5_go 16 = .ok (.ifCond .ne 47, 3) := by decide +kernel
theorem dX5_go_19 : decode cX5_go 19 = .ok (.aload_n 0, 1) := by decide +kernel
theorem dX5_go_20 : decode cX5_go 20 = .ok (.getfield 21, 3) := by decide +kernel
theorem dX5_go_23 : decode cX5_go 23 = .ok (.getfield 73, 3) := by decide +kernel
theorem dX5_go_26 : decode cX5_go 26 = .ok (.aload_n 0, 1) := by decide +kernel
theorem dX5_go_27 : decode cX5_go 27 = .ok (.getfield 42, 3) := by decide +kernel
theorem dX5_go_30 : decode cX5_go 30 = .ok (.iaload, 1) := by decide +kernel
theorem dX5_go_31 : decode cX5_go 31 = .ok (.bipush 6, 2) := by decide +kernel
theorem dX5_go_33 : decode cX5_go 33 = .ok (.if_icmp .ne 20, 3) := by decide +kernel
theorem dX5_go_36 : decode cX5_go 36 = .ok (.aload_n 0, 1) := by decide +kernel
theorem dX5_go_37 : decode cX5_go 37 = .ok (.getfield 52, 3) := by decide +kernel
theorem dX5_go_40 : decode cX5_go 40 = .ok (.bipush 12, 2) := by decide +kernel
theorem dX5_go_42 : decode cX5_go 42 = .ok (.if_icmp .ne 11, 3) := by decide +kernel
theorem dX5_go_45 : decode cX5_go 45 = .ok (.aload_n 0, 1) := by decide +kernel
theorem dX5_go_46 : decode cX5_go 46 = .ok (.iconst 1, 1) := by decide +kernel
theorem dX5_go_47 : decode cX5_go 47 = .ok (.putfield 33, 3) := by decide +kernel
theorem dX5_go_50 : decode cX5_go 50 = .ok (.goto 7, 3) := by decide +kernel
theorem dX5_go_53 : decode cX5_go 53 = .ok (.aload_n 0, 1) := by decide +kernel
theorem dX5_go_54 : decode cX5_go 54 = .ok (.invokevirtual 78, 3) := by decide +kernel
theorem dX5_go_57 : decode cX5_go 57 = .ok (.iinc 3 1, 3) := by decide +kernel
theorem dX5_go_60 : decode cX5_go 60 = .ok (.goto (-53), 3) := by decide +kernel
theorem dX5_go_63 : decode cX5_go 63 = .ok (.aload_n 0, 1) := by decide +kernel
theorem dX5_go_64 : decode cX5_go 64 = .ok (.getfield 49, 3) := by decide +kernel
theorem dX5_go_67 : decode cX5_go 67 = .ok (.iload_n 2, 1) := by decide +kernel
theorem dX5_go_68 : decode cX5_go 68 = .ok (.isub, 1) := by decide +kernel
theorem dX5_go_69 : decode cX5_go 69 = .ok (.ireturn, 1) := by decide +kernel
theorem dX5_takeStep_0 : decode cX5_takeStep 0 = .ok (.aload_n 0, 1) := by decide +kernel
theorem dX5_takeStep_1 : decode cX5_takeStep 1 = .ok (.getfield 36, 3) := by decide +kernel
theorem dX5_takeStep_4 : decode cX5_takeStep 4 = .ok (.ifCond .eq 18, 3) := by decide +kernel
theorem dX5_takeStep_7 : decode cX5_takeStep 7 = .ok (.aload_n 0, 1) := by decide +kernel
theorem dX5_takeStep_8 : decode cX5_takeStep 8 = .ok (.aload_n 0, 1) := by decide +kernel
theorem dX5_takeStep_9 : decode cX5_takeStep 9 = .ok (.getfield 25, 3) := by decide +kernel
theorem dX5_takeStep_12 : decode cX5_takeStep 12 = .ok (.aload_n 0, 1) := by decide +kernel
theorem dX5_takeStep_13 : decode cX5_takeStep 13 = .ok (.getfield 42, 3) := by decide +kernel
theorem dX5_takeStep_16 : decode cX5_takeStep 16 = .ok (.invokevirtual 81, 3) := by decide +kernel
theorem dX5_takeStep_19 : decode cX5_takeStep 19 = .ok (.invokevirtual 87, 3) := by decide +kernel
theorem dX5_takeStep_22 : decode cX5_takeStep 22 = .ok (.aload_n 0, 1) := by decide +kernel
theorem dX5_takeStep_23 : decode cX5_takeStep 23 = .ok (.getfield 21, 3) := by decide +kernel
theorem dX5_takeStep_26 : decode cX5_takeStep 26 = .ok (.getfield 73, 3) := by decide +kernel
theorem dX5_takeStep_29 : decode cX5_takeStep 29 = .ok (.aload_n 0, 1) := by decide +kernel
theorem dX5_takeStep_30 : decode cX5_takeStep 30 = .ok (.getfield 42, 3) := by decide +kernel
theorem dX5_takeStep_33 : decode cX5_takeStep 33 = .ok (.iaload, 1) := by decide +kernel
theorem dX5_takeStep_34 : decode cX5_takeStep 34 = .ok (.istore_n 1, 1) := by decide +kernel
theorem dX5_takeStep_35 : decode cX5_takeStep 35 = .ok (.aload_n 0, 1) := by decide +kernel
theorem dX5_takeStep_36 : decode cX5_takeStep 36 = .ok (.getfield 21, 3) := by decide +kernel
theorem dX5_takeStep_39 : decode cX5_takeStep 39 = .ok (.getfield 91, 3) := by decide +kernel
theorem dX5_takeStep_42 : decode cX5_takeStep 42 = .ok (.aload_n 0, 1) := by decide +kernel
theorem dX5_takeStep_43 : decode cX5_takeStep 43 = .ok (.getfield 42, 3) := by decide +kernel
theorem dX5_takeStep_46 : decode cX5_takeStep 46 = .ok (.iaload, 1) := by decide +kernel
theorem dX5_takeStep_47 : decode cX5_takeStep 47 = .ok (.istore_n 2, 1) := by decide +kernel
theorem dX5_takeStep_48 : decode cX5_takeStep 48 = .ok (.aload_n 0, 1) := by decide +kernel
theorem dX5_takeStep_49 : decode cX5_takeStep 49 = .ok (.dup, 1) := by decide +kernel
theorem dX5_takeStep_50 : decode cX5_takeStep 50 = .ok (.getfield 49, 3) := by decide +kernel
theorem dX5_takeStep_53 : decode cX5_takeStep 53 = .ok (.iconst 1, 1) := by decide +kernel
theorem dX5_takeStep_54 : decode cX5_takeStep 54 = .ok (.iadd, 1) := by decide +kernel
theorem dX5_takeStep_55 : decode cX5_takeStep 55 = .ok (.putfield 49, 3) := by decide +kernel
theorem dX5_takeStep_58 : decode cX5_takeStep 58 = .ok (.aload_n 0, 1) := by decide +kernel
theorem dX5_takeStep_59 : decode cX5_takeStep 59 = .ok (.dup, 1) := by decide +kernel
theorem dX5_takeStep_60 : decode cX5_takeStep 60 = .ok (.getfield 42, 3) := by decide +kernel
theorem dX5_takeStep_63 : decode cX5_takeStep 63 = .ok (.iconst 1, 1) := by decide +kernel
theorem dX5_takeStep_64 : decode cX5_takeStep 64 = .ok (.iadd, 1) := by decide +kernel
theorem dX5_takeStep_65 : decode cX5_takeStep 65 = .ok (.putfield 42, 3) := by decide +kernel
theorem dX5_takeStep_68 : decode cX5_takeStep 68 = .ok (.iload_n 1, 1) := by decide +kernel
theorem dX5_takeStep_69 : decode cX5_takeStep 69 = .ok (.invokestatic 94, 3) := by decide +kernel
theorem dX5_takeStep_72 : decode cX5_takeStep 72 = .ok (.ifCond .eq 12, 3) := by decide +kernel
theorem dX5_takeStep_75 : decode cX5_takeStep 75 = .ok (.aload_n 0, 1) := by decide +kernel
theorem dX5_takeStep_76 : decode cX5_takeStep 76 = .ok (.iload_n 1, 1) := by decide +kernel
theorem dX5_takeStep_77 : decode cX5_takeStep 77 = .ok (.iload_n 2, 1) := by decide +kernel
theorem dX5_takeStep_78 : decode cX5_takeStep 78 = .ok (.invokevirtual 98, 3) := by decide +kernel
theorem dX5_takeStep_81 : decode cX5_takeStep 81 = .ok (.goto 9, 3) := by decide +kernel
theorem dX5_takeStep_84 : decode cX5_takeStep 84 = .ok (.aload_n 0, 1) := by decide +kernel
theorem dX5_takeStep_85 : decode cX5_takeStep 85 = .ok (.iload_n 1, 1) := by decide +kernel
theorem dX5_takeStep_86 : decode cX5_takeStep 86 = .ok (.iload_n 2, 1) := by decide +kernel
theorem dX5_takeStep_87 : decode cX5_takeStep 87 = .ok (.invokevirtual 102, 3) := by decide +kernel
theorem dX5_takeStep_90 : decode cX5_takeStep 90 = .ok (.aload_n 0, 1) := by decide +kernel
theorem dX5_takeStep_91 : decode cX5_takeStep 91 = .ok (.getfield 21, 3) := by decide +kernel
theorem dX5_takeStep_94 : decode cX5_takeStep 94 = .ok (.aload_n 0, 1) := by decide +kernel
theorem dX5_takeStep_95 : decode cX5_takeStep 95 = .ok (.getfield 42, 3) := by decide +kernel
theorem dX5_takeStep_98 : decode cX5_takeStep 98 = .ok (.invokevirtual 105, 3) := by decide +kernel
theorem dX5_takeStep_101 : decode cX5_takeStep 101 = .ok (.ifCond .ne 8, 3) := by decide +kernel
theorem dX5_takeStep_104 : decode cX5_takeStep 104 = .ok (.aload_n 0, 1) := by decide +kernel
theorem dX5_takeStep_105 : decode cX5_takeStep 105 = .ok (.iconst 1, 1) := by decide +kernel
theorem dX5_takeStep_106 : decode cX5_takeStep 106 = .ok (.putfield 33, 3) := by decide +kernel
theorem dX5_takeStep_109 : decode cX5_takeStep 109 = .ok (.return_, 1) := by decide +kernel
theorem dX5_work_0 : decode cX5_work 0 = .ok (.iload_n 1, 1) := by decide +kernel
theorem dX5_work_1 : decode cX5_work 1 = .ok (.tableswitch 131 0 5 #[39, 55, 71, 84, 97, 110], 39) := by decide +kernel
theorem dX5_work_40 : decode cX5_work 40 = .ok (.aload_n 0, 1) := by decide +kernel
theorem dX5_work_41 : decode cX5_work 41 = .ok (.aload_n 0, 1) := by decide +kernel
theorem dX5_work_42 : decode cX5_work 42 = .ok (.getfield 46, 3) := by decide +kernel
theorem dX5_work_45 : decode cX5_work 45 = .ok (.iload_n 2, 1) := by decide +kernel
theorem dX5_work_46 : decode cX5_work 46 = .ok (.iadd, 1) := by decide +kernel
theorem dX5_work_47 : decode cX5_work 47 = .ok (.ldc 108, 2) := by decide +kernel
theorem dX5_work_49 : decode cX5_work 49 = .ok (.iand, 1) := by decide +kernel
theorem dX5_work_50 : decode cX5_work 50 = .ok (.putfield 46, 3) := by decide +kernel
theorem dX5_work_53 : decode cX5_work 53 = .ok (.goto 92, 3) := by decide +kernel
theorem dX5_work_56 : decode cX5_work 56 = .ok (.aload_n 0, 1) := by decide +kernel
theorem dX5_work_57 : decode cX5_work 57 = .ok (.aload_n 0, 1) := by decide +kernel
theorem dX5_work_58 : decode cX5_work 58 = .ok (.getfield 46, 3) := by decide +kernel
theorem dX5_work_61 : decode cX5_work 61 = .ok (.iload_n 2, 1) := by decide +kernel
theorem dX5_work_62 : decode cX5_work 62 = .ok (.imul, 1) := by decide +kernel
theorem dX5_work_63 : decode cX5_work 63 = .ok (.ldc 108, 2) := by decide +kernel
theorem dX5_work_65 : decode cX5_work 65 = .ok (.iand, 1) := by decide +kernel
theorem dX5_work_66 : decode cX5_work 66 = .ok (.putfield 46, 3) := by decide +kernel
theorem dX5_work_69 : decode cX5_work 69 = .ok (.goto 76, 3) := by decide +kernel
theorem dX5_work_72 : decode cX5_work 72 = .ok (.aload_n 0, 1) := by decide +kernel
theorem dX5_work_73 : decode cX5_work 73 = .ok (.aload_n 0, 1) := by decide +kernel
theorem dX5_work_74 : decode cX5_work 74 = .ok (.getfield 46, 3) := by decide +kernel
theorem dX5_work_77 : decode cX5_work 77 = .ok (.iload_n 2, 1) := by decide +kernel
theorem dX5_work_78 : decode cX5_work 78 = .ok (.ixor, 1) := by decide +kernel
theorem dX5_work_79 : decode cX5_work 79 = .ok (.putfield 46, 3) := by decide +kernel
theorem dX5_work_82 : decode cX5_work 82 = .ok (.goto 63, 3) := by decide +kernel
theorem dX5_work_85 : decode cX5_work 85 = .ok (.aload_n 0, 1) := by decide +kernel
theorem dX5_work_86 : decode cX5_work 86 = .ok (.getfield 9, 3) := by decide +kernel
theorem dX5_work_89 : decode cX5_work 89 = .ok (.iload_n 2, 1) := by decide +kernel
theorem dX5_work_90 : decode cX5_work 90 = .ok (.aload_n 0, 1) := by decide +kernel
theorem dX5_work_91 : decode cX5_work 91 = .ok (.getfield 46, 3) := by decide +kernel
theorem dX5_work_94 : decode cX5_work 94 = .ok (.iastore, 1) := by decide +kernel
theorem dX5_work_95 : decode cX5_work 95 = .ok (.goto 50, 3) := by decide +kernel
theorem dX5_work_98 : decode cX5_work 98 = .ok (.aload_n 0, 1) := by decide +kernel
theorem dX5_work_99 : decode cX5_work 99 = .ok (.aload_n 0, 1) := by decide +kernel
theorem dX5_work_100 : decode cX5_work 100 = .ok (.getfield 9, 3) := by decide +kernel
theorem dX5_work_103 : decode cX5_work 103 = .ok (.iload_n 2, 1) := by decide +kernel
theorem dX5_work_104 : decode cX5_work 104 = .ok (.iaload, 1) := by decide +kernel
theorem dX5_work_105 : decode cX5_work 105 = .ok (.putfield 46, 3) := by decide +kernel
theorem dX5_work_108 : decode cX5_work 108 = .ok (.goto 37, 3) := by decide +kernel
theorem dX5_work_111 : decode cX5_work 111 = .ok (.aload_n 0, 1) := by decide +kernel
theorem dX5_work_112 : decode cX5_work 112 = .ok (.aload_n 0, 1) := by decide +kernel
theorem dX5_work_113 : decode cX5_work 113 = .ok (.getfield 46, 3) := by decide +kernel
theorem dX5_work_116 : decode cX5_work 116 = .ok (.aload_n 0, 1) := by decide +kernel
theorem dX5_work_117 : decode cX5_work 117 = .ok (.getfield 9, 3) := by decide +kernel
theorem dX5_work_120 : decode cX5_work 120 = .ok (.iload_n 2, 1) := by decide +kernel
theorem dX5_work_121 : decode cX5_work 121 = .ok (.iaload, 1) := by decide +kernel
theorem dX5_work_122 : decode cX5_work 122 = .ok (.iadd, 1) := by decide +kernel
theorem dX5_work_123 : decode cX5_work 123 = .ok (.ldc 108, 2) := by decide +kernel
theorem dX5_work_125 : decode cX5_work 125 = .ok (.iand, 1) := by decide +kernel
theorem dX5_work_126 : decode cX5_work 126 = .ok (.putfield 46, 3) := by decide +kernel
theorem dX5_work_129 : decode cX5_work 129 = .ok (.goto 16, 3) := by decide +kernel
theorem dX5_work_132 : decode cX5_work 132 = .ok (.aload_n 0, 1) := by decide +kernel
theorem dX5_work_133 : decode cX5_work 133 = .ok (.aload_n 0, 1) := by decide +kernel
theorem dX5_work_134 : decode cX5_work 134 = .ok (.getfield 46, 3) := by decide +kernel
theorem dX5_work_137 : decode cX5_work 137 = .ok (.iload_n 2, 1) := by decide +kernel
theorem dX5_work_138 : decode cX5_work 138 = .ok (.iadd, 1) := by decide +kernel
theorem dX5_work_139 : decode cX5_work 139 = .ok (.ldc 108, 2) := by decide +kernel
theorem dX5_work_141 : decode cX5_work 141 = .ok (.iand, 1) := by decide +kernel
theorem dX5_work_142 : decode cX5_work 142 = .ok (.invokevirtual 109, 3) := by decide +kernel
theorem dX5_work_145 : decode cX5_work 145 = .ok (.return_, 1) := by decide +kernel
theorem dX5_tellOut_0 : decode cX5_tellOut 0 = .ok (.aload_n 0, 1) := by decide +kernel
theorem dX5_tellOut_1 : decode cX5_tellOut 1 = .ok (.getfield 52, 3) := by decide +kernel
theorem dX5_tellOut_4 : decode cX5_tellOut 4 = .ok (.bipush 12, 2) := by decide +kernel
theorem dX5_tellOut_6 : decode cX5_tellOut 6 = .ok (.if_icmp .ge 23, 3) := by decide +kernel
theorem dX5_tellOut_9 : decode cX5_tellOut 9 = .ok (.aload_n 0, 1) := by decide +kernel
theorem dX5_tellOut_10 : decode cX5_tellOut 10 = .ok (.getfield 15, 3) := by decide +kernel
theorem dX5_tellOut_13 : decode cX5_tellOut 13 = .ok (.aload_n 0, 1) := by decide +kernel
theorem dX5_tellOut_14 : decode cX5_tellOut 14 = .ok (.getfield 52, 3) := by decide +kernel
theorem dX5_tellOut_17 : decode cX5_tellOut 17 = .ok (.iload_n 1, 1) := by decide +kernel
theorem dX5_tellOut_18 : decode cX5_tellOut 18 = .ok (.iastore, 1) := by decide +kernel
theorem dX5_tellOut_19 : decode cX5_tellOut 19 = .ok (.aload_n 0, 1) := by decide +kernel
theorem dX5_tellOut_20 : decode cX5_tellOut 20 = .ok (.dup, 1) := by decide +kernel
theorem dX5_tellOut_21 : decode cX5_tellOut 21 = .ok (.getfield 52, 3) := by decide +kernel
theorem dX5_tellOut_24 : decode cX5_tellOut 24 = .ok (.iconst 1, 1) := by decide +kernel
theorem dX5_tellOut_25 : decode cX5_tellOut 25 = .ok (.iadd, 1) := by decide +kernel
theorem dX5_tellOut_26 : decode cX5_tellOut 26 = .ok (.putfield 52, 3) := by decide +kernel
theorem dX5_tellOut_29 : decode cX5_tellOut 29 = .ok (.return_, 1) := by decide +kernel
theorem dX5_turn_0 : decode cX5_turn 0 = .ok (.iload_n 1, 1) := by decide +kernel
theorem dX5_turn_1 : decode cX5_turn 1 = .ok (.tableswitch 80 7 10 #[31, 39, 61, 73], 31) := by decide +kernel
theorem dX5_turn_32 : decode cX5_turn 32 = .ok (.aload_n 0, 1) := by decide +kernel
theorem dX5_turn_33 : decode cX5_turn 33 = .ok (.iload_n 2, 1) := by decide +kernel
theorem dX5_turn_34 : decode cX5_turn 34 = .ok (.putfield 42, 3) := by decide +kernel
theorem dX5_turn_37 : decode cX5_turn 37 = .ok (.goto 49, 3) := by decide +kernel
theorem dX5_turn_40 : decode cX5_turn 40 = .ok (.aload_n 0, 1) := by decide +kernel
theorem dX5_turn_41 : decode cX5_turn 41 = .ok (.aload_n 0, 1) := by decide +kernel
theorem dX5_turn_42 : decode cX5_turn 42 = .ok (.getfield 46, 3) := by decide +kernel
theorem dX5_turn_45 : decode cX5_turn 45 = .ok (.ifCond .ne 7, 3) := by decide +kernel
theorem dX5_turn_48 : decode cX5_turn 48 = .ok (.iload_n 2, 1) := by decide +kernel
theorem dX5_turn_49 : decode cX5_turn 49 = .ok (.goto 7, 3) := by decide +kernel
theorem dX5_turn_52 : decode cX5_turn 52 = .ok (.aload_n 0, 1) := by decide +kernel
theorem dX5_turn_53 : decode cX5_turn 53 = .ok (.getfield 42, 3) := by decide +kernel
theorem dX5_turn_56 : decode cX5_turn 56 = .ok (.putfield 42, 3) := by decide +kernel
theorem dX5_turn_59 : decode cX5_turn 59 = .ok (.goto 27, 3) := by decide +kernel
theorem dX5_turn_62 : decode cX5_turn 62 = .ok (.aload_n 0, 1) := by decide +kernel
theorem dX5_turn_63 : decode cX5_turn 63 = .ok (.aload_n 0, 1) := by decide +kernel
theorem dX5_turn_64 : decode cX5_turn 64 = .ok (.iload_n 2, 1) := by decide +kernel
theorem dX5_turn_65 : decode cX5_turn 65 = .ok (.invokevirtual 112, 3) := by decide +kernel
theorem dX5_turn_68 : decode cX5_turn 68 = .ok (.putfield 46, 3) := by decide +kernel
theorem dX5_turn_71 : decode cX5_turn 71 = .ok (.goto 15, 3) := by decide +kernel
theorem dX5_turn_74 : decode cX5_turn 74 = .ok (.aload_n 0, 1) := by decide +kernel
theorem dX5_turn_75 : decode cX5_turn 75 = .ok (.invokevirtual 115, 3) := by decide +kernel
theorem dX5_turn_78 : decode cX5_turn 78 = .ok (.goto 8, 3) := by decide +kernel
theorem dX5_turn_81 : decode cX5_turn 81 = .ok (.aload_n 0, 1) := by decide +kernel
theorem dX5_turn_82 : decode cX5_turn 82 = .ok (.iconst 1, 1) := by decide +kernel
theorem dX5_turn_83 : decode cX5_turn 83 = .ok (.putfield 33, 3) := by decide +kernel
theorem dX5_turn_86 : decode cX5_turn 86 = .ok (.return_, 1) := by decide +kernel
theorem dX5_addressOf_0 : decode cX5_addressOf 0 = .ok (.aload_n 0, 1) := by decide +kernel
theorem dX5_addressOf_1 : decode cX5_addressOf 1 = .ok (.getfield 36, 3) := by decide +kernel
theorem dX5_addressOf_4 : decode cX5_addressOf 4 = .ok (.ifCond .eq 26, 3) := by decide +kernel
theorem dX5_addressOf_7 : decode cX5_addressOf 7 = .ok (.aload_n 0, 1) := by decide +kernel
theorem dX5_addressOf_8 : decode cX5_addressOf 8 = .ok (.getfield 21, 3) := by decide +kernel
theorem dX5_addressOf_11 : decode cX5_addressOf 11 = .ok (.iload_n 1, 1) := by decide +kernel
theorem dX5_addressOf_12 : decode cX5_addressOf 12 = .ok (.invokevirtual 105, 3) := by decide +kernel
theorem dX5_addressOf_15 : decode cX5_addressOf 15 = .ok (.ifCond .eq 15, 3) := by decide +kernel
theorem dX5_addressOf_18 : decode cX5_addressOf 18 = .ok (.aload_n 0, 1) := by decide +kernel
theorem dX5_addressOf_19 : decode cX5_addressOf 19 = .ok (.getfield 25, 3) := by decide +kernel
theorem dX5_addressOf_22 : decode cX5_addressOf 22 = .ok (.getfield 118, 3) := by decide +kernel
theorem dX5_addressOf_25 : decode cX5_addressOf 25 = .ok (.iload_n 1, 1) := by decide +kernel
theorem dX5_addressOf_26 : decode cX5_addressOf 26 = .ok (.iaload, 1) := by decide +kernel
theorem dX5_addressOf_27 : decode cX5_addressOf 27 = .ok (.goto 4, 3) := by decide +kernel
theorem dX5_addressOf_30 : decode cX5_addressOf 30 = .ok (.iload_n 1, 1) := by decide +kernel
theorem dX5_addressOf_31 : decode cX5_addressOf 31 = .ok (.ireturn, 1) := by decide +kernel
theorem dX5_jumpBySum_0 : decode cX5_jumpBySum 0 = .ok (.iconst 0, 1) := by decide +kernel
theorem dX5_jumpBySum_1 : decode cX5_jumpBySum 1 = .ok (.istore_n 1, 1) := by decide +kernel
theorem dX5_jumpBySum_2 : decode cX5_jumpBySum 2 = .ok (.iload_n 1, 1) := by decide +kernel
theorem dX5_jumpBySum_3 : decode cX5_jumpBySum 3 = .ok (.aload_n 0, 1) := by decide +kernel
theorem dX5_jumpBySum_4 : decode cX5_jumpBySum 4 = .ok (.getfield 21, 3) := by decide +kernel
theorem dX5_jumpBySum_7 : decode cX5_jumpBySum 7 = .ok (.getfield 121, 3) := by decide +kernel
theorem dX5_jumpBySum_10 : decode cX5_jumpBySum 10 = .ok (.if_icmp .ge 57, 3) := by decide +kernel
theorem dX5_jumpBySum_13 : decode cX5_jumpBySum 13 = .ok (.aload_n 0, 1) := by decide +kernel
theorem dX5_jumpBySum_14 : decode cX5_jumpBySum 14 = .ok (.getfield 21, 3) := by decide +kernel
theorem dX5_jumpBySum_17 : decode cX5_jumpBySum 17 = .ok (.getfield 73, 3) := by decide +kernel
theorem dX5_jumpBySum_20 : decode cX5_jumpBySum 20 = .ok (.iload_n 1, 1) := by decide +kernel
theorem dX5_jumpBySum_21 : decode cX5_jumpBySum 21 = .ok (.iaload, 1) := by decide +kernel
theorem dX5_jumpBySum_22 : decode cX5_jumpBySum 22 = .ok (.bipush 9, 2) := by decide +kernel
theorem dX5_jumpBySum_24 : decode cX5_jumpBySum 24 = .ok (.if_icmp .ne 37, 3) := by decide +kernel
theorem dX5_jumpBySum_27 : decode cX5_jumpBySum 27 = .ok (.aload_n 0, 1) := by decide +kernel
theorem dX5_jumpBySum_28 : decode cX5_jumpBySum 28 = .ok (.aload_n 0, 1) := by decide +kernel
theorem dX5_jumpBySum_29 : decode cX5_jumpBySum 29 = .ok (.getfield 21, 3) := by decide +kernel
theorem dX5_jumpBySum_32 : decode cX5_jumpBySum 32 = .ok (.getfield 91, 3) := by decide +kernel
theorem dX5_jumpBySum_35 : decode cX5_jumpBySum 35 = .ok (.iload_n 1, 1) := by decide +kernel
theorem dX5_jumpBySum_36 : decode cX5_jumpBySum 36 = .ok (.iaload, 1) := by decide +kernel
theorem dX5_jumpBySum_37 : decode cX5_jumpBySum 37 = .ok (.invokevirtual 112, 3) := by decide +kernel
theorem dX5_jumpBySum_40 : decode cX5_jumpBySum 40 = .ok (.aload_n 0, 1) := by decide +kernel
theorem dX5_jumpBySum_41 : decode cX5_jumpBySum 41 = .ok (.getfield 46, 3) := by decide +kernel
theorem dX5_jumpBySum_44 : decode cX5_jumpBySum 44 = .ok (.if_icmp .ne 17, 3) := by decide +kernel
theorem dX5_jumpBySum_47 : decode cX5_jumpBySum 47 = .ok (.aload_n 0, 1) := by decide +kernel
theorem dX5_jumpBySum_48 : decode cX5_jumpBySum 48 = .ok (.aload_n 0, 1) := by decide +kernel
theorem dX5_jumpBySum_49 : decode cX5_jumpBySum 49 = .ok (.getfield 21, 3) := by decide +kernel
theorem dX5_jumpBySum_52 : decode cX5_jumpBySum 52 = .ok (.getfield 91, 3) := by decide +kernel
theorem dX5_jumpBySum_55 : decode cX5_jumpBySum 55 = .ok (.iload_n 1, 1) := by decide +kernel
theorem dX5_jumpBySum_56 : decode cX5_jumpBySum 56 = .ok (.iaload, 1) := by decide +kernel
theorem dX5_jumpBySum_57 : decode cX5_jumpBySum 57 = .ok (.putfield 42, 3) := by decide +kernel
theorem dX5_jumpBySum_60 : decode cX5_jumpBySum 60 = .ok (.return_, 1) := by decide +kernel
theorem dX5_jumpBySum_61 : decode cX5_jumpBySum 61 = .ok (.iinc 1 1, 3) := by decide +kernel
theorem dX5_jumpBySum_64 : decode cX5_jumpBySum 64 = .ok (.goto (-62), 3) := by decide +kernel
theorem dX5_jumpBySum_67 : decode cX5_jumpBySum 67 = .ok (.aload_n 0, 1) := by decide +kernel
theorem dX5_jumpBySum_68 : decode cX5_jumpBySum 68 = .ok (.iconst 1, 1) := by decide +kernel
theorem dX5_jumpBySum_69 : decode cX5_jumpBySum 69 = .ok (.putfield 39, 3) := by decide +kernel
theorem dX5_jumpBySum_72 : decode cX5_jumpBySum 72 = .ok (.aload_n 0, 1) := by decide +kernel
theorem dX5_jumpBySum_73 : decode cX5_jumpBySum 73 = .ok (.iconst 1, 1) := by decide +kernel
theorem dX5_jumpBySum_74 : decode cX5_jumpBySum 74 = .ok (.putfield 33, 3) := by decide +kernel
theorem dX5_jumpBySum_77 : decode cX5_jumpBySum 77 = .ok (.return_, 1) := by decide +kernel
theorem dX5_useLine_0 : decode cX5_useLine 0 = .ok (.aload_n 0, 1) := by decide +kernel
theorem dX5_useLine_1 : decode cX5_useLine 1 = .ok (.iload_n 1, 1) := by decide +kernel
theorem dX5_useLine_2 : decode cX5_useLine 2 = .ok (.invokevirtual 124, 3) := by decide +kernel
theorem dX5_useLine_5 : decode cX5_useLine 5 = .ok (.istore_n 2, 1) := by decide +kernel
theorem dX5_useLine_6 : decode cX5_useLine 6 = .ok (.iload_n 2, 1) := by decide +kernel
theorem dX5_useLine_7 : decode cX5_useLine 7 = .ok (.ifCond .ge 54, 3) := by decide +kernel
theorem dX5_useLine_10 : decode cX5_useLine 10 = .ok (.aload_n 0, 1) := by decide +kernel
theorem dX5_useLine_11 : decode cX5_useLine 11 = .ok (.dup, 1) := by decide +kernel
theorem dX5_useLine_12 : decode cX5_useLine 12 = .ok (.getfield 67, 3) := by decide +kernel
theorem dX5_useLine_15 : decode cX5_useLine 15 = .ok (.iconst 1, 1) := by decide +kernel
theorem dX5_useLine_16 : decode cX5_useLine 16 = .ok (.iadd, 1) := by decide +kernel
theorem dX5_useLine_17 : decode cX5_useLine 17 = .ok (.putfield 67, 3) := by decide +kernel
theorem dX5_useLine_20 : decode cX5_useLine 20 = .ok (.aload_n 0, 1) := by decide +kernel
theorem dX5_useLine_21 : decode cX5_useLine 21 = .ok (.dup, 1) := by decide +kernel
theorem dX5_useLine_22 : decode cX5_useLine 22 = .ok (.getfield 70, 3) := by decide +kernel
theorem dX5_useLine_25 : decode cX5_useLine 25 = .ok (.aload_n 0, 1) := by decide +kernel
theorem dX5_useLine_26 : decode cX5_useLine 26 = .ok (.getfield 25, 3) := by decide +kernel
theorem dX5_useLine_29 : decode cX5_useLine 29 = .ok (.iload_n 1, 1) := by decide +kernel
theorem dX5_useLine_30 : decode cX5_useLine 30 = .ok (.invokevirtual 127, 3) := by decide +kernel
theorem dX5_useLine_33 : decode cX5_useLine 33 = .ok (.iadd, 1) := by decide +kernel
theorem dX5_useLine_34 : decode cX5_useLine 34 = .ok (.putfield 70, 3) := by decide +kernel
theorem dX5_useLine_37 : decode cX5_useLine 37 = .ok (.aload_n 0, 1) := by decide +kernel
theorem dX5_useLine_38 : decode cX5_useLine 38 = .ok (.aload_n 0, 1) := by decide +kernel
theorem dX5_useLine_39 : decode cX5_useLine 39 = .ok (.getfield 64, 3) := by decide +kernel
theorem dX5_useLine_42 : decode cX5_useLine 42 = .ok (.iconst 1, 1) := by decide +kernel
theorem dX5_useLine_43 : decode cX5_useLine 43 = .ok (.iadd, 1) := by decide +kernel
theorem dX5_useLine_44 : decode cX5_useLine 44 = .ok (.aload_n 0, 1) := by decide +kernel
theorem dX5_useLine_45 : decode cX5_useLine 45 = .ok (.getfield 61, 3) := by decide +kernel
theorem dX5_useLine_48 : decode cX5_useLine 48 = .ok (.invokestatic 55, 3) := by decide +kernel
theorem dX5_useLine_51 : decode cX5_useLine 51 = .ok (.putfield 64, 3) := by decide +kernel
theorem dX5_useLine_54 : decode cX5_useLine 54 = .ok (.aload_n 0, 1) := by decide +kernel
theorem dX5_useLine_55 : decode cX5_useLine 55 = .ok (.getfield 64, 3) := by decide +kernel
theorem dX5_useLine_58 : decode cX5_useLine 58 = .ok (.iconst 1, 1) := by decide +kernel
theorem dX5_useLine_59 : decode cX5_useLine 59 = .ok (.isub, 1) := by decide +kernel
theorem dX5_useLine_60 : decode cX5_useLine 60 = .ok (.istore_n 2, 1) := by decide +kernel
theorem dX5_useLine_61 : decode cX5_useLine 61 = .ok (.iload_n 2, 1) := by decide +kernel
theorem dX5_useLine_62 : decode cX5_useLine 62 = .ok (.istore_n 3, 1) := by decide +kernel
theorem dX5_useLine_63 : decode cX5_useLine 63 = .ok (.iload_n 3, 1) := by decide +kernel
theorem dX5_useLine_64 : decode cX5_useLine 64 = .ok (.ifCond .le 23, 3) := by decide +kernel
theorem dX5_useLine_67 : decode cX5_useLine 67 = .ok (.aload_n 0, 1) := by decide +kernel
theorem dX5_useLine_68 : decode cX5_useLine 68 = .ok (.getfield 18, 3) := by decide +kernel
theorem dX5_useLine_71 : decode cX5_useLine 71 = .ok (.iload_n 3, 1) := by decide +kernel
theorem dX5_useLine_72 : decode cX5_useLine 72 = .ok (.aload_n 0, 1) := by decide +kernel
theorem dX5_useLine_73 : decode cX5_useLine 73 = .ok (.getfield 18, 3) := by decide +kernel
theorem dX5_useLine_76 : decode cX5_useLine 76 = .ok (.iload_n 3, 1) := by decide +kernel
theorem dX5_useLine_77 : decode cX5_useLine 77 = .ok (.iconst 1, 1) := by decide +kernel
theorem dX5_useLine_78 : decode cX5_useLine 78 = .ok (.isub, 1) := by decide +kernel
theorem dX5_useLine_79 : decode cX5_useLine 79 = .ok (.iaload, 1) := by decide +kernel
theorem dX5_useLine_80 : decode cX5_useLine 80 = .ok (.iastore, 1) := by decide +kernel
theorem dX5_useLine_81 : decode cX5_useLine 81 = .ok (.iinc 3 (-1), 3) := by decide +kernel
theorem dX5_useLine_84 : decode cX5_useLine 84 = .ok (.goto (-21), 3) := by decide +kernel
theorem dX5_useLine_87 : decode cX5_useLine 87 = .ok (.aload_n 0, 1) := by decide +kernel
theorem dX5_useLine_88 : decode cX5_useLine 88 = .ok (.getfield 18, 3) := by decide +kernel
theorem dX5_useLine_91 : decode cX5_useLine 91 = .ok (.iconst 0, 1) := by decide +kernel
theorem dX5_useLine_92 : decode cX5_useLine 92 = .ok (.iload_n 1, 1) := by decide +kernel
theorem dX5_useLine_93 : decode cX5_useLine 93 = .ok (.iastore, 1) := by decide +kernel
theorem dX5_useLine_94 : decode cX5_useLine 94 = .ok (.return_, 1) := by decide +kernel
theorem dX5_placeOf_0 : decode cX5_placeOf 0 = .ok (.iconst 0, 1) := by decide +kernel
theorem dX5_placeOf_1 : decode cX5_placeOf 1 = .ok (.istore_n 2, 1) := by decide +kernel
