theorem dX5_placeOf_2 : decode cX5_placeOf 2 = .ok (.iload_n 2, 1) := by decide +kernel
theorem dX5_placeOf_3 : decode cX5_placeOf 3 = .ok (.aload_n 0, 1) := by decide +kernel
theorem dX5_placeOf_4 : decode cX5_placeOf 4 = .ok (.getfield 64, 3) := by decide +kernel
theorem dX5_placeOf_7 : decode cX5_placeOf 7 = .ok (.if_icmp .ge 21, 3) := by decide +kernel
theorem dX5_placeOf_10 : decode cX5_placeOf 10 = .ok (.aload_n 0, 1) := by decide +kernel
theorem dX5_placeOf_11 : decode cX5_placeOf 11 = .ok (.getfield 18, 3) := by decide +kernel
theorem dX5_placeOf_14 : decode cX5_placeOf 14 = .ok (.iload_n 2, 1) := by decide +kernel
theorem dX5_placeOf_15 : decode cX5_placeOf 15 = .ok (.iaload, 1) := by decide +kernel
theorem dX5_placeOf_16 : decode cX5_placeOf 16 = .ok (.iload_n 1, 1) := by decide +kernel
theorem dX5_placeOf_17 : decode cX5_placeOf 17 = .ok (.if_icmp .ne 5, 3) := by decide +kernel
theorem dX5_placeOf_20 : decode cX5_placeOf 20 = .ok (.iload_n 2, 1) := by decide +kernel
theorem dX5_placeOf_21 : decode cX5_placeOf 21 = .ok (.ireturn, 1) := by decide +kernel
theorem dX5_placeOf_22 : decode cX5_placeOf 22 = .ok (.iinc 2 1, 3) := by decide +kernel
theorem dX5_placeOf_25 : decode cX5_placeOf 25 = .ok (.goto (-23), 3) := by decide +kernel
theorem dX5_placeOf_28 : decode cX5_placeOf 28 = .ok (.bipush (-4), 2) := by decide +kernel
theorem dX5_placeOf_30 : decode cX5_placeOf 30 = .ok (.ireturn, 1) := by decide +kernel
theorem dX5_tell_0 : decode cX5_tell 0 = .ok (.iload_n 1, 1) := by decide +kernel
theorem dX5_tell_1 : decode cX5_tell 1 = .ok (.tableswitch 107 0 7 #[47, 64, 69, 74, 79, 92, 97, 102], 47) := by decide +kernel
theorem dX5_tell_48 : decode cX5_tell 48 = .ok (.aload_n 0, 1) := by decide +kernel
theorem dX5_tell_49 : decode cX5_tell 49 = .ok (.getfield 33, 3) := by decide +kernel
theorem dX5_tell_52 : decode cX5_tell 52 = .ok (.ifCond .eq 8, 3) := by decide +kernel
theorem dX5_tell_55 : decode cX5_tell 55 = .ok (.bipush (-4), 2) := by decide +kernel
theorem dX5_tell_57 : decode cX5_tell 57 = .ok (.goto 7, 3) := by decide +kernel
theorem dX5_tell_60 : decode cX5_tell 60 = .ok (.aload_n 0, 1) := by decide +kernel
theorem dX5_tell_61 : decode cX5_tell 61 = .ok (.getfield 42, 3) := by decide +kernel
theorem dX5_tell_64 : decode cX5_tell 64 = .ok (.ireturn, 1) := by decide +kernel
theorem dX5_tell_65 : decode cX5_tell 65 = .ok (.aload_n 0, 1) := by decide +kernel
theorem dX5_tell_66 : decode cX5_tell 66 = .ok (.getfield 46, 3) := by decide +kernel
theorem dX5_tell_69 : decode cX5_tell 69 = .ok (.ireturn, 1) := by decide +kernel
theorem dX5_tell_70 : decode cX5_tell 70 = .ok (.aload_n 0, 1) := by decide +kernel
theorem dX5_tell_71 : decode cX5_tell 71 = .ok (.getfield 49, 3) := by decide +kernel
theorem dX5_tell_74 : decode cX5_tell 74 = .ok (.ireturn, 1) := by decide +kernel
theorem dX5_tell_75 : decode cX5_tell 75 = .ok (.aload_n 0, 1) := by decide +kernel
theorem dX5_tell_76 : decode cX5_tell 76 = .ok (.getfield 52, 3) := by decide +kernel
theorem dX5_tell_79 : decode cX5_tell 79 = .ok (.ireturn, 1) := by decide +kernel
theorem dX5_tell_80 : decode cX5_tell 80 = .ok (.aload_n 0, 1) := by decide +kernel
theorem dX5_tell_81 : decode cX5_tell 81 = .ok (.getfield 39, 3) := by decide +kernel
theorem dX5_tell_84 : decode cX5_tell 84 = .ok (.ifCond .eq 7, 3) := by decide +kernel
theorem dX5_tell_87 : decode cX5_tell 87 = .ok (.iconst 1, 1) := by decide +kernel
theorem dX5_tell_88 : decode cX5_tell 88 = .ok (.goto 4, 3) := by decide +kernel
theorem dX5_tell_91 : decode cX5_tell 91 = .ok (.iconst 0, 1) := by decide +kernel
theorem dX5_tell_92 : decode cX5_tell 92 = .ok (.ireturn, 1) := by decide +kernel
theorem dX5_tell_93 : decode cX5_tell 93 = .ok (.aload_n 0, 1) := by decide +kernel
theorem dX5_tell_94 : decode cX5_tell 94 = .ok (.getfield 67, 3) := by decide +kernel
theorem dX5_tell_97 : decode cX5_tell 97 = .ok (.ireturn, 1) := by decide +kernel
theorem dX5_tell_98 : decode cX5_tell 98 = .ok (.aload_n 0, 1) := by decide +kernel
theorem dX5_tell_99 : decode cX5_tell 99 = .ok (.getfield 70, 3) := by decide +kernel
theorem dX5_tell_102 : decode cX5_tell 102 = .ok (.ireturn, 1) := by decide +kernel
theorem dX5_tell_103 : decode cX5_tell 103 = .ok (.aload_n 0, 1) := by decide +kernel
theorem dX5_tell_104 : decode cX5_tell 104 = .ok (.getfield 64, 3) := by decide +kernel
theorem dX5_tell_107 : decode cX5_tell 107 = .ok (.ireturn, 1) := by decide +kernel
theorem dX5_tell_108 : decode cX5_tell 108 = .ok (.aload_n 0, 1) := by decide +kernel
theorem dX5_tell_109 : decode cX5_tell 109 = .ok (.getfield 36, 3) := by decide +kernel
theorem dX5_tell_112 : decode cX5_tell 112 = .ok (.ifCond .eq 7, 3) := by decide +kernel
theorem dX5_tell_115 : decode cX5_tell 115 = .ok (.iconst 1, 1) := by decide +kernel
theorem dX5_tell_116 : decode cX5_tell 116 = .ok (.goto 4, 3) := by decide +kernel
theorem dX5_tell_119 : decode cX5_tell 119 = .ok (.iconst 0, 1) := by decide +kernel
theorem dX5_tell_120 : decode cX5_tell 120 = .ok (.ireturn, 1) := by decide +kernel
theorem dX6_init_0 : decode cX6_init 0 = .ok (.aload_n 0, 1) := by decide +kernel
theorem dX6_init_1 : decode cX6_init 1 = .ok (.invokespecial 3, 3) := by decide +kernel
theorem dX6_init_4 : decode cX6_init 4 = .ok (.aload_n 0, 1) := by decide +kernel
theorem dX6_init_5 : decode cX6_init 5 = .ok (.bipush 8, 2) := by decide +kernel
theorem dX6_init_7 : decode cX6_init 7 = .ok (.anewarray 9, 3) := by decide +kernel
theorem dX6_init_10 : decode cX6_init 10 = .ok (.putfield 11, 3) := by decide +kernel
theorem dX6_init_13 : decode cX6_init 13 = .ok (.aload_n 0, 1) := by decide +kernel
theorem dX6_init_14 : decode cX6_init 14 = .ok (.bipush 8, 2) := by decide +kernel
theorem dX6_init_16 : decode cX6_init 16 = .ok (.putfield 17, 3) := by decide +kernel
theorem dX6_init_19 : decode cX6_init 19 = .ok (.aload_n 0, 1) := by decide +kernel
theorem dX6_init_20 : decode cX6_init 20 = .ok (.iconst 2, 1) := by decide +kernel
theorem dX6_init_21 : decode cX6_init 21 = .ok (.putfield 21, 3) := by decide +kernel
theorem dX6_init_24 : decode cX6_init 24 = .ok (.iconst 0, 1) := by decide +kernel
theorem dX6_init_25 : decode cX6_init 25 = .ok (.istore_n 1, 1) := by decide +kernel
theorem dX6_init_26 : decode cX6_init 26 = .ok (.iload_n 1, 1) := by decide +kernel
theorem dX6_init_27 : decode cX6_init 27 = .ok (.bipush 8, 2) := by decide +kernel
theorem dX6_init_29 : decode cX6_init 29 = .ok (.if_icmp .ge 22, 3) := by decide +kernel
theorem dX6_init_32 : decode cX6_init 32 = .ok (.aload_n 0, 1) := by decide +kernel
theorem dX6_init_33 : decode cX6_init 33 = .ok (.getfield 11, 3) := by decide +kernel
theorem dX6_init_36 : decode cX6_init 36 = .ok (.iload_n 1, 1) := by decide +kernel
theorem dX6_init_37 : decode cX6_init 37 = .ok (.new 9, 3) := by decide +kernel
theorem dX6_init_40 : decode cX6_init 40 = .ok (.dup, 1) := by decide +kernel
theorem dX6_init_41 : decode cX6_init 41 = .ok (.invokespecial 24, 3) := by decide +kernel
theorem dX6_init_44 : decode cX6_init 44 = .ok (.aastore, 1) := by decide +kernel
theorem dX6_init_45 : decode cX6_init 45 = .ok (.iinc 1 1, 3) := by decide +kernel
theorem dX6_init_48 : decode cX6_init 48 = .ok (.goto (-22), 3) := by decide +kernel
theorem dX6_init_51 : decode cX6_init 51 = .ok (.return_, 1) := by decide +kernel
theorem dX6_copy_0 : decode cX6_copy 0 = .ok (.aload_n 0, 1) := by decide +kernel
theorem dX6_copy_1 : decode cX6_copy 1 = .ok (.aload_n 1, 1) := by decide +kernel
theorem dX6_copy_2 : decode cX6_copy 2 = .ok (.getfield 25, 3) := by decide +kernel
theorem dX6_copy_5 : decode cX6_copy 5 = .ok (.putfield 25, 3) := by decide +kernel
theorem dX6_copy_8 : decode cX6_copy 8 = .ok (.aload_n 0, 1) := by decide +kernel
theorem dX6_copy_9 : decode cX6_copy 9 = .ok (.aload_n 1, 1) := by decide +kernel
theorem dX6_copy_10 : decode cX6_copy 10 = .ok (.getfield 17, 3) := by decide +kernel
theorem dX6_copy_13 : decode cX6_copy 13 = .ok (.putfield 17, 3) := by decide +kernel
theorem dX6_copy_16 : decode cX6_copy 16 = .ok (.aload_n 0, 1) := by decide +kernel
theorem dX6_copy_17 : decode cX6_copy 17 = .ok (.aload_n 1, 1) := by decide +kernel
theorem dX6_copy_18 : decode cX6_copy 18 = .ok (.getfield 21, 3) := by decide +kernel
theorem dX6_copy_21 : decode cX6_copy 21 = .ok (.putfield 21, 3) := by decide +kernel
theorem dX6_copy_24 : decode cX6_copy 24 = .ok (.iconst 0, 1) := by decide +kernel
theorem dX6_copy_25 : decode cX6_copy 25 = .ok (.istore_n 2, 1) := by decide +kernel
theorem dX6_copy_26 : decode cX6_copy 26 = .ok (.iload_n 2, 1) := by decide +kernel
theorem dX6_copy_27 : decode cX6_copy 27 = .ok (.aload_n 0, 1) := by decide +kernel
theorem dX6_copy_28 : decode cX6_copy 28 = .ok (.getfield 25, 3) := by decide +kernel
theorem dX6_copy_31 : decode cX6_copy 31 = .ok (.if_icmp .ge 24, 3) := by decide +kernel
theorem dX6_copy_34 : decode cX6_copy 34 = .ok (.aload_n 0, 1) := by decide +kernel
theorem dX6_copy_35 : decode cX6_copy 35 = .ok (.getfield 11, 3) := by decide +kernel
theorem dX6_copy_38 : decode cX6_copy 38 = .ok (.iload_n 2, 1) := by decide +kernel
theorem dX6_copy_39 : decode cX6_copy 39 = .ok (.aaload, 1) := by decide +kernel
theorem dX6_copy_40 : decode cX6_copy 40 = .ok (.aload_n 1, 1) := by decide +kernel
theorem dX6_copy_41 : decode cX6_copy 41 = .ok (.getfield 11, 3) := by decide +kernel
theorem dX6_copy_44 : decode cX6_copy 44 = .ok (.iload_n 2, 1) := by decide +kernel
theorem dX6_copy_45 : decode cX6_copy 45 = .ok (.aaload, 1) := by decide +kernel
theorem dX6_copy_46 : decode cX6_copy 46 = .ok (.invokevirtual 28, 3) := by decide +kernel
theorem dX6_copy_49 : decode cX6_copy 49 = .ok (.iinc 2 1, 3) := by decide +kernel
theorem dX6_copy_52 : decode cX6_copy 52 = .ok (.goto (-26), 3) := by decide +kernel
theorem dX6_copy_55 : decode cX6_copy 55 = .ok (.return_, 1) := by decide +kernel
theorem dX6_has_0 : decode cX6_has 0 = .ok (.iload_n 1, 1) := by decide +kernel
theorem dX6_has_1 : decode cX6_has 1 = .ok (.ifCond .lt 15, 3) := by decide +kernel
theorem dX6_has_4 : decode cX6_has 4 = .ok (.iload_n 1, 1) := by decide +kernel
theorem dX6_has_5 : decode cX6_has 5 = .ok (.aload_n 0, 1) := by decide +kernel
theorem dX6_has_6 : decode cX6_has 6 = .ok (.getfield 25, 3) := by decide +kernel
theorem dX6_has_9 : decode cX6_has 9 = .ok (.if_icmp .ge 7, 3) := by decide +kernel
theorem dX6_has_12 : decode cX6_has 12 = .ok (.iconst 1, 1) := by decide +kernel
theorem dX6_has_13 : decode cX6_has 13 = .ok (.goto 4, 3) := by decide +kernel
theorem dX6_has_16 : decode cX6_has 16 = .ok (.iconst 0, 1) := by decide +kernel
theorem dX6_has_17 : decode cX6_has 17 = .ok (.ireturn, 1) := by decide +kernel
theorem dX6_append_0 : decode cX6_append 0 = .ok (.aload_n 0, 1) := by decide +kernel
theorem dX6_append_1 : decode cX6_append 1 = .ok (.getfield 25, 3) := by decide +kernel
theorem dX6_append_4 : decode cX6_append 4 = .ok (.bipush 8, 2) := by decide +kernel
theorem dX6_append_6 : decode cX6_append 6 = .ok (.if_icmp .ge 30, 3) := by decide +kernel
theorem dX6_append_9 : decode cX6_append 9 = .ok (.aload_n 0, 1) := by decide +kernel
theorem dX6_append_10 : decode cX6_append 10 = .ok (.getfield 11, 3) := by decide +kernel
theorem dX6_append_13 : decode cX6_append 13 = .ok (.aload_n 0, 1) := by decide +kernel
theorem dX6_append_14 : decode cX6_append 14 = .ok (.getfield 25, 3) := by decide +kernel
theorem dX6_append_17 : decode cX6_append 17 = .ok (.aaload, 1) := by decide +kernel
theorem dX6_append_18 : decode cX6_append 18 = .ok (.aload_n 1, 1) := by decide +kernel
theorem dX6_append_19 : decode cX6_append 19 = .ok (.iload_n 2, 1) := by decide +kernel
theorem dX6_append_20 : decode cX6_append 20 = .ok (.iload_n 3, 1) := by decide +kernel
theorem dX6_append_21 : decode cX6_append 21 = .ok (.iload 4, 2) := by decide +kernel
theorem dX6_append_23 : decode cX6_append 23 = .ok (.invokevirtual 32, 3) := by decide +kernel
theorem dX6_append_26 : decode cX6_append 26 = .ok (.aload_n 0, 1) := by decide +kernel
theorem dX6_append_27 : decode cX6_append 27 = .ok (.dup, 1) := by decide +kernel
theorem dX6_append_28 : decode cX6_append 28 = .ok (.getfield 25, 3) := by decide +kernel
theorem dX6_append_31 : decode cX6_append 31 = .ok (.iconst 1, 1) := by decide +kernel
theorem dX6_append_32 : decode cX6_append 32 = .ok (.iadd, 1) := by decide +kernel
theorem dX6_append_33 : decode cX6_append 33 = .ok (.putfield 25, 3) := by decide +kernel
theorem dX6_append_36 : decode cX6_append 36 = .ok (.return_, 1) := by decide +kernel
theorem dX6_remove_0 : decode cX6_remove 0 = .ok (.aload_n 0, 1) := by decide +kernel
theorem dX6_remove_1 : decode cX6_remove 1 = .ok (.dup, 1) := by decide +kernel
theorem dX6_remove_2 : decode cX6_remove 2 = .ok (.getfield 25, 3) := by decide +kernel
theorem dX6_remove_5 : decode cX6_remove 5 = .ok (.iconst 1, 1) := by decide +kernel
theorem dX6_remove_6 : decode cX6_remove 6 = .ok (.isub, 1) := by decide +kernel
theorem dX6_remove_7 : decode cX6_remove 7 = .ok (.putfield 25, 3) := by decide +kernel
theorem dX6_remove_10 : decode cX6_remove 10 = .ok (.iload_n 1, 1) := by decide +kernel
theorem dX6_remove_11 : decode cX6_remove 11 = .ok (.istore_n 2, 1) := by decide +kernel
theorem dX6_remove_12 : decode cX6_remove 12 = .ok (.iload_n 2, 1) := by decide +kernel
theorem dX6_remove_13 : decode cX6_remove 13 = .ok (.aload_n 0, 1) := by decide +kernel
theorem dX6_remove_14 : decode cX6_remove 14 = .ok (.getfield 25, 3) := by decide +kernel
theorem dX6_remove_17 : decode cX6_remove 17 = .ok (.if_icmp .ge 26, 3) := by decide +kernel
theorem dX6_remove_20 : decode cX6_remove 20 = .ok (.aload_n 0, 1) := by decide +kernel
theorem dX6_remove_21 : decode cX6_remove 21 = .ok (.getfield 11, 3) := by decide +kernel
theorem dX6_remove_24 : decode cX6_remove 24 = .ok (.iload_n 2, 1) := by decide +kernel
theorem dX6_remove_25 : decode cX6_remove 25 = .ok (.aaload, 1) := by decide +kernel
theorem dX6_remove_26 : decode cX6_remove 26 = .ok (.aload_n 0, 1) := by decide +kernel
theorem dX6_remove_27 : decode cX6_remove 27 = .ok (.getfield 11, 3) := by decide +kernel
theorem dX6_remove_30 : decode cX6_remove 30 = .ok (.iload_n 2, 1) := by decide +kernel
theorem dX6_remove_31 : decode cX6_remove 31 = .ok (.iconst 1, 1) := by decide +kernel
theorem dX6_remove_32 : decode cX6_remove 32 = .ok (.iadd, 1) := by decide +kernel
theorem dX6_remove_33 : decode cX6_remove 33 = .ok (.aaload, 1) := by decide +kernel
theorem dX6_remove_34 : decode cX6_remove 34 = .ok (.invokevirtual 28, 3) := by decide +kernel
theorem dX6_remove_37 : decode cX6_remove 37 = .ok (.iinc 2 1, 3) := by decide +kernel
theorem dX6_remove_40 : decode cX6_remove 40 = .ok (.goto (-28), 3) := by decide +kernel
theorem dX6_remove_43 : decode cX6_remove 43 = .ok (.return_, 1) := by decide +kernel
theorem dX6_hasAlike_0 : decode cX6_hasAlike 0 = .ok (.iload 4, 2) := by decide +kernel
theorem dX6_hasAlike_2 : decode cX6_hasAlike 2 = .ok (.ifCond .ge 8, 3) := by decide +kernel
theorem dX6_hasAlike_5 : decode cX6_hasAlike 5 = .ok (.bipush (-4), 2) := by decide +kernel
theorem dX6_hasAlike_7 : decode cX6_hasAlike 7 = .ok (.goto 5, 3) := by decide +kernel
theorem dX6_hasAlike_10 : decode cX6_hasAlike 10 = .ok (.iload 4, 2) := by decide +kernel
theorem dX6_hasAlike_12 : decode cX6_hasAlike 12 = .ok (.istore 5, 2) := by decide +kernel
theorem dX6_hasAlike_14 : decode cX6_hasAlike 14 = .ok (.iconst 0, 1) := by decide +kernel
theorem dX6_hasAlike_15 : decode cX6_hasAlike 15 = .ok (.istore 6, 2) := by decide +kernel
theorem dX6_hasAlike_17 : decode cX6_hasAlike 17 = .ok (.iload 6, 2) := by decide +kernel
theorem dX6_hasAlike_19 : decode cX6_hasAlike 19 = .ok (.aload_n 0, 1) := by decide +kernel
theorem dX6_hasAlike_20 : decode cX6_hasAlike 20 = .ok (.getfield 25, 3) := by decide +kernel
theorem dX6_hasAlike_23 : decode cX6_hasAlike 23 = .ok (.if_icmp .ge 49, 3) := by decide +kernel
theorem dX6_hasAlike_26 : decode cX6_hasAlike 26 = .ok (.aload_n 0, 1) := by decide +kernel
theorem dX6_hasAlike_27 : decode cX6_hasAlike 27 = .ok (.getfield 11, 3) := by decide +kernel
theorem dX6_hasAlike_30 : decode cX6_hasAlike 30 = .ok (.iload 6, 2) := by decide +kernel
theorem dX6_hasAlike_32 : decode cX6_hasAlike 32 = .ok (.aaload, 1) := by decide +kernel
theorem dX6_hasAlike_33 : decode cX6_hasAlike 33 = .ok (.astore 7, 2) := by decide +kernel
theorem dX6_hasAlike_35 : decode cX6_hasAlike 35 = .ok (.aload 7, 2) := by decide +kernel
theorem dX6_hasAlike_37 : decode cX6_hasAlike 37 = .ok (.getfield 36, 3) := by decide +kernel
theorem dX6_hasAlike_40 : decode cX6_hasAlike 40 = .ok (.iload_n 3, 1) := by decide +kernel
theorem dX6_hasAlike_41 : decode cX6_hasAlike 41 = .ok (.if_icmp .ne 25, 3) := by decide +kernel
theorem dX6_hasAlike_44 : decode cX6_hasAlike 44 = .ok (.aload 7, 2) := by decide +kernel
theorem dX6_hasAlike_46 : decode cX6_hasAlike 46 = .ok (.getfield 39, 3) := by decide +kernel
theorem dX6_hasAlike_49 : decode cX6_hasAlike 49 = .ok (.iload 5, 2) := by decide +kernel
theorem dX6_hasAlike_51 : decode cX6_hasAlike 51 = .ok (.if_icmp .ne 15, 3) := by decide +kernel
theorem dX6_hasAlike_54 : decode cX6_hasAlike 54 = .ok (.aload 7, 2) := by decide +kernel
theorem dX6_hasAlike_56 : decode cX6_hasAlike 56 = .ok (.aload_n 1, 1) := by decide +kernel
theorem dX6_hasAlike_57 : decode cX6_hasAlike 57 = .ok (.iload_n 2, 1) := by decide +kernel
theorem dX6_hasAlike_58 : decode cX6_hasAlike 58 = .ok (.invokevirtual 42, 3) := by decide +kernel
theorem dX6_hasAlike_61 : decode cX6_hasAlike 61 = .ok (.ifCond .eq 5, 3) := by decide +kernel
theorem dX6_hasAlike_64 : decode cX6_hasAlike 64 = .ok (.iconst 1, 1) := by decide +kernel
theorem dX6_hasAlike_65 : decode cX6_hasAlike 65 = .ok (.ireturn, 1) := by decide +kernel
theorem dX6_hasAlike_66 : decode cX6_hasAlike 66 = .ok (.iinc 6 1, 3) := by decide +kernel
theorem dX6_hasAlike_69 : decode cX6_hasAlike 69 = .ok (.goto (-52), 3) := by decide +kernel
theorem dX6_hasAlike_72 : decode cX6_hasAlike 72 = .ok (.iconst 0, 1) := by decide +kernel
theorem dX6_hasAlike_73 : decode cX6_hasAlike 73 = .ok (.ireturn, 1) := by decide +kernel
theorem dX6_tableNibbles_0 : decode cX6_tableNibbles 0 = .ok (.iconst 0, 1) := by decide +kernel
theorem dX6_tableNibbles_1 : decode cX6_tableNibbles 1 = .ok (.istore_n 1, 1) := by decide +kernel
theorem dX6_tableNibbles_2 : decode cX6_tableNibbles 2 = .ok (.iconst 0, 1) := by decide +kernel
theorem dX6_tableNibbles_3 : decode cX6_tableNibbles 3 = .ok (.istore_n 2, 1) := by decide +kernel
theorem dX6_tableNibbles_4 : decode cX6_tableNibbles 4 = .ok (.iload_n 2, 1) := by decide +kernel
theorem dX6_tableNibbles_5 : decode cX6_tableNibbles 5 = .ok (.aload_n 0, 1) := by decide +kernel
theorem dX6_tableNibbles_6 : decode cX6_tableNibbles 6 = .ok (.getfield 25, 3) := by decide +kernel
theorem dX6_tableNibbles_9 : decode cX6_tableNibbles 9 = .ok (.if_icmp .ge 24, 3) := by decide +kernel
theorem dX6_tableNibbles_12 : decode cX6_tableNibbles 12 = .ok (.iload_n 1, 1) := by decide +kernel
theorem dX6_tableNibbles_13 : decode cX6_tableNibbles 13 = .ok (.aload_n 0, 1) := by decide +kernel
theorem dX6_tableNibbles_14 : decode cX6_tableNibbles 14 = .ok (.getfield 11, 3) := by decide +kernel
theorem dX6_tableNibbles_17 : decode cX6_tableNibbles 17 = .ok (.iload_n 2, 1) := by decide +kernel
theorem dX6_tableNibbles_18 : decode cX6_tableNibbles 18 = .ok (.aaload, 1) := by decide +kernel
theorem dX6_tableNibbles_19 : decode cX6_tableNibbles 19 = .ok (.getfield 36, 3) := by decide +kernel
theorem dX6_tableNibbles_22 : decode cX6_tableNibbles 22 = .ok (.invokestatic 46, 3) := by decide +kernel
theorem dX6_tableNibbles_25 : decode cX6_tableNibbles 25 = .ok (.iadd, 1) := by decide +kernel
theorem dX6_tableNibbles_26 : decode cX6_tableNibbles 26 = .ok (.istore_n 1, 1) := by decide +kernel
theorem dX6_tableNibbles_27 : decode cX6_tableNibbles 27 = .ok (.iinc 2 1, 3) := by decide +kernel
theorem dX6_tableNibbles_30 : decode cX6_tableNibbles 30 = .ok (.goto (-26), 3) := by decide +kernel
theorem dX6_tableNibbles_33 : decode cX6_tableNibbles 33 = .ok (.iload_n 1, 1) := by decide +kernel
theorem dX6_tableNibbles_34 : decode cX6_tableNibbles 34 = .ok (.ireturn, 1) := by decide +kernel
theorem dX7_init_0 : decode cX7_init 0 = .ok (.aload_n 0, 1) := by decide +kernel
theorem dX7_init_1 : decode cX7_init 1 = .ok (.invokespecial 3, 3) := by decide +kernel
theorem dX7_init_4 : decode cX7_init 4 = .ok (.aload_n 0, 1) := by decide +kernel
theorem dX7_init_5 : decode cX7_init 5 = .ok (.sipush 200, 3) := by decide +kernel
theorem dX7_init_8 : decode cX7_init 8 = .ok (.newarray .char, 2) := by decide +kernel
theorem dX7_init_10 : decode cX7_init 10 = .ok (.putfield 9, 3) := by decide +kernel
theorem dX7_init_13 : decode cX7_init 13 = .ok (.aload_n 0, 1) := by decide +kernel
theorem dX7_init_14 : decode cX7_init 14 = .ok (.bipush 48, 2) := by decide +kernel
theorem dX7_init_16 : decode cX7_init 16 = .ok (.newarray .int, 2) := by decide +kernel
theorem dX7_init_18 : decode cX7_init 18 = .ok (.putfield 15, 3) := by decide +kernel
theorem dX7_init_21 : decode cX7_init 21 = .ok (.return_, 1) := by decide +kernel
theorem dX7_append_0 : decode cX7_append 0 = .ok (.aload_n 0, 1) := by decide +kernel
theorem dX7_append_1 : decode cX7_append 1 = .ok (.getfield 19, 3) := by decide +kernel
theorem dX7_append_4 : decode cX7_append 4 = .ok (.sipush 200, 3) := by decide +kernel
theorem dX7_append_7 : decode cX7_append 7 = .ok (.if_icmp .lt 6, 3) := by decide +kernel
theorem dX7_append_10 : decode cX7_append 10 = .ok (.bipush (-3), 2) := by decide +kernel
theorem dX7_append_12 : decode cX7_append 12 = .ok (.ireturn, 1) := by decide +kernel
theorem dX7_append_13 : decode cX7_append 13 = .ok (.aload_n 0, 1) := by decide +kernel
theorem dX7_append_14 : decode cX7_append 14 = .ok (.getfield 9, 3) := by decide +kernel
theorem dX7_append_17 : decode cX7_append 17 = .ok (.aload_n 0, 1) := by decide +kernel
theorem dX7_append_18 : decode cX7_append 18 = .ok (.getfield 19, 3) := by decide +kernel
theorem dX7_append_21 : decode cX7_append 21 = .ok (.iload_n 1, 1) := by decide +kernel
theorem dX7_append_22 : decode cX7_append 22 = .ok (.castore, 1) := by decide +kernel
theorem dX7_append_23 : decode cX7_append 23 = .ok (.aload_n 0, 1) := by decide +kernel
theorem dX7_append_24 : decode cX7_append 24 = .ok (.dup, 1) := by decide +kernel
theorem dX7_append_25 : decode cX7_append 25 = .ok (.getfield 19, 3) := by decide +kernel
theorem dX7_append_28 : decode cX7_append 28 = .ok (.iconst 1, 1) := by decide +kernel
theorem dX7_append_29 : decode cX7_append 29 = .ok (.iadd, 1) := by decide +kernel
theorem dX7_append_30 : decode cX7_append 30 = .ok (.putfield 19, 3) := by decide +kernel
theorem dX7_append_33 : decode cX7_append 33 = .ok (.aload_n 0, 1) := by decide +kernel
theorem dX7_append_34 : decode cX7_append 34 = .ok (.getfield 19, 3) := by decide +kernel
theorem dX7_append_37 : decode cX7_append 37 = .ok (.ireturn, 1) := by decide +kernel
theorem dX7_empty_0 : decode cX7_empty 0 = .ok (.aload_n 0, 1) := by decide +kernel
theorem dX7_empty_1 : decode cX7_empty 1 = .ok (.getfield 19, 3) := by decide +kernel
theorem dX7_empty_4 : decode cX7_empty 4 = .ok (.istore_n 1, 1) := by decide +kernel
theorem dX7_empty_5 : decode cX7_empty 5 = .ok (.aload_n 0, 1) := by decide +kernel
theorem dX7_empty_6 : decode cX7_empty 6 = .ok (.iconst 0, 1) := by decide +kernel
theorem dX7_empty_7 : decode cX7_empty 7 = .ok (.putfield 19, 3) := by decide +kernel
theorem dX7_empty_10 : decode cX7_empty 10 = .ok (.iload_n 1, 1) := by decide +kernel
theorem dX7_empty_11 : decode cX7_empty 11 = .ok (.ireturn, 1) := by decide +kernel
theorem dX7_findFault_0 : decode cX7_findFault 0 = .ok (.aload_n 0, 1) := by decide +kernel
theorem dX7_findFault_1 : decode cX7_findFault 1 = .ok (.iconst 0, 1) := by decide +kernel
theorem dX7_findFault_2 : decode cX7_findFault 2 = .ok (.putfield 23, 3) := by decide +kernel
theorem dX7_findFault_5 : decode cX7_findFault 5 = .ok (.iconst 0, 1) := by decide +kernel
theorem dX7_findFault_6 : decode cX7_findFault 6 = .ok (.istore_n 1, 1) := by decide +kernel
theorem dX7_findFault_7 : decode cX7_findFault 7 = .ok (.iconst 0, 1) := by decide +kernel
theorem dX7_findFault_8 : decode cX7_findFault 8 = .ok (.istore_n 2, 1) := by decide +kernel
theorem dX7_findFault_9 : decode cX7_findFault 9 = .ok (.iload_n 2, 1) := by decide +kernel
theorem dX7_findFault_10 : decode cX7_findFault 10 = .ok (.sipush 200, 3) := by decide +kernel
theorem dX7_findFault_13 : decode cX7_findFault 13 = .ok (.if_icmp .ge 57, 3) := by decide +kernel
theorem dX7_findFault_16 : decode cX7_findFault 16 = .ok (.iload_n 1, 1) := by decide +kernel
theorem dX7_findFault_17 : decode cX7_findFault 17 = .ok (.aload_n 0, 1) := by decide +kernel
theorem dX7_findFault_18 : decode cX7_findFault 18 = .ok (.getfield 19, 3) := by decide +kernel
theorem dX7_findFault_21 : decode cX7_findFault 21 = .ok (.if_icmp .ge 49, 3) := by decide +kernel
theorem dX7_findFault_24 : decode cX7_findFault 24 = .ok (.iload_n 2, 1) := by decide +kernel
theorem dX7_findFault_25 : decode cX7_findFault 25 = .ok (.bipush 48, 2) := by decide +kernel
theorem dX7_findFault_27 : decode cX7_findFault 27 = .ok (.if_icmp .ge 11, 3) := by decide +kernel
theorem dX7_findFault_30 : decode cX7_findFault 30 = .ok (.aload_n 0, 1) := by decide +kernel
theorem dX7_findFault_31 : decode cX7_findFault 31 = .ok (.iload_n 1, 1) := by decide +kernel
theorem dX7_findFault_32 : decode cX7_findFault 32 = .ok (.invokevirtual 26, 3) := by decide +kernel
theorem dX7_findFault_35 : decode cX7_findFault 35 = .ok (.goto 4, 3) := by decide +kernel
theorem dX7_findFault_38 : decode cX7_findFault 38 = .ok (.iconst 0, 1) := by decide +kernel
theorem dX7_findFault_39 : decode cX7_findFault 39 = .ok (.istore_n 3, 1) := by decide +kernel
theorem dX7_findFault_40 : decode cX7_findFault 40 = .ok (.iload_n 3, 1) := by decide +kernel
theorem dX7_findFault_41 : decode cX7_findFault 41 = .ok (.ifCond .ne 5, 3) := by decide +kernel
theorem dX7_findFault_44 : decode cX7_findFault 44 = .ok (.iload_n 1, 1) := by decide +kernel
theorem dX7_findFault_45 : decode cX7_findFault 45 = .ok (.ireturn, 1) := by decide +kernel
theorem dX7_findFault_46 : decode cX7_findFault 46 = .ok (.aload_n 0, 1) := by decide +kernel
theorem dX7_findFault_47 : decode cX7_findFault 47 = .ok (.getfield 15, 3) := by decide +kernel
theorem dX7_findFault_50 : decode cX7_findFault 50 = .ok (.iload_n 2, 1) := by decide +kernel
theorem dX7_findFault_51 : decode cX7_findFault 51 = .ok (.iload_n 1, 1) := by decide +kernel
theorem dX7_findFault_52 : decode cX7_findFault 52 = .ok (.iastore, 1) := by decide +kernel
theorem dX7_findFault_53 : decode cX7_findFault 53 = .ok (.aload_n 0, 1) := by decide +kernel
theorem dX7_findFault_54 : decode cX7_findFault 54 = .ok (.iload_n 2, 1) := by decide +kernel
theorem dX7_findFault_55 : decode cX7_findFault 55 = .ok (.iconst 1, 1) := by decide +kernel
theorem dX7_findFault_56 : decode cX7_findFault 56 = .ok (.iadd, 1) := by decide +kernel
theorem dX7_findFault_57 : decode cX7_findFault 57 = .ok (.putfield 23, 3) := by decide +kernel
theorem dX7_findFault_60 : decode cX7_findFault 60 = .ok (.iload_n 1, 1) := by decide +kernel
theorem dX7_findFault_61 : decode cX7_findFault 61 = .ok (.iload_n 3, 1) := by decide +kernel
theorem dX7_findFault_62 : decode cX7_findFault 62 = .ok (.iadd, 1) := by decide +kernel
theorem dX7_findFault_63 : decode cX7_findFault 63 = .ok (.istore_n 1, 1) := by decide +kernel
theorem dX7_findFault_64 : decode cX7_findFault 64 = .ok (.iinc 2 1, 3) := by decide +kernel
theorem dX7_findFault_67 : decode cX7_findFault 67 = .ok (.goto (-58), 3) := by decide +kernel
theorem dX7_findFault_70 : decode cX7_findFault 70 = .ok (.aload_n 0, 1) := by decide +kernel
theorem dX7_findFault_71 : decode cX7_findFault 71 = .ok (.invokevirtual 30, 3) := by decide +kernel
theorem dX7_findFault_74 : decode cX7_findFault 74 = .ok (.ireturn, 1) := by decide +kernel
theorem dX7_findLostTarget_0 : decode cX7_findLostTarget 0 = .ok (.iconst 0, 1) := by decide +kernel
theorem dX7_findLostTarget_1 : decode cX7_findLostTarget 1 = .ok (.istore_n 1, 1) := by decide +kernel
theorem dX7_findLostTarget_2 : decode cX7_findLostTarget 2 = .ok (.iload_n 1, 1) := by decide +kernel
theorem dX7_findLostTarget_3 : decode cX7_findLostTarget 3 = .ok (.aload_n 0, 1) := by decide +kernel
theorem dX7_findLostTarget_4 : decode cX7_findLostTarget 4 = .ok (.getfield 23, 3) := by decide +kernel
theorem dX7_findLostTarget_7 : decode cX7_findLostTarget 7 = .ok (.if_icmp .ge 39, 3) := by decide +kernel
theorem dX7_findLostTarget_10 : decode cX7_findLostTarget 10 = .ok (.aload_n 0, 1) := by decide +kernel
theorem dX7_findLostTarget_11 : decode cX7_findLostTarget 11 = .ok (.iload_n 1, 1) := by decide +kernel
theorem dX7_findLostTarget_12 : decode cX7_findLostTarget 12 = .ok (.invokevirtual 34, 3) := by decide +kernel
theorem dX7_findLostTarget_15 : decode cX7_findLostTarget 15 = .ok (.invokestatic 37, 3) := by decide +kernel
theorem dX7_findLostTarget_18 : decode cX7_findLostTarget 18 = .ok (.ifCond .eq 22, 3) := by decide +kernel
theorem dX7_findLostTarget_21 : decode cX7_findLostTarget 21 = .ok (.aload_n 0, 1) := by decide +kernel
theorem dX7_findLostTarget_22 : decode cX7_findLostTarget 22 = .ok (.iload_n 1, 1) := by decide +kernel
theorem dX7_findLostTarget_23 : decode cX7_findLostTarget 23 = .ok (.invokevirtual 41, 3) := by decide +kernel
theorem dX7_findLostTarget_26 : decode cX7_findLostTarget 26 = .ok (.aload_n 0, 1) := by decide +kernel
theorem dX7_findLostTarget_27 : decode cX7_findLostTarget 27 = .ok (.getfield 23, 3) := by decide +kernel
theorem dX7_findLostTarget_30 : decode cX7_findLostTarget 30 = .ok (.if_icmp .lt 10, 3) := by decide +kernel
theorem dX7_findLostTarget_33 : decode cX7_findLostTarget 33 = .ok (.aload_n 0, 1) := by decide +kernel
theorem dX7_findLostTarget_34 : decode cX7_findLostTarget 34 = .ok (.getfield 15, 3) := by decide +kernel
theorem dX7_findLostTarget_37 : decode cX7_findLostTarget 37 = .ok (.iload_n 1, 1) := by decide +kernel
theorem dX7_findLostTarget_38 : decode cX7_findLostTarget 38 = .ok (.iaload, 1) := by decide +kernel
theorem dX7_findLostTarget_39 : decode cX7_findLostTarget 39 = .ok (.ireturn, 1) := by decide +kernel
theorem dX7_findLostTarget_40 : decode cX7_findLostTarget 40 = .ok (.iinc 1 1, 3) := by decide +kernel
theorem dX7_findLostTarget_43 : decode cX7_findLostTarget 43 = .ok (.goto (-41), 3) := by decide +kernel
theorem dX7_findLostTarget_46 : decode cX7_findLostTarget 46 = .ok (.bipush (-4), 2) := by decide +kernel
theorem dX7_findLostTarget_48 : decode cX7_findLostTarget 48 = .ok (.ireturn, 1) := by decide +kernel
theorem dX7_widthAt_0 : decode cX7_widthAt 0 = .ok (.ldc 44, 2) := by decide +kernel
theorem dX7_widthAt_2 : decode cX7_widthAt 2 = .ok (.aload_n 0, 1) := by decide +kernel
theorem dX7_widthAt_3 : decode cX7_widthAt 3 = .ok (.getfield 9, 3) := by decide +kernel
theorem dX7_widthAt_6 : decode cX7_widthAt 6 = .ok (.iload_n 1, 1) := by decide +kernel
theorem dX7_widthAt_7 : decode cX7_widthAt 7 = .ok (.caload, 1) := by decide +kernel
theorem dX7_widthAt_8 : decode cX7_widthAt 8 = .ok (.invokevirtual 46, 3) := by decide +kernel
theorem dX7_widthAt_11 : decode cX7_widthAt 11 = .ok (.istore_n 2, 1) := by decide +kernel
theorem dX7_widthAt_12 : decode cX7_widthAt 12 = .ok (.iload_n 2, 1) := by decide +kernel
theorem dX7_widthAt_13 : decode cX7_widthAt 13 = .ok (.ifCond .ge 5, 3) := by decide +kernel
theorem dX7_widthAt_16 : decode cX7_widthAt 16 = .ok (.iconst 0, 1) := by decide +kernel
theorem dX7_widthAt_17 : decode cX7_widthAt 17 = .ok (.ireturn, 1) := by decide +kernel
theorem dX7_widthAt_18 : decode cX7_widthAt 18 = .ok (.iload_n 2, 1) := by decide +kernel
theorem dX7_widthAt_19 : decode cX7_widthAt 19 = .ok (.invokestatic 37, 3) := by decide +kernel
theorem dX7_widthAt_22 : decode cX7_widthAt 22 = .ok (.ifCond .eq 7, 3) := by decide +kernel
theorem dX7_widthAt_25 : decode cX7_widthAt 25 = .ok (.iconst 2, 1) := by decide +kernel
theorem dX7_widthAt_26 : decode cX7_widthAt 26 = .ok (.goto 15, 3) := by decide +kernel
theorem dX7_widthAt_29 : decode cX7_widthAt 29 = .ok (.iload_n 2, 1) := by decide +kernel
theorem dX7_widthAt_30 : decode cX7_widthAt 30 = .ok (.invokestatic 51, 3) := by decide +kernel
theorem dX7_widthAt_33 : decode cX7_widthAt 33 = .ok (.ifCond .eq 7, 3) := by decide +kernel
theorem dX7_widthAt_36 : decode cX7_widthAt 36 = .ok (.iconst 1, 1) := by decide +kernel
theorem dX7_widthAt_37 : decode cX7_widthAt 37 = .ok (.goto 4, 3) := by decide +kernel
theorem dX7_widthAt_40 : decode cX7_widthAt 40 = .ok (.iconst 0, 1) := by decide +kernel
theorem dX7_widthAt_41 : decode cX7_widthAt 41 = .ok (.istore_n 3, 1) := by decide +kernel
theorem dX7_widthAt_42 : decode cX7_widthAt 42 = .ok (.iload_n 1, 1) := by decide +kernel
theorem dX7_widthAt_43 : decode cX7_widthAt 43 = .ok (.iload_n 3, 1) := by decide +kernel
theorem dX7_widthAt_44 : decode cX7_widthAt 44 = .ok (.iadd, 1) := by decide +kernel
theorem dX7_widthAt_45 : decode cX7_widthAt 45 = .ok (.aload_n 0, 1) := by decide +kernel
theorem dX7_widthAt_46 : decode cX7_widthAt 46 = .ok (.getfield 19, 3) := by decide +kernel
theorem dX7_widthAt_49 : decode cX7_widthAt 49 = .ok (.if_icmp .lt 5, 3) := by decide +kernel
theorem dX7_widthAt_52 : decode cX7_widthAt 52 = .ok (.iconst 0, 1) := by decide +kernel
theorem dX7_widthAt_53 : decode cX7_widthAt 53 = .ok (.ireturn, 1) := by decide +kernel
theorem dX7_widthAt_54 : decode cX7_widthAt 54 = .ok (.iconst 1, 1) := by decide +kernel
theorem dX7_widthAt_55 : decode cX7_widthAt 55 = .ok (.istore 4, 2) := by decide +kernel
theorem dX7_widthAt_57 : decode cX7_widthAt 57 = .ok (.iload 4, 2) := by decide +kernel
theorem dX7_widthAt_59 : decode cX7_widthAt 59 = .ok (.iload_n 3, 1) := by decide +kernel
theorem dX7_widthAt_60 : decode cX7_widthAt 60 = .ok (.if_icmp .gt 36, 3) := by decide +kernel
theorem dX7_widthAt_63 : decode cX7_widthAt 63 = .ok (.aload_n 0, 1) := by decide +kernel
theorem dX7_widthAt_64 : decode cX7_widthAt 64 = .ok (.getfield 9, 3) := by decide +kernel
theorem dX7_widthAt_67 : decode cX7_widthAt 67 = .ok (.iload_n 1, 1) := by decide +kernel
theorem dX7_widthAt_68 : decode cX7_widthAt 68 = .ok (.iload 4, 2) := by decide +kernel
theorem dX7_widthAt_70 : decode cX7_widthAt 70 = .ok (.iadd, 1) := by decide +kernel
theorem dX7_widthAt_71 : decode cX7_widthAt 71 = .ok (.caload, 1) := by decide +kernel
theorem dX7_widthAt_72 : decode cX7_widthAt 72 = .ok (.istore 5, 2) := by decide +kernel
theorem dX7_widthAt_74 : decode cX7_widthAt 74 = .ok (.iload 5, 2) := by decide +kernel
theorem dX7_widthAt_76 : decode cX7_widthAt 76 = .ok (.bipush 48, 2) := by decide +kernel
theorem dX7_widthAt_78 : decode cX7_widthAt 78 = .ok (.if_icmp .lt 10, 3) := by decide +kernel
theorem dX7_widthAt_81 : decode cX7_widthAt 81 = .ok (.iload 5, 2) := by decide +kernel
theorem dX7_widthAt_83 : decode cX7_widthAt 83 = .ok (.bipush 57, 2) := by decide +kernel
theorem dX7_widthAt_85 : decode cX7_widthAt 85 = .ok (.if_icmp .le 5, 3) := by decide +kernel
theorem dX7_widthAt_88 : decode cX7_widthAt 88 = .ok (.iconst 0, 1) := by decide +kernel
theorem dX7_widthAt_89 : decode cX7_widthAt 89 = .ok (.ireturn, 1) := by decide +kernel
theorem dX7_widthAt_90 : decode cX7_widthAt 90 = .ok (.iinc 4 1, 3) := by decide +kernel
theorem dX7_widthAt_93 : decode cX7_widthAt 93 = .ok (.goto (-36), 3) := by decide +kernel
theorem dX7_widthAt_96 : decode cX7_widthAt 96 = .ok (.iconst 1, 1) := by decide +kernel
theorem dX7_widthAt_97 : decode cX7_widthAt 97 = .ok (.iload_n 3, 1) := by decide +kernel
theorem dX7_widthAt_98 : decode cX7_widthAt 98 = .ok (.iadd, 1) := by decide +kernel
theorem dX7_widthAt_99 : decode cX7_widthAt 99 = .ok (.ireturn, 1) := by decide +kernel
theorem dX7_kindOf_0 : decode cX7_kindOf 0 = .ok (.ldc 44, 2) := by decide +kernel
theorem dX7_kindOf_2 : decode cX7_kindOf 2 = .ok (.aload_n 0, 1) := by decide +kernel
theorem dX7_kindOf_3 : decode cX7_kindOf 3 = .ok (.getfield 9, 3) := by decide +kernel
theorem dX7_kindOf_6 : decode cX7_kindOf 6 = .ok (.aload_n 0, 1) := by decide +kernel
theorem dX7_kindOf_7 : decode cX7_kindOf 7 = .ok (.getfield 15, 3) := by decide +kernel
theorem dX7_kindOf_10 : decode cX7_kindOf 10 = .ok (.iload_n 1, 1) := by decide +kernel
theorem dX7_kindOf_11 : decode cX7_kindOf 11 = .ok (.iaload, 1) := by decide +kernel
theorem dX7_kindOf_12 : decode cX7_kindOf 12 = .ok (.caload, 1) := by decide +kernel
theorem dX7_kindOf_13 : decode cX7_kindOf 13 = .ok (.invokevirtual 46, 3) := by decide +kernel
theorem dX7_kindOf_16 : decode cX7_kindOf 16 = .ok (.ireturn, 1) := by decide +kernel
theorem dX7_valueOf_0 : decode cX7_valueOf 0 = .ok (.aload_n 0, 1) := by decide +kernel
theorem dX7_valueOf_1 : decode cX7_valueOf 1 = .ok (.iload_n 1, 1) := by decide +kernel
theorem dX7_valueOf_2 : decode cX7_valueOf 2 = .ok (.invokevirtual 34, 3) := by decide +kernel
theorem dX7_valueOf_5 : decode cX7_valueOf 5 = .ok (.istore_n 2, 1) := by decide +kernel
theorem dX7_valueOf_6 : decode cX7_valueOf 6 = .ok (.aload_n 0, 1) := by decide +kernel
theorem dX7_valueOf_7 : decode cX7_valueOf 7 = .ok (.getfield 15, 3) := by decide +kernel
theorem dX7_valueOf_10 : decode cX7_valueOf 10 = .ok (.iload_n 1, 1) := by decide +kernel
theorem dX7_valueOf_11 : decode cX7_valueOf 11 = .ok (.iaload, 1) := by decide +kernel
theorem dX7_valueOf_12 : decode cX7_valueOf 12 = .ok (.istore_n 3, 1) := by decide +kernel
theorem dX7_valueOf_13 : decode cX7_valueOf 13 = .ok (.iload_n 2, 1) := by decide +kernel
theorem dX7_valueOf_14 : decode cX7_valueOf 14 = .ok (.invokestatic 51, 3) := by decide +kernel
theorem dX7_valueOf_17 : decode cX7_valueOf 17 = .ok (.ifCond .eq 15, 3) := by decide +kernel
theorem dX7_valueOf_20 : decode cX7_valueOf 20 = .ok (.aload_n 0, 1) := by decide +kernel
theorem dX7_valueOf_21 : decode cX7_valueOf 21 = .ok (.getfield 9, 3) := by decide +kernel
theorem dX7_valueOf_24 : decode cX7_valueOf 24 = .ok (.iload_n 3, 1) := by decide +kernel
theorem dX7_valueOf_25 : decode cX7_valueOf 25 = .ok (.iconst 1, 1) := by decide +kernel
theorem dX7_valueOf_26 : decode cX7_valueOf 26 = .ok (.iadd, 1) := by decide +kernel
theorem dX7_valueOf_27 : decode cX7_valueOf 27 = .ok (.caload, 1) := by decide +kernel
theorem dX7_valueOf_28 : decode cX7_valueOf 28 = .ok (.bipush 48, 2) := by decide +kernel
theorem dX7_valueOf_30 : decode cX7_valueOf 30 = .ok (.isub, 1) := by decide +kernel
theorem dX7_valueOf_31 : decode cX7_valueOf 31 = .ok (.ireturn, 1) := by decide +kernel
theorem dX7_valueOf_32 : decode cX7_valueOf 32 = .ok (.iload_n 2, 1) := by decide +kernel
theorem dX7_valueOf_33 : decode cX7_valueOf 33 = .ok (.invokestatic 37, 3) := by decide +kernel
theorem dX7_valueOf_36 : decode cX7_valueOf 36 = .ok (.ifCond .eq 30, 3) := by decide +kernel
theorem dX7_valueOf_39 : decode cX7_valueOf 39 = .ok (.bipush 10, 2) := by decide +kernel
theorem dX7_valueOf_41 : decode cX7_valueOf 41 = .ok (.aload_n 0, 1) := by decide +kernel
theorem dX7_valueOf_42 : decode cX7_valueOf 42 = .ok (.getfield 9, 3) := by decide +kernel
theorem dX7_valueOf_45 : decode cX7_valueOf 45 = .ok (.iload_n 3, 1) := by decide +kernel
theorem dX7_valueOf_46 : decode cX7_valueOf 46 = .ok (.iconst 1, 1) := by decide +kernel
theorem dX7_valueOf_47 : decode cX7_valueOf 47 = .ok (.iadd, 1) := by decide +kernel
theorem dX7_valueOf_48 : decode cX7_valueOf 48 = .ok (.caload, 1) := by decide +kernel
theorem dX7_valueOf_49 : decode cX7_valueOf 49 = .ok (.bipush 48, 2) := by decide +kernel
theorem dX7_valueOf_51 : decode cX7_valueOf 51 = .ok (.isub, 1) := by decide +kernel
theorem dX7_valueOf_52 : decode cX7_valueOf 52 = .ok (.imul, 1) := by decide +kernel
theorem dX7_valueOf_53 : decode cX7_valueOf 53 = .ok (.aload_n 0, 1) := by decide +kernel
theorem dX7_valueOf_54 : decode cX7_valueOf 54 = .ok (.getfield 9, 3) := by decide +kernel
theorem dX7_valueOf_57 : decode cX7_valueOf 57 = .ok (.iload_n 3, 1) := by decide +kernel
theorem dX7_valueOf_58 : decode cX7_valueOf 58 = .ok (.iconst 2, 1) := by decide +kernel
theorem dX7_valueOf_59 : decode cX7_valueOf 59 = .ok (.iadd, 1) := by decide +kernel
theorem dX7_valueOf_60 : decode cX7_valueOf 60 = .ok (.caload, 1) := by decide +kernel
theorem dX7_valueOf_61 : decode cX7_valueOf 61 = .ok (.iadd, 1) := by decide +kernel
theorem dX7_valueOf_62 : decode cX7_valueOf 62 = .ok (.bipush 48, 2) := by decide +kernel
theorem dX7_valueOf_64 : decode cX7_valueOf 64 = .ok (.isub, 1) := by decide +kernel
theorem dX7_valueOf_65 : decode cX7_valueOf 65 = .ok (.ireturn, 1) := by decide +kernel
theorem dX7_valueOf_66 : decode cX7_valueOf 66 = .ok (.bipush (-4), 2) := by decide +kernel
theorem dX7_valueOf_68 : decode cX7_valueOf 68 = .ok (.ireturn, 1) := by decide +kernel
theorem dX8_init_0 : decode cX8_init 0 = .ok (.aload_n 0, 1) := by decide +kernel
theorem dX8_init_1 : decode cX8_init 1 = .ok (.invokespecial 3, 3) := by decide +kernel
theorem dX8_init_4 : decode cX8_init 4 = .ok (.aload_n 0, 1) := by decide +kernel
theorem dX8_init_5 : decode cX8_init 5 = .ok (.new 9, 3) := by decide +kernel
theorem dX8_init_8 : decode cX8_init 8 = .ok (.dup, 1) := by decide +kernel
theorem dX8_init_9 : decode cX8_init 9 = .ok (.invokespecial 11, 3) := by decide +kernel
theorem dX8_init_12 : decode cX8_init 12 = .ok (.putfield 12, 3) := by decide +kernel
theorem dX8_init_15 : decode cX8_init 15 = .ok (.aload_n 0, 1) := by decide +kernel
theorem dX8_init_16 : decode cX8_init 16 = .ok (.new 16, 3) := by decide +kernel
theorem dX8_init_19 : decode cX8_init 19 = .ok (.dup, 1) := by decide +kernel
theorem dX8_init_20 : decode cX8_init 20 = .ok (.invokespecial 18, 3) := by decide +kernel
theorem dX8_init_23 : decode cX8_init 23 = .ok (.putfield 19, 3) := by decide +kernel
theorem dX8_init_26 : decode cX8_init 26 = .ok (.aload_n 0, 1) := by decide +kernel
theorem dX8_init_27 : decode cX8_init 27 = .ok (.new 23, 3) := by decide +kernel
theorem dX8_init_30 : decode cX8_init 30 = .ok (.dup, 1) := by decide +kernel
theorem dX8_init_31 : decode cX8_init 31 = .ok (.invokespecial 25, 3) := by decide +kernel
theorem dX8_init_34 : decode cX8_init 34 = .ok (.putfield 26, 3) := by decide +kernel
theorem dX8_init_37 : decode cX8_init 37 = .ok (.aload_n 0, 1) := by decide +kernel
theorem dX8_init_38 : decode cX8_init 38 = .ok (.new 30, 3) := by decide +kernel
theorem dX8_init_41 : decode cX8_init 41 = .ok (.dup, 1) := by decide +kernel
theorem dX8_init_42 : decode cX8_init 42 = .ok (.invokespecial 32, 3) := by decide +kernel
theorem dX8_init_45 : decode cX8_init 45 = .ok (.putfield 33, 3) := by decide +kernel
theorem dX8_init_48 : decode cX8_init 48 = .ok (.aload_n 0, 1) := by decide +kernel
theorem dX8_init_49 : decode cX8_init 49 = .ok (.new 37, 3) := by decide +kernel
theorem dX8_init_52 : decode cX8_init 52 = .ok (.dup, 1) := by decide +kernel
theorem dX8_init_53 : decode cX8_init 53 = .ok (.aload_n 0, 1) := by decide +kernel
theorem dX8_init_54 : decode cX8_init 54 = .ok (.getfield 19, 3) := by decide +kernel
theorem dX8_init_57 : decode cX8_init 57 = .ok (.aload_n 0, 1) := by decide +kernel
theorem dX8_init_58 : decode cX8_init 58 = .ok (.getfield 26, 3) := by decide +kernel
theorem dX8_init_61 : decode cX8_init 61 = .ok (.invokespecial 39, 3) := by decide +kernel
theorem dX8_init_64 : decode cX8_init 64 = .ok (.putfield 42, 3) := by decide +kernel
theorem dX8_init_67 : decode cX8_init 67 = .ok (.aload_n 0, 1) := by decide +kernel
theorem dX8_init_68 : decode cX8_init 68 = .ok (.new 46, 3) := by decide +kernel
theorem dX8_init_71 : decode cX8_init 71 = .ok (.dup, 1) := by decide +kernel
theorem dX8_init_72 : decode cX8_init 72 = .ok (.aload_n 0, 1) := by decide +kernel
theorem dX8_init_73 : decode cX8_init 73 = .ok (.getfield 42, 3) := by decide +kernel
theorem dX8_init_76 : decode cX8_init 76 = .ok (.aload_n 0, 1) := by decide +kernel
theorem dX8_init_77 : decode cX8_init 77 = .ok (.getfield 26, 3) := by decide +kernel
theorem dX8_init_80 : decode cX8_init 80 = .ok (.invokespecial 48, 3) := by decide +kernel
theorem dX8_init_83 : decode cX8_init 83 = .ok (.putfield 51, 3) := by decide +kernel
theorem dX8_init_86 : decode cX8_init 86 = .ok (.aload_n 0, 1) := by decide +kernel
theorem dX8_init_87 : decode cX8_init 87 = .ok (.new 55, 3) := by decide +kernel
theorem dX8_init_90 : decode cX8_init 90 = .ok (.dup, 1) := by decide +kernel
theorem dX8_init_91 : decode cX8_init 91 = .ok (.aload_n 0, 1) := by decide +kernel
theorem dX8_init_92 : decode cX8_init 92 = .ok (.getfield 19, 3) := by decide +kernel
theorem dX8_init_95 : decode cX8_init 95 = .ok (.aload_n 0, 1) := by decide +kernel
theorem dX8_init_96 : decode cX8_init 96 = .ok (.getfield 42, 3) := by decide +kernel
theorem dX8_init_99 : decode cX8_init 99 = .ok (.invokespecial 57, 3) := by decide +kernel
theorem dX8_init_102 : decode cX8_init 102 = .ok (.putfield 60, 3) := by decide +kernel
theorem dX8_init_105 : decode cX8_init 105 = .ok (.iconst 0, 1) := by decide +kernel
theorem dX8_init_106 : decode cX8_init 106 = .ok (.istore_n 1, 1) := by decide +kernel
theorem dX8_init_107 : decode cX8_init 107 = .ok (.iload_n 1, 1) := by decide +kernel
theorem dX8_init_108 : decode cX8_init 108 = .ok (.ldc 64, 2) := by decide +kernel
theorem dX8_init_110 : decode cX8_init 110 = .ok (.invokevirtual 66, 3) := by decide +kernel
theorem dX8_init_113 : decode cX8_init 113 = .ok (.if_icmp .ge 23, 3) := by decide +kernel
theorem dX8_init_116 : decode cX8_init 116 = .ok (.aload_n 0, 1) := by decide +kernel
theorem dX8_init_117 : decode cX8_init 117 = .ok (.getfield 12, 3) := by decide +kernel
theorem dX8_init_120 : decode cX8_init 120 = .ok (.ldc 64, 2) := by decide +kernel
theorem dX8_init_122 : decode cX8_init 122 = .ok (.iload_n 1, 1) := by decide +kernel
theorem dX8_init_123 : decode cX8_init 123 = .ok (.invokevirtual 72, 3) := by decide +kernel
theorem dX8_init_126 : decode cX8_init 126 = .ok (.invokevirtual 76, 3) := by decide +kernel
theorem dX8_init_129 : decode cX8_init 129 = .ok (.pop, 1) := by decide +kernel
theorem dX8_init_130 : decode cX8_init 130 = .ok (.iinc 1 1, 3) := by decide +kernel
theorem dX8_init_133 : decode cX8_init 133 = .ok (.goto (-26), 3) := by decide +kernel
theorem dX8_init_136 : decode cX8_init 136 = .ok (.aload_n 0, 1) := by decide +kernel
theorem dX8_init_137 : decode cX8_init 137 = .ok (.getfield 12, 3) := by decide +kernel
theorem dX8_init_140 : decode cX8_init 140 = .ok (.invokevirtual 80, 3) := by decide +kernel
theorem dX8_init_143 : decode cX8_init 143 = .ok (.bipush (-4), 2) := by decide +kernel
theorem dX8_init_145 : decode cX8_init 145 = .ok (.if_icmp .ne 14, 3) := by decide +kernel
theorem dX8_init_148 : decode cX8_init 148 = .ok (.aload_n 0, 1) := by decide +kernel
theorem dX8_init_149 : decode cX8_init 149 = .ok (.getfield 19, 3) := by decide +kernel
theorem dX8_init_152 : decode cX8_init 152 = .ok (.aload_n 0, 1) := by decide +kernel
theorem dX8_init_153 : decode cX8_init 153 = .ok (.getfield 12, 3) := by decide +kernel
theorem dX8_init_156 : decode cX8_init 156 = .ok (.invokevirtual 83, 3) := by decide +kernel
theorem dX8_init_159 : decode cX8_init 159 = .ok (.aload_n 0, 1) := by decide +kernel
theorem dX8_init_160 : decode cX8_init 160 = .ok (.getfield 12, 3) := by decide +kernel
theorem dX8_init_163 : decode cX8_init 163 = .ok (.invokevirtual 87, 3) := by decide +kernel
theorem dX8_init_166 : decode cX8_init 166 = .ok (.pop, 1) := by decide +kernel
theorem dX8_init_167 : decode cX8_init 167 = .ok (.aload_n 0, 1) := by decide +kernel
theorem dX8_init_168 : decode cX8_init 168 = .ok (.getfield 42, 3) := by decide +kernel
theorem dX8_init_171 : decode cX8_init 171 = .ok (.invokevirtual 90, 3) := by decide +kernel
theorem dX8_init_174 : decode cX8_init 174 = .ok (.return_, 1) := by decide +kernel
theorem dX8_write_0 : decode cX8_write 0 = .ok (.iload_n 1, 1) := by decide +kernel
theorem dX8_write_1 : decode cX8_write 1 = .ok (.bipush 32, 2) := by decide +kernel
theorem dX8_write_3 : decode cX8_write 3 = .ok (.if_icmp .lt 9, 3) := by decide +kernel
theorem dX8_write_6 : decode cX8_write 6 = .ok (.iload_n 1, 1) := by decide +kernel
theorem dX8_write_7 : decode cX8_write 7 = .ok (.bipush 126, 2) := by decide +kernel
theorem dX8_write_9 : decode cX8_write 9 = .ok (.if_icmp .le 5, 3) := by decide +kernel
theorem dX8_write_12 : decode cX8_write 12 = .ok (.iconst (-1), 1) := by decide +kernel
theorem dX8_write_13 : decode cX8_write 13 = .ok (.ireturn, 1) := by decide +kernel
theorem dX8_write_14 : decode cX8_write 14 = .ok (.aload_n 0, 1) := by decide +kernel
theorem dX8_write_15 : decode cX8_write 15 = .ok (.getfield 12, 3) := by decide +kernel
theorem dX8_write_18 : decode cX8_write 18 = .ok (.iload_n 1, 1) := by decide +kernel
theorem dX8_write_19 : decode cX8_write 19 = .ok (.i2c, 1) := by decide +kernel
theorem dX8_write_20 : decode cX8_write 20 = .ok (.invokevirtual 76, 3) := by decide +kernel
theorem dX8_write_23 : decode cX8_write 23 = .ok (.ireturn, 1) := by decide +kernel
theorem dX8_wipe_0 : decode cX8_wipe 0 = .ok (.aload_n 0, 1) := by decide +kernel
theorem dX8_wipe_1 : decode cX8_wipe 1 = .ok (.getfield 12, 3) := by decide +kernel
theorem dX8_wipe_4 : decode cX8_wipe 4 = .ok (.invokevirtual 87, 3) := by decide +kernel
theorem dX8_wipe_7 : decode cX8_wipe 7 = .ok (.ireturn, 1) := by decide +kernel
theorem dX8_fault_0 : decode cX8_fault 0 = .ok (.aload_n 0, 1) := by decide +kernel
theorem dX8_fault_1 : decode cX8_fault 1 = .ok (.getfield 12, 3) := by decide +kernel
theorem dX8_fault_4 : decode cX8_fault 4 = .ok (.invokevirtual 80, 3) := by decide +kernel
theorem dX8_fault_7 : decode cX8_fault 7 = .ok (.ireturn, 1) := by decide +kernel
theorem dX8_lay_0 : decode cX8_lay 0 = .ok (.aload_n 0, 1) := by decide +kernel
theorem dX8_lay_1 : decode cX8_lay 1 = .ok (.getfield 12, 3) := by decide +kernel
theorem dX8_lay_4 : decode cX8_lay 4 = .ok (.invokevirtual 80, 3) := by decide +kernel
theorem dX8_lay_7 : decode cX8_lay 7 = .ok (.bipush (-4), 2) := by decide +kernel
theorem dX8_lay_9 : decode cX8_lay 9 = .ok (.if_icmp .ne 13, 3) := by decide +kernel
theorem dX8_lay_12 : decode cX8_lay 12 = .ok (.aload_n 0, 1) := by decide +kernel
theorem dX8_lay_13 : decode cX8_lay 13 = .ok (.getfield 12, 3) := by decide +kernel
theorem dX8_lay_16 : decode cX8_lay 16 = .ok (.getfield 93, 3) := by decide +kernel
theorem dX8_lay_19 : decode cX8_lay 19 = .ok (.ifCond .ne 6, 3) := by decide +kernel
theorem dX8_lay_22 : decode cX8_lay 22 = .ok (.bipush (-2), 2) := by decide +kernel
theorem dX8_lay_24 : decode cX8_lay 24 = .ok (.ireturn, 1) := by decide +kernel
theorem dX8_lay_25 : decode cX8_lay 25 = .ok (.aload_n 0, 1) := by decide +kernel
theorem dX8_lay_26 : decode cX8_lay 26 = .ok (.getfield 19, 3) := by decide +kernel
theorem dX8_lay_29 : decode cX8_lay 29 = .ok (.aload_n 0, 1) := by decide +kernel
theorem dX8_lay_30 : decode cX8_lay 30 = .ok (.getfield 12, 3) := by decide +kernel
theorem dX8_lay_33 : decode cX8_lay 33 = .ok (.invokevirtual 83, 3) := by decide +kernel
theorem dX8_lay_36 : decode cX8_lay 36 = .ok (.aload_n 0, 1) := by decide +kernel
theorem dX8_lay_37 : decode cX8_lay 37 = .ok (.getfield 26, 3) := by decide +kernel
theorem dX8_lay_40 : decode cX8_lay 40 = .ok (.iconst 0, 1) := by decide +kernel
theorem dX8_lay_41 : decode cX8_lay 41 = .ok (.putfield 97, 3) := by decide +kernel
theorem dX8_lay_44 : decode cX8_lay 44 = .ok (.aload_n 0, 1) := by decide +kernel
theorem dX8_lay_45 : decode cX8_lay 45 = .ok (.getfield 33, 3) := by decide +kernel
theorem dX8_lay_48 : decode cX8_lay 48 = .ok (.iconst 0, 1) := by decide +kernel
theorem dX8_lay_49 : decode cX8_lay 49 = .ok (.putfield 100, 3) := by decide +kernel
theorem dX8_lay_52 : decode cX8_lay 52 = .ok (.aload_n 0, 1) := by decide +kernel
theorem dX8_lay_53 : decode cX8_lay 53 = .ok (.invokevirtual 103, 3) := by decide +kernel
theorem dX8_lay_56 : decode cX8_lay 56 = .ok (.aload_n 0, 1) := by decide +kernel
theorem dX8_lay_57 : decode cX8_lay 57 = .ok (.getfield 19, 3) := by decide +kernel
theorem dX8_lay_60 : decode cX8_lay 60 = .ok (.getfield 106, 3) := by decide +kernel
theorem dX8_lay_63 : decode cX8_lay 63 = .ok (.ireturn, 1) := by decide +kernel
theorem dX8_code_0 : decode cX8_code 0 = .ok (.aload_n 0, 1) := by decide +kernel
theorem dX8_code_1 : decode cX8_code 1 = .ok (.getfield 19, 3) := by decide +kernel
theorem dX8_code_4 : decode cX8_code 4 = .ok (.iload_n 1, 1) := by decide +kernel
theorem dX8_code_5 : decode cX8_code 5 = .ok (.invokevirtual 108, 3) := by decide +kernel
theorem dX8_code_8 : decode cX8_code 8 = .ok (.ifCond .ne 5, 3) := by decide +kernel
theorem dX8_code_11 : decode cX8_code 11 = .ok (.iconst (-1), 1) := by decide +kernel
theorem dX8_code_12 : decode cX8_code 12 = .ok (.ireturn, 1) := by decide +kernel
theorem dX8_code_13 : decode cX8_code 13 = .ok (.iload_n 2, 1) := by decide +kernel
theorem dX8_code_14 : decode cX8_code 14 = .ok (.tableswitch 95 0 4 #[34, 47, 57, 75, 85], 34) := by decide +kernel
theorem dX8_code_48 : decode cX8_code 48 = .ok (.aload_n 0, 1) := by decide +kernel
theorem dX8_code_49 : decode cX8_code 49 = .ok (.getfield 19, 3) := by decide +kernel
theorem dX8_code_52 : decode cX8_code 52 = .ok (.getfield 112, 3) := by decide +kernel
theorem dX8_code_55 : decode cX8_code 55 = .ok (.iload_n 1, 1) := by decide +kernel
theorem dX8_code_56 : decode cX8_code 56 = .ok (.iaload, 1) := by decide +kernel
theorem dX8_code_57 : decode cX8_code 57 = .ok (.invokestatic 116, 3) := by decide +kernel
theorem dX8_code_60 : decode cX8_code 60 = .ok (.ireturn, 1) := by decide +kernel
theorem dX8_code_61 : decode cX8_code 61 = .ok (.aload_n 0, 1) := by decide +kernel
theorem dX8_code_62 : decode cX8_code 62 = .ok (.getfield 19, 3) := by decide +kernel
theorem dX8_code_65 : decode cX8_code 65 = .ok (.getfield 120, 3) := by decide +kernel
theorem dX8_code_68 : decode cX8_code 68 = .ok (.iload_n 1, 1) := by decide +kernel
theorem dX8_code_69 : decode cX8_code 69 = .ok (.iaload, 1) := by decide +kernel
theorem dX8_code_70 : decode cX8_code 70 = .ok (.ireturn, 1) := by decide +kernel
theorem dX8_code_71 : decode cX8_code 71 = .ok (.aload_n 0, 1) := by decide +kernel
theorem dX8_code_72 : decode cX8_code 72 = .ok (.getfield 19, 3) := by decide +kernel
theorem dX8_code_75 : decode cX8_code 75 = .ok (.getfield 123, 3) := by decide +kernel
theorem dX8_code_78 : decode cX8_code 78 = .ok (.iload_n 1, 1) := by decide +kernel
theorem dX8_code_79 : decode cX8_code 79 = .ok (.baload, 1) := by decide +kernel
theorem dX8_code_80 : decode cX8_code 80 = .ok (.ifCond .eq 7, 3) := by decide +kernel
theorem dX8_code_83 : decode cX8_code 83 = .ok (.iconst 1, 1) := by decide +kernel
theorem dX8_code_84 : decode cX8_code 84 = .ok (.goto 4, 3) := by decide +kernel
theorem dX8_code_87 : decode cX8_code 87 = .ok (.iconst 0, 1) := by decide +kernel
theorem dX8_code_88 : decode cX8_code 88 = .ok (.ireturn, 1) := by decide +kernel
theorem dX8_code_89 : decode cX8_code 89 = .ok (.aload_n 0, 1) := by decide +kernel
theorem dX8_code_90 : decode cX8_code 90 = .ok (.getfield 42, 3) := by decide +kernel
theorem dX8_code_93 : decode cX8_code 93 = .ok (.getfield 127, 3) := by decide +kernel
theorem dX8_code_96 : decode cX8_code 96 = .ok (.iload_n 1, 1) := by decide +kernel
theorem dX8_code_97 : decode cX8_code 97 = .ok (.iaload, 1) := by decide +kernel
theorem dX8_code_98 : decode cX8_code 98 = .ok (.ireturn, 1) := by decide +kernel
theorem dX8_code_99 : decode cX8_code 99 = .ok (.aload_n 0, 1) := by decide +kernel
theorem dX8_code_100 : decode cX8_code 100 = .ok (.getfield 42, 3) := by decide +kernel
theorem dX8_code_103 : decode cX8_code 103 = .ok (.getfield 130, 3) := by decide +kernel
theorem dX8_code_106 : decode cX8_code 106 = .ok (.iload_n 1, 1) := by decide +kernel
theorem dX8_code_107 : decode cX8_code 107 = .ok (.iaload, 1) := by decide +kernel
theorem dX8_code_108 : decode cX8_code 108 = .ok (.ireturn, 1) := by decide +kernel
theorem dX8_code_109 : decode cX8_code 109 = .ok (.iconst (-1), 1) := by decide +kernel
theorem dX8_code_110 : decode cX8_code 110 = .ok (.ireturn, 1) := by decide +kernel
theorem dX8_add_0 : decode cX8_add 0 = .ok (.aload_n 0, 1) := by decide +kernel
theorem dX8_add_1 : decode cX8_add 1 = .ok (.iload_n 1, 1) := by decide +kernel
theorem dX8_add_2 : decode cX8_add 2 = .ok (.iload_n 2, 1) := by decide +kernel
theorem dX8_add_3 : decode cX8_add 3 = .ok (.iload_n 3, 1) := by decide +kernel
theorem dX8_add_4 : decode cX8_add 4 = .ok (.invokevirtual 133, 3) := by decide +kernel
theorem dX8_add_7 : decode cX8_add 7 = .ok (.istore 4, 2) := by decide +kernel
theorem dX8_add_9 : decode cX8_add 9 = .ok (.iload 4, 2) := by decide +kernel
theorem dX8_add_11 : decode cX8_add 11 = .ok (.ifCond .eq 6, 3) := by decide +kernel
theorem dX8_add_14 : decode cX8_add 14 = .ok (.iload 4, 2) := by decide +kernel
theorem dX8_add_16 : decode cX8_add 16 = .ok (.ireturn, 1) := by decide +kernel
theorem dX8_add_17 : decode cX8_add 17 = .ok (.aload_n 0, 1) := by decide +kernel
theorem dX8_add_18 : decode cX8_add 18 = .ok (.getfield 33, 3) := by decide +kernel
theorem dX8_add_21 : decode cX8_add 21 = .ok (.aload_n 0, 1) := by decide +kernel
theorem dX8_add_22 : decode cX8_add 22 = .ok (.getfield 26, 3) := by decide +kernel
theorem dX8_add_25 : decode cX8_add 25 = .ok (.invokevirtual 137, 3) := by decide +kernel
theorem dX8_add_28 : decode cX8_add 28 = .ok (.aload_n 0, 1) := by decide +kernel
theorem dX8_add_29 : decode cX8_add 29 = .ok (.getfield 26, 3) := by decide +kernel
theorem dX8_add_32 : decode cX8_add 32 = .ok (.getfield 97, 3) := by decide +kernel
theorem dX8_add_35 : decode cX8_add 35 = .ok (.istore 5, 2) := by decide +kernel
theorem dX8_add_37 : decode cX8_add 37 = .ok (.aload_n 0, 1) := by decide +kernel
theorem dX8_add_38 : decode cX8_add 38 = .ok (.getfield 26, 3) := by decide +kernel
theorem dX8_add_41 : decode cX8_add 41 = .ok (.aload_n 0, 1) := by decide +kernel
theorem dX8_add_42 : decode cX8_add 42 = .ok (.getfield 19, 3) := by decide +kernel
theorem dX8_add_45 : decode cX8_add 45 = .ok (.iload_n 1, 1) := by decide +kernel
theorem dX8_add_46 : decode cX8_add 46 = .ok (.iload_n 2, 1) := by decide +kernel
theorem dX8_add_47 : decode cX8_add 47 = .ok (.iload_n 3, 1) := by decide +kernel
theorem dX8_add_48 : decode cX8_add 48 = .ok (.invokevirtual 141, 3) := by decide +kernel
theorem dX8_add_51 : decode cX8_add 51 = .ok (.aload_n 0, 1) := by decide +kernel
theorem dX8_add_52 : decode cX8_add 52 = .ok (.invokevirtual 103, 3) := by decide +kernel
theorem dX8_add_55 : decode cX8_add 55 = .ok (.iload 5, 2) := by decide +kernel
theorem dX8_add_57 : decode cX8_add 57 = .ok (.ireturn, 1) := by decide +kernel
theorem dX8_drop_0 : decode cX8_drop 0 = .ok (.aload_n 0, 1) := by decide +kernel
theorem dX8_drop_1 : decode cX8_drop 1 = .ok (.getfield 26, 3) := by decide +kernel
theorem dX8_drop_4 : decode cX8_drop 4 = .ok (.iload_n 1, 1) := by decide +kernel
theorem dX8_drop_5 : decode cX8_drop 5 = .ok (.invokevirtual 144, 3) := by decide +kernel
theorem dX8_drop_8 : decode cX8_drop 8 = .ok (.ifCond .ne 5, 3) := by decide +kernel
theorem dX8_drop_11 : decode cX8_drop 11 = .ok (.iconst (-1), 1) := by decide +kernel
theorem dX8_drop_12 : decode cX8_drop 12 = .ok (.ireturn, 1) := by decide +kernel
theorem dX8_drop_13 : decode cX8_drop 13 = .ok (.aload_n 0, 1) := by decide +kernel
theorem dX8_drop_14 : decode cX8_drop 14 = .ok (.getfield 33, 3) := by decide +kernel
theorem dX8_drop_17 : decode cX8_drop 17 = .ok (.aload_n 0, 1) := by decide +kernel
theorem dX8_drop_18 : decode cX8_drop 18 = .ok (.getfield 26, 3) := by decide +kernel
theorem dX8_drop_21 : decode cX8_drop 21 = .ok (.invokevirtual 137, 3) := by decide +kernel
theorem dX8_drop_24 : decode cX8_drop 24 = .ok (.aload_n 0, 1) := by decide +kernel
theorem dX8_drop_25 : decode cX8_drop 25 = .ok (.getfield 26, 3) := by decide +kernel
theorem dX8_drop_28 : decode cX8_drop 28 = .ok (.iload_n 1, 1) := by decide +kernel
theorem dX8_drop_29 : decode cX8_drop 29 = .ok (.invokevirtual 145, 3) := by decide +kernel
theorem dX8_drop_32 : decode cX8_drop 32 = .ok (.aload_n 0, 1) := by decide +kernel
theorem dX8_drop_33 : decode cX8_drop 33 = .ok (.invokevirtual 103, 3) := by decide +kernel
theorem dX8_drop_36 : decode cX8_drop 36 = .ok (.aload_n 0, 1) := by decide +kernel
theorem dX8_drop_37 : decode cX8_drop 37 = .ok (.getfield 26, 3) := by decide +kernel
theorem dX8_drop_40 : decode cX8_drop 40 = .ok (.getfield 97, 3) := by decide +kernel
theorem dX8_drop_43 : decode cX8_drop 43 = .ok (.ireturn, 1) := by decide +kernel
theorem dX8_gain_0 : decode cX8_gain 0 = .ok (.aload_n 0, 1) := by decide +kernel
theorem dX8_gain_1 : decode cX8_gain 1 = .ok (.iload_n 1, 1) := by decide +kernel
theorem dX8_gain_2 : decode cX8_gain 2 = .ok (.iload_n 2, 1) := by decide +kernel
theorem dX8_gain_3 : decode cX8_gain 3 = .ok (.iload_n 3, 1) := by decide +kernel
theorem dX8_gain_4 : decode cX8_gain 4 = .ok (.invokevirtual 133, 3) := by decide +kernel
theorem dX8_gain_7 : decode cX8_gain 7 = .ok (.istore 4, 2) := by decide +kernel
theorem dX8_gain_9 : decode cX8_gain 9 = .ok (.iload 4, 2) := by decide +kernel
theorem dX8_gain_11 : decode cX8_gain 11 = .ok (.ifCond .eq 6, 3) := by decide +kernel
theorem dX8_gain_14 : decode cX8_gain 14 = .ok (.iload 4, 2) := by decide +kernel
theorem dX8_gain_16 : decode cX8_gain 16 = .ok (.ireturn, 1) := by decide +kernel
theorem dX8_gain_17 : decode cX8_gain 17 = .ok (.aload_n 0, 1) := by decide +kernel
theorem dX8_gain_18 : decode cX8_gain 18 = .ok (.getfield 42, 3) := by decide +kernel
theorem dX8_gain_21 : decode cX8_gain 21 = .ok (.iload_n 1, 1) := by decide +kernel
theorem dX8_gain_22 : decode cX8_gain 22 = .ok (.iload_n 2, 1) := by decide +kernel
theorem dX8_gain_23 : decode cX8_gain 23 = .ok (.iload_n 3, 1) := by decide +kernel
theorem dX8_gain_24 : decode cX8_gain 24 = .ok (.invokevirtual 149, 3) := by decide +kernel
theorem dX8_gain_27 : decode cX8_gain 27 = .ok (.ldc 152, 2) := by decide +kernel
theorem dX8_gain_29 : decode cX8_gain 29 = .ok (.iadd, 1) := by decide +kernel
theorem dX8_gain_30 : decode cX8_gain 30 = .ok (.ireturn, 1) := by decide +kernel
theorem dX8_choose_0 : decode cX8_choose 0 = .ok (.iload_n 1, 1) := by decide +kernel
theorem dX8_choose_1 : decode cX8_choose 1 = .ok (.iconst 1, 1) := by decide +kernel
theorem dX8_choose_2 : decode cX8_choose 2 = .ok (.if_icmp .lt 9, 3) := by decide +kernel
theorem dX8_choose_5 : decode cX8_choose 5 = .ok (.iload_n 1, 1) := by decide +kernel
theorem dX8_choose_6 : decode cX8_choose 6 = .ok (.bipush 8, 2) := by decide +kernel
theorem dX8_choose_8 : decode cX8_choose 8 = .ok (.if_icmp .le 5, 3) := by decide +kernel
theorem dX8_choose_11 : decode cX8_choose 11 = .ok (.iconst (-1), 1) := by decide +kernel
theorem dX8_choose_12 : decode cX8_choose 12 = .ok (.ireturn, 1) := by decide +kernel
theorem dX8_choose_13 : decode cX8_choose 13 = .ok (.aload_n 0, 1) := by decide +kernel
theorem dX8_choose_14 : decode cX8_choose 14 = .ok (.getfield 51, 3) := by decide +kernel
theorem dX8_choose_17 : decode cX8_choose 17 = .ok (.invokevirtual 153, 3) := by decide +kernel
theorem dX8_choose_20 : decode cX8_choose 20 = .ok (.istore_n 2, 1) := by decide +kernel
theorem dX8_choose_21 : decode cX8_choose 21 = .ok (.iload_n 2, 1) := by decide +kernel
theorem dX8_choose_22 : decode cX8_choose 22 = .ok (.ifCond .ne 6, 3) := by decide +kernel
theorem dX8_choose_25 : decode cX8_choose 25 = .ok (.bipush (-2), 2) := by decide +kernel
theorem dX8_choose_27 : decode cX8_choose 27 = .ok (.ireturn, 1) := by decide +kernel
theorem dX8_choose_28 : decode cX8_choose 28 = .ok (.aload_n 0, 1) := by decide +kernel
theorem dX8_choose_29 : decode cX8_choose 29 = .ok (.getfield 33, 3) := by decide +kernel
theorem dX8_choose_32 : decode cX8_choose 32 = .ok (.aload_n 0, 1) := by decide +kernel
theorem dX8_choose_33 : decode cX8_choose 33 = .ok (.getfield 26, 3) := by decide +kernel
theorem dX8_choose_36 : decode cX8_choose 36 = .ok (.invokevirtual 137, 3) := by decide +kernel
theorem dX8_choose_39 : decode cX8_choose 39 = .ok (.aload_n 0, 1) := by decide +kernel
theorem dX8_choose_40 : decode cX8_choose 40 = .ok (.getfield 26, 3) := by decide +kernel
theorem dX8_choose_43 : decode cX8_choose 43 = .ok (.getfield 97, 3) := by decide +kernel
theorem dX8_choose_46 : decode cX8_choose 46 = .ok (.istore_n 3, 1) := by decide +kernel
theorem dX8_choose_47 : decode cX8_choose 47 = .ok (.iconst 0, 1) := by decide +kernel
theorem dX8_choose_48 : decode cX8_choose 48 = .ok (.istore 4, 2) := by decide +kernel
theorem dX8_choose_50 : decode cX8_choose 50 = .ok (.iload 4, 2) := by decide +kernel
theorem dX8_choose_52 : decode cX8_choose 52 = .ok (.iload_n 1, 1) := by decide +kernel
theorem dX8_choose_53 : decode cX8_choose 53 = .ok (.if_icmp .ge 60, 3) := by decide +kernel
theorem dX8_choose_56 : decode cX8_choose 56 = .ok (.iload_n 2, 1) := by decide +kernel
theorem dX8_choose_57 : decode cX8_choose 57 = .ok (.ifCond .eq 56, 3) := by decide +kernel
theorem dX8_choose_60 : decode cX8_choose 60 = .ok (.aload_n 0, 1) := by decide +kernel
theorem dX8_choose_61 : decode cX8_choose 61 = .ok (.getfield 26, 3) := by decide +kernel
theorem dX8_choose_64 : decode cX8_choose 64 = .ok (.aload_n 0, 1) := by decide +kernel
theorem dX8_choose_65 : decode cX8_choose 65 = .ok (.getfield 19, 3) := by decide +kernel
theorem dX8_choose_68 : decode cX8_choose 68 = .ok (.aload_n 0, 1) := by decide +kernel
theorem dX8_choose_69 : decode cX8_choose 69 = .ok (.getfield 51, 3) := by decide +kernel
theorem dX8_choose_72 : decode cX8_choose 72 = .ok (.getfield 157, 3) := by decide +kernel
theorem dX8_choose_75 : decode cX8_choose 75 = .ok (.aload_n 0, 1) := by decide +kernel
theorem dX8_choose_76 : decode cX8_choose 76 = .ok (.getfield 51, 3) := by decide +kernel
theorem dX8_choose_79 : decode cX8_choose 79 = .ok (.getfield 160, 3) := by decide +kernel
theorem dX8_choose_82 : decode cX8_choose 82 = .ok (.aload_n 0, 1) := by decide +kernel
theorem dX8_choose_83 : decode cX8_choose 83 = .ok (.getfield 51, 3) := by decide +kernel
theorem dX8_choose_86 : decode cX8_choose 86 = .ok (.getfield 163, 3) := by decide +kernel
theorem dX8_choose_89 : decode cX8_choose 89 = .ok (.invokevirtual 141, 3) := by decide +kernel
theorem dX8_choose_92 : decode cX8_choose 92 = .ok (.aload_n 0, 1) := by decide +kernel
theorem dX8_choose_93 : decode cX8_choose 93 = .ok (.getfield 42, 3) := by decide +kernel
theorem dX8_choose_96 : decode cX8_choose 96 = .ok (.invokevirtual 90, 3) := by decide +kernel
theorem dX8_choose_99 : decode cX8_choose 99 = .ok (.aload_n 0, 1) := by decide +kernel
theorem dX8_choose_100 : decode cX8_choose 100 = .ok (.getfield 51, 3) := by decide +kernel
theorem dX8_choose_103 : decode cX8_choose 103 = .ok (.invokevirtual 153, 3) := by decide +kernel
theorem dX8_choose_106 : decode cX8_choose 106 = .ok (.istore_n 2, 1) := by decide +kernel
theorem dX8_choose_107 : decode cX8_choose 107 = .ok (.iinc 4 1, 3) := by decide +kernel
theorem dX8_choose_110 : decode cX8_choose 110 = .ok (.goto (-60), 3) := by decide +kernel
theorem dX8_choose_113 : decode cX8_choose 113 = .ok (.aload_n 0, 1) := by decide +kernel
theorem dX8_choose_114 : decode cX8_choose 114 = .ok (.getfield 60, 3) := by decide +kernel
theorem dX8_choose_117 : decode cX8_choose 117 = .ok (.invokevirtual 166, 3) := by decide +kernel
theorem dX8_choose_120 : decode cX8_choose 120 = .ok (.aload_n 0, 1) := by decide +kernel
theorem dX8_choose_121 : decode cX8_choose 121 = .ok (.getfield 26, 3) := by decide +kernel
theorem dX8_choose_124 : decode cX8_choose 124 = .ok (.getfield 97, 3) := by decide +kernel
theorem dX8_choose_127 : decode cX8_choose 127 = .ok (.iload_n 3, 1) := by decide +kernel
theorem dX8_choose_128 : decode cX8_choose 128 = .ok (.isub, 1) := by decide +kernel
theorem dX8_choose_129 : decode cX8_choose 129 = .ok (.ireturn, 1) := by decide +kernel
theorem dX8_entry_0 : decode cX8_entry 0 = .ok (.aload_n 0, 1) := by decide +kernel
theorem dX8_entry_1 : decode cX8_entry 1 = .ok (.getfield 26, 3) := by decide +kernel
theorem dX8_entry_4 : decode cX8_entry 4 = .ok (.iload_n 1, 1) := by decide +kernel
theorem dX8_entry_5 : decode cX8_entry 5 = .ok (.invokevirtual 144, 3) := by decide +kernel
theorem dX8_entry_8 : decode cX8_entry 8 = .ok (.ifCond .ne 5, 3) := by decide +kernel
theorem dX8_entry_11 : decode cX8_entry 11 = .ok (.iconst (-1), 1) := by decide +kernel
theorem dX8_entry_12 : decode cX8_entry 12 = .ok (.ireturn, 1) := by decide +kernel
theorem dX8_entry_13 : decode cX8_entry 13 = .ok (.aload_n 0, 1) := by decide +kernel
theorem dX8_entry_14 : decode cX8_entry 14 = .ok (.getfield 26, 3) := by decide +kernel
theorem dX8_entry_17 : decode cX8_entry 17 = .ok (.getfield 169, 3) := by decide +kernel
theorem dX8_entry_20 : decode cX8_entry 20 = .ok (.iload_n 1, 1) := by decide +kernel
theorem dX8_entry_21 : decode cX8_entry 21 = .ok (.aaload, 1) := by decide +kernel
theorem dX8_entry_22 : decode cX8_entry 22 = .ok (.astore_n 3, 1) := by decide +kernel
theorem dX8_entry_23 : decode cX8_entry 23 = .ok (.iload_n 2, 1) := by decide +kernel
theorem dX8_entry_24 : decode cX8_entry 24 = .ok (.tableswitch 60 0 3 #[32, 37, 42, 51], 32) := by decide +kernel
theorem dX8_entry_56 : decode cX8_entry 56 = .ok (.aload_n 3, 1) := by decide +kernel
theorem dX8_entry_57 : decode cX8_entry 57 = .ok (.getfield 173, 3) := by decide +kernel
theorem dX8_entry_60 : decode cX8_entry 60 = .ok (.ireturn, 1) := by decide +kernel
theorem dX8_entry_61 : decode cX8_entry 61 = .ok (.aload_n 3, 1) := by decide +kernel
theorem dX8_entry_62 : decode cX8_entry 62 = .ok (.getfield 176, 3) := by decide +kernel
theorem dX8_entry_65 : decode cX8_entry 65 = .ok (.ireturn, 1) := by decide +kernel
theorem dX8_entry_66 : decode cX8_entry 66 = .ok (.aload_n 0, 1) := by decide +kernel
theorem dX8_entry_67 : decode cX8_entry 67 = .ok (.getfield 42, 3) := by decide +kernel
theorem dX8_entry_70 : decode cX8_entry 70 = .ok (.iload_n 1, 1) := by decide +kernel
theorem dX8_entry_71 : decode cX8_entry 71 = .ok (.invokevirtual 177, 3) := by decide +kernel
theorem dX8_entry_74 : decode cX8_entry 74 = .ok (.ireturn, 1) := by decide +kernel
theorem dX8_entry_75 : decode cX8_entry 75 = .ok (.aload_n 0, 1) := by decide +kernel
theorem dX8_entry_76 : decode cX8_entry 76 = .ok (.getfield 42, 3) := by decide +kernel
theorem dX8_entry_79 : decode cX8_entry 79 = .ok (.aload_n 3, 1) := by decide +kernel
theorem dX8_entry_80 : decode cX8_entry 80 = .ok (.invokevirtual 180, 3) := by decide +kernel
theorem dX8_entry_83 : decode cX8_entry 83 = .ok (.ireturn, 1) := by decide +kernel
theorem dX8_entry_84 : decode cX8_entry 84 = .ok (.iconst (-1), 1) := by decide +kernel
theorem dX8_entry_85 : decode cX8_entry 85 = .ok (.ireturn, 1) := by decide +kernel
theorem dX8_part_0 : decode cX8_part 0 = .ok (.aload_n 0, 1) := by decide +kernel
theorem dX8_part_1 : decode cX8_part 1 = .ok (.getfield 26, 3) := by decide +kernel
theorem dX8_part_4 : decode cX8_part 4 = .ok (.iload_n 1, 1) := by decide +kernel
theorem dX8_part_5 : decode cX8_part 5 = .ok (.invokevirtual 144, 3) := by decide +kernel
theorem dX8_part_8 : decode cX8_part 8 = .ok (.ifCond .eq 16, 3) := by decide +kernel
theorem dX8_part_11 : decode cX8_part 11 = .ok (.iload_n 2, 1) := by decide +kernel
theorem dX8_part_12 : decode cX8_part 12 = .ok (.ifCond .lt 12, 3) := by decide +kernel
theorem dX8_part_15 : decode cX8_part 15 = .ok (.iload_n 3, 1) := by decide +kernel
theorem dX8_part_16 : decode cX8_part 16 = .ok (.ifCond .lt 8, 3) := by decide +kernel
theorem dX8_part_19 : decode cX8_part 19 = .ok (.iload_n 3, 1) := by decide +kernel
theorem dX8_part_20 : decode cX8_part 20 = .ok (.iconst 1, 1) := by decide +kernel
theorem dX8_part_21 : decode cX8_part 21 = .ok (.if_icmp .le 5, 3) := by decide +kernel
theorem dX8_part_24 : decode cX8_part 24 = .ok (.iconst (-1), 1) := by decide +kernel
theorem dX8_part_25 : decode cX8_part 25 = .ok (.ireturn, 1) := by decide +kernel
theorem dX8_part_26 : decode cX8_part 26 = .ok (.aload_n 0, 1) := by decide +kernel
theorem dX8_part_27 : decode cX8_part 27 = .ok (.getfield 26, 3) := by decide +kernel
theorem dX8_part_30 : decode cX8_part 30 = .ok (.getfield 169, 3) := by decide +kernel
theorem dX8_part_33 : decode cX8_part 33 = .ok (.iload_n 1, 1) := by decide +kernel
theorem dX8_part_34 : decode cX8_part 34 = .ok (.aaload, 1) := by decide +kernel
theorem dX8_part_35 : decode cX8_part 35 = .ok (.astore 4, 2) := by decide +kernel
theorem dX8_part_37 : decode cX8_part 37 = .ok (.iload_n 2, 1) := by decide +kernel
theorem dX8_part_38 : decode cX8_part 38 = .ok (.aload 4, 2) := by decide +kernel
theorem dX8_part_40 : decode cX8_part 40 = .ok (.getfield 173, 3) := by decide +kernel
theorem dX8_part_43 : decode cX8_part 43 = .ok (.if_icmp .lt 6, 3) := by decide +kernel
theorem dX8_part_46 : decode cX8_part 46 = .ok (.bipush (-4), 2) := by decide +kernel
theorem dX8_part_48 : decode cX8_part 48 = .ok (.ireturn, 1) := by decide +kernel
theorem dX8_part_49 : decode cX8_part 49 = .ok (.iload_n 3, 1) := by decide +kernel
theorem dX8_part_50 : decode cX8_part 50 = .ok (.ifCond .ne 14, 3) := by decide +kernel
theorem dX8_part_53 : decode cX8_part 53 = .ok (.aload 4, 2) := by decide +kernel
theorem dX8_part_55 : decode cX8_part 55 = .ok (.getfield 184, 3) := by decide +kernel
theorem dX8_part_58 : decode cX8_part 58 = .ok (.iload_n 2, 1) := by decide +kernel
theorem dX8_part_59 : decode cX8_part 59 = .ok (.iaload, 1) := by decide +kernel
theorem dX8_part_60 : decode cX8_part 60 = .ok (.invokestatic 116, 3) := by decide +kernel
theorem dX8_part_63 : decode cX8_part 63 = .ok (.ireturn, 1) := by decide +kernel
theorem dX8_part_64 : decode cX8_part 64 = .ok (.iload_n 2, 1) := by decide +kernel
theorem dX8_part_65 : decode cX8_part 65 = .ok (.aload 4, 2) := by decide +kernel
theorem dX8_part_67 : decode cX8_part 67 = .ok (.getfield 176, 3) := by decide +kernel
theorem dX8_part_70 : decode cX8_part 70 = .ok (.if_icmp .ne 8, 3) := by decide +kernel
theorem dX8_part_73 : decode cX8_part 73 = .ok (.bipush (-4), 2) := by decide +kernel
theorem dX8_part_75 : decode cX8_part 75 = .ok (.goto 10, 3) := by decide +kernel
theorem dX8_part_78 : decode cX8_part 78 = .ok (.aload 4, 2) := by decide +kernel
theorem dX8_part_80 : decode cX8_part 80 = .ok (.getfield 185, 3) := by decide +kernel
theorem dX8_part_83 : decode cX8_part 83 = .ok (.iload_n 2, 1) := by decide +kernel
theorem dX8_part_84 : decode cX8_part 84 = .ok (.iaload, 1) := by decide +kernel
theorem dX8_part_85 : decode cX8_part 85 = .ok (.ireturn, 1) := by decide +kernel
theorem dX8_wide_0 : decode cX8_wide 0 = .ok (.iload_n 1, 1) := by decide +kernel
theorem dX8_wide_1 : decode cX8_wide 1 = .ok (.iconst 4, 1) := by decide +kernel
theorem dX8_wide_2 : decode cX8_wide 2 = .ok (.if_icmp .eq 17, 3) := by decide +kernel
theorem dX8_wide_5 : decode cX8_wide 5 = .ok (.iload_n 1, 1) := by decide +kernel
theorem dX8_wide_6 : decode cX8_wide 6 = .ok (.bipush 8, 2) := by decide +kernel
theorem dX8_wide_8 : decode cX8_wide 8 = .ok (.if_icmp .eq 11, 3) := by decide +kernel
theorem dX8_wide_11 : decode cX8_wide 11 = .ok (.iload_n 1, 1) := by decide +kernel
theorem dX8_wide_12 : decode cX8_wide 12 = .ok (.bipush 16, 2) := by decide +kernel
theorem dX8_wide_14 : decode cX8_wide 14 = .ok (.if_icmp .eq 5, 3) := by decide +kernel
theorem dX8_wide_17 : decode cX8_wide 17 = .ok (.iconst (-1), 1) := by decide +kernel
theorem dX8_wide_18 : decode cX8_wide 18 = .ok (.ireturn, 1) := by decide +kernel
theorem dX8_wide_19 : decode cX8_wide 19 = .ok (.aload_n 0, 1) := by decide +kernel
theorem dX8_wide_20 : decode cX8_wide 20 = .ok (.getfield 26, 3) := by decide +kernel
theorem dX8_wide_23 : decode cX8_wide 23 = .ok (.getfield 186, 3) := by decide +kernel
theorem dX8_wide_26 : decode cX8_wide 26 = .ok (.istore_n 2, 1) := by decide +kernel
theorem dX8_wide_27 : decode cX8_wide 27 = .ok (.iload_n 1, 1) := by decide +kernel
theorem dX8_wide_28 : decode cX8_wide 28 = .ok (.iload_n 2, 1) := by decide +kernel
theorem dX8_wide_29 : decode cX8_wide 29 = .ok (.if_icmp .ne 6, 3) := by decide +kernel
theorem dX8_wide_32 : decode cX8_wide 32 = .ok (.bipush (-2), 2) := by decide +kernel
theorem dX8_wide_34 : decode cX8_wide 34 = .ok (.ireturn, 1) := by decide +kernel
theorem dX8_wide_35 : decode cX8_wide 35 = .ok (.aload_n 0, 1) := by decide +kernel
theorem dX8_wide_36 : decode cX8_wide 36 = .ok (.getfield 33, 3) := by decide +kernel
theorem dX8_wide_39 : decode cX8_wide 39 = .ok (.aload_n 0, 1) := by decide +kernel
theorem dX8_wide_40 : decode cX8_wide 40 = .ok (.getfield 26, 3) := by decide +kernel
theorem dX8_wide_43 : decode cX8_wide 43 = .ok (.invokevirtual 137, 3) := by decide +kernel
theorem dX8_wide_46 : decode cX8_wide 46 = .ok (.aload_n 0, 1) := by decide +kernel
theorem dX8_wide_47 : decode cX8_wide 47 = .ok (.getfield 26, 3) := by decide +kernel
theorem dX8_wide_50 : decode cX8_wide 50 = .ok (.iload_n 1, 1) := by decide +kernel
theorem dX8_wide_51 : decode cX8_wide 51 = .ok (.putfield 186, 3) := by decide +kernel
theorem dX8_wide_54 : decode cX8_wide 54 = .ok (.aload_n 0, 1) := by decide +kernel
theorem dX8_wide_55 : decode cX8_wide 55 = .ok (.invokevirtual 103, 3) := by decide +kernel
theorem dX8_wide_58 : decode cX8_wide 58 = .ok (.iload_n 2, 1) := by decide +kernel
theorem dX8_wide_59 : decode cX8_wide 59 = .ok (.ireturn, 1) := by decide +kernel
theorem dX8_hold_0 : decode cX8_hold 0 = .ok (.iload_n 1, 1) := by decide +kernel
theorem dX8_hold_1 : decode cX8_hold 1 = .ok (.iconst 1, 1) := by decide +kernel
theorem dX8_hold_2 : decode cX8_hold 2 = .ok (.if_icmp .lt 8, 3) := by decide +kernel
theorem dX8_hold_5 : decode cX8_hold 5 = .ok (.iload_n 1, 1) := by decide +kernel
theorem dX8_hold_6 : decode cX8_hold 6 = .ok (.iconst 4, 1) := by decide +kernel
theorem dX8_hold_7 : decode cX8_hold 7 = .ok (.if_icmp .le 5, 3) := by decide +kernel
theorem dX8_hold_10 : decode cX8_hold 10 = .ok (.iconst (-1), 1) := by decide +kernel
theorem dX8_hold_11 : decode cX8_hold 11 = .ok (.ireturn, 1) := by decide +kernel
theorem dX8_hold_12 : decode cX8_hold 12 = .ok (.aload_n 0, 1) := by decide +kernel
theorem dX8_hold_13 : decode cX8_hold 13 = .ok (.getfield 26, 3) := by decide +kernel
theorem dX8_hold_16 : decode cX8_hold 16 = .ok (.getfield 189, 3) := by decide +kernel
theorem dX8_hold_19 : decode cX8_hold 19 = .ok (.istore_n 2, 1) := by decide +kernel
theorem dX8_hold_20 : decode cX8_hold 20 = .ok (.iload_n 1, 1) := by decide +kernel
theorem dX8_hold_21 : decode cX8_hold 21 = .ok (.iload_n 2, 1) := by decide +kernel
theorem dX8_hold_22 : decode cX8_hold 22 = .ok (.if_icmp .ne 6, 3) := by decide +kernel
theorem dX8_hold_25 : decode cX8_hold 25 = .ok (.bipush (-2), 2) := by decide +kernel
theorem dX8_hold_27 : decode cX8_hold 27 = .ok (.ireturn, 1) := by decide +kernel
theorem dX8_hold_28 : decode cX8_hold 28 = .ok (.aload_n 0, 1) := by decide +kernel
theorem dX8_hold_29 : decode cX8_hold 29 = .ok (.getfield 33, 3) := by decide +kernel
theorem dX8_hold_32 : decode cX8_hold 32 = .ok (.aload_n 0, 1) := by decide +kernel
theorem dX8_hold_33 : decode cX8_hold 33 = .ok (.getfield 26, 3) := by decide +kernel
theorem dX8_hold_36 : decode cX8_hold 36 = .ok (.invokevirtual 137, 3) := by decide +kernel
theorem dX8_hold_39 : decode cX8_hold 39 = .ok (.aload_n 0, 1) := by decide +kernel
theorem dX8_hold_40 : decode cX8_hold 40 = .ok (.getfield 26, 3) := by decide +kernel
theorem dX8_hold_43 : decode cX8_hold 43 = .ok (.iload_n 1, 1) := by decide +kernel
theorem dX8_hold_44 : decode cX8_hold 44 = .ok (.putfield 189, 3) := by decide +kernel
theorem dX8_hold_47 : decode cX8_hold 47 = .ok (.aload_n 0, 1) := by decide +kernel
theorem dX8_hold_48 : decode cX8_hold 48 = .ok (.invokevirtual 103, 3) := by decide +kernel
theorem dX8_hold_51 : decode cX8_hold 51 = .ok (.iload_n 2, 1) := by decide +kernel
theorem dX8_hold_52 : decode cX8_hold 52 = .ok (.ireturn, 1) := by decide +kernel
theorem dX8_undo_0 : decode cX8_undo 0 = .ok (.aload_n 0, 1) := by decide +kernel
theorem dX8_undo_1 : decode cX8_undo 1 = .ok (.getfield 33, 3) := by decide +kernel
theorem dX8_undo_4 : decode cX8_undo 4 = .ok (.getfield 100, 3) := by decide +kernel
theorem dX8_undo_7 : decode cX8_undo 7 = .ok (.ifCond .ne 6, 3) := by decide +kernel
theorem dX8_undo_10 : decode cX8_undo 10 = .ok (.bipush (-2), 2) := by decide +kernel
theorem dX8_undo_12 : decode cX8_undo 12 = .ok (.ireturn, 1) := by decide +kernel
theorem dX8_undo_13 : decode cX8_undo 13 = .ok (.aload_n 0, 1) := by decide +kernel
theorem dX8_undo_14 : decode cX8_undo 14 = .ok (.getfield 33, 3) := by decide +kernel
theorem dX8_undo_17 : decode cX8_undo 17 = .ok (.aload_n 0, 1) := by decide +kernel
theorem dX8_undo_18 : decode cX8_undo 18 = .ok (.getfield 26, 3) := by decide +kernel
theorem dX8_undo_21 : decode cX8_undo 21 = .ok (.invokevirtual 192, 3) := by decide +kernel
theorem dX8_undo_24 : decode cX8_undo 24 = .ok (.aload_n 0, 1) := by decide +kernel
theorem dX8_undo_25 : decode cX8_undo 25 = .ok (.invokevirtual 103, 3) := by decide +kernel
theorem dX8_undo_28 : decode cX8_undo 28 = .ok (.aload_n 0, 1) := by decide +kernel
theorem dX8_undo_29 : decode cX8_undo 29 = .ok (.getfield 33, 3) := by decide +kernel
theorem dX8_undo_32 : decode cX8_undo 32 = .ok (.getfield 100, 3) := by decide +kernel
theorem dX8_undo_35 : decode cX8_undo 35 = .ok (.ireturn, 1) := by decide +kernel
theorem dX8_size_0 : decode cX8_size 0 = .ok (.iload_n 1, 1) := by decide +kernel
theorem dX8_size_1 : decode cX8_size 1 = .ok (.tableswitch 115 0 5 #[39, 47, 55, 65, 91, 99], 39) := by decide +kernel
theorem dX8_size_40 : decode cX8_size 40 = .ok (.aload_n 0, 1) := by decide +kernel
theorem dX8_size_41 : decode cX8_size 41 = .ok (.getfield 42, 3) := by decide +kernel
theorem dX8_size_44 : decode cX8_size 44 = .ok (.getfield 195, 3) := by decide +kernel
theorem dX8_size_47 : decode cX8_size 47 = .ok (.ireturn, 1) := by decide +kernel
theorem dX8_size_48 : decode cX8_size 48 = .ok (.aload_n 0, 1) := by decide +kernel
theorem dX8_size_49 : decode cX8_size 49 = .ok (.getfield 26, 3) := by decide +kernel
theorem dX8_size_52 : decode cX8_size 52 = .ok (.invokevirtual 196, 3) := by decide +kernel
theorem dX8_size_55 : decode cX8_size 55 = .ok (.ireturn, 1) := by decide +kernel
theorem dX8_size_56 : decode cX8_size 56 = .ok (.iconst 3, 1) := by decide +kernel
theorem dX8_size_57 : decode cX8_size 57 = .ok (.aload_n 0, 1) := by decide +kernel
theorem dX8_size_58 : decode cX8_size 58 = .ok (.getfield 42, 3) := by decide +kernel
theorem dX8_size_61 : decode cX8_size 61 = .ok (.getfield 199, 3) := by decide +kernel
theorem dX8_size_64 : decode cX8_size 64 = .ok (.imul, 1) := by decide +kernel
theorem dX8_size_65 : decode cX8_size 65 = .ok (.ireturn, 1) := by decide +kernel
theorem dX8_size_66 : decode cX8_size 66 = .ok (.aload_n 0, 1) := by decide +kernel
theorem dX8_size_67 : decode cX8_size 67 = .ok (.getfield 42, 3) := by decide +kernel
theorem dX8_size_70 : decode cX8_size 70 = .ok (.getfield 195, 3) := by decide +kernel
theorem dX8_size_73 : decode cX8_size 73 = .ok (.aload_n 0, 1) := by decide +kernel
theorem dX8_size_74 : decode cX8_size 74 = .ok (.getfield 26, 3) := by decide +kernel
theorem dX8_size_77 : decode cX8_size 77 = .ok (.invokevirtual 196, 3) := by decide +kernel
theorem dX8_size_80 : decode cX8_size 80 = .ok (.iadd, 1) := by decide +kernel
theorem dX8_size_81 : decode cX8_size 81 = .ok (.iconst 3, 1) := by decide +kernel
theorem dX8_size_82 : decode cX8_size 82 = .ok (.aload_n 0, 1) := by decide +kernel
theorem dX8_size_83 : decode cX8_size 83 = .ok (.getfield 42, 3) := by decide +kernel
theorem dX8_size_86 : decode cX8_size 86 = .ok (.getfield 199, 3) := by decide +kernel
theorem dX8_size_89 : decode cX8_size 89 = .ok (.imul, 1) := by decide +kernel
theorem dX8_size_90 : decode cX8_size 90 = .ok (.iadd, 1) := by decide +kernel
theorem dX8_size_91 : decode cX8_size 91 = .ok (.ireturn, 1) := by decide +kernel
theorem dX8_size_92 : decode cX8_size 92 = .ok (.aload_n 0, 1) := by decide +kernel
theorem dX8_size_93 : decode cX8_size 93 = .ok (.getfield 19, 3) := by decide +kernel
theorem dX8_size_96 : decode cX8_size 96 = .ok (.invokevirtual 202, 3) := by decide +kernel
theorem dX8_size_99 : decode cX8_size 99 = .ok (.ireturn, 1) := by decide +kernel
theorem dX8_size_100 : decode cX8_size 100 = .ok (.aload_n 0, 1) := by decide +kernel
theorem dX8_size_101 : decode cX8_size 101 = .ok (.getfield 42, 3) := by decide +kernel
theorem dX8_size_104 : decode cX8_size 104 = .ok (.iconst 0, 1) := by decide +kernel
theorem dX8_size_105 : decode cX8_size 105 = .ok (.aload_n 0, 1) := by decide +kernel
theorem dX8_size_106 : decode cX8_size 106 = .ok (.getfield 19, 3) := by decide +kernel
theorem dX8_size_109 : decode cX8_size 109 = .ok (.getfield 106, 3) := by decide +kernel
theorem dX8_size_112 : decode cX8_size 112 = .ok (.invokevirtual 205, 3) := by decide +kernel
theorem dX8_size_115 : decode cX8_size 115 = .ok (.ireturn, 1) := by decide +kernel
theorem dX8_size_116 : decode cX8_size 116 = .ok (.iconst (-1), 1) := by decide +kernel
theorem dX8_size_117 : decode cX8_size 117 = .ok (.ireturn, 1) := by decide +kernel
theorem dX8_nibble_0 : decode cX8_nibble 0 = .ok (.iload_n 1, 1) := by decide +kernel
theorem dX8_nibble_1 : decode cX8_nibble 1 = .ok (.ifCond .ge 5, 3) := by decide +kernel
theorem dX8_nibble_4 : decode cX8_nibble 4 = .ok (.iconst (-1), 1) := by decide +kernel
theorem dX8_nibble_5 : decode cX8_nibble 5 = .ok (.ireturn, 1) := by decide +kernel
theorem dX8_nibble_6 : decode cX8_nibble 6 = .ok (.iload_n 1, 1) := by decide +kernel
theorem dX8_nibble_7 : decode cX8_nibble 7 = .ok (.aload_n 0, 1) := by decide +kernel
theorem dX8_nibble_8 : decode cX8_nibble 8 = .ok (.getfield 42, 3) := by decide +kernel
theorem dX8_nibble_11 : decode cX8_nibble 11 = .ok (.getfield 195, 3) := by decide +kernel
theorem dX8_nibble_14 : decode cX8_nibble 14 = .ok (.if_icmp .ge 15, 3) := by decide +kernel
theorem dX8_nibble_17 : decode cX8_nibble 17 = .ok (.aload_n 0, 1) := by decide +kernel
theorem dX8_nibble_18 : decode cX8_nibble 18 = .ok (.getfield 42, 3) := by decide +kernel
theorem dX8_nibble_21 : decode cX8_nibble 21 = .ok (.getfield 209, 3) := by decide +kernel
theorem dX8_nibble_24 : decode cX8_nibble 24 = .ok (.iload_n 1, 1) := by decide +kernel
theorem dX8_nibble_25 : decode cX8_nibble 25 = .ok (.iaload, 1) := by decide +kernel
theorem dX8_nibble_26 : decode cX8_nibble 26 = .ok (.goto 5, 3) := by decide +kernel
theorem dX8_nibble_29 : decode cX8_nibble 29 = .ok (.bipush (-4), 2) := by decide +kernel
theorem dX8_nibble_31 : decode cX8_nibble 31 = .ok (.ireturn, 1) := by decide +kernel
theorem dX8_address_0 : decode cX8_address 0 = .ok (.aload_n 0, 1) := by decide +kernel
theorem dX8_address_1 : decode cX8_address 1 = .ok (.getfield 19, 3) := by decide +kernel
theorem dX8_address_4 : decode cX8_address 4 = .ok (.iload_n 1, 1) := by decide +kernel
theorem dX8_address_5 : decode cX8_address 5 = .ok (.invokevirtual 108, 3) := by decide +kernel
theorem dX8_address_8 : decode cX8_address 8 = .ok (.ifCond .eq 15, 3) := by decide +kernel
theorem dX8_address_11 : decode cX8_address 11 = .ok (.aload_n 0, 1) := by decide +kernel
theorem dX8_address_12 : decode cX8_address 12 = .ok (.getfield 42, 3) := by decide +kernel
theorem dX8_address_15 : decode cX8_address 15 = .ok (.getfield 212, 3) := by decide +kernel
theorem dX8_address_18 : decode cX8_address 18 = .ok (.iload_n 1, 1) := by decide +kernel
theorem dX8_address_19 : decode cX8_address 19 = .ok (.iaload, 1) := by decide +kernel
theorem dX8_address_20 : decode cX8_address 20 = .ok (.goto 4, 3) := by decide +kernel
theorem dX8_address_23 : decode cX8_address 23 = .ok (.iconst (-1), 1) := by decide +kernel
theorem dX8_address_24 : decode cX8_address 24 = .ok (.ireturn, 1) := by decide +kernel
theorem dX8_at_0 : decode cX8_at 0 = .ok (.iload_n 1, 1) := by decide +kernel
theorem dX8_at_1 : decode cX8_at 1 = .ok (.ifCond .ge 5, 3) := by decide +kernel
theorem dX8_at_4 : decode cX8_at 4 = .ok (.iconst (-1), 1) := by decide +kernel
theorem dX8_at_5 : decode cX8_at 5 = .ok (.ireturn, 1) := by decide +kernel
theorem dX8_at_6 : decode cX8_at 6 = .ok (.aload_n 0, 1) := by decide +kernel
theorem dX8_at_7 : decode cX8_at 7 = .ok (.getfield 42, 3) := by decide +kernel
theorem dX8_at_10 : decode cX8_at 10 = .ok (.iload_n 1, 1) := by decide +kernel
theorem dX8_at_11 : decode cX8_at 11 = .ok (.invokevirtual 215, 3) := by decide +kernel
theorem dX8_at_14 : decode cX8_at 14 = .ok (.ireturn, 1) := by decide +kernel
theorem dX8_line_0 : decode cX8_line 0 = .ok (.iload_n 1, 1) := by decide +kernel
theorem dX8_line_1 : decode cX8_line 1 = .ok (.ifCond .lt 14, 3) := by decide +kernel
theorem dX8_line_4 : decode cX8_line 4 = .ok (.iload_n 1, 1) := by decide +kernel
theorem dX8_line_5 : decode cX8_line 5 = .ok (.aload_n 0, 1) := by decide +kernel
theorem dX8_line_6 : decode cX8_line 6 = .ok (.getfield 42, 3) := by decide +kernel
theorem dX8_line_9 : decode cX8_line 9 = .ok (.getfield 199, 3) := by decide +kernel
theorem dX8_line_12 : decode cX8_line 12 = .ok (.if_icmp .lt 5, 3) := by decide +kernel
theorem dX8_line_15 : decode cX8_line 15 = .ok (.iconst (-1), 1) := by decide +kernel
theorem dX8_line_16 : decode cX8_line 16 = .ok (.ireturn, 1) := by decide +kernel
theorem dX8_line_17 : decode cX8_line 17 = .ok (.iload_n 2, 1) := by decide +kernel
theorem dX8_line_18 : decode cX8_line 18 = .ok (.tableswitch 70 0 2 #[26, 35, 44], 26) := by decide +kernel
theorem dX8_line_44 : decode cX8_line 44 = .ok (.aload_n 0, 1) := by decide +kernel
theorem dX8_line_45 : decode cX8_line 45 = .ok (.getfield 42, 3) := by decide +kernel
theorem dX8_line_48 : decode cX8_line 48 = .ok (.iload_n 1, 1) := by decide +kernel
theorem dX8_line_49 : decode cX8_line 49 = .ok (.invokevirtual 218, 3) := by decide +kernel
theorem dX8_line_52 : decode cX8_line 52 = .ok (.ireturn, 1) := by decide +kernel
theorem dX8_line_53 : decode cX8_line 53 = .ok (.aload_n 0, 1) := by decide +kernel
theorem dX8_line_54 : decode cX8_line 54 = .ok (.getfield 42, 3) := by decide +kernel
theorem dX8_line_57 : decode cX8_line 57 = .ok (.iload_n 1, 1) := by decide +kernel
theorem dX8_line_58 : decode cX8_line 58 = .ok (.invokevirtual 221, 3) := by decide +kernel
theorem dX8_line_61 : decode cX8_line 61 = .ok (.ireturn, 1) := by decide +kernel
theorem dX8_line_62 : decode cX8_line 62 = .ok (.aload_n 0, 1) := by decide +kernel
theorem dX8_line_63 : decode cX8_line 63 = .ok (.getfield 42, 3) := by decide +kernel
theorem dX8_line_66 : decode cX8_line 66 = .ok (.aload_n 0, 1) := by decide +kernel
theorem dX8_line_67 : decode cX8_line 67 = .ok (.getfield 42, 3) := by decide +kernel
theorem dX8_line_70 : decode cX8_line 70 = .ok (.iload_n 1, 1) := by decide +kernel
theorem dX8_line_71 : decode cX8_line 71 = .ok (.invokevirtual 224, 3) := by decide +kernel
theorem dX8_line_74 : decode cX8_line 74 = .ok (.aload_n 0, 1) := by decide +kernel
theorem dX8_line_75 : decode cX8_line 75 = .ok (.getfield 42, 3) := by decide +kernel
theorem dX8_line_78 : decode cX8_line 78 = .ok (.iload_n 1, 1) := by decide +kernel
theorem dX8_line_79 : decode cX8_line 79 = .ok (.iconst 1, 1) := by decide +kernel
theorem dX8_line_80 : decode cX8_line 80 = .ok (.iadd, 1) := by decide +kernel
theorem dX8_line_81 : decode cX8_line 81 = .ok (.invokevirtual 224, 3) := by decide +kernel
theorem dX8_line_84 : decode cX8_line 84 = .ok (.invokevirtual 205, 3) := by decide +kernel
theorem dX8_line_87 : decode cX8_line 87 = .ok (.ireturn, 1) := by decide +kernel
theorem dX8_line_88 : decode cX8_line 88 = .ok (.iconst (-1), 1) := by decide +kernel
theorem dX8_line_89 : decode cX8_line 89 = .ok (.ireturn, 1) := by decide +kernel
theorem dX8_seek_0 : decode cX8_seek 0 = .ok (.aload_n 0, 1) := by decide +kernel
theorem dX8_seek_1 : decode cX8_seek 1 = .ok (.getfield 19, 3) := by decide +kernel
theorem dX8_seek_4 : decode cX8_seek 4 = .ok (.iload_n 1, 1) := by decide +kernel
theorem dX8_seek_5 : decode cX8_seek 5 = .ok (.invokevirtual 108, 3) := by decide +kernel
theorem dX8_seek_8 : decode cX8_seek 8 = .ok (.ifCond .ne 5, 3) := by decide +kernel
theorem dX8_seek_11 : decode cX8_seek 11 = .ok (.iconst (-1), 1) := by decide +kernel
theorem dX8_seek_12 : decode cX8_seek 12 = .ok (.ireturn, 1) := by decide +kernel
theorem dX8_seek_13 : decode cX8_seek 13 = .ok (.aload_n 0, 1) := by decide +kernel
theorem dX8_seek_14 : decode cX8_seek 14 = .ok (.getfield 42, 3) := by decide +kernel
theorem dX8_seek_17 : decode cX8_seek 17 = .ok (.getfield 227, 3) := by decide +kernel
theorem dX8_seek_20 : decode cX8_seek 20 = .ok (.iload_n 1, 1) := by decide +kernel
theorem dX8_seek_21 : decode cX8_seek 21 = .ok (.iaload, 1) := by decide +kernel
theorem dX8_seek_22 : decode cX8_seek 22 = .ok (.aload_n 0, 1) := by decide +kernel
theorem dX8_seek_23 : decode cX8_seek 23 = .ok (.getfield 42, 3) := by decide +kernel
theorem dX8_seek_26 : decode cX8_seek 26 = .ok (.aload_n 0, 1) := by decide +kernel
theorem dX8_seek_27 : decode cX8_seek 27 = .ok (.getfield 42, 3) := by decide +kernel
theorem dX8_seek_30 : decode cX8_seek 30 = .ok (.iload_n 1, 1) := by decide +kernel
theorem dX8_seek_31 : decode cX8_seek 31 = .ok (.invokevirtual 230, 3) := by decide +kernel
theorem dX8_seek_34 : decode cX8_seek 34 = .ok (.invokevirtual 218, 3) := by decide +kernel
theorem dX8_seek_37 : decode cX8_seek 37 = .ok (.isub, 1) := by decide +kernel
theorem dX8_seek_38 : decode cX8_seek 38 = .ok (.ireturn, 1) := by decide +kernel
theorem dX8_start_0 : decode cX8_start 0 = .ok (.iload_n 1, 1) := by decide +kernel
theorem dX8_start_1 : decode cX8_start 1 = .ok (.ifCond .lt 8, 3) := by decide +kernel
theorem dX8_start_4 : decode cX8_start 4 = .ok (.iload_n 1, 1) := by decide +kernel
theorem dX8_start_5 : decode cX8_start 5 = .ok (.iconst 1, 1) := by decide +kernel
theorem dX8_start_6 : decode cX8_start 6 = .ok (.if_icmp .le 5, 3) := by decide +kernel
theorem dX8_start_9 : decode cX8_start 9 = .ok (.iconst (-1), 1) := by decide +kernel
theorem dX8_start_10 : decode cX8_start 10 = .ok (.ireturn, 1) := by decide +kernel
theorem dX8_start_11 : decode cX8_start 11 = .ok (.aload_n 0, 1) := by decide +kernel
theorem dX8_start_12 : decode cX8_start 12 = .ok (.getfield 60, 3) := by decide +kernel
theorem dX8_start_15 : decode cX8_start 15 = .ok (.iload_n 1, 1) := by decide +kernel
theorem dX8_start_16 : decode cX8_start 16 = .ok (.iconst 1, 1) := by decide +kernel
theorem dX8_start_17 : decode cX8_start 17 = .ok (.if_icmp .ne 7, 3) := by decide +kernel
theorem dX8_start_20 : decode cX8_start 20 = .ok (.iconst 1, 1) := by decide +kernel
theorem dX8_start_21 : decode cX8_start 21 = .ok (.goto 4, 3) := by decide +kernel
theorem dX8_start_24 : decode cX8_start 24 = .ok (.iconst 0, 1) := by decide +kernel
theorem dX8_start_25 : decode cX8_start 25 = .ok (.aload_n 0, 1) := by decide +kernel
theorem dX8_start_26 : decode cX8_start 26 = .ok (.getfield 26, 3) := by decide +kernel
theorem dX8_start_29 : decode cX8_start 29 = .ok (.getfield 189, 3) := by decide +kernel
theorem dX8_start_32 : decode cX8_start 32 = .ok (.invokevirtual 233, 3) := by decide +kernel
theorem dX8_start_35 : decode cX8_start 35 = .ok (.iconst 0, 1) := by decide +kernel
theorem dX8_start_36 : decode cX8_start 36 = .ok (.ireturn, 1) := by decide +kernel
theorem dX8_step_0 : decode cX8_step 0 = .ok (.iload_n 1, 1) := by decide +kernel
theorem dX8_step_1 : decode cX8_step 1 = .ok (.iconst 1, 1) := by decide +kernel
theorem dX8_step_2 : decode cX8_step 2 = .ok (.if_icmp .lt 10, 3) := by decide +kernel
theorem dX8_step_5 : decode cX8_step 5 = .ok (.iload_n 1, 1) := by decide +kernel
theorem dX8_step_6 : decode cX8_step 6 = .ok (.sipush 400, 3) := by decide +kernel
theorem dX8_step_9 : decode cX8_step 9 = .ok (.if_icmp .le 5, 3) := by decide +kernel
theorem dX8_step_12 : decode cX8_step 12 = .ok (.iconst (-1), 1) := by decide +kernel
theorem dX8_step_13 : decode cX8_step 13 = .ok (.ireturn, 1) := by decide +kernel
theorem dX8_step_14 : decode cX8_step 14 = .ok (.aload_n 0, 1) := by decide +kernel
theorem dX8_step_15 : decode cX8_step 15 = .ok (.getfield 60, 3) := by decide +kernel
theorem dX8_step_18 : decode cX8_step 18 = .ok (.getfield 237, 3) := by decide +kernel
theorem dX8_step_21 : decode cX8_step 21 = .ok (.ifCond .eq 13, 3) := by decide +kernel
theorem dX8_step_24 : decode cX8_step 24 = .ok (.aload_n 0, 1) := by decide +kernel
theorem dX8_step_25 : decode cX8_step 25 = .ok (.getfield 60, 3) := by decide +kernel
theorem dX8_step_28 : decode cX8_step 28 = .ok (.getfield 241, 3) := by decide +kernel
theorem dX8_step_31 : decode cX8_step 31 = .ok (.ifCond .eq 6, 3) := by decide +kernel
theorem dX8_step_34 : decode cX8_step 34 = .ok (.bipush (-2), 2) := by decide +kernel
theorem dX8_step_36 : decode cX8_step 36 = .ok (.ireturn, 1) := by decide +kernel
theorem dX8_step_37 : decode cX8_step 37 = .ok (.aload_n 0, 1) := by decide +kernel
theorem dX8_step_38 : decode cX8_step 38 = .ok (.getfield 60, 3) := by decide +kernel
theorem dX8_step_41 : decode cX8_step 41 = .ok (.iload_n 1, 1) := by decide +kernel
theorem dX8_step_42 : decode cX8_step 42 = .ok (.invokevirtual 244, 3) := by decide +kernel
theorem dX8_step_45 : decode cX8_step 45 = .ok (.ireturn, 1) := by decide +kernel
theorem dX8_now_0 : decode cX8_now 0 = .ok (.iload_n 1, 1) := by decide +kernel
theorem dX8_now_1 : decode cX8_now 1 = .ok (.ifCond .lt 9, 3) := by decide +kernel
theorem dX8_now_4 : decode cX8_now 4 = .ok (.iload_n 1, 1) := by decide +kernel
theorem dX8_now_5 : decode cX8_now 5 = .ok (.bipush 8, 2) := by decide +kernel
theorem dX8_now_7 : decode cX8_now 7 = .ok (.if_icmp .le 5, 3) := by decide +kernel
theorem dX8_now_10 : decode cX8_now 10 = .ok (.iconst (-1), 1) := by decide +kernel
theorem dX8_now_11 : decode cX8_now 11 = .ok (.ireturn, 1) := by decide +kernel
theorem dX8_now_12 : decode cX8_now 12 = .ok (.aload_n 0, 1) := by decide +kernel
theorem dX8_now_13 : decode cX8_now 13 = .ok (.getfield 60, 3) := by decide +kernel
theorem dX8_now_16 : decode cX8_now 16 = .ok (.getfield 237, 3) := by decide +kernel
theorem dX8_now_19 : decode cX8_now 19 = .ok (.ifCond .eq 14, 3) := by decide +kernel
theorem dX8_now_22 : decode cX8_now 22 = .ok (.aload_n 0, 1) := by decide +kernel
theorem dX8_now_23 : decode cX8_now 23 = .ok (.getfield 60, 3) := by decide +kernel
theorem dX8_now_26 : decode cX8_now 26 = .ok (.iload_n 1, 1) := by decide +kernel
theorem dX8_now_27 : decode cX8_now 27 = .ok (.invokevirtual 247, 3) := by decide +kernel
theorem dX8_now_30 : decode cX8_now 30 = .ok (.goto 5, 3) := by decide +kernel
theorem dX8_now_33 : decode cX8_now 33 = .ok (.bipush (-2), 2) := by decide +kernel
theorem dX8_now_35 : decode cX8_now 35 = .ok (.ireturn, 1) := by decide +kernel
theorem dX8_held_0 : decode cX8_held 0 = .ok (.iload_n 1, 1) := by decide +kernel
theorem dX8_held_1 : decode cX8_held 1 = .ok (.ifCond .ge 5, 3) := by decide +kernel
theorem dX8_held_4 : decode cX8_held 4 = .ok (.iconst (-1), 1) := by decide +kernel
theorem dX8_held_5 : decode cX8_held 5 = .ok (.ireturn, 1) := by decide +kernel
theorem dX8_held_6 : decode cX8_held 6 = .ok (.aload_n 0, 1) := by decide +kernel
theorem dX8_held_7 : decode cX8_held 7 = .ok (.getfield 60, 3) := by decide +kernel
theorem dX8_held_10 : decode cX8_held 10 = .ok (.getfield 237, 3) := by decide +kernel
theorem dX8_held_13 : decode cX8_held 13 = .ok (.ifCond .ne 6, 3) := by decide +kernel
theorem dX8_held_16 : decode cX8_held 16 = .ok (.bipush (-2), 2) := by decide +kernel
theorem dX8_held_18 : decode cX8_held 18 = .ok (.ireturn, 1) := by decide +kernel
theorem dX8_held_19 : decode cX8_held 19 = .ok (.iload_n 1, 1) := by decide +kernel
theorem dX8_held_20 : decode cX8_held 20 = .ok (.aload_n 0, 1) := by decide +kernel
theorem dX8_held_21 : decode cX8_held 21 = .ok (.getfield 60, 3) := by decide +kernel
theorem dX8_held_24 : decode cX8_held 24 = .ok (.getfield 250, 3) := by decide +kernel
theorem dX8_held_27 : decode cX8_held 27 = .ok (.if_icmp .ge 15, 3) := by decide +kernel
theorem dX8_held_30 : decode cX8_held 30 = .ok (.aload_n 0, 1) := by decide +kernel
theorem dX8_held_31 : decode cX8_held 31 = .ok (.getfield 60, 3) := by decide +kernel
theorem dX8_held_34 : decode cX8_held 34 = .ok (.getfield 253, 3) := by decide +kernel
theorem dX8_held_37 : decode cX8_held 37 = .ok (.iload_n 1, 1) := by decide +kernel
theorem dX8_held_38 : decode cX8_held 38 = .ok (.iaload, 1) := by decide +kernel
theorem dX8_held_39 : decode cX8_held 39 = .ok (.goto 5, 3) := by decide +kernel
theorem dX8_held_42 : decode cX8_held 42 = .ok (.bipush (-4), 2) := by decide +kernel
theorem dX8_held_44 : decode cX8_held 44 = .ok (.ireturn, 1) := by decide +kernel
theorem dX8_cell_0 : decode cX8_cell 0 = .ok (.iload_n 1, 1) := by decide +kernel
theorem dX8_cell_1 : decode cX8_cell 1 = .ok (.ifCond .lt 9, 3) := by decide +kernel
theorem dX8_cell_4 : decode cX8_cell 4 = .ok (.iload_n 1, 1) := by decide +kernel
theorem dX8_cell_5 : decode cX8_cell 5 = .ok (.bipush 10, 2) := by decide +kernel
theorem dX8_cell_7 : decode cX8_cell 7 = .ok (.if_icmp .lt 5, 3) := by decide +kernel
theorem dX8_cell_10 : decode cX8_cell 10 = .ok (.iconst (-1), 1) := by decide +kernel
theorem dX8_cell_11 : decode cX8_cell 11 = .ok (.ireturn, 1) := by decide +kernel
theorem dX8_cell_12 : decode cX8_cell 12 = .ok (.aload_n 0, 1) := by decide +kernel
theorem dX8_cell_13 : decode cX8_cell 13 = .ok (.getfield 60, 3) := by decide +kernel
theorem dX8_cell_16 : decode cX8_cell 16 = .ok (.getfield 237, 3) := by decide +kernel
theorem dX8_cell_19 : decode cX8_cell 19 = .ok (.ifCond .eq 15, 3) := by decide +kernel
theorem dX8_cell_22 : decode cX8_cell 22 = .ok (.aload_n 0, 1) := by decide +kernel
theorem dX8_cell_23 : decode cX8_cell 23 = .ok (.getfield 60, 3) := by decide +kernel
theorem dX8_cell_26 : decode cX8_cell 26 = .ok (.getfield 256, 3) := by decide +kernel
theorem dX8_cell_29 : decode cX8_cell 29 = .ok (.iload_n 1, 1) := by decide +kernel
theorem dX8_cell_30 : decode cX8_cell 30 = .ok (.iaload, 1) := by decide +kernel
theorem dX8_cell_31 : decode cX8_cell 31 = .ok (.goto 5, 3) := by decide +kernel
theorem dX8_cell_34 : decode cX8_cell 34 = .ok (.bipush (-2), 2) := by decide +kernel
theorem dX8_cell_36 : decode cX8_cell 36 = .ok (.ireturn, 1) := by decide +kernel
theorem dX8_out_0 : decode cX8_out 0 = .ok (.iload_n 1, 1) := by decide +kernel
theorem dX8_out_1 : decode cX8_out 1 = .ok (.ifCond .ge 5, 3) := by decide +kernel
theorem dX8_out_4 : decode cX8_out 4 = .ok (.iconst (-1), 1) := by decide +kernel
theorem dX8_out_5 : decode cX8_out 5 = .ok (.ireturn, 1) := by decide +kernel
theorem dX8_out_6 : decode cX8_out 6 = .ok (.aload_n 0, 1) := by decide +kernel
theorem dX8_out_7 : decode cX8_out 7 = .ok (.getfield 60, 3) := by decide +kernel
theorem dX8_out_10 : decode cX8_out 10 = .ok (.getfield 237, 3) := by decide +kernel
theorem dX8_out_13 : decode cX8_out 13 = .ok (.ifCond .ne 6, 3) := by decide +kernel
theorem dX8_out_16 : decode cX8_out 16 = .ok (.bipush (-2), 2) := by decide +kernel
theorem dX8_out_18 : decode cX8_out 18 = .ok (.ireturn, 1) := by decide +kernel
theorem dX8_out_19 : decode cX8_out 19 = .ok (.iload_n 1, 1) := by decide +kernel
theorem dX8_out_20 : decode cX8_out 20 = .ok (.aload_n 0, 1) := by decide +kernel
theorem dX8_out_21 : decode cX8_out 21 = .ok (.getfield 60, 3) := by decide +kernel
theorem dX8_out_24 : decode cX8_out 24 = .ok (.getfield 259, 3) := by decide +kernel
theorem dX8_out_27 : decode cX8_out 27 = .ok (.if_icmp .ge 15, 3) := by decide +kernel
theorem dX8_out_30 : decode cX8_out 30 = .ok (.aload_n 0, 1) := by decide +kernel
theorem dX8_out_31 : decode cX8_out 31 = .ok (.getfield 60, 3) := by decide +kernel
theorem dX8_out_34 : decode cX8_out 34 = .ok (.getfield 262, 3) := by decide +kernel
theorem dX8_out_37 : decode cX8_out 37 = .ok (.iload_n 1, 1) := by decide +kernel
theorem dX8_out_38 : decode cX8_out 38 = .ok (.iaload, 1) := by decide +kernel
theorem dX8_out_39 : decode cX8_out 39 = .ok (.goto 5, 3) := by decide +kernel
theorem dX8_out_42 : decode cX8_out 42 = .ok (.bipush (-4), 2) := by decide +kernel
theorem dX8_out_44 : decode cX8_out 44 = .ok (.ireturn, 1) := by decide +kernel
theorem dX8_count_0 : decode cX8_count 0 = .ok (.iload_n 1, 1) := by decide +kernel
theorem dX8_count_1 : decode cX8_count 1 = .ok (.tableswitch 131 0 8 #[51, 59, 67, 75, 83, 91, 99, 107, 115], 51) := by decide +kernel
theorem dX8_count_52 : decode cX8_count 52 = .ok (.aload_n 0, 1) := by decide +kernel
theorem dX8_count_53 : decode cX8_count 53 = .ok (.getfield 19, 3) := by decide +kernel
theorem dX8_count_56 : decode cX8_count 56 = .ok (.getfield 106, 3) := by decide +kernel
theorem dX8_count_59 : decode cX8_count 59 = .ok (.ireturn, 1) := by decide +kernel
theorem dX8_count_60 : decode cX8_count 60 = .ok (.aload_n 0, 1) := by decide +kernel
theorem dX8_count_61 : decode cX8_count 61 = .ok (.getfield 26, 3) := by decide +kernel
theorem dX8_count_64 : decode cX8_count 64 = .ok (.getfield 97, 3) := by decide +kernel
theorem dX8_count_67 : decode cX8_count 67 = .ok (.ireturn, 1) := by decide +kernel
theorem dX8_count_68 : decode cX8_count 68 = .ok (.aload_n 0, 1) := by decide +kernel
theorem dX8_count_69 : decode cX8_count 69 = .ok (.getfield 26, 3) := by decide +kernel
theorem dX8_count_72 : decode cX8_count 72 = .ok (.getfield 186, 3) := by decide +kernel
theorem dX8_count_75 : decode cX8_count 75 = .ok (.ireturn, 1) := by decide +kernel
theorem dX8_count_76 : decode cX8_count 76 = .ok (.aload_n 0, 1) := by decide +kernel
theorem dX8_count_77 : decode cX8_count 77 = .ok (.getfield 26, 3) := by decide +kernel
theorem dX8_count_80 : decode cX8_count 80 = .ok (.getfield 189, 3) := by decide +kernel
theorem dX8_count_83 : decode cX8_count 83 = .ok (.ireturn, 1) := by decide +kernel
theorem dX8_count_84 : decode cX8_count 84 = .ok (.aload_n 0, 1) := by decide +kernel
theorem dX8_count_85 : decode cX8_count 85 = .ok (.getfield 42, 3) := by decide +kernel
theorem dX8_count_88 : decode cX8_count 88 = .ok (.getfield 199, 3) := by decide +kernel
theorem dX8_count_91 : decode cX8_count 91 = .ok (.ireturn, 1) := by decide +kernel
theorem dX8_count_92 : decode cX8_count 92 = .ok (.aload_n 0, 1) := by decide +kernel
theorem dX8_count_93 : decode cX8_count 93 = .ok (.getfield 19, 3) := by decide +kernel
theorem dX8_count_96 : decode cX8_count 96 = .ok (.invokevirtual 265, 3) := by decide +kernel
theorem dX8_count_99 : decode cX8_count 99 = .ok (.ireturn, 1) := by decide +kernel
theorem dX8_count_100 : decode cX8_count 100 = .ok (.aload_n 0, 1) := by decide +kernel
theorem dX8_count_101 : decode cX8_count 101 = .ok (.getfield 33, 3) := by decide +kernel
theorem dX8_count_104 : decode cX8_count 104 = .ok (.getfield 100, 3) := by decide +kernel
theorem dX8_count_107 : decode cX8_count 107 = .ok (.ireturn, 1) := by decide +kernel
theorem dX8_count_108 : decode cX8_count 108 = .ok (.aload_n 0, 1) := by decide +kernel
theorem dX8_count_109 : decode cX8_count 109 = .ok (.getfield 12, 3) := by decide +kernel
theorem dX8_count_112 : decode cX8_count 112 = .ok (.getfield 268, 3) := by decide +kernel
theorem dX8_count_115 : decode cX8_count 115 = .ok (.ireturn, 1) := by decide +kernel
theorem dX8_count_116 : decode cX8_count 116 = .ok (.aload_n 0, 1) := by decide +kernel
theorem dX8_count_117 : decode cX8_count 117 = .ok (.getfield 60, 3) := by decide +kernel
theorem dX8_count_120 : decode cX8_count 120 = .ok (.getfield 237, 3) := by decide +kernel
theorem dX8_count_123 : decode cX8_count 123 = .ok (.ifCond .eq 7, 3) := by decide +kernel
theorem dX8_count_126 : decode cX8_count 126 = .ok (.iconst 1, 1) := by decide +kernel
theorem dX8_count_127 : decode cX8_count 127 = .ok (.goto 4, 3) := by decide +kernel
theorem dX8_count_130 : decode cX8_count 130 = .ok (.iconst 0, 1) := by decide +kernel
theorem dX8_count_131 : decode cX8_count 131 = .ok (.ireturn, 1) := by decide +kernel
theorem dX8_count_132 : decode cX8_count 132 = .ok (.iconst (-1), 1) := by decide +kernel
theorem dX8_count_133 : decode cX8_count 133 = .ok (.ireturn, 1) := by decide +kernel
theorem dX8_settle_0 : decode cX8_settle 0 = .ok (.aload_n 0, 1) := by decide +kernel
theorem dX8_settle_1 : decode cX8_settle 1 = .ok (.getfield 42, 3) := by decide +kernel
theorem dX8_settle_4 : decode cX8_settle 4 = .ok (.invokevirtual 90, 3) := by decide +kernel
theorem dX8_settle_7 : decode cX8_settle 7 = .ok (.aload_n 0, 1) := by decide +kernel
theorem dX8_settle_8 : decode cX8_settle 8 = .ok (.getfield 60, 3) := by decide +kernel
theorem dX8_settle_11 : decode cX8_settle 11 = .ok (.invokevirtual 166, 3) := by decide +kernel
theorem dX8_settle_14 : decode cX8_settle 14 = .ok (.return_, 1) := by decide +kernel
theorem dX8_hindranceTo_0 : decode cX8_hindranceTo 0 = .ok (.aload_n 0, 1) := by decide +kernel
theorem dX8_hindranceTo_1 : decode cX8_hindranceTo 1 = .ok (.getfield 19, 3) := by decide +kernel
theorem dX8_hindranceTo_4 : decode cX8_hindranceTo 4 = .ok (.iload_n 1, 1) := by decide +kernel
theorem dX8_hindranceTo_5 : decode cX8_hindranceTo 5 = .ok (.invokevirtual 108, 3) := by decide +kernel
theorem dX8_hindranceTo_8 : decode cX8_hindranceTo 8 = .ok (.ifCond .eq 23, 3) := by decide +kernel
theorem dX8_hindranceTo_11 : decode cX8_hindranceTo 11 = .ok (.iload_n 2, 1) := by decide +kernel
theorem dX8_hindranceTo_12 : decode cX8_hindranceTo 12 = .ok (.iconst 2, 1) := by decide +kernel
theorem dX8_hindranceTo_13 : decode cX8_hindranceTo 13 = .ok (.if_icmp .lt 18, 3) := by decide +kernel
theorem dX8_hindranceTo_16 : decode cX8_hindranceTo 16 = .ok (.iload_n 2, 1) := by decide +kernel
theorem dX8_hindranceTo_17 : decode cX8_hindranceTo 17 = .ok (.iconst 4, 1) := by decide +kernel
theorem dX8_hindranceTo_18 : decode cX8_hindranceTo 18 = .ok (.if_icmp .gt 13, 3) := by decide +kernel
theorem dX8_hindranceTo_21 : decode cX8_hindranceTo 21 = .ok (.iload_n 3, 1) := by decide +kernel
theorem dX8_hindranceTo_22 : decode cX8_hindranceTo 22 = .ok (.iconst (-1), 1) := by decide +kernel
theorem dX8_hindranceTo_23 : decode cX8_hindranceTo 23 = .ok (.if_icmp .lt 8, 3) := by decide +kernel
theorem dX8_hindranceTo_26 : decode cX8_hindranceTo 26 = .ok (.iload_n 3, 1) := by decide +kernel
theorem dX8_hindranceTo_27 : decode cX8_hindranceTo 27 = .ok (.iload_n 2, 1) := by decide +kernel
theorem dX8_hindranceTo_28 : decode cX8_hindranceTo 28 = .ok (.if_icmp .lt 5, 3) := by decide +kernel
theorem dX8_hindranceTo_31 : decode cX8_hindranceTo 31 = .ok (.iconst (-1), 1) := by decide +kernel
theorem dX8_hindranceTo_32 : decode cX8_hindranceTo 32 = .ok (.ireturn, 1) := by decide +kernel
theorem dX8_hindranceTo_33 : decode cX8_hindranceTo 33 = .ok (.aload_n 0, 1) := by decide +kernel
theorem dX8_hindranceTo_34 : decode cX8_hindranceTo 34 = .ok (.getfield 42, 3) := by decide +kernel
theorem dX8_hindranceTo_37 : decode cX8_hindranceTo 37 = .ok (.iload_n 1, 1) := by decide +kernel
theorem dX8_hindranceTo_38 : decode cX8_hindranceTo 38 = .ok (.iload_n 2, 1) := by decide +kernel
theorem dX8_hindranceTo_39 : decode cX8_hindranceTo 39 = .ok (.invokevirtual 269, 3) := by decide +kernel
theorem dX8_hindranceTo_42 : decode cX8_hindranceTo 42 = .ok (.ifCond .eq 20, 3) := by decide +kernel
theorem dX8_hindranceTo_45 : decode cX8_hindranceTo 45 = .ok (.aload_n 0, 1) := by decide +kernel
theorem dX8_hindranceTo_46 : decode cX8_hindranceTo 46 = .ok (.getfield 26, 3) := by decide +kernel
theorem dX8_hindranceTo_49 : decode cX8_hindranceTo 49 = .ok (.aload_n 0, 1) := by decide +kernel
theorem dX8_hindranceTo_50 : decode cX8_hindranceTo 50 = .ok (.getfield 19, 3) := by decide +kernel
theorem dX8_hindranceTo_53 : decode cX8_hindranceTo 53 = .ok (.iload_n 1, 1) := by decide +kernel
theorem dX8_hindranceTo_54 : decode cX8_hindranceTo 54 = .ok (.iload_n 2, 1) := by decide +kernel
theorem dX8_hindranceTo_55 : decode cX8_hindranceTo 55 = .ok (.iload_n 3, 1) := by decide +kernel
theorem dX8_hindranceTo_56 : decode cX8_hindranceTo 56 = .ok (.invokevirtual 273, 3) := by decide +kernel
theorem dX8_hindranceTo_59 : decode cX8_hindranceTo 59 = .ok (.ifCond .eq 6, 3) := by decide +kernel
theorem dX8_hindranceTo_62 : decode cX8_hindranceTo 62 = .ok (.bipush (-2), 2) := by decide +kernel
theorem dX8_hindranceTo_64 : decode cX8_hindranceTo 64 = .ok (.ireturn, 1) := by decide +kernel
theorem dX8_hindranceTo_65 : decode cX8_hindranceTo 65 = .ok (.aload_n 0, 1) := by decide +kernel
theorem dX8_hindranceTo_66 : decode cX8_hindranceTo 66 = .ok (.getfield 26, 3) := by decide +kernel
theorem dX8_hindranceTo_69 : decode cX8_hindranceTo 69 = .ok (.getfield 97, 3) := by decide +kernel
theorem dX8_hindranceTo_72 : decode cX8_hindranceTo 72 = .ok (.bipush 8, 2) := by decide +kernel
theorem dX8_hindranceTo_74 : decode cX8_hindranceTo 74 = .ok (.if_icmp .ge 7, 3) := by decide +kernel
theorem dX8_hindranceTo_77 : decode cX8_hindranceTo 77 = .ok (.iconst 0, 1) := by decide +kernel
theorem dX8_hindranceTo_78 : decode cX8_hindranceTo 78 = .ok (.goto 5, 3) := by decide +kernel
theorem dX8_hindranceTo_81 : decode cX8_hindranceTo 81 = .ok (.bipush (-3), 2) := by decide +kernel
theorem dX8_hindranceTo_83 : decode cX8_hindranceTo 83 = .ok (.ireturn, 1) := by decide +kernel
theorem dX8_letterOf_0 : decode cX8_letterOf 0 = .ok (.iload_n 0, 1) := by decide +kernel
theorem dX8_letterOf_1 : decode cX8_letterOf 1 = .ok (.ifCond .lt 19, 3) := by decide +kernel
theorem dX8_letterOf_4 : decode cX8_letterOf 4 = .ok (.iload_n 0, 1) := by decide +kernel
theorem dX8_letterOf_5 : decode cX8_letterOf 5 = .ok (.bipush 11, 2) := by decide +kernel
theorem dX8_letterOf_7 : decode cX8_letterOf 7 = .ok (.if_icmp .gt 13, 3) := by decide +kernel
theorem dX8_letterOf_10 : decode cX8_letterOf 10 = .ok (.ldc_w 277, 3) := by decide +kernel
theorem dX8_letterOf_13 : decode cX8_letterOf 13 = .ok (.iload_n 0, 1) := by decide +kernel
theorem dX8_letterOf_14 : decode cX8_letterOf 14 = .ok (.invokevirtual 72, 3) := by decide +kernel
theorem dX8_letterOf_17 : decode cX8_letterOf 17 = .ok (.goto 5, 3) := by decide +kernel
theorem dX8_letterOf_20 : decode cX8_letterOf 20 = .ok (.bipush (-4), 2) := by decide +kernel
theorem dX8_letterOf_22 : decode cX8_letterOf 22 = .ok (.ireturn, 1) := by decide +kernel
theorem dX8_isSimple_0 : decode cX8_isSimple 0 = .ok (.iload_n 0, 1) := by decide +kernel
theorem dX8_isSimple_1 : decode cX8_isSimple 1 = .ok (.ifCond .lt 13, 3) := by decide +kernel
theorem dX8_isSimple_4 : decode cX8_isSimple 4 = .ok (.iload_n 0, 1) := by decide +kernel
theorem dX8_isSimple_5 : decode cX8_isSimple 5 = .ok (.bipush 6, 2) := by decide +kernel
theorem dX8_isSimple_7 : decode cX8_isSimple 7 = .ok (.if_icmp .gt 7, 3) := by decide +kernel
theorem dX8_isSimple_10 : decode cX8_isSimple 10 = .ok (.iconst 1, 1) := by decide +kernel
theorem dX8_isSimple_11 : decode cX8_isSimple 11 = .ok (.goto 4, 3) := by decide +kernel
theorem dX8_isSimple_14 : decode cX8_isSimple 14 = .ok (.iconst 0, 1) := by decide +kernel
theorem dX8_isSimple_15 : decode cX8_isSimple 15 = .ok (.ireturn, 1) := by decide +kernel
theorem dX8_hasTarget_0 : decode cX8_hasTarget 0 = .ok (.iload_n 0, 1) := by decide +kernel
theorem dX8_hasTarget_1 : decode cX8_hasTarget 1 = .ok (.bipush 6, 2) := by decide +kernel
theorem dX8_hasTarget_3 : decode cX8_hasTarget 3 = .ok (.if_icmp .le 13, 3) := by decide +kernel
theorem dX8_hasTarget_6 : decode cX8_hasTarget 6 = .ok (.iload_n 0, 1) := by decide +kernel
theorem dX8_hasTarget_7 : decode cX8_hasTarget 7 = .ok (.bipush 9, 2) := by decide +kernel
theorem dX8_hasTarget_9 : decode cX8_hasTarget 9 = .ok (.if_icmp .gt 7, 3) := by decide +kernel
theorem dX8_hasTarget_12 : decode cX8_hasTarget 12 = .ok (.iconst 1, 1) := by decide +kernel
theorem dX8_hasTarget_13 : decode cX8_hasTarget 13 = .ok (.goto 4, 3) := by decide +kernel
theorem dX8_hasTarget_16 : decode cX8_hasTarget 16 = .ok (.iconst 0, 1) := by decide +kernel
theorem dX8_hasTarget_17 : decode cX8_hasTarget 17 = .ok (.ireturn, 1) := by decide +kernel
theorem dX8_nibblesOf_0 : decode cX8_nibblesOf 0 = .ok (.iload_n 0, 1) := by decide +kernel
theorem dX8_nibblesOf_1 : decode cX8_nibblesOf 1 = .ok (.invokestatic 279, 3) := by decide +kernel
theorem dX8_nibblesOf_4 : decode cX8_nibblesOf 4 = .ok (.ifCond .eq 5, 3) := by decide +kernel
theorem dX8_nibblesOf_7 : decode cX8_nibblesOf 7 = .ok (.iconst 2, 1) := by decide +kernel
theorem dX8_nibblesOf_8 : decode cX8_nibblesOf 8 = .ok (.ireturn, 1) := by decide +kernel
theorem dX8_nibblesOf_9 : decode cX8_nibblesOf 9 = .ok (.iload_n 0, 1) := by decide +kernel
theorem dX8_nibblesOf_10 : decode cX8_nibblesOf 10 = .ok (.invokestatic 282, 3) := by decide +kernel
theorem dX8_nibblesOf_13 : decode cX8_nibblesOf 13 = .ok (.ifCond .eq 7, 3) := by decide +kernel
theorem dX8_nibblesOf_16 : decode cX8_nibblesOf 16 = .ok (.iconst 4, 1) := by decide +kernel
theorem dX8_nibblesOf_17 : decode cX8_nibblesOf 17 = .ok (.goto 4, 3) := by decide +kernel
theorem dX8_nibblesOf_20 : decode cX8_nibblesOf 20 = .ok (.iconst 1, 1) := by decide +kernel
theorem dX8_nibblesOf_21 : decode cX8_nibblesOf 21 = .ok (.ireturn, 1) := by decide +kernel
theorem dX8_referenceNibbles_0 : decode cX8_referenceNibbles 0 = .ok (.iload_n 0, 1) := by decide +kernel
theorem dX8_referenceNibbles_1 : decode cX8_referenceNibbles 1 = .ok (.ifCond .ge 7, 3) := by decide +kernel
theorem dX8_referenceNibbles_4 : decode cX8_referenceNibbles 4 = .ok (.iconst 2, 1) := by decide +kernel
theorem dX8_referenceNibbles_5 : decode cX8_referenceNibbles 5 = .ok (.goto 4, 3) := by decide +kernel
theorem dX8_referenceNibbles_8 : decode cX8_referenceNibbles 8 = .ok (.iconst 3, 1) := by decide +kernel
theorem dX8_referenceNibbles_9 : decode cX8_referenceNibbles 9 = .ok (.ireturn, 1) := by decide +kernel
theorem dX8_entryNibbles_0 : decode cX8_entryNibbles 0 = .ok (.iconst 1, 1) := by decide +kernel
theorem dX8_entryNibbles_1 : decode cX8_entryNibbles 1 = .ok (.iconst 2, 1) := by decide +kernel
theorem dX8_entryNibbles_2 : decode cX8_entryNibbles 2 = .ok (.iload_n 0, 1) := by decide +kernel
theorem dX8_entryNibbles_3 : decode cX8_entryNibbles 3 = .ok (.imul, 1) := by decide +kernel
theorem dX8_entryNibbles_4 : decode cX8_entryNibbles 4 = .ok (.iadd, 1) := by decide +kernel
theorem dX8_entryNibbles_5 : decode cX8_entryNibbles 5 = .ok (.ireturn, 1) := by decide +kernel
theorem dX9_init_0 : decode cX9_init 0 = .ok (.aload_n 0, 1) := by decide +kernel
theorem dX9_init_1 : decode cX9_init 1 = .ok (.invokespecial 1, 3) := by decide +kernel
theorem dX9_init_4 : decode cX9_init 4 = .ok (.aload_n 0, 1) := by decide +kernel
theorem dX9_init_5 : decode cX9_init 5 = .ok (.sipush 200, 3) := by decide +kernel
theorem dX9_init_8 : decode cX9_init 8 = .ok (.newarray .int, 2) := by decide +kernel
theorem dX9_init_10 : decode cX9_init 10 = .ok (.putfield 7, 3) := by decide +kernel
theorem dX9_init_13 : decode cX9_init 13 = .ok (.aload_n 0, 1) := by decide +kernel
theorem dX9_init_14 : decode cX9_init 14 = .ok (.bipush 48, 2) := by decide +kernel
theorem dX9_init_16 : decode cX9_init 16 = .ok (.newarray .int, 2) := by decide +kernel
theorem dX9_init_18 : decode cX9_init 18 = .ok (.putfield 13, 3) := by decide +kernel
theorem dX9_init_21 : decode cX9_init 21 = .ok (.aload_n 0, 1) := by decide +kernel
theorem dX9_init_22 : decode cX9_init 22 = .ok (.bipush 48, 2) := by decide +kernel
theorem dX9_init_24 : decode cX9_init 24 = .ok (.newarray .int, 2) := by decide +kernel
theorem dX9_init_26 : decode cX9_init 26 = .ok (.putfield 16, 3) := by decide +kernel
theorem dX9_init_29 : decode cX9_init 29 = .ok (.aload_n 0, 1) := by decide +kernel
theorem dX9_init_30 : decode cX9_init 30 = .ok (.bipush 48, 2) := by decide +kernel
theorem dX9_init_32 : decode cX9_init 32 = .ok (.newarray .int, 2) := by decide +kernel
theorem dX9_init_34 : decode cX9_init 34 = .ok (.putfield 19, 3) := by decide +kernel
theorem dX9_init_37 : decode cX9_init 37 = .ok (.aload_n 0, 1) := by decide +kernel
theorem dX9_init_38 : decode cX9_init 38 = .ok (.bipush 48, 2) := by decide +kernel
theorem dX9_init_40 : decode cX9_init 40 = .ok (.newarray .int, 2) := by decide +kernel
theorem dX9_init_42 : decode cX9_init 42 = .ok (.putfield 22, 3) := by decide +kernel
theorem dX9_init_45 : decode cX9_init 45 = .ok (.aload_n 0, 1) := by decide +kernel
theorem dX9_init_46 : decode cX9_init 46 = .ok (.bipush 48, 2) := by decide +kernel
theorem dX9_init_48 : decode cX9_init 48 = .ok (.newarray .int, 2) := by decide +kernel
theorem dX9_init_50 : decode cX9_init 50 = .ok (.putfield 25, 3) := by decide +kernel
theorem dX9_init_53 : decode cX9_init 53 = .ok (.aload_n 0, 1) := by decide +kernel
theorem dX9_init_54 : decode cX9_init 54 = .ok (.bipush 93, 2) := by decide +kernel
theorem dX9_init_56 : decode cX9_init 56 = .ok (.newarray .int, 2) := by decide +kernel
theorem dX9_init_58 : decode cX9_init 58 = .ok (.putfield 28, 3) := by decide +kernel
theorem dX9_init_61 : decode cX9_init 61 = .ok (.aload_n 0, 1) := by decide +kernel
theorem dX9_init_62 : decode cX9_init 62 = .ok (.sipush 498, 3) := by decide +kernel
theorem dX9_init_65 : decode cX9_init 65 = .ok (.newarray .int, 2) := by decide +kernel
theorem dX9_init_67 : decode cX9_init 67 = .ok (.putfield 31, 3) := by decide +kernel
theorem dX9_init_70 : decode cX9_init 70 = .ok (.aload_n 0, 1) := by decide +kernel
theorem dX9_init_71 : decode cX9_init 71 = .ok (.bipush 49, 2) := by decide +kernel
theorem dX9_init_73 : decode cX9_init 73 = .ok (.newarray .int, 2) := by decide +kernel
theorem dX9_init_75 : decode cX9_init 75 = .ok (.putfield 34, 3) := by decide +kernel
theorem dX9_init_78 : decode cX9_init 78 = .ok (.aload_n 0, 1) := by decide +kernel
theorem dX9_init_79 : decode cX9_init 79 = .ok (.bipush 48, 2) := by decide +kernel
theorem dX9_init_81 : decode cX9_init 81 = .ok (.newarray .int, 2) := by decide +kernel
theorem dX9_init_83 : decode cX9_init 83 = .ok (.putfield 37, 3) := by decide +kernel
theorem dX9_init_86 : decode cX9_init 86 = .ok (.aload_n 0, 1) := by decide +kernel
theorem dX9_init_87 : decode cX9_init 87 = .ok (.bipush 49, 2) := by decide +kernel
theorem dX9_init_89 : decode cX9_init 89 = .ok (.newarray .int, 2) := by decide +kernel
theorem dX9_init_91 : decode cX9_init 91 = .ok (.putfield 40, 3) := by decide +kernel
theorem dX9_init_94 : decode cX9_init 94 = .ok (.aload_n 0, 1) := by decide +kernel
theorem dX9_init_95 : decode cX9_init 95 = .ok (.bipush 10, 2) := by decide +kernel
theorem dX9_init_97 : decode cX9_init 97 = .ok (.newarray .int, 2) := by decide +kernel
theorem dX9_init_99 : decode cX9_init 99 = .ok (.putfield 43, 3) := by decide +kernel
theorem dX9_init_102 : decode cX9_init 102 = .ok (.aload_n 0, 1) := by decide +kernel
theorem dX9_init_103 : decode cX9_init 103 = .ok (.bipush 12, 2) := by decide +kernel
theorem dX9_init_105 : decode cX9_init 105 = .ok (.newarray .int, 2) := by decide +kernel
theorem dX9_init_107 : decode cX9_init 107 = .ok (.putfield 46, 3) := by decide +kernel
theorem dX9_init_110 : decode cX9_init 110 = .ok (.aload_n 0, 1) := by decide +kernel
theorem dX9_init_111 : decode cX9_init 111 = .ok (.iconst 5, 1) := by decide +kernel
theorem dX9_init_112 : decode cX9_init 112 = .ok (.newarray .int, 2) := by decide +kernel
theorem dX9_init_114 : decode cX9_init 114 = .ok (.putfield 49, 3) := by decide +kernel
theorem dX9_init_117 : decode cX9_init 117 = .ok (.aload_n 0, 1) := by decide +kernel
theorem dX9_init_118 : decode cX9_init 118 = .ok (.getfield 28, 3) := by decide +kernel
theorem dX9_init_121 : decode cX9_init 121 = .ok (.bipush 80, 2) := by decide +kernel
theorem dX9_init_123 : decode cX9_init 123 = .ok (.bipush 8, 2) := by decide +kernel
theorem dX9_init_125 : decode cX9_init 125 = .ok (.iastore, 1) := by decide +kernel
theorem dX9_init_126 : decode cX9_init 126 = .ok (.aload_n 0, 1) := by decide +kernel
theorem dX9_init_127 : decode cX9_init 127 = .ok (.getfield 28, 3) := by decide +kernel
theorem dX9_init_130 : decode cX9_init 130 = .ok (.bipush 81, 2) := by decide +kernel
theorem dX9_init_132 : decode cX9_init 132 = .ok (.iconst 2, 1) := by decide +kernel
theorem dX9_init_133 : decode cX9_init 133 = .ok (.iastore, 1) := by decide +kernel
theorem dX9_init_134 : decode cX9_init 134 = .ok (.aload_n 0, 1) := by decide +kernel
theorem dX9_init_135 : decode cX9_init 135 = .ok (.iconst 0, 1) := by decide +kernel
theorem dX9_init_136 : decode cX9_init 136 = .ok (.putfield 52, 3) := by decide +kernel
theorem dX9_init_139 : decode cX9_init 139 = .ok (.aload_n 0, 1) := by decide +kernel
theorem dX9_init_140 : decode cX9_init 140 = .ok (.bipush 97, 2) := by decide +kernel
theorem dX9_init_142 : decode cX9_init 142 = .ok (.iconst 5, 1) := by decide +kernel
theorem dX9_init_143 : decode cX9_init 143 = .ok (.bipush 115, 2) := by decide +kernel
theorem dX9_init_145 : decode cX9_init 145 = .ok (.iconst 0, 1) := by decide +kernel
theorem dX9_init_146 : decode cX9_init 146 = .ok (.bipush 97, 2) := by decide +kernel
theorem dX9_init_148 : decode cX9_init 148 = .ok (.iconst 3, 1) := by decide +kernel
theorem dX9_init_149 : decode cX9_init 149 = .ok (.invokevirtual 56, 3) := by decide +kernel
theorem dX9_init_152 : decode cX9_init 152 = .ok (.aload_n 0, 1) := by decide +kernel
theorem dX9_init_153 : decode cX9_init 153 = .ok (.bipush 109, 2) := by decide +kernel
theorem dX9_init_155 : decode cX9_init 155 = .ok (.iconst 2, 1) := by decide +kernel
theorem dX9_init_156 : decode cX9_init 156 = .ok (.bipush 115, 2) := by decide +kernel
theorem dX9_init_158 : decode cX9_init 158 = .ok (.iconst 1, 1) := by decide +kernel
theorem dX9_init_159 : decode cX9_init 159 = .ok (.bipush 119, 2) := by decide +kernel
theorem dX9_init_161 : decode cX9_init 161 = .ok (.iconst 0, 1) := by decide +kernel
theorem dX9_init_162 : decode cX9_init 162 = .ok (.invokevirtual 56, 3) := by decide +kernel
theorem dX9_init_165 : decode cX9_init 165 = .ok (.aload_n 0, 1) := by decide +kernel
theorem dX9_init_166 : decode cX9_init 166 = .ok (.bipush 97, 2) := by decide +kernel
theorem dX9_init_168 : decode cX9_init 168 = .ok (.iconst 5, 1) := by decide +kernel
theorem dX9_init_169 : decode cX9_init 169 = .ok (.bipush 115, 2) := by decide +kernel
theorem dX9_init_171 : decode cX9_init 171 = .ok (.iconst 0, 1) := by decide +kernel
theorem dX9_init_172 : decode cX9_init 172 = .ok (.bipush 97, 2) := by decide +kernel
theorem dX9_init_174 : decode cX9_init 174 = .ok (.bipush 7, 2) := by decide +kernel
theorem dX9_init_176 : decode cX9_init 176 = .ok (.invokevirtual 56, 3) := by decide +kernel
theorem dX9_init_179 : decode cX9_init 179 = .ok (.aload_n 0, 1) := by decide +kernel
theorem dX9_init_180 : decode cX9_init 180 = .ok (.bipush 109, 2) := by decide +kernel
theorem dX9_init_182 : decode cX9_init 182 = .ok (.iconst 2, 1) := by decide +kernel
theorem dX9_init_183 : decode cX9_init 183 = .ok (.bipush 115, 2) := by decide +kernel
theorem dX9_init_185 : decode cX9_init 185 = .ok (.iconst 1, 1) := by decide +kernel
theorem dX9_init_186 : decode cX9_init 186 = .ok (.bipush 119, 2) := by decide +kernel
theorem dX9_init_188 : decode cX9_init 188 = .ok (.iconst 1, 1) := by decide +kernel
theorem dX9_init_189 : decode cX9_init 189 = .ok (.invokevirtual 56, 3) := by decide +kernel
theorem dX9_init_192 : decode cX9_init 192 = .ok (.aload_n 0, 1) := by decide +kernel
theorem dX9_init_193 : decode cX9_init 193 = .ok (.bipush 107, 2) := by decide +kernel
theorem dX9_init_195 : decode cX9_init 195 = .ok (.bipush 14, 2) := by decide +kernel
theorem dX9_init_197 : decode cX9_init 197 = .ok (.bipush 113, 2) := by decide +kernel
theorem dX9_init_199 : decode cX9_init 199 = .ok (.bipush (-4), 2) := by decide +kernel
theorem dX9_init_201 : decode cX9_init 201 = .ok (.bipush 97, 2) := by decide +kernel
theorem dX9_init_203 : decode cX9_init 203 = .ok (.iconst 1, 1) := by decide +kernel
theorem dX9_init_204 : decode cX9_init 204 = .ok (.invokevirtual 56, 3) := by decide +kernel
theorem dX9_init_207 : decode cX9_init 207 = .ok (.aload_n 0, 1) := by decide +kernel
theorem dX9_init_208 : decode cX9_init 208 = .ok (.bipush 97, 2) := by decide +kernel
theorem dX9_init_210 : decode cX9_init 210 = .ok (.iconst 5, 1) := by decide +kernel
theorem dX9_init_211 : decode cX9_init 211 = .ok (.bipush 115, 2) := by decide +kernel
theorem dX9_init_213 : decode cX9_init 213 = .ok (.iconst 0, 1) := by decide +kernel
theorem dX9_init_214 : decode cX9_init 214 = .ok (.bipush 97, 2) := by decide +kernel
theorem dX9_init_216 : decode cX9_init 216 = .ok (.bipush 9, 2) := by decide +kernel
theorem dX9_init_218 : decode cX9_init 218 = .ok (.invokevirtual 56, 3) := by decide +kernel
theorem dX9_init_221 : decode cX9_init 221 = .ok (.aload_n 0, 1) := by decide +kernel
theorem dX9_init_222 : decode cX9_init 222 = .ok (.bipush 109, 2) := by decide +kernel
theorem dX9_init_224 : decode cX9_init 224 = .ok (.iconst 2, 1) := by decide +kernel
theorem dX9_init_225 : decode cX9_init 225 = .ok (.bipush 115, 2) := by decide +kernel
theorem dX9_init_227 : decode cX9_init 227 = .ok (.iconst 1, 1) := by decide +kernel
theorem dX9_init_228 : decode cX9_init 228 = .ok (.bipush 119, 2) := by decide +kernel
theorem dX9_init_230 : decode cX9_init 230 = .ok (.iconst 2, 1) := by decide +kernel
theorem dX9_init_231 : decode cX9_init 231 = .ok (.invokevirtual 56, 3) := by decide +kernel
theorem dX9_init_234 : decode cX9_init 234 = .ok (.aload_n 0, 1) := by decide +kernel
theorem dX9_init_235 : decode cX9_init 235 = .ok (.bipush 108, 2) := by decide +kernel
theorem dX9_init_237 : decode cX9_init 237 = .ok (.iconst 0, 1) := by decide +kernel
theorem dX9_init_238 : decode cX9_init 238 = .ok (.bipush 122, 2) := by decide +kernel
theorem dX9_init_240 : decode cX9_init 240 = .ok (.bipush 26, 2) := by decide +kernel
theorem dX9_init_242 : decode cX9_init 242 = .ok (.bipush 120, 2) := by decide +kernel
theorem dX9_init_244 : decode cX9_init 244 = .ok (.iconst 1, 1) := by decide +kernel
theorem dX9_init_245 : decode cX9_init 245 = .ok (.invokevirtual 56, 3) := by decide +kernel
theorem dX9_init_248 : decode cX9_init 248 = .ok (.aload_n 0, 1) := by decide +kernel
theorem dX9_init_249 : decode cX9_init 249 = .ok (.bipush 115, 2) := by decide +kernel
theorem dX9_init_251 : decode cX9_init 251 = .ok (.iconst 0, 1) := by decide +kernel
theorem dX9_init_252 : decode cX9_init 252 = .ok (.bipush 106, 2) := by decide +kernel
theorem dX9_init_254 : decode cX9_init 254 = .ok (.bipush 16, 2) := by decide +kernel
theorem dX9_init_256 : decode cX9_init 256 = .ok (.bipush 104, 2) := by decide +kernel
theorem dX9_init_258 : decode cX9_init 258 = .ok (.bipush (-4), 2) := by decide +kernel
theorem dX9_init_260 : decode cX9_init 260 = .ok (.invokevirtual 56, 3) := by decide +kernel
theorem dX9_init_263 : decode cX9_init 263 = .ok (.aload_n 0, 1) := by decide +kernel
theorem dX9_init_264 : decode cX9_init 264 = .ok (.invokevirtual 60, 3) := by decide +kernel
theorem dX9_init_267 : decode cX9_init 267 = .ok (.return_, 1) := by decide +kernel
theorem dX9_in_0 : decode cX9_in 0 = .ok (.lload_n 0, 1) := by decide +kernel
theorem dX9_in_1 : decode cX9_in 1 = .ok (.lload_n 2, 1) := by decide +kernel
theorem dX9_in_2 : decode cX9_in 2 = .ok (.lcmp, 1) := by decide +kernel
theorem dX9_in_3 : decode cX9_in 3 = .ok (.ifCond .lt 14, 3) := by decide +kernel
theorem dX9_in_6 : decode cX9_in 6 = .ok (.lload_n 0, 1) := by decide +kernel
theorem dX9_in_7 : decode cX9_in 7 = .ok (.lload 4, 2) := by decide +kernel
theorem dX9_in_9 : decode cX9_in 9 = .ok (.lcmp, 1) := by decide +kernel
theorem dX9_in_10 : decode cX9_in 10 = .ok (.ifCond .gt 7, 3) := by decide +kernel
theorem dX9_in_13 : decode cX9_in 13 = .ok (.iconst 1, 1) := by decide +kernel
theorem dX9_in_14 : decode cX9_in 14 = .ok (.goto 4, 3) := by decide +kernel
theorem dX9_in_17 : decode cX9_in 17 = .ok (.iconst 0, 1) := by decide +kernel
theorem dX9_in_18 : decode cX9_in 18 = .ok (.ireturn, 1) := by decide +kernel
theorem dX9_told_0 : decode cX9_told 0 = .ok (.aload_n 0, 1) := by decide +kernel
theorem dX9_told_1 : decode cX9_told 1 = .ok (.iload_n 1, 1) := by decide +kernel
theorem dX9_told_2 : decode cX9_told 2 = .ok (.iload_n 2, 1) := by decide +kernel
theorem dX9_told_3 : decode cX9_told 3 = .ok (.invokevirtual 63, 3) := by decide +kernel
theorem dX9_told_6 : decode cX9_told 6 = .ok (.aload_n 0, 1) := by decide +kernel
theorem dX9_told_7 : decode cX9_told 7 = .ok (.iload_n 3, 1) := by decide +kernel
theorem dX9_told_8 : decode cX9_told 8 = .ok (.iload 4, 2) := by decide +kernel
theorem dX9_told_10 : decode cX9_told 10 = .ok (.invokevirtual 63, 3) := by decide +kernel
theorem dX9_told_13 : decode cX9_told 13 = .ok (.aload_n 0, 1) := by decide +kernel
theorem dX9_told_14 : decode cX9_told 14 = .ok (.iload 5, 2) := by decide +kernel
theorem dX9_told_16 : decode cX9_told 16 = .ok (.iload 6, 2) := by decide +kernel
theorem dX9_told_18 : decode cX9_told 18 = .ok (.invokevirtual 63, 3) := by decide +kernel
theorem dX9_told_21 : decode cX9_told 21 = .ok (.return_, 1) := by decide +kernel
theorem dX9_oneIs_0 : decode cX9_oneIs 0 = .ok (.aload_n 0, 1) := by decide +kernel
theorem dX9_oneIs_1 : decode cX9_oneIs 1 = .ok (.getfield 13, 3) := by decide +kernel
theorem dX9_oneIs_4 : decode cX9_oneIs 4 = .ok (.aload_n 0, 1) := by decide +kernel
theorem dX9_oneIs_5 : decode cX9_oneIs 5 = .ok (.getfield 52, 3) := by decide +kernel
theorem dX9_oneIs_8 : decode cX9_oneIs 8 = .ok (.iload_n 1, 1) := by decide +kernel
theorem dX9_oneIs_9 : decode cX9_oneIs 9 = .ok (.iastore, 1) := by decide +kernel
theorem dX9_oneIs_10 : decode cX9_oneIs 10 = .ok (.aload_n 0, 1) := by decide +kernel
theorem dX9_oneIs_11 : decode cX9_oneIs 11 = .ok (.getfield 16, 3) := by decide +kernel
theorem dX9_oneIs_14 : decode cX9_oneIs 14 = .ok (.aload_n 0, 1) := by decide +kernel
theorem dX9_oneIs_15 : decode cX9_oneIs 15 = .ok (.getfield 52, 3) := by decide +kernel
theorem dX9_oneIs_18 : decode cX9_oneIs 18 = .ok (.iload_n 2, 1) := by decide +kernel
theorem dX9_oneIs_19 : decode cX9_oneIs 19 = .ok (.iastore, 1) := by decide +kernel
theorem dX9_oneIs_20 : decode cX9_oneIs 20 = .ok (.aload_n 0, 1) := by decide +kernel
theorem dX9_oneIs_21 : decode cX9_oneIs 21 = .ok (.dup, 1) := by decide +kernel
theorem dX9_oneIs_22 : decode cX9_oneIs 22 = .ok (.getfield 52, 3) := by decide +kernel
theorem dX9_oneIs_25 : decode cX9_oneIs 25 = .ok (.iconst 1, 1) := by decide +kernel
theorem dX9_oneIs_26 : decode cX9_oneIs 26 = .ok (.iadd, 1) := by decide +kernel
theorem dX9_oneIs_27 : decode cX9_oneIs 27 = .ok (.putfield 52, 3) := by decide +kernel
theorem dX9_oneIs_30 : decode cX9_oneIs 30 = .ok (.return_, 1) := by decide +kernel
theorem dX9_write_0 : decode cX9_write 0 = .ok (.iload_n 1, 1) := by decide +kernel
theorem dX9_write_1 : decode cX9_write 1 = .ok (.i2l, 1) := by decide +kernel
theorem dX9_write_2 : decode cX9_write 2 = .ok (.ldc2_w 67, 3) := by decide +kernel
theorem dX9_write_5 : decode cX9_write 5 = .ok (.ldc2_w 69, 3) := by decide +kernel
theorem dX9_write_8 : decode cX9_write 8 = .ok (.invokestatic 71, 3) := by decide +kernel
theorem dX9_write_11 : decode cX9_write 11 = .ok (.ifCond .ne 5, 3) := by decide +kernel
theorem dX9_write_14 : decode cX9_write 14 = .ok (.iconst (-1), 1) := by decide +kernel
theorem dX9_write_15 : decode cX9_write 15 = .ok (.ireturn, 1) := by decide +kernel
theorem dX9_write_16 : decode cX9_write 16 = .ok (.aload_n 0, 1) := by decide +kernel
theorem dX9_write_17 : decode cX9_write 17 = .ok (.getfield 75, 3) := by decide +kernel
theorem dX9_write_20 : decode cX9_write 20 = .ok (.sipush 200, 3) := by decide +kernel
theorem dX9_write_23 : decode cX9_write 23 = .ok (.if_icmp .ne 6, 3) := by decide +kernel
theorem dX9_write_26 : decode cX9_write 26 = .ok (.bipush (-3), 2) := by decide +kernel
theorem dX9_write_28 : decode cX9_write 28 = .ok (.ireturn, 1) := by decide +kernel
theorem dX9_write_29 : decode cX9_write 29 = .ok (.aload_n 0, 1) := by decide +kernel
theorem dX9_write_30 : decode cX9_write 30 = .ok (.getfield 7, 3) := by decide +kernel
theorem dX9_write_33 : decode cX9_write 33 = .ok (.aload_n 0, 1) := by decide +kernel
theorem dX9_write_34 : decode cX9_write 34 = .ok (.getfield 75, 3) := by decide +kernel
theorem dX9_write_37 : decode cX9_write 37 = .ok (.iload_n 1, 1) := by decide +kernel
theorem dX9_write_38 : decode cX9_write 38 = .ok (.iastore, 1) := by decide +kernel
theorem dX9_write_39 : decode cX9_write 39 = .ok (.aload_n 0, 1) := by decide +kernel
theorem dX9_write_40 : decode cX9_write 40 = .ok (.dup, 1) := by decide +kernel
theorem dX9_write_41 : decode cX9_write 41 = .ok (.getfield 75, 3) := by decide +kernel
theorem dX9_write_44 : decode cX9_write 44 = .ok (.iconst 1, 1) := by decide +kernel
theorem dX9_write_45 : decode cX9_write 45 = .ok (.iadd, 1) := by decide +kernel
theorem dX9_write_46 : decode cX9_write 46 = .ok (.putfield 75, 3) := by decide +kernel
theorem dX9_write_49 : decode cX9_write 49 = .ok (.aload_n 0, 1) := by decide +kernel
theorem dX9_write_50 : decode cX9_write 50 = .ok (.getfield 75, 3) := by decide +kernel
theorem dX9_write_53 : decode cX9_write 53 = .ok (.ireturn, 1) := by decide +kernel
theorem dX9_wipe_0 : decode cX9_wipe 0 = .ok (.aload_n 0, 1) := by decide +kernel
theorem dX9_wipe_1 : decode cX9_wipe 1 = .ok (.getfield 75, 3) := by decide +kernel
theorem dX9_wipe_4 : decode cX9_wipe 4 = .ok (.istore_n 1, 1) := by decide +kernel
theorem dX9_wipe_5 : decode cX9_wipe 5 = .ok (.aload_n 0, 1) := by decide +kernel
theorem dX9_wipe_6 : decode cX9_wipe 6 = .ok (.iconst 0, 1) := by decide +kernel
theorem dX9_wipe_7 : decode cX9_wipe 7 = .ok (.putfield 75, 3) := by decide +kernel
theorem dX9_wipe_10 : decode cX9_wipe 10 = .ok (.iload_n 1, 1) := by decide +kernel
theorem dX9_wipe_11 : decode cX9_wipe 11 = .ok (.ireturn, 1) := by decide +kernel
theorem dX9_isSimple_0 : decode cX9_isSimple 0 = .ok (.iload_n 0, 1) := by decide +kernel
theorem dX9_isSimple_1 : decode cX9_isSimple 1 = .ok (.bipush 97, 2) := by decide +kernel
theorem dX9_isSimple_3 : decode cX9_isSimple 3 = .ok (.if_icmp .eq 39, 3) := by decide +kernel
theorem dX9_isSimple_6 : decode cX9_isSimple 6 = .ok (.iload_n 0, 1) := by decide +kernel
theorem dX9_isSimple_7 : decode cX9_isSimple 7 = .ok (.bipush 109, 2) := by decide +kernel
theorem dX9_isSimple_9 : decode cX9_isSimple 9 = .ok (.if_icmp .eq 33, 3) := by decide +kernel
theorem dX9_isSimple_12 : decode cX9_isSimple 12 = .ok (.iload_n 0, 1) := by decide +kernel
theorem dX9_isSimple_13 : decode cX9_isSimple 13 = .ok (.bipush 120, 2) := by decide +kernel
theorem dX9_isSimple_15 : decode cX9_isSimple 15 = .ok (.if_icmp .eq 27, 3) := by decide +kernel
theorem dX9_isSimple_18 : decode cX9_isSimple 18 = .ok (.iload_n 0, 1) := by decide +kernel
theorem dX9_isSimple_19 : decode cX9_isSimple 19 = .ok (.bipush 115, 2) := by decide +kernel
theorem dX9_isSimple_21 : decode cX9_isSimple 21 = .ok (.if_icmp .eq 21, 3) := by decide +kernel
theorem dX9_isSimple_24 : decode cX9_isSimple 24 = .ok (.iload_n 0, 1) := by decide +kernel
theorem dX9_isSimple_25 : decode cX9_isSimple 25 = .ok (.bipush 108, 2) := by decide +kernel
theorem dX9_isSimple_27 : decode cX9_isSimple 27 = .ok (.if_icmp .eq 15, 3) := by decide +kernel
theorem dX9_isSimple_30 : decode cX9_isSimple 30 = .ok (.iload_n 0, 1) := by decide +kernel
theorem dX9_isSimple_31 : decode cX9_isSimple 31 = .ok (.bipush 112, 2) := by decide +kernel
theorem dX9_isSimple_33 : decode cX9_isSimple 33 = .ok (.if_icmp .eq 9, 3) := by decide +kernel
theorem dX9_isSimple_36 : decode cX9_isSimple 36 = .ok (.iload_n 0, 1) := by decide +kernel
theorem dX9_isSimple_37 : decode cX9_isSimple 37 = .ok (.bipush 119, 2) := by decide +kernel
theorem dX9_isSimple_39 : decode cX9_isSimple 39 = .ok (.if_icmp .ne 7, 3) := by decide +kernel
theorem dX9_isSimple_42 : decode cX9_isSimple 42 = .ok (.iconst 1, 1) := by decide +kernel
theorem dX9_isSimple_43 : decode cX9_isSimple 43 = .ok (.goto 4, 3) := by decide +kernel
theorem dX9_isSimple_46 : decode cX9_isSimple 46 = .ok (.iconst 0, 1) := by decide +kernel
theorem dX9_isSimple_47 : decode cX9_isSimple 47 = .ok (.ireturn, 1) := by decide +kernel
theorem dX9_hasPlace_0 : decode cX9_hasPlace 0 = .ok (.iload_n 0, 1) := by decide +kernel
theorem dX9_hasPlace_1 : decode cX9_hasPlace 1 = .ok (.bipush 106, 2) := by decide +kernel
theorem dX9_hasPlace_3 : decode cX9_hasPlace 3 = .ok (.if_icmp .eq 15, 3) := by decide +kernel
theorem dX9_hasPlace_6 : decode cX9_hasPlace 6 = .ok (.iload_n 0, 1) := by decide +kernel
theorem dX9_hasPlace_7 : decode cX9_hasPlace 7 = .ok (.bipush 122, 2) := by decide +kernel
theorem dX9_hasPlace_9 : decode cX9_hasPlace 9 = .ok (.if_icmp .eq 9, 3) := by decide +kernel
theorem dX9_hasPlace_12 : decode cX9_hasPlace 12 = .ok (.iload_n 0, 1) := by decide +kernel
theorem dX9_hasPlace_13 : decode cX9_hasPlace 13 = .ok (.bipush 107, 2) := by decide +kernel
theorem dX9_hasPlace_15 : decode cX9_hasPlace 15 = .ok (.if_icmp .ne 7, 3) := by decide +kernel
theorem dX9_hasPlace_18 : decode cX9_hasPlace 18 = .ok (.iconst 1, 1) := by decide +kernel
theorem dX9_hasPlace_19 : decode cX9_hasPlace 19 = .ok (.goto 4, 3) := by decide +kernel
theorem dX9_hasPlace_22 : decode cX9_hasPlace 22 = .ok (.iconst 0, 1) := by decide +kernel
theorem dX9_hasPlace_23 : decode cX9_hasPlace 23 = .ok (.ireturn, 1) := by decide +kernel
theorem dX9_figureAt_0 : decode cX9_figureAt 0 = .ok (.iload_n 1, 1) := by decide +kernel
theorem dX9_figureAt_1 : decode cX9_figureAt 1 = .ok (.aload_n 0, 1) := by decide +kernel
theorem dX9_figureAt_2 : decode cX9_figureAt 2 = .ok (.getfield 75, 3) := by decide +kernel
theorem dX9_figureAt_5 : decode cX9_figureAt 5 = .ok (.if_icmp .ge 34, 3) := by decide +kernel
theorem dX9_figureAt_8 : decode cX9_figureAt 8 = .ok (.aload_n 0, 1) := by decide +kernel
theorem dX9_figureAt_9 : decode cX9_figureAt 9 = .ok (.getfield 7, 3) := by decide +kernel
theorem dX9_figureAt_12 : decode cX9_figureAt 12 = .ok (.iload_n 1, 1) := by decide +kernel
theorem dX9_figureAt_13 : decode cX9_figureAt 13 = .ok (.iaload, 1) := by decide +kernel
theorem dX9_figureAt_14 : decode cX9_figureAt 14 = .ok (.i2l, 1) := by decide +kernel
theorem dX9_figureAt_15 : decode cX9_figureAt 15 = .ok (.ldc2_w 78, 3) := by decide +kernel
theorem dX9_figureAt_18 : decode cX9_figureAt 18 = .ok (.ldc2_w 80, 3) := by decide +kernel
theorem dX9_figureAt_21 : decode cX9_figureAt 21 = .ok (.invokestatic 71, 3) := by decide +kernel
theorem dX9_figureAt_24 : decode cX9_figureAt 24 = .ok (.ifCond .eq 15, 3) := by decide +kernel
theorem dX9_figureAt_27 : decode cX9_figureAt 27 = .ok (.aload_n 0, 1) := by decide +kernel
theorem dX9_figureAt_28 : decode cX9_figureAt 28 = .ok (.getfield 7, 3) := by decide +kernel
theorem dX9_figureAt_31 : decode cX9_figureAt 31 = .ok (.iload_n 1, 1) := by decide +kernel
theorem dX9_figureAt_32 : decode cX9_figureAt 32 = .ok (.iaload, 1) := by decide +kernel
theorem dX9_figureAt_33 : decode cX9_figureAt 33 = .ok (.bipush 48, 2) := by decide +kernel
theorem dX9_figureAt_35 : decode cX9_figureAt 35 = .ok (.isub, 1) := by decide +kernel
theorem dX9_figureAt_36 : decode cX9_figureAt 36 = .ok (.goto 5, 3) := by decide +kernel
theorem dX9_figureAt_39 : decode cX9_figureAt 39 = .ok (.bipush (-4), 2) := by decide +kernel
theorem dX9_figureAt_41 : decode cX9_figureAt 41 = .ok (.ireturn, 1) := by decide +kernel
theorem dX9_readOne_0 : decode cX9_readOne 0 = .ok (.aload_n 0, 1) := by decide +kernel
theorem dX9_readOne_1 : decode cX9_readOne 1 = .ok (.getfield 7, 3) := by decide +kernel
theorem dX9_readOne_4 : decode cX9_readOne 4 = .ok (.iload_n 1, 1) := by decide +kernel
theorem dX9_readOne_5 : decode cX9_readOne 5 = .ok (.iaload, 1) := by decide +kernel
theorem dX9_readOne_6 : decode cX9_readOne 6 = .ok (.istore_n 2, 1) := by decide +kernel
theorem dX9_readOne_7 : decode cX9_readOne 7 = .ok (.aload_n 0, 1) := by decide +kernel
theorem dX9_readOne_8 : decode cX9_readOne 8 = .ok (.iload_n 1, 1) := by decide +kernel
theorem dX9_readOne_9 : decode cX9_readOne 9 = .ok (.iconst 1, 1) := by decide +kernel
theorem dX9_readOne_10 : decode cX9_readOne 10 = .ok (.iadd, 1) := by decide +kernel
theorem dX9_readOne_11 : decode cX9_readOne 11 = .ok (.invokevirtual 82, 3) := by decide +kernel
theorem dX9_readOne_14 : decode cX9_readOne 14 = .ok (.istore_n 3, 1) := by decide +kernel
theorem dX9_readOne_15 : decode cX9_readOne 15 = .ok (.aload_n 0, 1) := by decide +kernel
theorem dX9_readOne_16 : decode cX9_readOne 16 = .ok (.iload_n 1, 1) := by decide +kernel
theorem dX9_readOne_17 : decode cX9_readOne 17 = .ok (.iconst 2, 1) := by decide +kernel
theorem dX9_readOne_18 : decode cX9_readOne 18 = .ok (.iadd, 1) := by decide +kernel
theorem dX9_readOne_19 : decode cX9_readOne 19 = .ok (.invokevirtual 82, 3) := by decide +kernel
theorem dX9_readOne_22 : decode cX9_readOne 22 = .ok (.istore 4, 2) := by decide +kernel
theorem dX9_readOne_24 : decode cX9_readOne 24 = .ok (.aload_n 0, 1) := by decide +kernel
theorem dX9_readOne_25 : decode cX9_readOne 25 = .ok (.getfield 52, 3) := by decide +kernel
theorem dX9_readOne_28 : decode cX9_readOne 28 = .ok (.bipush 48, 2) := by decide +kernel
theorem dX9_readOne_30 : decode cX9_readOne 30 = .ok (.if_icmp .ne 6, 3) := by decide +kernel
theorem dX9_readOne_33 : decode cX9_readOne 33 = .ok (.bipush (-4), 2) := by decide +kernel
theorem dX9_readOne_35 : decode cX9_readOne 35 = .ok (.ireturn, 1) := by decide +kernel
theorem dX9_readOne_36 : decode cX9_readOne 36 = .ok (.iload_n 2, 1) := by decide +kernel
theorem dX9_readOne_37 : decode cX9_readOne 37 = .ok (.invokestatic 86, 3) := by decide +kernel
theorem dX9_readOne_40 : decode cX9_readOne 40 = .ok (.ifCond .eq 17, 3) := by decide +kernel
theorem dX9_readOne_43 : decode cX9_readOne 43 = .ok (.iload_n 3, 1) := by decide +kernel
theorem dX9_readOne_44 : decode cX9_readOne 44 = .ok (.bipush (-4), 2) := by decide +kernel
theorem dX9_readOne_46 : decode cX9_readOne 46 = .ok (.if_icmp .eq 11, 3) := by decide +kernel
theorem dX9_readOne_49 : decode cX9_readOne 49 = .ok (.aload_n 0, 1) := by decide +kernel
theorem dX9_readOne_50 : decode cX9_readOne 50 = .ok (.iload_n 2, 1) := by decide +kernel
theorem dX9_readOne_51 : decode cX9_readOne 51 = .ok (.iload_n 3, 1) := by decide +kernel
theorem dX9_readOne_52 : decode cX9_readOne 52 = .ok (.invokevirtual 63, 3) := by decide +kernel
theorem dX9_readOne_55 : decode cX9_readOne 55 = .ok (.iconst 2, 1) := by decide +kernel
theorem dX9_readOne_56 : decode cX9_readOne 56 = .ok (.ireturn, 1) := by decide +kernel
theorem dX9_readOne_57 : decode cX9_readOne 57 = .ok (.iload_n 2, 1) := by decide +kernel
theorem dX9_readOne_58 : decode cX9_readOne 58 = .ok (.invokestatic 90, 3) := by decide +kernel
theorem dX9_readOne_61 : decode cX9_readOne 61 = .ok (.ifCond .eq 30, 3) := by decide +kernel
theorem dX9_readOne_64 : decode cX9_readOne 64 = .ok (.iload_n 3, 1) := by decide +kernel
theorem dX9_readOne_65 : decode cX9_readOne 65 = .ok (.bipush (-4), 2) := by decide +kernel
theorem dX9_readOne_67 : decode cX9_readOne 67 = .ok (.if_icmp .eq 24, 3) := by decide +kernel
theorem dX9_readOne_70 : decode cX9_readOne 70 = .ok (.iload 4, 2) := by decide +kernel
theorem dX9_readOne_72 : decode cX9_readOne 72 = .ok (.bipush (-4), 2) := by decide +kernel
theorem dX9_readOne_74 : decode cX9_readOne 74 = .ok (.if_icmp .eq 17, 3) := by decide +kernel
theorem dX9_readOne_77 : decode cX9_readOne 77 = .ok (.aload_n 0, 1) := by decide +kernel
theorem dX9_readOne_78 : decode cX9_readOne 78 = .ok (.iload_n 2, 1) := by decide +kernel
theorem dX9_readOne_79 : decode cX9_readOne 79 = .ok (.bipush 10, 2) := by decide +kernel
theorem dX9_readOne_81 : decode cX9_readOne 81 = .ok (.iload_n 3, 1) := by decide +kernel
theorem dX9_readOne_82 : decode cX9_readOne 82 = .ok (.imul, 1) := by decide +kernel
theorem dX9_readOne_83 : decode cX9_readOne 83 = .ok (.iload 4, 2) := by decide +kernel
theorem dX9_readOne_85 : decode cX9_readOne 85 = .ok (.iadd, 1) := by decide +kernel
theorem dX9_readOne_86 : decode cX9_readOne 86 = .ok (.invokevirtual 63, 3) := by decide +kernel
theorem dX9_readOne_89 : decode cX9_readOne 89 = .ok (.iconst 3, 1) := by decide +kernel
theorem dX9_readOne_90 : decode cX9_readOne 90 = .ok (.ireturn, 1) := by decide +kernel
theorem dX9_readOne_91 : decode cX9_readOne 91 = .ok (.iload_n 2, 1) := by decide +kernel
theorem dX9_readOne_92 : decode cX9_readOne 92 = .ok (.bipush 113, 2) := by decide +kernel
theorem dX9_readOne_94 : decode cX9_readOne 94 = .ok (.if_icmp .eq 9, 3) := by decide +kernel
theorem dX9_readOne_97 : decode cX9_readOne 97 = .ok (.iload_n 2, 1) := by decide +kernel
theorem dX9_readOne_98 : decode cX9_readOne 98 = .ok (.bipush 104, 2) := by decide +kernel
theorem dX9_readOne_100 : decode cX9_readOne 100 = .ok (.if_icmp .ne 12, 3) := by decide +kernel
theorem dX9_readOne_103 : decode cX9_readOne 103 = .ok (.aload_n 0, 1) := by decide +kernel
theorem dX9_readOne_104 : decode cX9_readOne 104 = .ok (.iload_n 2, 1) := by decide +kernel
theorem dX9_readOne_105 : decode cX9_readOne 105 = .ok (.bipush (-4), 2) := by decide +kernel
theorem dX9_readOne_107 : decode cX9_readOne 107 = .ok (.invokevirtual 63, 3) := by decide +kernel
theorem dX9_readOne_110 : decode cX9_readOne 110 = .ok (.iconst 1, 1) := by decide +kernel
theorem dX9_readOne_111 : decode cX9_readOne 111 = .ok (.ireturn, 1) := by decide +kernel
theorem dX9_readOne_112 : decode cX9_readOne 112 = .ok (.bipush (-4), 2) := by decide +kernel
