theorem dX9_readOne_114 : decode cX9_readOne 114 = .ok (.ireturn, 1) := by decide +kernel
theorem dX9_lettersOf_0 : decode cX9_lettersOf 0 = .ok (.iload_n 0, 1) := by decide +kernel
theorem dX9_lettersOf_1 : decode cX9_lettersOf 1 = .ok (.invokestatic 86, 3) := by decide +kernel
theorem dX9_lettersOf_4 : decode cX9_lettersOf 4 = .ok (.ifCond .eq 7, 3) := by decide +kernel
theorem dX9_lettersOf_7 : decode cX9_lettersOf 7 = .ok (.iconst 2, 1) := by decide +kernel
theorem dX9_lettersOf_8 : decode cX9_lettersOf 8 = .ok (.goto 15, 3) := by decide +kernel
theorem dX9_lettersOf_11 : decode cX9_lettersOf 11 = .ok (.iload_n 0, 1) := by decide +kernel
theorem dX9_lettersOf_12 : decode cX9_lettersOf 12 = .ok (.invokestatic 90, 3) := by decide +kernel
theorem dX9_lettersOf_15 : decode cX9_lettersOf 15 = .ok (.ifCond .eq 7, 3) := by decide +kernel
theorem dX9_lettersOf_18 : decode cX9_lettersOf 18 = .ok (.iconst 3, 1) := by decide +kernel
theorem dX9_lettersOf_19 : decode cX9_lettersOf 19 = .ok (.goto 4, 3) := by decide +kernel
theorem dX9_lettersOf_22 : decode cX9_lettersOf 22 = .ok (.iconst 1, 1) := by decide +kernel
theorem dX9_lettersOf_23 : decode cX9_lettersOf 23 = .ok (.ireturn, 1) := by decide +kernel
theorem dX9_fault_0 : decode cX9_fault 0 = .ok (.aload_n 0, 1) := by decide +kernel
theorem dX9_fault_1 : decode cX9_fault 1 = .ok (.iconst 0, 1) := by decide +kernel
theorem dX9_fault_2 : decode cX9_fault 2 = .ok (.putfield 52, 3) := by decide +kernel
theorem dX9_fault_5 : decode cX9_fault 5 = .ok (.iconst 0, 1) := by decide +kernel
theorem dX9_fault_6 : decode cX9_fault 6 = .ok (.istore_n 1, 1) := by decide +kernel
theorem dX9_fault_7 : decode cX9_fault 7 = .ok (.iload_n 1, 1) := by decide +kernel
theorem dX9_fault_8 : decode cX9_fault 8 = .ok (.aload_n 0, 1) := by decide +kernel
theorem dX9_fault_9 : decode cX9_fault 9 = .ok (.getfield 75, 3) := by decide +kernel
theorem dX9_fault_12 : decode cX9_fault 12 = .ok (.if_icmp .ge 24, 3) := by decide +kernel
theorem dX9_fault_15 : decode cX9_fault 15 = .ok (.aload_n 0, 1) := by decide +kernel
theorem dX9_fault_16 : decode cX9_fault 16 = .ok (.iload_n 1, 1) := by decide +kernel
theorem dX9_fault_17 : decode cX9_fault 17 = .ok (.invokevirtual 93, 3) := by decide +kernel
theorem dX9_fault_20 : decode cX9_fault 20 = .ok (.istore_n 2, 1) := by decide +kernel
theorem dX9_fault_21 : decode cX9_fault 21 = .ok (.iload_n 2, 1) := by decide +kernel
theorem dX9_fault_22 : decode cX9_fault 22 = .ok (.bipush (-4), 2) := by decide +kernel
theorem dX9_fault_24 : decode cX9_fault 24 = .ok (.if_icmp .ne 5, 3) := by decide +kernel
theorem dX9_fault_27 : decode cX9_fault 27 = .ok (.iload_n 1, 1) := by decide +kernel
theorem dX9_fault_28 : decode cX9_fault 28 = .ok (.ireturn, 1) := by decide +kernel
theorem dX9_fault_29 : decode cX9_fault 29 = .ok (.iload_n 1, 1) := by decide +kernel
theorem dX9_fault_30 : decode cX9_fault 30 = .ok (.iload_n 2, 1) := by decide +kernel
theorem dX9_fault_31 : decode cX9_fault 31 = .ok (.iadd, 1) := by decide +kernel
theorem dX9_fault_32 : decode cX9_fault 32 = .ok (.istore_n 1, 1) := by decide +kernel
theorem dX9_fault_33 : decode cX9_fault 33 = .ok (.goto (-26), 3) := by decide +kernel
theorem dX9_fault_36 : decode cX9_fault 36 = .ok (.iconst 0, 1) := by decide +kernel
theorem dX9_fault_37 : decode cX9_fault 37 = .ok (.istore_n 1, 1) := by decide +kernel
theorem dX9_fault_38 : decode cX9_fault 38 = .ok (.iconst 0, 1) := by decide +kernel
theorem dX9_fault_39 : decode cX9_fault 39 = .ok (.istore_n 2, 1) := by decide +kernel
theorem dX9_fault_40 : decode cX9_fault 40 = .ok (.iload_n 2, 1) := by decide +kernel
theorem dX9_fault_41 : decode cX9_fault 41 = .ok (.aload_n 0, 1) := by decide +kernel
theorem dX9_fault_42 : decode cX9_fault 42 = .ok (.getfield 52, 3) := by decide +kernel
theorem dX9_fault_45 : decode cX9_fault 45 = .ok (.if_icmp .ge 48, 3) := by decide +kernel
theorem dX9_fault_48 : decode cX9_fault 48 = .ok (.aload_n 0, 1) := by decide +kernel
theorem dX9_fault_49 : decode cX9_fault 49 = .ok (.getfield 13, 3) := by decide +kernel
theorem dX9_fault_52 : decode cX9_fault 52 = .ok (.iload_n 2, 1) := by decide +kernel
theorem dX9_fault_53 : decode cX9_fault 53 = .ok (.iaload, 1) := by decide +kernel
theorem dX9_fault_54 : decode cX9_fault 54 = .ok (.invokestatic 90, 3) := by decide +kernel
theorem dX9_fault_57 : decode cX9_fault 57 = .ok (.ifCond .eq 18, 3) := by decide +kernel
theorem dX9_fault_60 : decode cX9_fault 60 = .ok (.aload_n 0, 1) := by decide +kernel
theorem dX9_fault_61 : decode cX9_fault 61 = .ok (.getfield 16, 3) := by decide +kernel
theorem dX9_fault_64 : decode cX9_fault 64 = .ok (.iload_n 2, 1) := by decide +kernel
theorem dX9_fault_65 : decode cX9_fault 65 = .ok (.iaload, 1) := by decide +kernel
theorem dX9_fault_66 : decode cX9_fault 66 = .ok (.aload_n 0, 1) := by decide +kernel
theorem dX9_fault_67 : decode cX9_fault 67 = .ok (.getfield 52, 3) := by decide +kernel
theorem dX9_fault_70 : decode cX9_fault 70 = .ok (.if_icmp .lt 5, 3) := by decide +kernel
theorem dX9_fault_73 : decode cX9_fault 73 = .ok (.iload_n 1, 1) := by decide +kernel
theorem dX9_fault_74 : decode cX9_fault 74 = .ok (.ireturn, 1) := by decide +kernel
theorem dX9_fault_75 : decode cX9_fault 75 = .ok (.iload_n 1, 1) := by decide +kernel
theorem dX9_fault_76 : decode cX9_fault 76 = .ok (.aload_n 0, 1) := by decide +kernel
theorem dX9_fault_77 : decode cX9_fault 77 = .ok (.getfield 13, 3) := by decide +kernel
theorem dX9_fault_80 : decode cX9_fault 80 = .ok (.iload_n 2, 1) := by decide +kernel
theorem dX9_fault_81 : decode cX9_fault 81 = .ok (.iaload, 1) := by decide +kernel
theorem dX9_fault_82 : decode cX9_fault 82 = .ok (.invokestatic 96, 3) := by decide +kernel
theorem dX9_fault_85 : decode cX9_fault 85 = .ok (.iadd, 1) := by decide +kernel
theorem dX9_fault_86 : decode cX9_fault 86 = .ok (.istore_n 1, 1) := by decide +kernel
theorem dX9_fault_87 : decode cX9_fault 87 = .ok (.iinc 2 1, 3) := by decide +kernel
theorem dX9_fault_90 : decode cX9_fault 90 = .ok (.goto (-50), 3) := by decide +kernel
theorem dX9_fault_93 : decode cX9_fault 93 = .ok (.bipush (-4), 2) := by decide +kernel
theorem dX9_fault_95 : decode cX9_fault 95 = .ok (.ireturn, 1) := by decide +kernel
theorem dX9_lay_0 : decode cX9_lay 0 = .ok (.aload_n 0, 1) := by decide +kernel
theorem dX9_lay_1 : decode cX9_lay 1 = .ok (.invokevirtual 99, 3) := by decide +kernel
theorem dX9_lay_4 : decode cX9_lay 4 = .ok (.bipush (-4), 2) := by decide +kernel
theorem dX9_lay_6 : decode cX9_lay 6 = .ok (.if_icmp .ne 10, 3) := by decide +kernel
theorem dX9_lay_9 : decode cX9_lay 9 = .ok (.aload_n 0, 1) := by decide +kernel
theorem dX9_lay_10 : decode cX9_lay 10 = .ok (.getfield 52, 3) := by decide +kernel
theorem dX9_lay_13 : decode cX9_lay 13 = .ok (.ifCond .ne 6, 3) := by decide +kernel
theorem dX9_lay_16 : decode cX9_lay 16 = .ok (.bipush (-2), 2) := by decide +kernel
theorem dX9_lay_18 : decode cX9_lay 18 = .ok (.ireturn, 1) := by decide +kernel
theorem dX9_lay_19 : decode cX9_lay 19 = .ok (.aload_n 0, 1) := by decide +kernel
theorem dX9_lay_20 : decode cX9_lay 20 = .ok (.invokevirtual 60, 3) := by decide +kernel
theorem dX9_lay_23 : decode cX9_lay 23 = .ok (.aload_n 0, 1) := by decide +kernel
theorem dX9_lay_24 : decode cX9_lay 24 = .ok (.getfield 103, 3) := by decide +kernel
theorem dX9_lay_27 : decode cX9_lay 27 = .ok (.ireturn, 1) := by decide +kernel
theorem dX9_begin_0 : decode cX9_begin 0 = .ok (.aload_n 0, 1) := by decide +kernel
theorem dX9_begin_1 : decode cX9_begin 1 = .ok (.aload_n 0, 1) := by decide +kernel
theorem dX9_begin_2 : decode cX9_begin 2 = .ok (.getfield 52, 3) := by decide +kernel
theorem dX9_begin_5 : decode cX9_begin 5 = .ok (.putfield 103, 3) := by decide +kernel
theorem dX9_begin_8 : decode cX9_begin 8 = .ok (.iconst 0, 1) := by decide +kernel
theorem dX9_begin_9 : decode cX9_begin 9 = .ok (.istore_n 1, 1) := by decide +kernel
theorem dX9_begin_10 : decode cX9_begin 10 = .ok (.iload_n 1, 1) := by decide +kernel
theorem dX9_begin_11 : decode cX9_begin 11 = .ok (.aload_n 0, 1) := by decide +kernel
theorem dX9_begin_12 : decode cX9_begin 12 = .ok (.getfield 103, 3) := by decide +kernel
theorem dX9_begin_15 : decode cX9_begin 15 = .ok (.if_icmp .ge 40, 3) := by decide +kernel
theorem dX9_begin_18 : decode cX9_begin 18 = .ok (.aload_n 0, 1) := by decide +kernel
theorem dX9_begin_19 : decode cX9_begin 19 = .ok (.getfield 19, 3) := by decide +kernel
theorem dX9_begin_22 : decode cX9_begin 22 = .ok (.iload_n 1, 1) := by decide +kernel
theorem dX9_begin_23 : decode cX9_begin 23 = .ok (.aload_n 0, 1) := by decide +kernel
theorem dX9_begin_24 : decode cX9_begin 24 = .ok (.getfield 13, 3) := by decide +kernel
theorem dX9_begin_27 : decode cX9_begin 27 = .ok (.iload_n 1, 1) := by decide +kernel
theorem dX9_begin_28 : decode cX9_begin 28 = .ok (.iaload, 1) := by decide +kernel
theorem dX9_begin_29 : decode cX9_begin 29 = .ok (.iastore, 1) := by decide +kernel
theorem dX9_begin_30 : decode cX9_begin 30 = .ok (.aload_n 0, 1) := by decide +kernel
theorem dX9_begin_31 : decode cX9_begin 31 = .ok (.getfield 22, 3) := by decide +kernel
theorem dX9_begin_34 : decode cX9_begin 34 = .ok (.iload_n 1, 1) := by decide +kernel
theorem dX9_begin_35 : decode cX9_begin 35 = .ok (.aload_n 0, 1) := by decide +kernel
theorem dX9_begin_36 : decode cX9_begin 36 = .ok (.getfield 16, 3) := by decide +kernel
theorem dX9_begin_39 : decode cX9_begin 39 = .ok (.iload_n 1, 1) := by decide +kernel
theorem dX9_begin_40 : decode cX9_begin 40 = .ok (.iaload, 1) := by decide +kernel
theorem dX9_begin_41 : decode cX9_begin 41 = .ok (.iastore, 1) := by decide +kernel
theorem dX9_begin_42 : decode cX9_begin 42 = .ok (.aload_n 0, 1) := by decide +kernel
theorem dX9_begin_43 : decode cX9_begin 43 = .ok (.getfield 25, 3) := by decide +kernel
theorem dX9_begin_46 : decode cX9_begin 46 = .ok (.iload_n 1, 1) := by decide +kernel
theorem dX9_begin_47 : decode cX9_begin 47 = .ok (.iconst 0, 1) := by decide +kernel
theorem dX9_begin_48 : decode cX9_begin 48 = .ok (.iastore, 1) := by decide +kernel
theorem dX9_begin_49 : decode cX9_begin 49 = .ok (.iinc 1 1, 3) := by decide +kernel
theorem dX9_begin_52 : decode cX9_begin 52 = .ok (.goto (-42), 3) := by decide +kernel
theorem dX9_begin_55 : decode cX9_begin 55 = .ok (.iconst 0, 1) := by decide +kernel
theorem dX9_begin_56 : decode cX9_begin 56 = .ok (.istore_n 1, 1) := by decide +kernel
theorem dX9_begin_57 : decode cX9_begin 57 = .ok (.iload_n 1, 1) := by decide +kernel
theorem dX9_begin_58 : decode cX9_begin 58 = .ok (.aload_n 0, 1) := by decide +kernel
theorem dX9_begin_59 : decode cX9_begin 59 = .ok (.getfield 103, 3) := by decide +kernel
theorem dX9_begin_62 : decode cX9_begin 62 = .ok (.if_icmp .ge 33, 3) := by decide +kernel
theorem dX9_begin_65 : decode cX9_begin 65 = .ok (.aload_n 0, 1) := by decide +kernel
theorem dX9_begin_66 : decode cX9_begin 66 = .ok (.getfield 19, 3) := by decide +kernel
theorem dX9_begin_69 : decode cX9_begin 69 = .ok (.iload_n 1, 1) := by decide +kernel
theorem dX9_begin_70 : decode cX9_begin 70 = .ok (.iaload, 1) := by decide +kernel
theorem dX9_begin_71 : decode cX9_begin 71 = .ok (.invokestatic 90, 3) := by decide +kernel
theorem dX9_begin_74 : decode cX9_begin 74 = .ok (.ifCond .eq 15, 3) := by decide +kernel
theorem dX9_begin_77 : decode cX9_begin 77 = .ok (.aload_n 0, 1) := by decide +kernel
theorem dX9_begin_78 : decode cX9_begin 78 = .ok (.getfield 25, 3) := by decide +kernel
theorem dX9_begin_81 : decode cX9_begin 81 = .ok (.aload_n 0, 1) := by decide +kernel
theorem dX9_begin_82 : decode cX9_begin 82 = .ok (.getfield 22, 3) := by decide +kernel
theorem dX9_begin_85 : decode cX9_begin 85 = .ok (.iload_n 1, 1) := by decide +kernel
theorem dX9_begin_86 : decode cX9_begin 86 = .ok (.iaload, 1) := by decide +kernel
theorem dX9_begin_87 : decode cX9_begin 87 = .ok (.iconst 1, 1) := by decide +kernel
theorem dX9_begin_88 : decode cX9_begin 88 = .ok (.iastore, 1) := by decide +kernel
theorem dX9_begin_89 : decode cX9_begin 89 = .ok (.iinc 1 1, 3) := by decide +kernel
theorem dX9_begin_92 : decode cX9_begin 92 = .ok (.goto (-35), 3) := by decide +kernel
theorem dX9_begin_95 : decode cX9_begin 95 = .ok (.aload_n 0, 1) := by decide +kernel
theorem dX9_begin_96 : decode cX9_begin 96 = .ok (.getfield 28, 3) := by decide +kernel
theorem dX9_begin_99 : decode cX9_begin 99 = .ok (.bipush 82, 2) := by decide +kernel
theorem dX9_begin_101 : decode cX9_begin 101 = .ok (.iconst 0, 1) := by decide +kernel
theorem dX9_begin_102 : decode cX9_begin 102 = .ok (.iastore, 1) := by decide +kernel
theorem dX9_begin_103 : decode cX9_begin 103 = .ok (.aload_n 0, 1) := by decide +kernel
theorem dX9_begin_104 : decode cX9_begin 104 = .ok (.iconst 0, 1) := by decide +kernel
theorem dX9_begin_105 : decode cX9_begin 105 = .ok (.putfield 106, 3) := by decide +kernel
theorem dX9_begin_108 : decode cX9_begin 108 = .ok (.aload_n 0, 1) := by decide +kernel
theorem dX9_begin_109 : decode cX9_begin 109 = .ok (.iconst 0, 1) := by decide +kernel
theorem dX9_begin_110 : decode cX9_begin 110 = .ok (.putfield 109, 3) := by decide +kernel
theorem dX9_begin_113 : decode cX9_begin 113 = .ok (.aload_n 0, 1) := by decide +kernel
theorem dX9_begin_114 : decode cX9_begin 114 = .ok (.invokevirtual 113, 3) := by decide +kernel
theorem dX9_begin_117 : decode cX9_begin 117 = .ok (.return_, 1) := by decide +kernel
theorem dX9_isCode_0 : decode cX9_isCode 0 = .ok (.iload_n 1, 1) := by decide +kernel
theorem dX9_isCode_1 : decode cX9_isCode 1 = .ok (.i2l, 1) := by decide +kernel
theorem dX9_isCode_2 : decode cX9_isCode 2 = .ok (.lconst 0, 1) := by decide +kernel
theorem dX9_isCode_3 : decode cX9_isCode 3 = .ok (.aload_n 0, 1) := by decide +kernel
theorem dX9_isCode_4 : decode cX9_isCode 4 = .ok (.getfield 103, 3) := by decide +kernel
theorem dX9_isCode_7 : decode cX9_isCode 7 = .ok (.iconst 1, 1) := by decide +kernel
theorem dX9_isCode_8 : decode cX9_isCode 8 = .ok (.isub, 1) := by decide +kernel
theorem dX9_isCode_9 : decode cX9_isCode 9 = .ok (.i2l, 1) := by decide +kernel
theorem dX9_isCode_10 : decode cX9_isCode 10 = .ok (.invokestatic 71, 3) := by decide +kernel
theorem dX9_isCode_13 : decode cX9_isCode 13 = .ok (.ireturn, 1) := by decide +kernel
theorem dX9_isEntry_0 : decode cX9_isEntry 0 = .ok (.iload_n 1, 1) := by decide +kernel
theorem dX9_isEntry_1 : decode cX9_isEntry 1 = .ok (.i2l, 1) := by decide +kernel
theorem dX9_isEntry_2 : decode cX9_isEntry 2 = .ok (.lconst 0, 1) := by decide +kernel
theorem dX9_isEntry_3 : decode cX9_isEntry 3 = .ok (.aload_n 0, 1) := by decide +kernel
theorem dX9_isEntry_4 : decode cX9_isEntry 4 = .ok (.getfield 28, 3) := by decide +kernel
theorem dX9_isEntry_7 : decode cX9_isEntry 7 = .ok (.bipush 82, 2) := by decide +kernel
theorem dX9_isEntry_9 : decode cX9_isEntry 9 = .ok (.iaload, 1) := by decide +kernel
theorem dX9_isEntry_10 : decode cX9_isEntry 10 = .ok (.iconst 1, 1) := by decide +kernel
theorem dX9_isEntry_11 : decode cX9_isEntry 11 = .ok (.isub, 1) := by decide +kernel
theorem dX9_isEntry_12 : decode cX9_isEntry 12 = .ok (.i2l, 1) := by decide +kernel
theorem dX9_isEntry_13 : decode cX9_isEntry 13 = .ok (.invokestatic 71, 3) := by decide +kernel
theorem dX9_isEntry_16 : decode cX9_isEntry 16 = .ok (.ireturn, 1) := by decide +kernel
theorem dX9_isSequence_0 : decode cX9_isSequence 0 = .ok (.iload_n 1, 1) := by decide +kernel
theorem dX9_isSequence_1 : decode cX9_isSequence 1 = .ok (.iload_n 2, 1) := by decide +kernel
theorem dX9_isSequence_2 : decode cX9_isSequence 2 = .ok (.iadd, 1) := by decide +kernel
theorem dX9_isSequence_3 : decode cX9_isSequence 3 = .ok (.aload_n 0, 1) := by decide +kernel
theorem dX9_isSequence_4 : decode cX9_isSequence 4 = .ok (.getfield 103, 3) := by decide +kernel
theorem dX9_isSequence_7 : decode cX9_isSequence 7 = .ok (.if_icmp .gt 28, 3) := by decide +kernel
theorem dX9_isSequence_10 : decode cX9_isSequence 10 = .ok (.iload_n 1, 1) := by decide +kernel
theorem dX9_isSequence_11 : decode cX9_isSequence 11 = .ok (.aload_n 0, 1) := by decide +kernel
theorem dX9_isSequence_12 : decode cX9_isSequence 12 = .ok (.getfield 28, 3) := by decide +kernel
theorem dX9_isSequence_15 : decode cX9_isSequence 15 = .ok (.bipush 80, 2) := by decide +kernel
theorem dX9_isSequence_17 : decode cX9_isSequence 17 = .ok (.iaload, 1) := by decide +kernel
theorem dX9_isSequence_18 : decode cX9_isSequence 18 = .ok (.idiv, 1) := by decide +kernel
theorem dX9_isSequence_19 : decode cX9_isSequence 19 = .ok (.iload_n 1, 1) := by decide +kernel
theorem dX9_isSequence_20 : decode cX9_isSequence 20 = .ok (.iload_n 2, 1) := by decide +kernel
theorem dX9_isSequence_21 : decode cX9_isSequence 21 = .ok (.iadd, 1) := by decide +kernel
theorem dX9_isSequence_22 : decode cX9_isSequence 22 = .ok (.iconst 1, 1) := by decide +kernel
theorem dX9_isSequence_23 : decode cX9_isSequence 23 = .ok (.isub, 1) := by decide +kernel
theorem dX9_isSequence_24 : decode cX9_isSequence 24 = .ok (.aload_n 0, 1) := by decide +kernel
theorem dX9_isSequence_25 : decode cX9_isSequence 25 = .ok (.getfield 28, 3) := by decide +kernel
theorem dX9_isSequence_28 : decode cX9_isSequence 28 = .ok (.bipush 80, 2) := by decide +kernel
theorem dX9_isSequence_30 : decode cX9_isSequence 30 = .ok (.iaload, 1) := by decide +kernel
theorem dX9_isSequence_31 : decode cX9_isSequence 31 = .ok (.idiv, 1) := by decide +kernel
theorem dX9_isSequence_32 : decode cX9_isSequence 32 = .ok (.if_icmp .eq 5, 3) := by decide +kernel
theorem dX9_isSequence_35 : decode cX9_isSequence 35 = .ok (.iconst 0, 1) := by decide +kernel
theorem dX9_isSequence_36 : decode cX9_isSequence 36 = .ok (.ireturn, 1) := by decide +kernel
theorem dX9_isSequence_37 : decode cX9_isSequence 37 = .ok (.iconst 1, 1) := by decide +kernel
theorem dX9_isSequence_38 : decode cX9_isSequence 38 = .ok (.istore_n 3, 1) := by decide +kernel
theorem dX9_isSequence_39 : decode cX9_isSequence 39 = .ok (.iload_n 1, 1) := by decide +kernel
theorem dX9_isSequence_40 : decode cX9_isSequence 40 = .ok (.istore 4, 2) := by decide +kernel
theorem dX9_isSequence_42 : decode cX9_isSequence 42 = .ok (.iload 4, 2) := by decide +kernel
theorem dX9_isSequence_44 : decode cX9_isSequence 44 = .ok (.iload_n 1, 1) := by decide +kernel
theorem dX9_isSequence_45 : decode cX9_isSequence 45 = .ok (.iload_n 2, 1) := by decide +kernel
theorem dX9_isSequence_46 : decode cX9_isSequence 46 = .ok (.iadd, 1) := by decide +kernel
theorem dX9_isSequence_47 : decode cX9_isSequence 47 = .ok (.if_icmp .ge 48, 3) := by decide +kernel
theorem dX9_isSequence_50 : decode cX9_isSequence 50 = .ok (.iload_n 3, 1) := by decide +kernel
theorem dX9_isSequence_51 : decode cX9_isSequence 51 = .ok (.ifCond .eq 36, 3) := by decide +kernel
theorem dX9_isSequence_54 : decode cX9_isSequence 54 = .ok (.aload_n 0, 1) := by decide +kernel
theorem dX9_isSequence_55 : decode cX9_isSequence 55 = .ok (.getfield 19, 3) := by decide +kernel
theorem dX9_isSequence_58 : decode cX9_isSequence 58 = .ok (.iload 4, 2) := by decide +kernel
theorem dX9_isSequence_60 : decode cX9_isSequence 60 = .ok (.iaload, 1) := by decide +kernel
theorem dX9_isSequence_61 : decode cX9_isSequence 61 = .ok (.invokestatic 86, 3) := by decide +kernel
theorem dX9_isSequence_64 : decode cX9_isSequence 64 = .ok (.ifCond .eq 23, 3) := by decide +kernel
theorem dX9_isSequence_67 : decode cX9_isSequence 67 = .ok (.iload 4, 2) := by decide +kernel
theorem dX9_isSequence_69 : decode cX9_isSequence 69 = .ok (.iload_n 1, 1) := by decide +kernel
theorem dX9_isSequence_70 : decode cX9_isSequence 70 = .ok (.if_icmp .eq 13, 3) := by decide +kernel
theorem dX9_isSequence_73 : decode cX9_isSequence 73 = .ok (.aload_n 0, 1) := by decide +kernel
theorem dX9_isSequence_74 : decode cX9_isSequence 74 = .ok (.getfield 25, 3) := by decide +kernel
theorem dX9_isSequence_77 : decode cX9_isSequence 77 = .ok (.iload 4, 2) := by decide +kernel
theorem dX9_isSequence_79 : decode cX9_isSequence 79 = .ok (.iaload, 1) := by decide +kernel
theorem dX9_isSequence_80 : decode cX9_isSequence 80 = .ok (.ifCond .ne 7, 3) := by decide +kernel
theorem dX9_isSequence_83 : decode cX9_isSequence 83 = .ok (.iconst 1, 1) := by decide +kernel
theorem dX9_isSequence_84 : decode cX9_isSequence 84 = .ok (.goto 4, 3) := by decide +kernel
theorem dX9_isSequence_87 : decode cX9_isSequence 87 = .ok (.iconst 0, 1) := by decide +kernel
theorem dX9_isSequence_88 : decode cX9_isSequence 88 = .ok (.istore_n 3, 1) := by decide +kernel
theorem dX9_isSequence_89 : decode cX9_isSequence 89 = .ok (.iinc 4 1, 3) := by decide +kernel
theorem dX9_isSequence_92 : decode cX9_isSequence 92 = .ok (.goto (-50), 3) := by decide +kernel
theorem dX9_isSequence_95 : decode cX9_isSequence 95 = .ok (.iload_n 3, 1) := by decide +kernel
theorem dX9_isSequence_96 : decode cX9_isSequence 96 = .ok (.ireturn, 1) := by decide +kernel
theorem dX9_entryAt_0 : decode cX9_entryAt 0 = .ok (.iload_n 1, 1) := by decide +kernel
theorem dX9_entryAt_1 : decode cX9_entryAt 1 = .ok (.bipush 8, 2) := by decide +kernel
theorem dX9_entryAt_3 : decode cX9_entryAt 3 = .ok (.if_icmp .ge 10, 3) := by decide +kernel
theorem dX9_entryAt_6 : decode cX9_entryAt 6 = .ok (.bipush 10, 2) := by decide +kernel
theorem dX9_entryAt_8 : decode cX9_entryAt 8 = .ok (.iload_n 1, 1) := by decide +kernel
theorem dX9_entryAt_9 : decode cX9_entryAt 9 = .ok (.imul, 1) := by decide +kernel
theorem dX9_entryAt_10 : decode cX9_entryAt 10 = .ok (.goto 5, 3) := by decide +kernel
theorem dX9_entryAt_13 : decode cX9_entryAt 13 = .ok (.bipush 83, 2) := by decide +kernel
theorem dX9_entryAt_15 : decode cX9_entryAt 15 = .ok (.ireturn, 1) := by decide +kernel
theorem dX9_matches_0 : decode cX9_matches 0 = .ok (.aload_n 0, 1) := by decide +kernel
theorem dX9_matches_1 : decode cX9_matches 1 = .ok (.iload_n 2, 1) := by decide +kernel
theorem dX9_matches_2 : decode cX9_matches 2 = .ok (.invokevirtual 116, 3) := by decide +kernel
theorem dX9_matches_5 : decode cX9_matches 5 = .ok (.istore_n 3, 1) := by decide +kernel
theorem dX9_matches_6 : decode cX9_matches 6 = .ok (.aload_n 0, 1) := by decide +kernel
theorem dX9_matches_7 : decode cX9_matches 7 = .ok (.getfield 28, 3) := by decide +kernel
theorem dX9_matches_10 : decode cX9_matches 10 = .ok (.iload_n 3, 1) := by decide +kernel
theorem dX9_matches_11 : decode cX9_matches 11 = .ok (.iaload, 1) := by decide +kernel
theorem dX9_matches_12 : decode cX9_matches 12 = .ok (.istore 4, 2) := by decide +kernel
theorem dX9_matches_14 : decode cX9_matches 14 = .ok (.aload_n 0, 1) := by decide +kernel
theorem dX9_matches_15 : decode cX9_matches 15 = .ok (.iload_n 1, 1) := by decide +kernel
theorem dX9_matches_16 : decode cX9_matches 16 = .ok (.iload 4, 2) := by decide +kernel
theorem dX9_matches_18 : decode cX9_matches 18 = .ok (.invokevirtual 119, 3) := by decide +kernel
theorem dX9_matches_21 : decode cX9_matches 21 = .ok (.istore 5, 2) := by decide +kernel
theorem dX9_matches_23 : decode cX9_matches 23 = .ok (.iconst 0, 1) := by decide +kernel
theorem dX9_matches_24 : decode cX9_matches 24 = .ok (.istore 6, 2) := by decide +kernel
theorem dX9_matches_26 : decode cX9_matches 26 = .ok (.iload 6, 2) := by decide +kernel
theorem dX9_matches_28 : decode cX9_matches 28 = .ok (.iload 4, 2) := by decide +kernel
theorem dX9_matches_30 : decode cX9_matches 30 = .ok (.if_icmp .ge 81, 3) := by decide +kernel
theorem dX9_matches_33 : decode cX9_matches 33 = .ok (.iload 5, 2) := by decide +kernel
theorem dX9_matches_35 : decode cX9_matches 35 = .ok (.ifCond .eq 76, 3) := by decide +kernel
theorem dX9_matches_38 : decode cX9_matches 38 = .ok (.aload_n 0, 1) := by decide +kernel
theorem dX9_matches_39 : decode cX9_matches 39 = .ok (.getfield 19, 3) := by decide +kernel
theorem dX9_matches_42 : decode cX9_matches 42 = .ok (.iload_n 1, 1) := by decide +kernel
theorem dX9_matches_43 : decode cX9_matches 43 = .ok (.iload 6, 2) := by decide +kernel
theorem dX9_matches_45 : decode cX9_matches 45 = .ok (.iadd, 1) := by decide +kernel
theorem dX9_matches_46 : decode cX9_matches 46 = .ok (.iaload, 1) := by decide +kernel
theorem dX9_matches_47 : decode cX9_matches 47 = .ok (.aload_n 0, 1) := by decide +kernel
theorem dX9_matches_48 : decode cX9_matches 48 = .ok (.getfield 28, 3) := by decide +kernel
theorem dX9_matches_51 : decode cX9_matches 51 = .ok (.iload_n 3, 1) := by decide +kernel
theorem dX9_matches_52 : decode cX9_matches 52 = .ok (.iconst 2, 1) := by decide +kernel
theorem dX9_matches_53 : decode cX9_matches 53 = .ok (.iadd, 1) := by decide +kernel
theorem dX9_matches_54 : decode cX9_matches 54 = .ok (.iload 6, 2) := by decide +kernel
theorem dX9_matches_56 : decode cX9_matches 56 = .ok (.iadd, 1) := by decide +kernel
theorem dX9_matches_57 : decode cX9_matches 57 = .ok (.iaload, 1) := by decide +kernel
theorem dX9_matches_58 : decode cX9_matches 58 = .ok (.if_icmp .ne 44, 3) := by decide +kernel
theorem dX9_matches_61 : decode cX9_matches 61 = .ok (.iload 6, 2) := by decide +kernel
theorem dX9_matches_63 : decode cX9_matches 63 = .ok (.aload_n 0, 1) := by decide +kernel
theorem dX9_matches_64 : decode cX9_matches 64 = .ok (.getfield 28, 3) := by decide +kernel
theorem dX9_matches_67 : decode cX9_matches 67 = .ok (.iload_n 3, 1) := by decide +kernel
theorem dX9_matches_68 : decode cX9_matches 68 = .ok (.iconst 1, 1) := by decide +kernel
theorem dX9_matches_69 : decode cX9_matches 69 = .ok (.iadd, 1) := by decide +kernel
theorem dX9_matches_70 : decode cX9_matches 70 = .ok (.iaload, 1) := by decide +kernel
theorem dX9_matches_71 : decode cX9_matches 71 = .ok (.if_icmp .eq 27, 3) := by decide +kernel
theorem dX9_matches_74 : decode cX9_matches 74 = .ok (.aload_n 0, 1) := by decide +kernel
theorem dX9_matches_75 : decode cX9_matches 75 = .ok (.getfield 22, 3) := by decide +kernel
theorem dX9_matches_78 : decode cX9_matches 78 = .ok (.iload_n 1, 1) := by decide +kernel
theorem dX9_matches_79 : decode cX9_matches 79 = .ok (.iload 6, 2) := by decide +kernel
theorem dX9_matches_81 : decode cX9_matches 81 = .ok (.iadd, 1) := by decide +kernel
theorem dX9_matches_82 : decode cX9_matches 82 = .ok (.iaload, 1) := by decide +kernel
theorem dX9_matches_83 : decode cX9_matches 83 = .ok (.aload_n 0, 1) := by decide +kernel
theorem dX9_matches_84 : decode cX9_matches 84 = .ok (.getfield 28, 3) := by decide +kernel
theorem dX9_matches_87 : decode cX9_matches 87 = .ok (.iload_n 3, 1) := by decide +kernel
theorem dX9_matches_88 : decode cX9_matches 88 = .ok (.bipush 6, 2) := by decide +kernel
theorem dX9_matches_90 : decode cX9_matches 90 = .ok (.iadd, 1) := by decide +kernel
theorem dX9_matches_91 : decode cX9_matches 91 = .ok (.iload 6, 2) := by decide +kernel
theorem dX9_matches_93 : decode cX9_matches 93 = .ok (.iadd, 1) := by decide +kernel
theorem dX9_matches_94 : decode cX9_matches 94 = .ok (.iaload, 1) := by decide +kernel
theorem dX9_matches_95 : decode cX9_matches 95 = .ok (.if_icmp .ne 7, 3) := by decide +kernel
theorem dX9_matches_98 : decode cX9_matches 98 = .ok (.iconst 1, 1) := by decide +kernel
theorem dX9_matches_99 : decode cX9_matches 99 = .ok (.goto 4, 3) := by decide +kernel
theorem dX9_matches_102 : decode cX9_matches 102 = .ok (.iconst 0, 1) := by decide +kernel
theorem dX9_matches_103 : decode cX9_matches 103 = .ok (.istore 5, 2) := by decide +kernel
theorem dX9_matches_105 : decode cX9_matches 105 = .ok (.iinc 6 1, 3) := by decide +kernel
theorem dX9_matches_108 : decode cX9_matches 108 = .ok (.goto (-82), 3) := by decide +kernel
theorem dX9_matches_111 : decode cX9_matches 111 = .ok (.iload 5, 2) := by decide +kernel
theorem dX9_matches_113 : decode cX9_matches 113 = .ok (.ireturn, 1) := by decide +kernel
theorem dX9_lays_0 : decode cX9_lays 0 = .ok (.aload_n 0, 1) := by decide +kernel
theorem dX9_lays_1 : decode cX9_lays 1 = .ok (.iload_n 1, 1) := by decide +kernel
theorem dX9_lays_2 : decode cX9_lays 2 = .ok (.invokevirtual 116, 3) := by decide +kernel
theorem dX9_lays_5 : decode cX9_lays 5 = .ok (.istore 5, 2) := by decide +kernel
theorem dX9_lays_7 : decode cX9_lays 7 = .ok (.aload_n 0, 1) := by decide +kernel
theorem dX9_lays_8 : decode cX9_lays 8 = .ok (.getfield 28, 3) := by decide +kernel
theorem dX9_lays_11 : decode cX9_lays 11 = .ok (.iload 5, 2) := by decide +kernel
theorem dX9_lays_13 : decode cX9_lays 13 = .ok (.iload_n 3, 1) := by decide +kernel
theorem dX9_lays_14 : decode cX9_lays 14 = .ok (.iastore, 1) := by decide +kernel
theorem dX9_lays_15 : decode cX9_lays 15 = .ok (.aload_n 0, 1) := by decide +kernel
theorem dX9_lays_16 : decode cX9_lays 16 = .ok (.getfield 28, 3) := by decide +kernel
theorem dX9_lays_19 : decode cX9_lays 19 = .ok (.iload 5, 2) := by decide +kernel
theorem dX9_lays_21 : decode cX9_lays 21 = .ok (.iconst 1, 1) := by decide +kernel
theorem dX9_lays_22 : decode cX9_lays 22 = .ok (.iadd, 1) := by decide +kernel
theorem dX9_lays_23 : decode cX9_lays 23 = .ok (.iload 4, 2) := by decide +kernel
theorem dX9_lays_25 : decode cX9_lays 25 = .ok (.ifCond .ge 8, 3) := by decide +kernel
theorem dX9_lays_28 : decode cX9_lays 28 = .ok (.bipush (-4), 2) := by decide +kernel
theorem dX9_lays_30 : decode cX9_lays 30 = .ok (.goto 5, 3) := by decide +kernel
theorem dX9_lays_33 : decode cX9_lays 33 = .ok (.iload 4, 2) := by decide +kernel
theorem dX9_lays_35 : decode cX9_lays 35 = .ok (.iastore, 1) := by decide +kernel
theorem dX9_lays_36 : decode cX9_lays 36 = .ok (.iconst 0, 1) := by decide +kernel
theorem dX9_lays_37 : decode cX9_lays 37 = .ok (.istore 6, 2) := by decide +kernel
theorem dX9_lays_39 : decode cX9_lays 39 = .ok (.iload 6, 2) := by decide +kernel
theorem dX9_lays_41 : decode cX9_lays 41 = .ok (.iconst 4, 1) := by decide +kernel
theorem dX9_lays_42 : decode cX9_lays 42 = .ok (.if_icmp .ge 80, 3) := by decide +kernel
theorem dX9_lays_45 : decode cX9_lays 45 = .ok (.aload_n 0, 1) := by decide +kernel
theorem dX9_lays_46 : decode cX9_lays 46 = .ok (.getfield 28, 3) := by decide +kernel
theorem dX9_lays_49 : decode cX9_lays 49 = .ok (.iload 5, 2) := by decide +kernel
theorem dX9_lays_51 : decode cX9_lays 51 = .ok (.iconst 2, 1) := by decide +kernel
theorem dX9_lays_52 : decode cX9_lays 52 = .ok (.iadd, 1) := by decide +kernel
theorem dX9_lays_53 : decode cX9_lays 53 = .ok (.iload 6, 2) := by decide +kernel
theorem dX9_lays_55 : decode cX9_lays 55 = .ok (.iadd, 1) := by decide +kernel
theorem dX9_lays_56 : decode cX9_lays 56 = .ok (.iload 6, 2) := by decide +kernel
theorem dX9_lays_58 : decode cX9_lays 58 = .ok (.iload_n 3, 1) := by decide +kernel
theorem dX9_lays_59 : decode cX9_lays 59 = .ok (.if_icmp .ge 15, 3) := by decide +kernel
theorem dX9_lays_62 : decode cX9_lays 62 = .ok (.aload_n 0, 1) := by decide +kernel
theorem dX9_lays_63 : decode cX9_lays 63 = .ok (.getfield 19, 3) := by decide +kernel
theorem dX9_lays_66 : decode cX9_lays 66 = .ok (.iload_n 2, 1) := by decide +kernel
theorem dX9_lays_67 : decode cX9_lays 67 = .ok (.iload 6, 2) := by decide +kernel
theorem dX9_lays_69 : decode cX9_lays 69 = .ok (.iadd, 1) := by decide +kernel
theorem dX9_lays_70 : decode cX9_lays 70 = .ok (.iaload, 1) := by decide +kernel
theorem dX9_lays_71 : decode cX9_lays 71 = .ok (.goto 4, 3) := by decide +kernel
theorem dX9_lays_74 : decode cX9_lays 74 = .ok (.iconst 0, 1) := by decide +kernel
theorem dX9_lays_75 : decode cX9_lays 75 = .ok (.iastore, 1) := by decide +kernel
theorem dX9_lays_76 : decode cX9_lays 76 = .ok (.aload_n 0, 1) := by decide +kernel
theorem dX9_lays_77 : decode cX9_lays 77 = .ok (.getfield 28, 3) := by decide +kernel
theorem dX9_lays_80 : decode cX9_lays 80 = .ok (.iload 5, 2) := by decide +kernel
theorem dX9_lays_82 : decode cX9_lays 82 = .ok (.bipush 6, 2) := by decide +kernel
theorem dX9_lays_84 : decode cX9_lays 84 = .ok (.iadd, 1) := by decide +kernel
theorem dX9_lays_85 : decode cX9_lays 85 = .ok (.iload 6, 2) := by decide +kernel
theorem dX9_lays_87 : decode cX9_lays 87 = .ok (.iadd, 1) := by decide +kernel
theorem dX9_lays_88 : decode cX9_lays 88 = .ok (.iload 6, 2) := by decide +kernel
theorem dX9_lays_90 : decode cX9_lays 90 = .ok (.iload_n 3, 1) := by decide +kernel
theorem dX9_lays_91 : decode cX9_lays 91 = .ok (.if_icmp .ge 22, 3) := by decide +kernel
theorem dX9_lays_94 : decode cX9_lays 94 = .ok (.iload 6, 2) := by decide +kernel
theorem dX9_lays_96 : decode cX9_lays 96 = .ok (.iload 4, 2) := by decide +kernel
theorem dX9_lays_98 : decode cX9_lays 98 = .ok (.if_icmp .eq 15, 3) := by decide +kernel
theorem dX9_lays_101 : decode cX9_lays 101 = .ok (.aload_n 0, 1) := by decide +kernel
theorem dX9_lays_102 : decode cX9_lays 102 = .ok (.getfield 22, 3) := by decide +kernel
theorem dX9_lays_105 : decode cX9_lays 105 = .ok (.iload_n 2, 1) := by decide +kernel
theorem dX9_lays_106 : decode cX9_lays 106 = .ok (.iload 6, 2) := by decide +kernel
theorem dX9_lays_108 : decode cX9_lays 108 = .ok (.iadd, 1) := by decide +kernel
theorem dX9_lays_109 : decode cX9_lays 109 = .ok (.iaload, 1) := by decide +kernel
theorem dX9_lays_110 : decode cX9_lays 110 = .ok (.goto 5, 3) := by decide +kernel
theorem dX9_lays_113 : decode cX9_lays 113 = .ok (.bipush (-4), 2) := by decide +kernel
theorem dX9_lays_115 : decode cX9_lays 115 = .ok (.iastore, 1) := by decide +kernel
theorem dX9_lays_116 : decode cX9_lays 116 = .ok (.iinc 6 1, 3) := by decide +kernel
theorem dX9_lays_119 : decode cX9_lays 119 = .ok (.goto (-80), 3) := by decide +kernel
theorem dX9_lays_122 : decode cX9_lays 122 = .ok (.return_, 1) := by decide +kernel
theorem dX9_hasLike_0 : decode cX9_hasLike 0 = .ok (.aload_n 0, 1) := by decide +kernel
theorem dX9_hasLike_1 : decode cX9_hasLike 1 = .ok (.bipush 8, 2) := by decide +kernel
theorem dX9_hasLike_3 : decode cX9_hasLike 3 = .ok (.iload_n 1, 1) := by decide +kernel
theorem dX9_hasLike_4 : decode cX9_hasLike 4 = .ok (.iload_n 2, 1) := by decide +kernel
theorem dX9_hasLike_5 : decode cX9_hasLike 5 = .ok (.iload_n 3, 1) := by decide +kernel
theorem dX9_hasLike_6 : decode cX9_hasLike 6 = .ok (.invokevirtual 123, 3) := by decide +kernel
theorem dX9_hasLike_9 : decode cX9_hasLike 9 = .ok (.iconst 0, 1) := by decide +kernel
theorem dX9_hasLike_10 : decode cX9_hasLike 10 = .ok (.istore 4, 2) := by decide +kernel
theorem dX9_hasLike_12 : decode cX9_hasLike 12 = .ok (.iconst 0, 1) := by decide +kernel
theorem dX9_hasLike_13 : decode cX9_hasLike 13 = .ok (.istore 5, 2) := by decide +kernel
theorem dX9_hasLike_15 : decode cX9_hasLike 15 = .ok (.iload 5, 2) := by decide +kernel
theorem dX9_hasLike_17 : decode cX9_hasLike 17 = .ok (.aload_n 0, 1) := by decide +kernel
theorem dX9_hasLike_18 : decode cX9_hasLike 18 = .ok (.getfield 28, 3) := by decide +kernel
theorem dX9_hasLike_21 : decode cX9_hasLike 21 = .ok (.bipush 82, 2) := by decide +kernel
theorem dX9_hasLike_23 : decode cX9_hasLike 23 = .ok (.iaload, 1) := by decide +kernel
theorem dX9_hasLike_24 : decode cX9_hasLike 24 = .ok (.if_icmp .ge 83, 3) := by decide +kernel
theorem dX9_hasLike_27 : decode cX9_hasLike 27 = .ok (.iconst 1, 1) := by decide +kernel
theorem dX9_hasLike_28 : decode cX9_hasLike 28 = .ok (.istore 6, 2) := by decide +kernel
theorem dX9_hasLike_30 : decode cX9_hasLike 30 = .ok (.iconst 0, 1) := by decide +kernel
theorem dX9_hasLike_31 : decode cX9_hasLike 31 = .ok (.istore 7, 2) := by decide +kernel
theorem dX9_hasLike_33 : decode cX9_hasLike 33 = .ok (.iload 7, 2) := by decide +kernel
theorem dX9_hasLike_35 : decode cX9_hasLike 35 = .ok (.bipush 10, 2) := by decide +kernel
theorem dX9_hasLike_37 : decode cX9_hasLike 37 = .ok (.if_icmp .ge 47, 3) := by decide +kernel
theorem dX9_hasLike_40 : decode cX9_hasLike 40 = .ok (.iload 6, 2) := by decide +kernel
theorem dX9_hasLike_42 : decode cX9_hasLike 42 = .ok (.ifCond .eq 33, 3) := by decide +kernel
theorem dX9_hasLike_45 : decode cX9_hasLike 45 = .ok (.aload_n 0, 1) := by decide +kernel
theorem dX9_hasLike_46 : decode cX9_hasLike 46 = .ok (.getfield 28, 3) := by decide +kernel
theorem dX9_hasLike_49 : decode cX9_hasLike 49 = .ok (.bipush 10, 2) := by decide +kernel
theorem dX9_hasLike_51 : decode cX9_hasLike 51 = .ok (.iload 5, 2) := by decide +kernel
theorem dX9_hasLike_53 : decode cX9_hasLike 53 = .ok (.imul, 1) := by decide +kernel
theorem dX9_hasLike_54 : decode cX9_hasLike 54 = .ok (.iload 7, 2) := by decide +kernel
theorem dX9_hasLike_56 : decode cX9_hasLike 56 = .ok (.iadd, 1) := by decide +kernel
theorem dX9_hasLike_57 : decode cX9_hasLike 57 = .ok (.iaload, 1) := by decide +kernel
theorem dX9_hasLike_58 : decode cX9_hasLike 58 = .ok (.aload_n 0, 1) := by decide +kernel
theorem dX9_hasLike_59 : decode cX9_hasLike 59 = .ok (.getfield 28, 3) := by decide +kernel
theorem dX9_hasLike_62 : decode cX9_hasLike 62 = .ok (.bipush 83, 2) := by decide +kernel
theorem dX9_hasLike_64 : decode cX9_hasLike 64 = .ok (.iload 7, 2) := by decide +kernel
theorem dX9_hasLike_66 : decode cX9_hasLike 66 = .ok (.iadd, 1) := by decide +kernel
theorem dX9_hasLike_67 : decode cX9_hasLike 67 = .ok (.iaload, 1) := by decide +kernel
theorem dX9_hasLike_68 : decode cX9_hasLike 68 = .ok (.if_icmp .ne 7, 3) := by decide +kernel
theorem dX9_hasLike_71 : decode cX9_hasLike 71 = .ok (.iconst 1, 1) := by decide +kernel
theorem dX9_hasLike_72 : decode cX9_hasLike 72 = .ok (.goto 4, 3) := by decide +kernel
theorem dX9_hasLike_75 : decode cX9_hasLike 75 = .ok (.iconst 0, 1) := by decide +kernel
theorem dX9_hasLike_76 : decode cX9_hasLike 76 = .ok (.istore 6, 2) := by decide +kernel
theorem dX9_hasLike_78 : decode cX9_hasLike 78 = .ok (.iinc 7 1, 3) := by decide +kernel
theorem dX9_hasLike_81 : decode cX9_hasLike 81 = .ok (.goto (-48), 3) := by decide +kernel
theorem dX9_hasLike_84 : decode cX9_hasLike 84 = .ok (.iload 4, 2) := by decide +kernel
theorem dX9_hasLike_86 : decode cX9_hasLike 86 = .ok (.ifCond .ne 8, 3) := by decide +kernel
theorem dX9_hasLike_89 : decode cX9_hasLike 89 = .ok (.iload 6, 2) := by decide +kernel
theorem dX9_hasLike_91 : decode cX9_hasLike 91 = .ok (.ifCond .eq 7, 3) := by decide +kernel
theorem dX9_hasLike_94 : decode cX9_hasLike 94 = .ok (.iconst 1, 1) := by decide +kernel
theorem dX9_hasLike_95 : decode cX9_hasLike 95 = .ok (.goto 4, 3) := by decide +kernel
theorem dX9_hasLike_98 : decode cX9_hasLike 98 = .ok (.iconst 0, 1) := by decide +kernel
theorem dX9_hasLike_99 : decode cX9_hasLike 99 = .ok (.istore 4, 2) := by decide +kernel
theorem dX9_hasLike_101 : decode cX9_hasLike 101 = .ok (.iinc 5 1, 3) := by decide +kernel
theorem dX9_hasLike_104 : decode cX9_hasLike 104 = .ok (.goto (-89), 3) := by decide +kernel
theorem dX9_hasLike_107 : decode cX9_hasLike 107 = .ok (.iload 4, 2) := by decide +kernel
theorem dX9_hasLike_109 : decode cX9_hasLike 109 = .ok (.ireturn, 1) := by decide +kernel
theorem dX9_refers_0 : decode cX9_refers 0 = .ok (.aload_n 0, 1) := by decide +kernel
theorem dX9_refers_1 : decode cX9_refers 1 = .ok (.getfield 28, 3) := by decide +kernel
theorem dX9_refers_4 : decode cX9_refers 4 = .ok (.aload_n 0, 1) := by decide +kernel
theorem dX9_refers_5 : decode cX9_refers 5 = .ok (.iload_n 1, 1) := by decide +kernel
theorem dX9_refers_6 : decode cX9_refers 6 = .ok (.invokevirtual 116, 3) := by decide +kernel
theorem dX9_refers_9 : decode cX9_refers 9 = .ok (.iconst 1, 1) := by decide +kernel
theorem dX9_refers_10 : decode cX9_refers 10 = .ok (.iadd, 1) := by decide +kernel
theorem dX9_refers_11 : decode cX9_refers 11 = .ok (.iaload, 1) := by decide +kernel
theorem dX9_refers_12 : decode cX9_refers 12 = .ok (.bipush (-4), 2) := by decide +kernel
theorem dX9_refers_14 : decode cX9_refers 14 = .ok (.if_icmp .ne 7, 3) := by decide +kernel
theorem dX9_refers_17 : decode cX9_refers 17 = .ok (.iconst 2, 1) := by decide +kernel
theorem dX9_refers_18 : decode cX9_refers 18 = .ok (.goto 4, 3) := by decide +kernel
theorem dX9_refers_21 : decode cX9_refers 21 = .ok (.iconst 3, 1) := by decide +kernel
theorem dX9_refers_22 : decode cX9_refers 22 = .ok (.ireturn, 1) := by decide +kernel
theorem dX9_own_0 : decode cX9_own 0 = .ok (.iload_n 0, 1) := by decide +kernel
theorem dX9_own_1 : decode cX9_own 1 = .ok (.invokestatic 86, 3) := by decide +kernel
theorem dX9_own_4 : decode cX9_own 4 = .ok (.ifCond .eq 7, 3) := by decide +kernel
theorem dX9_own_7 : decode cX9_own 7 = .ok (.iconst 2, 1) := by decide +kernel
theorem dX9_own_8 : decode cX9_own 8 = .ok (.goto 15, 3) := by decide +kernel
theorem dX9_own_11 : decode cX9_own 11 = .ok (.iload_n 0, 1) := by decide +kernel
theorem dX9_own_12 : decode cX9_own 12 = .ok (.invokestatic 90, 3) := by decide +kernel
theorem dX9_own_15 : decode cX9_own 15 = .ok (.ifCond .eq 7, 3) := by decide +kernel
theorem dX9_own_18 : decode cX9_own 18 = .ok (.iconst 4, 1) := by decide +kernel
theorem dX9_own_19 : decode cX9_own 19 = .ok (.goto 4, 3) := by decide +kernel
theorem dX9_own_22 : decode cX9_own 22 = .ok (.iconst 1, 1) := by decide +kernel
theorem dX9_own_23 : decode cX9_own 23 = .ok (.ireturn, 1) := by decide +kernel
theorem dX9_coverWith_0 : decode cX9_coverWith 0 = .ok (.aload_n 0, 1) := by decide +kernel
theorem dX9_coverWith_1 : decode cX9_coverWith 1 = .ok (.getfield 34, 3) := by decide +kernel
theorem dX9_coverWith_4 : decode cX9_coverWith 4 = .ok (.aload_n 0, 1) := by decide +kernel
theorem dX9_coverWith_5 : decode cX9_coverWith 5 = .ok (.getfield 103, 3) := by decide +kernel
theorem dX9_coverWith_8 : decode cX9_coverWith 8 = .ok (.iconst 0, 1) := by decide +kernel
theorem dX9_coverWith_9 : decode cX9_coverWith 9 = .ok (.iastore, 1) := by decide +kernel
theorem dX9_coverWith_10 : decode cX9_coverWith 10 = .ok (.aload_n 0, 1) := by decide +kernel
theorem dX9_coverWith_11 : decode cX9_coverWith 11 = .ok (.getfield 103, 3) := by decide +kernel
theorem dX9_coverWith_14 : decode cX9_coverWith 14 = .ok (.iconst 1, 1) := by decide +kernel
theorem dX9_coverWith_15 : decode cX9_coverWith 15 = .ok (.isub, 1) := by decide +kernel
theorem dX9_coverWith_16 : decode cX9_coverWith 16 = .ok (.istore_n 2, 1) := by decide +kernel
theorem dX9_coverWith_17 : decode cX9_coverWith 17 = .ok (.iload_n 2, 1) := by decide +kernel
theorem dX9_coverWith_18 : decode cX9_coverWith 18 = .ok (.ifCond .lt 183, 3) := by decide +kernel
theorem dX9_coverWith_21 : decode cX9_coverWith 21 = .ok (.aload_n 0, 1) := by decide +kernel
theorem dX9_coverWith_22 : decode cX9_coverWith 22 = .ok (.getfield 34, 3) := by decide +kernel
theorem dX9_coverWith_25 : decode cX9_coverWith 25 = .ok (.iload_n 2, 1) := by decide +kernel
theorem dX9_coverWith_26 : decode cX9_coverWith 26 = .ok (.aload_n 0, 1) := by decide +kernel
theorem dX9_coverWith_27 : decode cX9_coverWith 27 = .ok (.getfield 19, 3) := by decide +kernel
theorem dX9_coverWith_30 : decode cX9_coverWith 30 = .ok (.iload_n 2, 1) := by decide +kernel
theorem dX9_coverWith_31 : decode cX9_coverWith 31 = .ok (.iaload, 1) := by decide +kernel
theorem dX9_coverWith_32 : decode cX9_coverWith 32 = .ok (.invokestatic 127, 3) := by decide +kernel
theorem dX9_coverWith_35 : decode cX9_coverWith 35 = .ok (.aload_n 0, 1) := by decide +kernel
theorem dX9_coverWith_36 : decode cX9_coverWith 36 = .ok (.getfield 34, 3) := by decide +kernel
theorem dX9_coverWith_39 : decode cX9_coverWith 39 = .ok (.iload_n 2, 1) := by decide +kernel
theorem dX9_coverWith_40 : decode cX9_coverWith 40 = .ok (.iconst 1, 1) := by decide +kernel
theorem dX9_coverWith_41 : decode cX9_coverWith 41 = .ok (.iadd, 1) := by decide +kernel
theorem dX9_coverWith_42 : decode cX9_coverWith 42 = .ok (.iaload, 1) := by decide +kernel
theorem dX9_coverWith_43 : decode cX9_coverWith 43 = .ok (.iadd, 1) := by decide +kernel
theorem dX9_coverWith_44 : decode cX9_coverWith 44 = .ok (.iastore, 1) := by decide +kernel
theorem dX9_coverWith_45 : decode cX9_coverWith 45 = .ok (.aload_n 0, 1) := by decide +kernel
theorem dX9_coverWith_46 : decode cX9_coverWith 46 = .ok (.getfield 37, 3) := by decide +kernel
theorem dX9_coverWith_49 : decode cX9_coverWith 49 = .ok (.iload_n 2, 1) := by decide +kernel
theorem dX9_coverWith_50 : decode cX9_coverWith 50 = .ok (.bipush (-4), 2) := by decide +kernel
theorem dX9_coverWith_52 : decode cX9_coverWith 52 = .ok (.iastore, 1) := by decide +kernel
theorem dX9_coverWith_53 : decode cX9_coverWith 53 = .ok (.iconst 0, 1) := by decide +kernel
theorem dX9_coverWith_54 : decode cX9_coverWith 54 = .ok (.istore_n 3, 1) := by decide +kernel
theorem dX9_coverWith_55 : decode cX9_coverWith 55 = .ok (.iload_n 3, 1) := by decide +kernel
theorem dX9_coverWith_56 : decode cX9_coverWith 56 = .ok (.aload_n 0, 1) := by decide +kernel
theorem dX9_coverWith_57 : decode cX9_coverWith 57 = .ok (.getfield 28, 3) := by decide +kernel
theorem dX9_coverWith_60 : decode cX9_coverWith 60 = .ok (.bipush 82, 2) := by decide +kernel
theorem dX9_coverWith_62 : decode cX9_coverWith 62 = .ok (.iaload, 1) := by decide +kernel
theorem dX9_coverWith_63 : decode cX9_coverWith 63 = .ok (.if_icmp .gt 132, 3) := by decide +kernel
theorem dX9_coverWith_66 : decode cX9_coverWith 66 = .ok (.iload_n 3, 1) := by decide +kernel
theorem dX9_coverWith_67 : decode cX9_coverWith 67 = .ok (.aload_n 0, 1) := by decide +kernel
theorem dX9_coverWith_68 : decode cX9_coverWith 68 = .ok (.getfield 28, 3) := by decide +kernel
theorem dX9_coverWith_71 : decode cX9_coverWith 71 = .ok (.bipush 82, 2) := by decide +kernel
theorem dX9_coverWith_73 : decode cX9_coverWith 73 = .ok (.iaload, 1) := by decide +kernel
theorem dX9_coverWith_74 : decode cX9_coverWith 74 = .ok (.if_icmp .ge 7, 3) := by decide +kernel
theorem dX9_coverWith_77 : decode cX9_coverWith 77 = .ok (.iload_n 3, 1) := by decide +kernel
theorem dX9_coverWith_78 : decode cX9_coverWith 78 = .ok (.goto 5, 3) := by decide +kernel
theorem dX9_coverWith_81 : decode cX9_coverWith 81 = .ok (.bipush 8, 2) := by decide +kernel
theorem dX9_coverWith_83 : decode cX9_coverWith 83 = .ok (.istore 4, 2) := by decide +kernel
theorem dX9_coverWith_85 : decode cX9_coverWith 85 = .ok (.iload 4, 2) := by decide +kernel
theorem dX9_coverWith_87 : decode cX9_coverWith 87 = .ok (.bipush 8, 2) := by decide +kernel
theorem dX9_coverWith_89 : decode cX9_coverWith 89 = .ok (.if_icmp .lt 7, 3) := by decide +kernel
theorem dX9_coverWith_92 : decode cX9_coverWith 92 = .ok (.iload_n 1, 1) := by decide +kernel
theorem dX9_coverWith_93 : decode cX9_coverWith 93 = .ok (.ifCond .eq 96, 3) := by decide +kernel
theorem dX9_coverWith_96 : decode cX9_coverWith 96 = .ok (.aload_n 0, 1) := by decide +kernel
theorem dX9_coverWith_97 : decode cX9_coverWith 97 = .ok (.iload_n 2, 1) := by decide +kernel
theorem dX9_coverWith_98 : decode cX9_coverWith 98 = .ok (.iload 4, 2) := by decide +kernel
theorem dX9_coverWith_100 : decode cX9_coverWith 100 = .ok (.invokevirtual 130, 3) := by decide +kernel
theorem dX9_coverWith_103 : decode cX9_coverWith 103 = .ok (.ifCond .eq 86, 3) := by decide +kernel
theorem dX9_coverWith_106 : decode cX9_coverWith 106 = .ok (.aload_n 0, 1) := by decide +kernel
theorem dX9_coverWith_107 : decode cX9_coverWith 107 = .ok (.iload 4, 2) := by decide +kernel
theorem dX9_coverWith_109 : decode cX9_coverWith 109 = .ok (.invokevirtual 133, 3) := by decide +kernel
theorem dX9_coverWith_112 : decode cX9_coverWith 112 = .ok (.aload_n 0, 1) := by decide +kernel
theorem dX9_coverWith_113 : decode cX9_coverWith 113 = .ok (.getfield 34, 3) := by decide +kernel
theorem dX9_coverWith_116 : decode cX9_coverWith 116 = .ok (.iload_n 2, 1) := by decide +kernel
theorem dX9_coverWith_117 : decode cX9_coverWith 117 = .ok (.aload_n 0, 1) := by decide +kernel
theorem dX9_coverWith_118 : decode cX9_coverWith 118 = .ok (.getfield 28, 3) := by decide +kernel
theorem dX9_coverWith_121 : decode cX9_coverWith 121 = .ok (.aload_n 0, 1) := by decide +kernel
theorem dX9_coverWith_122 : decode cX9_coverWith 122 = .ok (.iload 4, 2) := by decide +kernel
theorem dX9_coverWith_124 : decode cX9_coverWith 124 = .ok (.invokevirtual 116, 3) := by decide +kernel
theorem dX9_coverWith_127 : decode cX9_coverWith 127 = .ok (.iaload, 1) := by decide +kernel
theorem dX9_coverWith_128 : decode cX9_coverWith 128 = .ok (.iadd, 1) := by decide +kernel
theorem dX9_coverWith_129 : decode cX9_coverWith 129 = .ok (.iaload, 1) := by decide +kernel
theorem dX9_coverWith_130 : decode cX9_coverWith 130 = .ok (.iadd, 1) := by decide +kernel
theorem dX9_coverWith_131 : decode cX9_coverWith 131 = .ok (.istore 5, 2) := by decide +kernel
theorem dX9_coverWith_133 : decode cX9_coverWith 133 = .ok (.aload_n 0, 1) := by decide +kernel
theorem dX9_coverWith_134 : decode cX9_coverWith 134 = .ok (.getfield 37, 3) := by decide +kernel
theorem dX9_coverWith_137 : decode cX9_coverWith 137 = .ok (.iload_n 2, 1) := by decide +kernel
theorem dX9_coverWith_138 : decode cX9_coverWith 138 = .ok (.iload 5, 2) := by decide +kernel
theorem dX9_coverWith_140 : decode cX9_coverWith 140 = .ok (.aload_n 0, 1) := by decide +kernel
theorem dX9_coverWith_141 : decode cX9_coverWith 141 = .ok (.getfield 34, 3) := by decide +kernel
theorem dX9_coverWith_144 : decode cX9_coverWith 144 = .ok (.iload_n 2, 1) := by decide +kernel
theorem dX9_coverWith_145 : decode cX9_coverWith 145 = .ok (.iaload, 1) := by decide +kernel
theorem dX9_coverWith_146 : decode cX9_coverWith 146 = .ok (.if_icmp .ge 8, 3) := by decide +kernel
theorem dX9_coverWith_149 : decode cX9_coverWith 149 = .ok (.iload 4, 2) := by decide +kernel
theorem dX9_coverWith_151 : decode cX9_coverWith 151 = .ok (.goto 9, 3) := by decide +kernel
theorem dX9_coverWith_154 : decode cX9_coverWith 154 = .ok (.aload_n 0, 1) := by decide +kernel
theorem dX9_coverWith_155 : decode cX9_coverWith 155 = .ok (.getfield 37, 3) := by decide +kernel
theorem dX9_coverWith_158 : decode cX9_coverWith 158 = .ok (.iload_n 2, 1) := by decide +kernel
theorem dX9_coverWith_159 : decode cX9_coverWith 159 = .ok (.iaload, 1) := by decide +kernel
theorem dX9_coverWith_160 : decode cX9_coverWith 160 = .ok (.iastore, 1) := by decide +kernel
theorem dX9_coverWith_161 : decode cX9_coverWith 161 = .ok (.aload_n 0, 1) := by decide +kernel
theorem dX9_coverWith_162 : decode cX9_coverWith 162 = .ok (.getfield 34, 3) := by decide +kernel
theorem dX9_coverWith_165 : decode cX9_coverWith 165 = .ok (.iload_n 2, 1) := by decide +kernel
theorem dX9_coverWith_166 : decode cX9_coverWith 166 = .ok (.iload 5, 2) := by decide +kernel
theorem dX9_coverWith_168 : decode cX9_coverWith 168 = .ok (.aload_n 0, 1) := by decide +kernel
theorem dX9_coverWith_169 : decode cX9_coverWith 169 = .ok (.getfield 34, 3) := by decide +kernel
theorem dX9_coverWith_172 : decode cX9_coverWith 172 = .ok (.iload_n 2, 1) := by decide +kernel
theorem dX9_coverWith_173 : decode cX9_coverWith 173 = .ok (.iaload, 1) := by decide +kernel
theorem dX9_coverWith_174 : decode cX9_coverWith 174 = .ok (.if_icmp .ge 8, 3) := by decide +kernel
theorem dX9_coverWith_177 : decode cX9_coverWith 177 = .ok (.iload 5, 2) := by decide +kernel
theorem dX9_coverWith_179 : decode cX9_coverWith 179 = .ok (.goto 9, 3) := by decide +kernel
theorem dX9_coverWith_182 : decode cX9_coverWith 182 = .ok (.aload_n 0, 1) := by decide +kernel
theorem dX9_coverWith_183 : decode cX9_coverWith 183 = .ok (.getfield 34, 3) := by decide +kernel
theorem dX9_coverWith_186 : decode cX9_coverWith 186 = .ok (.iload_n 2, 1) := by decide +kernel
theorem dX9_coverWith_187 : decode cX9_coverWith 187 = .ok (.iaload, 1) := by decide +kernel
theorem dX9_coverWith_188 : decode cX9_coverWith 188 = .ok (.iastore, 1) := by decide +kernel
theorem dX9_coverWith_189 : decode cX9_coverWith 189 = .ok (.iinc 3 1, 3) := by decide +kernel
theorem dX9_coverWith_192 : decode cX9_coverWith 192 = .ok (.goto (-137), 3) := by decide +kernel
theorem dX9_coverWith_195 : decode cX9_coverWith 195 = .ok (.iinc 2 (-1), 3) := by decide +kernel
theorem dX9_coverWith_198 : decode cX9_coverWith 198 = .ok (.goto (-181), 3) := by decide +kernel
theorem dX9_coverWith_201 : decode cX9_coverWith 201 = .ok (.aload_n 0, 1) := by decide +kernel
theorem dX9_coverWith_202 : decode cX9_coverWith 202 = .ok (.getfield 34, 3) := by decide +kernel
theorem dX9_coverWith_205 : decode cX9_coverWith 205 = .ok (.iconst 0, 1) := by decide +kernel
theorem dX9_coverWith_206 : decode cX9_coverWith 206 = .ok (.iaload, 1) := by decide +kernel
theorem dX9_coverWith_207 : decode cX9_coverWith 207 = .ok (.ireturn, 1) := by decide +kernel
theorem dX9_tableSize_0 : decode cX9_tableSize 0 = .ok (.iconst 0, 1) := by decide +kernel
theorem dX9_tableSize_1 : decode cX9_tableSize 1 = .ok (.istore_n 1, 1) := by decide +kernel
theorem dX9_tableSize_2 : decode cX9_tableSize 2 = .ok (.iconst 0, 1) := by decide +kernel
theorem dX9_tableSize_3 : decode cX9_tableSize 3 = .ok (.istore_n 2, 1) := by decide +kernel
theorem dX9_tableSize_4 : decode cX9_tableSize 4 = .ok (.iload_n 2, 1) := by decide +kernel
theorem dX9_tableSize_5 : decode cX9_tableSize 5 = .ok (.aload_n 0, 1) := by decide +kernel
theorem dX9_tableSize_6 : decode cX9_tableSize 6 = .ok (.getfield 28, 3) := by decide +kernel
theorem dX9_tableSize_9 : decode cX9_tableSize 9 = .ok (.bipush 82, 2) := by decide +kernel
theorem dX9_tableSize_11 : decode cX9_tableSize 11 = .ok (.iaload, 1) := by decide +kernel
theorem dX9_tableSize_12 : decode cX9_tableSize 12 = .ok (.if_icmp .ge 25, 3) := by decide +kernel
theorem dX9_tableSize_15 : decode cX9_tableSize 15 = .ok (.iload_n 1, 1) := by decide +kernel
theorem dX9_tableSize_16 : decode cX9_tableSize 16 = .ok (.iconst 1, 1) := by decide +kernel
theorem dX9_tableSize_17 : decode cX9_tableSize 17 = .ok (.iconst 2, 1) := by decide +kernel
theorem dX9_tableSize_18 : decode cX9_tableSize 18 = .ok (.aload_n 0, 1) := by decide +kernel
theorem dX9_tableSize_19 : decode cX9_tableSize 19 = .ok (.getfield 28, 3) := by decide +kernel
theorem dX9_tableSize_22 : decode cX9_tableSize 22 = .ok (.bipush 10, 2) := by decide +kernel
theorem dX9_tableSize_24 : decode cX9_tableSize 24 = .ok (.iload_n 2, 1) := by decide +kernel
theorem dX9_tableSize_25 : decode cX9_tableSize 25 = .ok (.imul, 1) := by decide +kernel
theorem dX9_tableSize_26 : decode cX9_tableSize 26 = .ok (.iaload, 1) := by decide +kernel
theorem dX9_tableSize_27 : decode cX9_tableSize 27 = .ok (.imul, 1) := by decide +kernel
theorem dX9_tableSize_28 : decode cX9_tableSize 28 = .ok (.iadd, 1) := by decide +kernel
theorem dX9_tableSize_29 : decode cX9_tableSize 29 = .ok (.iadd, 1) := by decide +kernel
theorem dX9_tableSize_30 : decode cX9_tableSize 30 = .ok (.istore_n 1, 1) := by decide +kernel
theorem dX9_tableSize_31 : decode cX9_tableSize 31 = .ok (.iinc 2 1, 3) := by decide +kernel
theorem dX9_tableSize_34 : decode cX9_tableSize 34 = .ok (.goto (-30), 3) := by decide +kernel
theorem dX9_tableSize_37 : decode cX9_tableSize 37 = .ok (.iload_n 1, 1) := by decide +kernel
theorem dX9_tableSize_38 : decode cX9_tableSize 38 = .ok (.ireturn, 1) := by decide +kernel
theorem dX9_lines_0 : decode cX9_lines 0 = .ok (.aload_n 0, 1) := by decide +kernel
theorem dX9_lines_1 : decode cX9_lines 1 = .ok (.getfield 103, 3) := by decide +kernel
theorem dX9_lines_4 : decode cX9_lines 4 = .ok (.aload_n 0, 1) := by decide +kernel
theorem dX9_lines_5 : decode cX9_lines 5 = .ok (.getfield 28, 3) := by decide +kernel
theorem dX9_lines_8 : decode cX9_lines 8 = .ok (.bipush 80, 2) := by decide +kernel
theorem dX9_lines_10 : decode cX9_lines 10 = .ok (.iaload, 1) := by decide +kernel
theorem dX9_lines_11 : decode cX9_lines 11 = .ok (.iadd, 1) := by decide +kernel
theorem dX9_lines_12 : decode cX9_lines 12 = .ok (.iconst 1, 1) := by decide +kernel
theorem dX9_lines_13 : decode cX9_lines 13 = .ok (.isub, 1) := by decide +kernel
theorem dX9_lines_14 : decode cX9_lines 14 = .ok (.aload_n 0, 1) := by decide +kernel
theorem dX9_lines_15 : decode cX9_lines 15 = .ok (.getfield 28, 3) := by decide +kernel
theorem dX9_lines_18 : decode cX9_lines 18 = .ok (.bipush 80, 2) := by decide +kernel
theorem dX9_lines_20 : decode cX9_lines 20 = .ok (.iaload, 1) := by decide +kernel
theorem dX9_lines_21 : decode cX9_lines 21 = .ok (.idiv, 1) := by decide +kernel
theorem dX9_lines_22 : decode cX9_lines 22 = .ok (.ireturn, 1) := by decide +kernel
theorem dX9_cover_0 : decode cX9_cover 0 = .ok (.aload_n 0, 1) := by decide +kernel
theorem dX9_cover_1 : decode cX9_cover 1 = .ok (.iconst 0, 1) := by decide +kernel
theorem dX9_cover_2 : decode cX9_cover 2 = .ok (.invokevirtual 136, 3) := by decide +kernel
theorem dX9_cover_5 : decode cX9_cover 5 = .ok (.pop, 1) := by decide +kernel
theorem dX9_cover_6 : decode cX9_cover 6 = .ok (.iconst 0, 1) := by decide +kernel
theorem dX9_cover_7 : decode cX9_cover 7 = .ok (.istore_n 1, 1) := by decide +kernel
theorem dX9_cover_8 : decode cX9_cover 8 = .ok (.iconst 0, 1) := by decide +kernel
theorem dX9_cover_9 : decode cX9_cover 9 = .ok (.istore_n 2, 1) := by decide +kernel
theorem dX9_cover_10 : decode cX9_cover 10 = .ok (.iload_n 2, 1) := by decide +kernel
theorem dX9_cover_11 : decode cX9_cover 11 = .ok (.aload_n 0, 1) := by decide +kernel
theorem dX9_cover_12 : decode cX9_cover 12 = .ok (.getfield 103, 3) := by decide +kernel
theorem dX9_cover_15 : decode cX9_cover 15 = .ok (.if_icmp .ge 124, 3) := by decide +kernel
theorem dX9_cover_18 : decode cX9_cover 18 = .ok (.aload_n 0, 1) := by decide +kernel
theorem dX9_cover_19 : decode cX9_cover 19 = .ok (.getfield 37, 3) := by decide +kernel
theorem dX9_cover_22 : decode cX9_cover 22 = .ok (.iload_n 2, 1) := by decide +kernel
theorem dX9_cover_23 : decode cX9_cover 23 = .ok (.iaload, 1) := by decide +kernel
theorem dX9_cover_24 : decode cX9_cover 24 = .ok (.bipush (-4), 2) := by decide +kernel
theorem dX9_cover_26 : decode cX9_cover 26 = .ok (.if_icmp .ne 7, 3) := by decide +kernel
theorem dX9_cover_29 : decode cX9_cover 29 = .ok (.iconst 1, 1) := by decide +kernel
theorem dX9_cover_30 : decode cX9_cover 30 = .ok (.goto 17, 3) := by decide +kernel
theorem dX9_cover_33 : decode cX9_cover 33 = .ok (.aload_n 0, 1) := by decide +kernel
theorem dX9_cover_34 : decode cX9_cover 34 = .ok (.getfield 28, 3) := by decide +kernel
theorem dX9_cover_37 : decode cX9_cover 37 = .ok (.bipush 10, 2) := by decide +kernel
theorem dX9_cover_39 : decode cX9_cover 39 = .ok (.aload_n 0, 1) := by decide +kernel
theorem dX9_cover_40 : decode cX9_cover 40 = .ok (.getfield 37, 3) := by decide +kernel
theorem dX9_cover_43 : decode cX9_cover 43 = .ok (.iload_n 2, 1) := by decide +kernel
theorem dX9_cover_44 : decode cX9_cover 44 = .ok (.iaload, 1) := by decide +kernel
theorem dX9_cover_45 : decode cX9_cover 45 = .ok (.imul, 1) := by decide +kernel
theorem dX9_cover_46 : decode cX9_cover 46 = .ok (.iaload, 1) := by decide +kernel
theorem dX9_cover_47 : decode cX9_cover 47 = .ok (.istore_n 3, 1) := by decide +kernel
theorem dX9_cover_48 : decode cX9_cover 48 = .ok (.aload_n 0, 1) := by decide +kernel
theorem dX9_cover_49 : decode cX9_cover 49 = .ok (.getfield 40, 3) := by decide +kernel
theorem dX9_cover_52 : decode cX9_cover 52 = .ok (.iload_n 2, 1) := by decide +kernel
theorem dX9_cover_53 : decode cX9_cover 53 = .ok (.iload_n 1, 1) := by decide +kernel
theorem dX9_cover_54 : decode cX9_cover 54 = .ok (.iastore, 1) := by decide +kernel
theorem dX9_cover_55 : decode cX9_cover 55 = .ok (.iload_n 1, 1) := by decide +kernel
theorem dX9_cover_56 : decode cX9_cover 56 = .ok (.aload_n 0, 1) := by decide +kernel
theorem dX9_cover_57 : decode cX9_cover 57 = .ok (.getfield 37, 3) := by decide +kernel
theorem dX9_cover_60 : decode cX9_cover 60 = .ok (.iload_n 2, 1) := by decide +kernel
theorem dX9_cover_61 : decode cX9_cover 61 = .ok (.iaload, 1) := by decide +kernel
theorem dX9_cover_62 : decode cX9_cover 62 = .ok (.bipush (-4), 2) := by decide +kernel
theorem dX9_cover_64 : decode cX9_cover 64 = .ok (.if_icmp .ne 15, 3) := by decide +kernel
theorem dX9_cover_67 : decode cX9_cover 67 = .ok (.aload_n 0, 1) := by decide +kernel
theorem dX9_cover_68 : decode cX9_cover 68 = .ok (.getfield 19, 3) := by decide +kernel
theorem dX9_cover_71 : decode cX9_cover 71 = .ok (.iload_n 2, 1) := by decide +kernel
theorem dX9_cover_72 : decode cX9_cover 72 = .ok (.iaload, 1) := by decide +kernel
theorem dX9_cover_73 : decode cX9_cover 73 = .ok (.invokestatic 127, 3) := by decide +kernel
theorem dX9_cover_76 : decode cX9_cover 76 = .ok (.goto 13, 3) := by decide +kernel
theorem dX9_cover_79 : decode cX9_cover 79 = .ok (.aload_n 0, 1) := by decide +kernel
theorem dX9_cover_80 : decode cX9_cover 80 = .ok (.aload_n 0, 1) := by decide +kernel
theorem dX9_cover_81 : decode cX9_cover 81 = .ok (.getfield 37, 3) := by decide +kernel
theorem dX9_cover_84 : decode cX9_cover 84 = .ok (.iload_n 2, 1) := by decide +kernel
theorem dX9_cover_85 : decode cX9_cover 85 = .ok (.iaload, 1) := by decide +kernel
theorem dX9_cover_86 : decode cX9_cover 86 = .ok (.invokevirtual 133, 3) := by decide +kernel
theorem dX9_cover_89 : decode cX9_cover 89 = .ok (.iadd, 1) := by decide +kernel
theorem dX9_cover_90 : decode cX9_cover 90 = .ok (.istore_n 1, 1) := by decide +kernel
theorem dX9_cover_91 : decode cX9_cover 91 = .ok (.iconst 1, 1) := by decide +kernel
theorem dX9_cover_92 : decode cX9_cover 92 = .ok (.istore 4, 2) := by decide +kernel
theorem dX9_cover_94 : decode cX9_cover 94 = .ok (.iload 4, 2) := by decide +kernel
theorem dX9_cover_96 : decode cX9_cover 96 = .ok (.iload_n 3, 1) := by decide +kernel
theorem dX9_cover_97 : decode cX9_cover 97 = .ok (.if_icmp .ge 35, 3) := by decide +kernel
theorem dX9_cover_100 : decode cX9_cover 100 = .ok (.aload_n 0, 1) := by decide +kernel
theorem dX9_cover_101 : decode cX9_cover 101 = .ok (.getfield 40, 3) := by decide +kernel
theorem dX9_cover_104 : decode cX9_cover 104 = .ok (.iload_n 2, 1) := by decide +kernel
theorem dX9_cover_105 : decode cX9_cover 105 = .ok (.iload 4, 2) := by decide +kernel
theorem dX9_cover_107 : decode cX9_cover 107 = .ok (.iadd, 1) := by decide +kernel
theorem dX9_cover_108 : decode cX9_cover 108 = .ok (.bipush (-4), 2) := by decide +kernel
theorem dX9_cover_110 : decode cX9_cover 110 = .ok (.iastore, 1) := by decide +kernel
theorem dX9_cover_111 : decode cX9_cover 111 = .ok (.aload_n 0, 1) := by decide +kernel
theorem dX9_cover_112 : decode cX9_cover 112 = .ok (.getfield 37, 3) := by decide +kernel
theorem dX9_cover_115 : decode cX9_cover 115 = .ok (.iload_n 2, 1) := by decide +kernel
theorem dX9_cover_116 : decode cX9_cover 116 = .ok (.iload 4, 2) := by decide +kernel
theorem dX9_cover_118 : decode cX9_cover 118 = .ok (.iadd, 1) := by decide +kernel
theorem dX9_cover_119 : decode cX9_cover 119 = .ok (.aload_n 0, 1) := by decide +kernel
theorem dX9_cover_120 : decode cX9_cover 120 = .ok (.getfield 37, 3) := by decide +kernel
theorem dX9_cover_123 : decode cX9_cover 123 = .ok (.iload_n 2, 1) := by decide +kernel
theorem dX9_cover_124 : decode cX9_cover 124 = .ok (.iaload, 1) := by decide +kernel
theorem dX9_cover_125 : decode cX9_cover 125 = .ok (.iastore, 1) := by decide +kernel
theorem dX9_cover_126 : decode cX9_cover 126 = .ok (.iinc 4 1, 3) := by decide +kernel
theorem dX9_cover_129 : decode cX9_cover 129 = .ok (.goto (-35), 3) := by decide +kernel
theorem dX9_cover_132 : decode cX9_cover 132 = .ok (.iload_n 2, 1) := by decide +kernel
theorem dX9_cover_133 : decode cX9_cover 133 = .ok (.iload_n 3, 1) := by decide +kernel
theorem dX9_cover_134 : decode cX9_cover 134 = .ok (.iadd, 1) := by decide +kernel
theorem dX9_cover_135 : decode cX9_cover 135 = .ok (.istore_n 2, 1) := by decide +kernel
theorem dX9_cover_136 : decode cX9_cover 136 = .ok (.goto (-126), 3) := by decide +kernel
theorem dX9_cover_139 : decode cX9_cover 139 = .ok (.aload_n 0, 1) := by decide +kernel
theorem dX9_cover_140 : decode cX9_cover 140 = .ok (.getfield 40, 3) := by decide +kernel
theorem dX9_cover_143 : decode cX9_cover 143 = .ok (.aload_n 0, 1) := by decide +kernel
theorem dX9_cover_144 : decode cX9_cover 144 = .ok (.getfield 103, 3) := by decide +kernel
theorem dX9_cover_147 : decode cX9_cover 147 = .ok (.iload_n 1, 1) := by decide +kernel
theorem dX9_cover_148 : decode cX9_cover 148 = .ok (.iastore, 1) := by decide +kernel
theorem dX9_cover_149 : decode cX9_cover 149 = .ok (.return_, 1) := by decide +kernel
theorem dX9_gainOf_0 : decode cX9_gainOf 0 = .ok (.aload_n 0, 1) := by decide +kernel
theorem dX9_gainOf_1 : decode cX9_gainOf 1 = .ok (.getfield 40, 3) := by decide +kernel
theorem dX9_gainOf_4 : decode cX9_gainOf 4 = .ok (.aload_n 0, 1) := by decide +kernel
theorem dX9_gainOf_5 : decode cX9_gainOf 5 = .ok (.getfield 103, 3) := by decide +kernel
theorem dX9_gainOf_8 : decode cX9_gainOf 8 = .ok (.iaload, 1) := by decide +kernel
theorem dX9_gainOf_9 : decode cX9_gainOf 9 = .ok (.istore 4, 2) := by decide +kernel
theorem dX9_gainOf_11 : decode cX9_gainOf 11 = .ok (.aload_n 0, 1) := by decide +kernel
theorem dX9_gainOf_12 : decode cX9_gainOf 12 = .ok (.bipush 8, 2) := by decide +kernel
theorem dX9_gainOf_14 : decode cX9_gainOf 14 = .ok (.iload_n 1, 1) := by decide +kernel
theorem dX9_gainOf_15 : decode cX9_gainOf 15 = .ok (.iload_n 2, 1) := by decide +kernel
theorem dX9_gainOf_16 : decode cX9_gainOf 16 = .ok (.iload_n 3, 1) := by decide +kernel
theorem dX9_gainOf_17 : decode cX9_gainOf 17 = .ok (.invokevirtual 123, 3) := by decide +kernel
theorem dX9_gainOf_20 : decode cX9_gainOf 20 = .ok (.aload_n 0, 1) := by decide +kernel
theorem dX9_gainOf_21 : decode cX9_gainOf 21 = .ok (.iconst 1, 1) := by decide +kernel
theorem dX9_gainOf_22 : decode cX9_gainOf 22 = .ok (.invokevirtual 136, 3) := by decide +kernel
theorem dX9_gainOf_25 : decode cX9_gainOf 25 = .ok (.iconst 1, 1) := by decide +kernel
theorem dX9_gainOf_26 : decode cX9_gainOf 26 = .ok (.iadd, 1) := by decide +kernel
theorem dX9_gainOf_27 : decode cX9_gainOf 27 = .ok (.iconst 2, 1) := by decide +kernel
theorem dX9_gainOf_28 : decode cX9_gainOf 28 = .ok (.iload_n 2, 1) := by decide +kernel
theorem dX9_gainOf_29 : decode cX9_gainOf 29 = .ok (.imul, 1) := by decide +kernel
theorem dX9_gainOf_30 : decode cX9_gainOf 30 = .ok (.iadd, 1) := by decide +kernel
theorem dX9_gainOf_31 : decode cX9_gainOf 31 = .ok (.istore 5, 2) := by decide +kernel
theorem dX9_gainOf_33 : decode cX9_gainOf 33 = .ok (.iload 4, 2) := by decide +kernel
theorem dX9_gainOf_35 : decode cX9_gainOf 35 = .ok (.iload 5, 2) := by decide +kernel
theorem dX9_gainOf_37 : decode cX9_gainOf 37 = .ok (.isub, 1) := by decide +kernel
theorem dX9_gainOf_38 : decode cX9_gainOf 38 = .ok (.ireturn, 1) := by decide +kernel
theorem dX9_note_0 : decode cX9_note 0 = .ok (.aload_n 0, 1) := by decide +kernel
theorem dX9_note_1 : decode cX9_note 1 = .ok (.getfield 106, 3) := by decide +kernel
theorem dX9_note_4 : decode cX9_note 4 = .ok (.bipush 6, 2) := by decide +kernel
theorem dX9_note_6 : decode cX9_note 6 = .ok (.if_icmp .ne 43, 3) := by decide +kernel
theorem dX9_note_9 : decode cX9_note 9 = .ok (.iconst 0, 1) := by decide +kernel
theorem dX9_note_10 : decode cX9_note 10 = .ok (.istore_n 1, 1) := by decide +kernel
theorem dX9_note_11 : decode cX9_note 11 = .ok (.iload_n 1, 1) := by decide +kernel
theorem dX9_note_12 : decode cX9_note 12 = .ok (.sipush 415, 3) := by decide +kernel
theorem dX9_note_15 : decode cX9_note 15 = .ok (.if_icmp .ge 24, 3) := by decide +kernel
theorem dX9_note_18 : decode cX9_note 18 = .ok (.aload_n 0, 1) := by decide +kernel
theorem dX9_note_19 : decode cX9_note 19 = .ok (.getfield 31, 3) := by decide +kernel
theorem dX9_note_22 : decode cX9_note 22 = .ok (.iload_n 1, 1) := by decide +kernel
theorem dX9_note_23 : decode cX9_note 23 = .ok (.aload_n 0, 1) := by decide +kernel
theorem dX9_note_24 : decode cX9_note 24 = .ok (.getfield 31, 3) := by decide +kernel
theorem dX9_note_27 : decode cX9_note 27 = .ok (.bipush 83, 2) := by decide +kernel
theorem dX9_note_29 : decode cX9_note 29 = .ok (.iload_n 1, 1) := by decide +kernel
theorem dX9_note_30 : decode cX9_note 30 = .ok (.iadd, 1) := by decide +kernel
theorem dX9_note_31 : decode cX9_note 31 = .ok (.iaload, 1) := by decide +kernel
theorem dX9_note_32 : decode cX9_note 32 = .ok (.iastore, 1) := by decide +kernel
theorem dX9_note_33 : decode cX9_note 33 = .ok (.iinc 1 1, 3) := by decide +kernel
theorem dX9_note_36 : decode cX9_note 36 = .ok (.goto (-25), 3) := by decide +kernel
theorem dX9_note_39 : decode cX9_note 39 = .ok (.aload_n 0, 1) := by decide +kernel
theorem dX9_note_40 : decode cX9_note 40 = .ok (.dup, 1) := by decide +kernel
theorem dX9_note_41 : decode cX9_note 41 = .ok (.getfield 106, 3) := by decide +kernel
theorem dX9_note_44 : decode cX9_note 44 = .ok (.iconst 1, 1) := by decide +kernel
theorem dX9_note_45 : decode cX9_note 45 = .ok (.isub, 1) := by decide +kernel
theorem dX9_note_46 : decode cX9_note 46 = .ok (.putfield 106, 3) := by decide +kernel
theorem dX9_note_49 : decode cX9_note 49 = .ok (.iconst 0, 1) := by decide +kernel
theorem dX9_note_50 : decode cX9_note 50 = .ok (.istore_n 1, 1) := by decide +kernel
theorem dX9_note_51 : decode cX9_note 51 = .ok (.iload_n 1, 1) := by decide +kernel
theorem dX9_note_52 : decode cX9_note 52 = .ok (.bipush 83, 2) := by decide +kernel
theorem dX9_note_54 : decode cX9_note 54 = .ok (.if_icmp .ge 29, 3) := by decide +kernel
theorem dX9_note_57 : decode cX9_note 57 = .ok (.aload_n 0, 1) := by decide +kernel
theorem dX9_note_58 : decode cX9_note 58 = .ok (.getfield 31, 3) := by decide +kernel
theorem dX9_note_61 : decode cX9_note 61 = .ok (.bipush 83, 2) := by decide +kernel
theorem dX9_note_63 : decode cX9_note 63 = .ok (.aload_n 0, 1) := by decide +kernel
theorem dX9_note_64 : decode cX9_note 64 = .ok (.getfield 106, 3) := by decide +kernel
theorem dX9_note_67 : decode cX9_note 67 = .ok (.imul, 1) := by decide +kernel
theorem dX9_note_68 : decode cX9_note 68 = .ok (.iload_n 1, 1) := by decide +kernel
theorem dX9_note_69 : decode cX9_note 69 = .ok (.iadd, 1) := by decide +kernel
theorem dX9_note_70 : decode cX9_note 70 = .ok (.aload_n 0, 1) := by decide +kernel
theorem dX9_note_71 : decode cX9_note 71 = .ok (.getfield 28, 3) := by decide +kernel
theorem dX9_note_74 : decode cX9_note 74 = .ok (.iload_n 1, 1) := by decide +kernel
theorem dX9_note_75 : decode cX9_note 75 = .ok (.iaload, 1) := by decide +kernel
theorem dX9_note_76 : decode cX9_note 76 = .ok (.iastore, 1) := by decide +kernel
theorem dX9_note_77 : decode cX9_note 77 = .ok (.iinc 1 1, 3) := by decide +kernel
theorem dX9_note_80 : decode cX9_note 80 = .ok (.goto (-29), 3) := by decide +kernel
theorem dX9_note_83 : decode cX9_note 83 = .ok (.aload_n 0, 1) := by decide +kernel
theorem dX9_note_84 : decode cX9_note 84 = .ok (.dup, 1) := by decide +kernel
theorem dX9_note_85 : decode cX9_note 85 = .ok (.getfield 106, 3) := by decide +kernel
theorem dX9_note_88 : decode cX9_note 88 = .ok (.iconst 1, 1) := by decide +kernel
theorem dX9_note_89 : decode cX9_note 89 = .ok (.iadd, 1) := by decide +kernel
theorem dX9_note_90 : decode cX9_note 90 = .ok (.putfield 106, 3) := by decide +kernel
theorem dX9_note_93 : decode cX9_note 93 = .ok (.aload_n 0, 1) := by decide +kernel
theorem dX9_note_94 : decode cX9_note 94 = .ok (.iconst 0, 1) := by decide +kernel
theorem dX9_note_95 : decode cX9_note 95 = .ok (.putfield 109, 3) := by decide +kernel
theorem dX9_note_98 : decode cX9_note 98 = .ok (.return_, 1) := by decide +kernel
theorem dX9_refusal_0 : decode cX9_refusal 0 = .ok (.aload_n 0, 1) := by decide +kernel
theorem dX9_refusal_1 : decode cX9_refusal 1 = .ok (.iload_n 1, 1) := by decide +kernel
theorem dX9_refusal_2 : decode cX9_refusal 2 = .ok (.invokevirtual 140, 3) := by decide +kernel
theorem dX9_refusal_5 : decode cX9_refusal 5 = .ok (.ifCond .eq 32, 3) := by decide +kernel
theorem dX9_refusal_8 : decode cX9_refusal 8 = .ok (.iload_n 2, 1) := by decide +kernel
theorem dX9_refusal_9 : decode cX9_refusal 9 = .ok (.i2l, 1) := by decide +kernel
theorem dX9_refusal_10 : decode cX9_refusal 10 = .ok (.ldc2_w 143, 3) := by decide +kernel
theorem dX9_refusal_13 : decode cX9_refusal 13 = .ok (.ldc2_w 145, 3) := by decide +kernel
theorem dX9_refusal_16 : decode cX9_refusal 16 = .ok (.invokestatic 71, 3) := by decide +kernel
theorem dX9_refusal_19 : decode cX9_refusal 19 = .ok (.ifCond .eq 18, 3) := by decide +kernel
theorem dX9_refusal_22 : decode cX9_refusal 22 = .ok (.iload_n 3, 1) := by decide +kernel
theorem dX9_refusal_23 : decode cX9_refusal 23 = .ok (.i2l, 1) := by decide +kernel
theorem dX9_refusal_24 : decode cX9_refusal 24 = .ok (.ldc2_w 147, 3) := by decide +kernel
theorem dX9_refusal_27 : decode cX9_refusal 27 = .ok (.iload_n 2, 1) := by decide +kernel
theorem dX9_refusal_28 : decode cX9_refusal 28 = .ok (.iconst 1, 1) := by decide +kernel
theorem dX9_refusal_29 : decode cX9_refusal 29 = .ok (.isub, 1) := by decide +kernel
theorem dX9_refusal_30 : decode cX9_refusal 30 = .ok (.i2l, 1) := by decide +kernel
theorem dX9_refusal_31 : decode cX9_refusal 31 = .ok (.invokestatic 71, 3) := by decide +kernel
theorem dX9_refusal_34 : decode cX9_refusal 34 = .ok (.ifCond .ne 5, 3) := by decide +kernel
theorem dX9_refusal_37 : decode cX9_refusal 37 = .ok (.iconst (-1), 1) := by decide +kernel
theorem dX9_refusal_38 : decode cX9_refusal 38 = .ok (.ireturn, 1) := by decide +kernel
theorem dX9_refusal_39 : decode cX9_refusal 39 = .ok (.aload_n 0, 1) := by decide +kernel
theorem dX9_refusal_40 : decode cX9_refusal 40 = .ok (.iload_n 1, 1) := by decide +kernel
theorem dX9_refusal_41 : decode cX9_refusal 41 = .ok (.iload_n 2, 1) := by decide +kernel
theorem dX9_refusal_42 : decode cX9_refusal 42 = .ok (.invokevirtual 119, 3) := by decide +kernel
theorem dX9_refusal_45 : decode cX9_refusal 45 = .ok (.ifCond .eq 13, 3) := by decide +kernel
theorem dX9_refusal_48 : decode cX9_refusal 48 = .ok (.aload_n 0, 1) := by decide +kernel
theorem dX9_refusal_49 : decode cX9_refusal 49 = .ok (.iload_n 1, 1) := by decide +kernel
theorem dX9_refusal_50 : decode cX9_refusal 50 = .ok (.iload_n 2, 1) := by decide +kernel
theorem dX9_refusal_51 : decode cX9_refusal 51 = .ok (.iload_n 3, 1) := by decide +kernel
theorem dX9_refusal_52 : decode cX9_refusal 52 = .ok (.invokevirtual 149, 3) := by decide +kernel
theorem dX9_refusal_55 : decode cX9_refusal 55 = .ok (.ifCond .eq 6, 3) := by decide +kernel
theorem dX9_refusal_58 : decode cX9_refusal 58 = .ok (.bipush (-2), 2) := by decide +kernel
theorem dX9_refusal_60 : decode cX9_refusal 60 = .ok (.ireturn, 1) := by decide +kernel
theorem dX9_refusal_61 : decode cX9_refusal 61 = .ok (.aload_n 0, 1) := by decide +kernel
theorem dX9_refusal_62 : decode cX9_refusal 62 = .ok (.getfield 28, 3) := by decide +kernel
theorem dX9_refusal_65 : decode cX9_refusal 65 = .ok (.bipush 82, 2) := by decide +kernel
theorem dX9_refusal_67 : decode cX9_refusal 67 = .ok (.iaload, 1) := by decide +kernel
theorem dX9_refusal_68 : decode cX9_refusal 68 = .ok (.bipush 8, 2) := by decide +kernel
theorem dX9_refusal_70 : decode cX9_refusal 70 = .ok (.if_icmp .ne 8, 3) := by decide +kernel
theorem dX9_refusal_73 : decode cX9_refusal 73 = .ok (.bipush (-3), 2) := by decide +kernel
theorem dX9_refusal_75 : decode cX9_refusal 75 = .ok (.goto 4, 3) := by decide +kernel
theorem dX9_refusal_78 : decode cX9_refusal 78 = .ok (.iconst 0, 1) := by decide +kernel
theorem dX9_refusal_79 : decode cX9_refusal 79 = .ok (.ireturn, 1) := by decide +kernel
theorem dX9_add_0 : decode cX9_add 0 = .ok (.aload_n 0, 1) := by decide +kernel
theorem dX9_add_1 : decode cX9_add 1 = .ok (.iload_n 1, 1) := by decide +kernel
theorem dX9_add_2 : decode cX9_add 2 = .ok (.iload_n 2, 1) := by decide +kernel
theorem dX9_add_3 : decode cX9_add 3 = .ok (.iload_n 3, 1) := by decide +kernel
theorem dX9_add_4 : decode cX9_add 4 = .ok (.invokevirtual 153, 3) := by decide +kernel
theorem dX9_add_7 : decode cX9_add 7 = .ok (.istore 4, 2) := by decide +kernel
theorem dX9_add_9 : decode cX9_add 9 = .ok (.iload 4, 2) := by decide +kernel
theorem dX9_add_11 : decode cX9_add 11 = .ok (.ifCond .eq 6, 3) := by decide +kernel
theorem dX9_add_14 : decode cX9_add 14 = .ok (.iload 4, 2) := by decide +kernel
theorem dX9_add_16 : decode cX9_add 16 = .ok (.ireturn, 1) := by decide +kernel
theorem dX9_add_17 : decode cX9_add 17 = .ok (.aload_n 0, 1) := by decide +kernel
theorem dX9_add_18 : decode cX9_add 18 = .ok (.invokevirtual 157, 3) := by decide +kernel
theorem dX9_add_21 : decode cX9_add 21 = .ok (.aload_n 0, 1) := by decide +kernel
theorem dX9_add_22 : decode cX9_add 22 = .ok (.aload_n 0, 1) := by decide +kernel
theorem dX9_add_23 : decode cX9_add 23 = .ok (.getfield 28, 3) := by decide +kernel
theorem dX9_add_26 : decode cX9_add 26 = .ok (.bipush 82, 2) := by decide +kernel
theorem dX9_add_28 : decode cX9_add 28 = .ok (.iaload, 1) := by decide +kernel
theorem dX9_add_29 : decode cX9_add 29 = .ok (.iload_n 1, 1) := by decide +kernel
theorem dX9_add_30 : decode cX9_add 30 = .ok (.iload_n 2, 1) := by decide +kernel
theorem dX9_add_31 : decode cX9_add 31 = .ok (.iload_n 3, 1) := by decide +kernel
theorem dX9_add_32 : decode cX9_add 32 = .ok (.invokevirtual 123, 3) := by decide +kernel
theorem dX9_add_35 : decode cX9_add 35 = .ok (.aload_n 0, 1) := by decide +kernel
theorem dX9_add_36 : decode cX9_add 36 = .ok (.getfield 28, 3) := by decide +kernel
theorem dX9_add_39 : decode cX9_add 39 = .ok (.bipush 82, 2) := by decide +kernel
theorem dX9_add_41 : decode cX9_add 41 = .ok (.dup2, 1) := by decide +kernel
theorem dX9_add_42 : decode cX9_add 42 = .ok (.iaload, 1) := by decide +kernel
theorem dX9_add_43 : decode cX9_add 43 = .ok (.iconst 1, 1) := by decide +kernel
theorem dX9_add_44 : decode cX9_add 44 = .ok (.iadd, 1) := by decide +kernel
theorem dX9_add_45 : decode cX9_add 45 = .ok (.iastore, 1) := by decide +kernel
theorem dX9_add_46 : decode cX9_add 46 = .ok (.aload_n 0, 1) := by decide +kernel
theorem dX9_add_47 : decode cX9_add 47 = .ok (.invokevirtual 113, 3) := by decide +kernel
theorem dX9_add_50 : decode cX9_add 50 = .ok (.aload_n 0, 1) := by decide +kernel
theorem dX9_add_51 : decode cX9_add 51 = .ok (.getfield 28, 3) := by decide +kernel
theorem dX9_add_54 : decode cX9_add 54 = .ok (.bipush 82, 2) := by decide +kernel
theorem dX9_add_56 : decode cX9_add 56 = .ok (.iaload, 1) := by decide +kernel
theorem dX9_add_57 : decode cX9_add 57 = .ok (.iconst 1, 1) := by decide +kernel
theorem dX9_add_58 : decode cX9_add 58 = .ok (.isub, 1) := by decide +kernel
theorem dX9_add_59 : decode cX9_add 59 = .ok (.ireturn, 1) := by decide +kernel
theorem dX9_drop_0 : decode cX9_drop 0 = .ok (.aload_n 0, 1) := by decide +kernel
theorem dX9_drop_1 : decode cX9_drop 1 = .ok (.iload_n 1, 1) := by decide +kernel
theorem dX9_drop_2 : decode cX9_drop 2 = .ok (.invokevirtual 160, 3) := by decide +kernel
theorem dX9_drop_5 : decode cX9_drop 5 = .ok (.ifCond .ne 5, 3) := by decide +kernel
theorem dX9_drop_8 : decode cX9_drop 8 = .ok (.iconst (-1), 1) := by decide +kernel
theorem dX9_drop_9 : decode cX9_drop 9 = .ok (.ireturn, 1) := by decide +kernel
theorem dX9_drop_10 : decode cX9_drop 10 = .ok (.aload_n 0, 1) := by decide +kernel
theorem dX9_drop_11 : decode cX9_drop 11 = .ok (.invokevirtual 157, 3) := by decide +kernel
theorem dX9_drop_14 : decode cX9_drop 14 = .ok (.aload_n 0, 1) := by decide +kernel
theorem dX9_drop_15 : decode cX9_drop 15 = .ok (.getfield 28, 3) := by decide +kernel
theorem dX9_drop_18 : decode cX9_drop 18 = .ok (.bipush 82, 2) := by decide +kernel
theorem dX9_drop_20 : decode cX9_drop 20 = .ok (.dup2, 1) := by decide +kernel
theorem dX9_drop_21 : decode cX9_drop 21 = .ok (.iaload, 1) := by decide +kernel
theorem dX9_drop_22 : decode cX9_drop 22 = .ok (.iconst 1, 1) := by decide +kernel
theorem dX9_drop_23 : decode cX9_drop 23 = .ok (.isub, 1) := by decide +kernel
theorem dX9_drop_24 : decode cX9_drop 24 = .ok (.iastore, 1) := by decide +kernel
theorem dX9_drop_25 : decode cX9_drop 25 = .ok (.bipush 10, 2) := by decide +kernel
theorem dX9_drop_27 : decode cX9_drop 27 = .ok (.iload_n 1, 1) := by decide +kernel
theorem dX9_drop_28 : decode cX9_drop 28 = .ok (.imul, 1) := by decide +kernel
theorem dX9_drop_29 : decode cX9_drop 29 = .ok (.istore_n 2, 1) := by decide +kernel
theorem dX9_drop_30 : decode cX9_drop 30 = .ok (.iload_n 2, 1) := by decide +kernel
theorem dX9_drop_31 : decode cX9_drop 31 = .ok (.bipush 10, 2) := by decide +kernel
theorem dX9_drop_33 : decode cX9_drop 33 = .ok (.aload_n 0, 1) := by decide +kernel
theorem dX9_drop_34 : decode cX9_drop 34 = .ok (.getfield 28, 3) := by decide +kernel
theorem dX9_drop_37 : decode cX9_drop 37 = .ok (.bipush 82, 2) := by decide +kernel
theorem dX9_drop_39 : decode cX9_drop 39 = .ok (.iaload, 1) := by decide +kernel
theorem dX9_drop_40 : decode cX9_drop 40 = .ok (.imul, 1) := by decide +kernel
theorem dX9_drop_41 : decode cX9_drop 41 = .ok (.if_icmp .ge 24, 3) := by decide +kernel
theorem dX9_drop_44 : decode cX9_drop 44 = .ok (.aload_n 0, 1) := by decide +kernel
theorem dX9_drop_45 : decode cX9_drop 45 = .ok (.getfield 28, 3) := by decide +kernel
theorem dX9_drop_48 : decode cX9_drop 48 = .ok (.iload_n 2, 1) := by decide +kernel
theorem dX9_drop_49 : decode cX9_drop 49 = .ok (.aload_n 0, 1) := by decide +kernel
theorem dX9_drop_50 : decode cX9_drop 50 = .ok (.getfield 28, 3) := by decide +kernel
theorem dX9_drop_53 : decode cX9_drop 53 = .ok (.iload_n 2, 1) := by decide +kernel
theorem dX9_drop_54 : decode cX9_drop 54 = .ok (.bipush 10, 2) := by decide +kernel
theorem dX9_drop_56 : decode cX9_drop 56 = .ok (.iadd, 1) := by decide +kernel
theorem dX9_drop_57 : decode cX9_drop 57 = .ok (.iaload, 1) := by decide +kernel
theorem dX9_drop_58 : decode cX9_drop 58 = .ok (.iastore, 1) := by decide +kernel
theorem dX9_drop_59 : decode cX9_drop 59 = .ok (.iinc 2 1, 3) := by decide +kernel
theorem dX9_drop_62 : decode cX9_drop 62 = .ok (.goto (-32), 3) := by decide +kernel
theorem dX9_drop_65 : decode cX9_drop 65 = .ok (.aload_n 0, 1) := by decide +kernel
theorem dX9_drop_66 : decode cX9_drop 66 = .ok (.invokevirtual 113, 3) := by decide +kernel
theorem dX9_drop_69 : decode cX9_drop 69 = .ok (.aload_n 0, 1) := by decide +kernel
theorem dX9_drop_70 : decode cX9_drop 70 = .ok (.getfield 28, 3) := by decide +kernel
theorem dX9_drop_73 : decode cX9_drop 73 = .ok (.bipush 82, 2) := by decide +kernel
theorem dX9_drop_75 : decode cX9_drop 75 = .ok (.iaload, 1) := by decide +kernel
theorem dX9_drop_76 : decode cX9_drop 76 = .ok (.ireturn, 1) := by decide +kernel
theorem dX9_gain_0 : decode cX9_gain 0 = .ok (.aload_n 0, 1) := by decide +kernel
theorem dX9_gain_1 : decode cX9_gain 1 = .ok (.iload_n 1, 1) := by decide +kernel
theorem dX9_gain_2 : decode cX9_gain 2 = .ok (.iload_n 2, 1) := by decide +kernel
theorem dX9_gain_3 : decode cX9_gain 3 = .ok (.iload_n 3, 1) := by decide +kernel
theorem dX9_gain_4 : decode cX9_gain 4 = .ok (.invokevirtual 153, 3) := by decide +kernel
theorem dX9_gain_7 : decode cX9_gain 7 = .ok (.istore 4, 2) := by decide +kernel
theorem dX9_gain_9 : decode cX9_gain 9 = .ok (.iload 4, 2) := by decide +kernel
theorem dX9_gain_11 : decode cX9_gain 11 = .ok (.ifCond .eq 6, 3) := by decide +kernel
theorem dX9_gain_14 : decode cX9_gain 14 = .ok (.iload 4, 2) := by decide +kernel
theorem dX9_gain_16 : decode cX9_gain 16 = .ok (.ireturn, 1) := by decide +kernel
theorem dX9_gain_17 : decode cX9_gain 17 = .ok (.aload_n 0, 1) := by decide +kernel
theorem dX9_gain_18 : decode cX9_gain 18 = .ok (.iload_n 1, 1) := by decide +kernel
theorem dX9_gain_19 : decode cX9_gain 19 = .ok (.iload_n 2, 1) := by decide +kernel
theorem dX9_gain_20 : decode cX9_gain 20 = .ok (.iload_n 3, 1) := by decide +kernel
theorem dX9_gain_21 : decode cX9_gain 21 = .ok (.invokevirtual 163, 3) := by decide +kernel
theorem dX9_gain_24 : decode cX9_gain 24 = .ok (.istore 5, 2) := by decide +kernel
theorem dX9_gain_26 : decode cX9_gain 26 = .ok (.aload_n 0, 1) := by decide +kernel
theorem dX9_gain_27 : decode cX9_gain 27 = .ok (.invokevirtual 113, 3) := by decide +kernel
theorem dX9_gain_30 : decode cX9_gain 30 = .ok (.iload 5, 2) := by decide +kernel
theorem dX9_gain_32 : decode cX9_gain 32 = .ok (.ldc 166, 2) := by decide +kernel
theorem dX9_gain_34 : decode cX9_gain 34 = .ok (.iadd, 1) := by decide +kernel
theorem dX9_gain_35 : decode cX9_gain 35 = .ok (.ireturn, 1) := by decide +kernel
theorem dX9_chooses_0 : decode cX9_chooses 0 = .ok (.iconst 0, 1) := by decide +kernel
theorem dX9_chooses_1 : decode cX9_chooses 1 = .ok (.istore_n 1, 1) := by decide +kernel
theorem dX9_chooses_2 : decode cX9_chooses 2 = .ok (.iconst 2, 1) := by decide +kernel
theorem dX9_chooses_3 : decode cX9_chooses 3 = .ok (.istore_n 2, 1) := by decide +kernel
theorem dX9_chooses_4 : decode cX9_chooses 4 = .ok (.iload_n 2, 1) := by decide +kernel
theorem dX9_chooses_5 : decode cX9_chooses 5 = .ok (.iconst 5, 1) := by decide +kernel
theorem dX9_chooses_6 : decode cX9_chooses 6 = .ok (.if_icmp .ge 129, 3) := by decide +kernel
theorem dX9_chooses_9 : decode cX9_chooses 9 = .ok (.iconst (-1), 1) := by decide +kernel
theorem dX9_chooses_10 : decode cX9_chooses 10 = .ok (.istore_n 3, 1) := by decide +kernel
theorem dX9_chooses_11 : decode cX9_chooses 11 = .ok (.iload_n 3, 1) := by decide +kernel
theorem dX9_chooses_12 : decode cX9_chooses 12 = .ok (.iload_n 2, 1) := by decide +kernel
theorem dX9_chooses_13 : decode cX9_chooses 13 = .ok (.if_icmp .ge 116, 3) := by decide +kernel
theorem dX9_chooses_16 : decode cX9_chooses 16 = .ok (.iconst 0, 1) := by decide +kernel
theorem dX9_chooses_17 : decode cX9_chooses 17 = .ok (.istore 4, 2) := by decide +kernel
theorem dX9_chooses_19 : decode cX9_chooses 19 = .ok (.iload 4, 2) := by decide +kernel
theorem dX9_chooses_21 : decode cX9_chooses 21 = .ok (.aload_n 0, 1) := by decide +kernel
theorem dX9_chooses_22 : decode cX9_chooses 22 = .ok (.getfield 103, 3) := by decide +kernel
theorem dX9_chooses_25 : decode cX9_chooses 25 = .ok (.if_icmp .ge 98, 3) := by decide +kernel
theorem dX9_chooses_28 : decode cX9_chooses 28 = .ok (.aload_n 0, 1) := by decide +kernel
theorem dX9_chooses_29 : decode cX9_chooses 29 = .ok (.iload 4, 2) := by decide +kernel
theorem dX9_chooses_31 : decode cX9_chooses 31 = .ok (.iload_n 2, 1) := by decide +kernel
theorem dX9_chooses_32 : decode cX9_chooses 32 = .ok (.iload_n 3, 1) := by decide +kernel
theorem dX9_chooses_33 : decode cX9_chooses 33 = .ok (.invokevirtual 153, 3) := by decide +kernel
theorem dX9_chooses_36 : decode cX9_chooses 36 = .ok (.ifCond .ne 81, 3) := by decide +kernel
theorem dX9_chooses_39 : decode cX9_chooses 39 = .ok (.aload_n 0, 1) := by decide +kernel
theorem dX9_chooses_40 : decode cX9_chooses 40 = .ok (.iload 4, 2) := by decide +kernel
theorem dX9_chooses_42 : decode cX9_chooses 42 = .ok (.iload_n 2, 1) := by decide +kernel
theorem dX9_chooses_43 : decode cX9_chooses 43 = .ok (.iload_n 3, 1) := by decide +kernel
theorem dX9_chooses_44 : decode cX9_chooses 44 = .ok (.invokevirtual 163, 3) := by decide +kernel
theorem dX9_chooses_47 : decode cX9_chooses 47 = .ok (.istore 5, 2) := by decide +kernel
theorem dX9_chooses_49 : decode cX9_chooses 49 = .ok (.aload_n 0, 1) := by decide +kernel
theorem dX9_chooses_50 : decode cX9_chooses 50 = .ok (.iload 5, 2) := by decide +kernel
theorem dX9_chooses_52 : decode cX9_chooses 52 = .ok (.iload_n 1, 1) := by decide +kernel
theorem dX9_chooses_53 : decode cX9_chooses 53 = .ok (.if_icmp .le 8, 3) := by decide +kernel
theorem dX9_chooses_56 : decode cX9_chooses 56 = .ok (.iload 4, 2) := by decide +kernel
theorem dX9_chooses_58 : decode cX9_chooses 58 = .ok (.goto 7, 3) := by decide +kernel
theorem dX9_chooses_61 : decode cX9_chooses 61 = .ok (.aload_n 0, 1) := by decide +kernel
theorem dX9_chooses_62 : decode cX9_chooses 62 = .ok (.getfield 167, 3) := by decide +kernel
theorem dX9_chooses_65 : decode cX9_chooses 65 = .ok (.putfield 167, 3) := by decide +kernel
theorem dX9_chooses_68 : decode cX9_chooses 68 = .ok (.aload_n 0, 1) := by decide +kernel
theorem dX9_chooses_69 : decode cX9_chooses 69 = .ok (.iload 5, 2) := by decide +kernel
theorem dX9_chooses_71 : decode cX9_chooses 71 = .ok (.iload_n 1, 1) := by decide +kernel
theorem dX9_chooses_72 : decode cX9_chooses 72 = .ok (.if_icmp .le 7, 3) := by decide +kernel
theorem dX9_chooses_75 : decode cX9_chooses 75 = .ok (.iload_n 2, 1) := by decide +kernel
theorem dX9_chooses_76 : decode cX9_chooses 76 = .ok (.goto 7, 3) := by decide +kernel
theorem dX9_chooses_79 : decode cX9_chooses 79 = .ok (.aload_n 0, 1) := by decide +kernel
theorem dX9_chooses_80 : decode cX9_chooses 80 = .ok (.getfield 170, 3) := by decide +kernel
theorem dX9_chooses_83 : decode cX9_chooses 83 = .ok (.putfield 170, 3) := by decide +kernel
theorem dX9_chooses_86 : decode cX9_chooses 86 = .ok (.aload_n 0, 1) := by decide +kernel
theorem dX9_chooses_87 : decode cX9_chooses 87 = .ok (.iload 5, 2) := by decide +kernel
theorem dX9_chooses_89 : decode cX9_chooses 89 = .ok (.iload_n 1, 1) := by decide +kernel
theorem dX9_chooses_90 : decode cX9_chooses 90 = .ok (.if_icmp .le 7, 3) := by decide +kernel
theorem dX9_chooses_93 : decode cX9_chooses 93 = .ok (.iload_n 3, 1) := by decide +kernel
theorem dX9_chooses_94 : decode cX9_chooses 94 = .ok (.goto 7, 3) := by decide +kernel
theorem dX9_chooses_97 : decode cX9_chooses 97 = .ok (.aload_n 0, 1) := by decide +kernel
theorem dX9_chooses_98 : decode cX9_chooses 98 = .ok (.getfield 173, 3) := by decide +kernel
theorem dX9_chooses_101 : decode cX9_chooses 101 = .ok (.putfield 173, 3) := by decide +kernel
theorem dX9_chooses_104 : decode cX9_chooses 104 = .ok (.iload 5, 2) := by decide +kernel
theorem dX9_chooses_106 : decode cX9_chooses 106 = .ok (.iload_n 1, 1) := by decide +kernel
theorem dX9_chooses_107 : decode cX9_chooses 107 = .ok (.if_icmp .le 8, 3) := by decide +kernel
theorem dX9_chooses_110 : decode cX9_chooses 110 = .ok (.iload 5, 2) := by decide +kernel
theorem dX9_chooses_112 : decode cX9_chooses 112 = .ok (.goto 4, 3) := by decide +kernel
theorem dX9_chooses_115 : decode cX9_chooses 115 = .ok (.iload_n 1, 1) := by decide +kernel
theorem dX9_chooses_116 : decode cX9_chooses 116 = .ok (.istore_n 1, 1) := by decide +kernel
theorem dX9_chooses_117 : decode cX9_chooses 117 = .ok (.iinc 4 1, 3) := by decide +kernel
theorem dX9_chooses_120 : decode cX9_chooses 120 = .ok (.goto (-101), 3) := by decide +kernel
theorem dX9_chooses_123 : decode cX9_chooses 123 = .ok (.iinc 3 1, 3) := by decide +kernel
theorem dX9_chooses_126 : decode cX9_chooses 126 = .ok (.goto (-115), 3) := by decide +kernel
theorem dX9_chooses_129 : decode cX9_chooses 129 = .ok (.iinc 2 1, 3) := by decide +kernel
theorem dX9_chooses_132 : decode cX9_chooses 132 = .ok (.goto (-128), 3) := by decide +kernel
theorem dX9_chooses_135 : decode cX9_chooses 135 = .ok (.aload_n 0, 1) := by decide +kernel
theorem dX9_chooses_136 : decode cX9_chooses 136 = .ok (.invokevirtual 113, 3) := by decide +kernel
theorem dX9_chooses_139 : decode cX9_chooses 139 = .ok (.iload_n 1, 1) := by decide +kernel
theorem dX9_chooses_140 : decode cX9_chooses 140 = .ok (.ifCond .le 7, 3) := by decide +kernel
theorem dX9_chooses_143 : decode cX9_chooses 143 = .ok (.iconst 1, 1) := by decide +kernel
theorem dX9_chooses_144 : decode cX9_chooses 144 = .ok (.goto 4, 3) := by decide +kernel
theorem dX9_chooses_147 : decode cX9_chooses 147 = .ok (.iconst 0, 1) := by decide +kernel
theorem dX9_chooses_148 : decode cX9_chooses 148 = .ok (.ireturn, 1) := by decide +kernel
theorem dX9_choose_0 : decode cX9_choose 0 = .ok (.iload_n 1, 1) := by decide +kernel
theorem dX9_choose_1 : decode cX9_choose 1 = .ok (.i2l, 1) := by decide +kernel
theorem dX9_choose_2 : decode cX9_choose 2 = .ok (.lconst 1, 1) := by decide +kernel
theorem dX9_choose_3 : decode cX9_choose 3 = .ok (.ldc2_w 176, 3) := by decide +kernel
theorem dX9_choose_6 : decode cX9_choose 6 = .ok (.invokestatic 71, 3) := by decide +kernel
theorem dX9_choose_9 : decode cX9_choose 9 = .ok (.ifCond .ne 5, 3) := by decide +kernel
theorem dX9_choose_12 : decode cX9_choose 12 = .ok (.iconst (-1), 1) := by decide +kernel
theorem dX9_choose_13 : decode cX9_choose 13 = .ok (.ireturn, 1) := by decide +kernel
theorem dX9_choose_14 : decode cX9_choose 14 = .ok (.iconst 0, 1) := by decide +kernel
theorem dX9_choose_15 : decode cX9_choose 15 = .ok (.istore_n 2, 1) := by decide +kernel
theorem dX9_choose_16 : decode cX9_choose 16 = .ok (.iload_n 2, 1) := by decide +kernel
theorem dX9_choose_17 : decode cX9_choose 17 = .ok (.iload_n 1, 1) := by decide +kernel
theorem dX9_choose_18 : decode cX9_choose 18 = .ok (.if_icmp .ge 62, 3) := by decide +kernel
theorem dX9_choose_21 : decode cX9_choose 21 = .ok (.aload_n 0, 1) := by decide +kernel
theorem dX9_choose_22 : decode cX9_choose 22 = .ok (.invokevirtual 178, 3) := by decide +kernel
theorem dX9_choose_25 : decode cX9_choose 25 = .ok (.ifCond .eq 55, 3) := by decide +kernel
theorem dX9_choose_28 : decode cX9_choose 28 = .ok (.iload_n 2, 1) := by decide +kernel
theorem dX9_choose_29 : decode cX9_choose 29 = .ok (.ifCond .ne 7, 3) := by decide +kernel
theorem dX9_choose_32 : decode cX9_choose 32 = .ok (.aload_n 0, 1) := by decide +kernel
theorem dX9_choose_33 : decode cX9_choose 33 = .ok (.invokevirtual 157, 3) := by decide +kernel
theorem dX9_choose_36 : decode cX9_choose 36 = .ok (.aload_n 0, 1) := by decide +kernel
theorem dX9_choose_37 : decode cX9_choose 37 = .ok (.aload_n 0, 1) := by decide +kernel
theorem dX9_choose_38 : decode cX9_choose 38 = .ok (.getfield 28, 3) := by decide +kernel
theorem dX9_choose_41 : decode cX9_choose 41 = .ok (.bipush 82, 2) := by decide +kernel
theorem dX9_choose_43 : decode cX9_choose 43 = .ok (.iaload, 1) := by decide +kernel
theorem dX9_choose_44 : decode cX9_choose 44 = .ok (.aload_n 0, 1) := by decide +kernel
theorem dX9_choose_45 : decode cX9_choose 45 = .ok (.getfield 167, 3) := by decide +kernel
theorem dX9_choose_48 : decode cX9_choose 48 = .ok (.aload_n 0, 1) := by decide +kernel
theorem dX9_choose_49 : decode cX9_choose 49 = .ok (.getfield 170, 3) := by decide +kernel
theorem dX9_choose_52 : decode cX9_choose 52 = .ok (.aload_n 0, 1) := by decide +kernel
theorem dX9_choose_53 : decode cX9_choose 53 = .ok (.getfield 173, 3) := by decide +kernel
theorem dX9_choose_56 : decode cX9_choose 56 = .ok (.invokevirtual 123, 3) := by decide +kernel
theorem dX9_choose_59 : decode cX9_choose 59 = .ok (.aload_n 0, 1) := by decide +kernel
theorem dX9_choose_60 : decode cX9_choose 60 = .ok (.getfield 28, 3) := by decide +kernel
theorem dX9_choose_63 : decode cX9_choose 63 = .ok (.bipush 82, 2) := by decide +kernel
theorem dX9_choose_65 : decode cX9_choose 65 = .ok (.dup2, 1) := by decide +kernel
theorem dX9_choose_66 : decode cX9_choose 66 = .ok (.iaload, 1) := by decide +kernel
theorem dX9_choose_67 : decode cX9_choose 67 = .ok (.iconst 1, 1) := by decide +kernel
theorem dX9_choose_68 : decode cX9_choose 68 = .ok (.iadd, 1) := by decide +kernel
theorem dX9_choose_69 : decode cX9_choose 69 = .ok (.iastore, 1) := by decide +kernel
theorem dX9_choose_70 : decode cX9_choose 70 = .ok (.aload_n 0, 1) := by decide +kernel
theorem dX9_choose_71 : decode cX9_choose 71 = .ok (.invokevirtual 113, 3) := by decide +kernel
theorem dX9_choose_74 : decode cX9_choose 74 = .ok (.iinc 2 1, 3) := by decide +kernel
theorem dX9_choose_77 : decode cX9_choose 77 = .ok (.goto (-61), 3) := by decide +kernel
theorem dX9_choose_80 : decode cX9_choose 80 = .ok (.iload_n 2, 1) := by decide +kernel
theorem dX9_choose_81 : decode cX9_choose 81 = .ok (.ifCond .ne 8, 3) := by decide +kernel
theorem dX9_choose_84 : decode cX9_choose 84 = .ok (.bipush (-2), 2) := by decide +kernel
theorem dX9_choose_86 : decode cX9_choose 86 = .ok (.goto 4, 3) := by decide +kernel
theorem dX9_choose_89 : decode cX9_choose 89 = .ok (.iload_n 2, 1) := by decide +kernel
theorem dX9_choose_90 : decode cX9_choose 90 = .ok (.ireturn, 1) := by decide +kernel
theorem dX9_entry_0 : decode cX9_entry 0 = .ok (.aload_n 0, 1) := by decide +kernel
theorem dX9_entry_1 : decode cX9_entry 1 = .ok (.iload_n 1, 1) := by decide +kernel
theorem dX9_entry_2 : decode cX9_entry 2 = .ok (.invokevirtual 160, 3) := by decide +kernel
theorem dX9_entry_5 : decode cX9_entry 5 = .ok (.ifCond .eq 15, 3) := by decide +kernel
theorem dX9_entry_8 : decode cX9_entry 8 = .ok (.iload_n 2, 1) := by decide +kernel
theorem dX9_entry_9 : decode cX9_entry 9 = .ok (.i2l, 1) := by decide +kernel
theorem dX9_entry_10 : decode cX9_entry 10 = .ok (.lconst 0, 1) := by decide +kernel
theorem dX9_entry_11 : decode cX9_entry 11 = .ok (.ldc2_w 182, 3) := by decide +kernel
theorem dX9_entry_14 : decode cX9_entry 14 = .ok (.invokestatic 71, 3) := by decide +kernel
theorem dX9_entry_17 : decode cX9_entry 17 = .ok (.ifCond .ne 5, 3) := by decide +kernel
theorem dX9_entry_20 : decode cX9_entry 20 = .ok (.iconst (-1), 1) := by decide +kernel
theorem dX9_entry_21 : decode cX9_entry 21 = .ok (.ireturn, 1) := by decide +kernel
theorem dX9_entry_22 : decode cX9_entry 22 = .ok (.iload_n 2, 1) := by decide +kernel
theorem dX9_entry_23 : decode cX9_entry 23 = .ok (.iconst 2, 1) := by decide +kernel
theorem dX9_entry_24 : decode cX9_entry 24 = .ok (.if_icmp .ge 15, 3) := by decide +kernel
theorem dX9_entry_27 : decode cX9_entry 27 = .ok (.aload_n 0, 1) := by decide +kernel
theorem dX9_entry_28 : decode cX9_entry 28 = .ok (.getfield 28, 3) := by decide +kernel
theorem dX9_entry_31 : decode cX9_entry 31 = .ok (.bipush 10, 2) := by decide +kernel
theorem dX9_entry_33 : decode cX9_entry 33 = .ok (.iload_n 1, 1) := by decide +kernel
theorem dX9_entry_34 : decode cX9_entry 34 = .ok (.imul, 1) := by decide +kernel
theorem dX9_entry_35 : decode cX9_entry 35 = .ok (.iload_n 2, 1) := by decide +kernel
theorem dX9_entry_36 : decode cX9_entry 36 = .ok (.iadd, 1) := by decide +kernel
theorem dX9_entry_37 : decode cX9_entry 37 = .ok (.iaload, 1) := by decide +kernel
theorem dX9_entry_38 : decode cX9_entry 38 = .ok (.ireturn, 1) := by decide +kernel
theorem dX9_entry_39 : decode cX9_entry 39 = .ok (.iconst 0, 1) := by decide +kernel
theorem dX9_entry_40 : decode cX9_entry 40 = .ok (.istore_n 3, 1) := by decide +kernel
theorem dX9_entry_41 : decode cX9_entry 41 = .ok (.iconst 0, 1) := by decide +kernel
theorem dX9_entry_42 : decode cX9_entry 42 = .ok (.istore 4, 2) := by decide +kernel
theorem dX9_entry_44 : decode cX9_entry 44 = .ok (.iconst 0, 1) := by decide +kernel
theorem dX9_entry_45 : decode cX9_entry 45 = .ok (.istore 5, 2) := by decide +kernel
theorem dX9_entry_47 : decode cX9_entry 47 = .ok (.iload 5, 2) := by decide +kernel
theorem dX9_entry_49 : decode cX9_entry 49 = .ok (.aload_n 0, 1) := by decide +kernel
theorem dX9_entry_50 : decode cX9_entry 50 = .ok (.getfield 103, 3) := by decide +kernel
theorem dX9_entry_53 : decode cX9_entry 53 = .ok (.if_icmp .ge 60, 3) := by decide +kernel
theorem dX9_entry_56 : decode cX9_entry 56 = .ok (.iload_n 3, 1) := by decide +kernel
theorem dX9_entry_57 : decode cX9_entry 57 = .ok (.aload_n 0, 1) := by decide +kernel
theorem dX9_entry_58 : decode cX9_entry 58 = .ok (.getfield 37, 3) := by decide +kernel
theorem dX9_entry_61 : decode cX9_entry 61 = .ok (.iload 5, 2) := by decide +kernel
theorem dX9_entry_63 : decode cX9_entry 63 = .ok (.iaload, 1) := by decide +kernel
theorem dX9_entry_64 : decode cX9_entry 64 = .ok (.iload_n 1, 1) := by decide +kernel
theorem dX9_entry_65 : decode cX9_entry 65 = .ok (.if_icmp .ne 19, 3) := by decide +kernel
theorem dX9_entry_68 : decode cX9_entry 68 = .ok (.aload_n 0, 1) := by decide +kernel
theorem dX9_entry_69 : decode cX9_entry 69 = .ok (.getfield 40, 3) := by decide +kernel
theorem dX9_entry_72 : decode cX9_entry 72 = .ok (.iload 5, 2) := by decide +kernel
theorem dX9_entry_74 : decode cX9_entry 74 = .ok (.iaload, 1) := by decide +kernel
theorem dX9_entry_75 : decode cX9_entry 75 = .ok (.bipush (-4), 2) := by decide +kernel
theorem dX9_entry_77 : decode cX9_entry 77 = .ok (.if_icmp .eq 7, 3) := by decide +kernel
theorem dX9_entry_80 : decode cX9_entry 80 = .ok (.iconst 1, 1) := by decide +kernel
theorem dX9_entry_81 : decode cX9_entry 81 = .ok (.goto 4, 3) := by decide +kernel
theorem dX9_entry_84 : decode cX9_entry 84 = .ok (.iconst 0, 1) := by decide +kernel
theorem dX9_entry_85 : decode cX9_entry 85 = .ok (.iadd, 1) := by decide +kernel
theorem dX9_entry_86 : decode cX9_entry 86 = .ok (.istore_n 3, 1) := by decide +kernel
theorem dX9_entry_87 : decode cX9_entry 87 = .ok (.iload 4, 2) := by decide +kernel
theorem dX9_entry_89 : decode cX9_entry 89 = .ok (.aload_n 0, 1) := by decide +kernel
theorem dX9_entry_90 : decode cX9_entry 90 = .ok (.iload 5, 2) := by decide +kernel
theorem dX9_entry_92 : decode cX9_entry 92 = .ok (.iload_n 1, 1) := by decide +kernel
theorem dX9_entry_93 : decode cX9_entry 93 = .ok (.invokevirtual 130, 3) := by decide +kernel
theorem dX9_entry_96 : decode cX9_entry 96 = .ok (.ifCond .eq 7, 3) := by decide +kernel
theorem dX9_entry_99 : decode cX9_entry 99 = .ok (.iconst 1, 1) := by decide +kernel
theorem dX9_entry_100 : decode cX9_entry 100 = .ok (.goto 4, 3) := by decide +kernel
theorem dX9_entry_103 : decode cX9_entry 103 = .ok (.iconst 0, 1) := by decide +kernel
theorem dX9_entry_104 : decode cX9_entry 104 = .ok (.iadd, 1) := by decide +kernel
theorem dX9_entry_105 : decode cX9_entry 105 = .ok (.istore 4, 2) := by decide +kernel
theorem dX9_entry_107 : decode cX9_entry 107 = .ok (.iinc 5 1, 3) := by decide +kernel
theorem dX9_entry_110 : decode cX9_entry 110 = .ok (.goto (-63), 3) := by decide +kernel
theorem dX9_entry_113 : decode cX9_entry 113 = .ok (.iload_n 2, 1) := by decide +kernel
theorem dX9_entry_114 : decode cX9_entry 114 = .ok (.iconst 2, 1) := by decide +kernel
theorem dX9_entry_115 : decode cX9_entry 115 = .ok (.if_icmp .ne 7, 3) := by decide +kernel
theorem dX9_entry_118 : decode cX9_entry 118 = .ok (.iload_n 3, 1) := by decide +kernel
theorem dX9_entry_119 : decode cX9_entry 119 = .ok (.goto 5, 3) := by decide +kernel
theorem dX9_entry_122 : decode cX9_entry 122 = .ok (.iload 4, 2) := by decide +kernel
theorem dX9_entry_124 : decode cX9_entry 124 = .ok (.ireturn, 1) := by decide +kernel
theorem dX9_part_0 : decode cX9_part 0 = .ok (.aload_n 0, 1) := by decide +kernel
theorem dX9_part_1 : decode cX9_part 1 = .ok (.iload_n 1, 1) := by decide +kernel
theorem dX9_part_2 : decode cX9_part 2 = .ok (.invokevirtual 160, 3) := by decide +kernel
theorem dX9_part_5 : decode cX9_part 5 = .ok (.ifCond .eq 17, 3) := by decide +kernel
theorem dX9_part_8 : decode cX9_part 8 = .ok (.iload_n 2, 1) := by decide +kernel
theorem dX9_part_9 : decode cX9_part 9 = .ok (.ifCond .lt 13, 3) := by decide +kernel
theorem dX9_part_12 : decode cX9_part 12 = .ok (.iload_n 3, 1) := by decide +kernel
theorem dX9_part_13 : decode cX9_part 13 = .ok (.i2l, 1) := by decide +kernel
theorem dX9_part_14 : decode cX9_part 14 = .ok (.lconst 0, 1) := by decide +kernel
theorem dX9_part_15 : decode cX9_part 15 = .ok (.lconst 1, 1) := by decide +kernel
theorem dX9_part_16 : decode cX9_part 16 = .ok (.invokestatic 71, 3) := by decide +kernel
theorem dX9_part_19 : decode cX9_part 19 = .ok (.ifCond .ne 5, 3) := by decide +kernel
theorem dX9_part_22 : decode cX9_part 22 = .ok (.iconst (-1), 1) := by decide +kernel
theorem dX9_part_23 : decode cX9_part 23 = .ok (.ireturn, 1) := by decide +kernel
theorem dX9_part_24 : decode cX9_part 24 = .ok (.iload_n 2, 1) := by decide +kernel
theorem dX9_part_25 : decode cX9_part 25 = .ok (.aload_n 0, 1) := by decide +kernel
theorem dX9_part_26 : decode cX9_part 26 = .ok (.getfield 28, 3) := by decide +kernel
theorem dX9_part_29 : decode cX9_part 29 = .ok (.bipush 10, 2) := by decide +kernel
theorem dX9_part_31 : decode cX9_part 31 = .ok (.iload_n 1, 1) := by decide +kernel
theorem dX9_part_32 : decode cX9_part 32 = .ok (.imul, 1) := by decide +kernel
theorem dX9_part_33 : decode cX9_part 33 = .ok (.iaload, 1) := by decide +kernel
theorem dX9_part_34 : decode cX9_part 34 = .ok (.if_icmp .lt 8, 3) := by decide +kernel
theorem dX9_part_37 : decode cX9_part 37 = .ok (.bipush (-4), 2) := by decide +kernel
theorem dX9_part_39 : decode cX9_part 39 = .ok (.goto 25, 3) := by decide +kernel
theorem dX9_part_42 : decode cX9_part 42 = .ok (.aload_n 0, 1) := by decide +kernel
theorem dX9_part_43 : decode cX9_part 43 = .ok (.getfield 28, 3) := by decide +kernel
theorem dX9_part_46 : decode cX9_part 46 = .ok (.bipush 10, 2) := by decide +kernel
theorem dX9_part_48 : decode cX9_part 48 = .ok (.iload_n 1, 1) := by decide +kernel
theorem dX9_part_49 : decode cX9_part 49 = .ok (.imul, 1) := by decide +kernel
theorem dX9_part_50 : decode cX9_part 50 = .ok (.iload_n 3, 1) := by decide +kernel
theorem dX9_part_51 : decode cX9_part 51 = .ok (.ifCond .ne 7, 3) := by decide +kernel
theorem dX9_part_54 : decode cX9_part 54 = .ok (.iconst 2, 1) := by decide +kernel
theorem dX9_part_55 : decode cX9_part 55 = .ok (.goto 5, 3) := by decide +kernel
theorem dX9_part_58 : decode cX9_part 58 = .ok (.bipush 6, 2) := by decide +kernel
theorem dX9_part_60 : decode cX9_part 60 = .ok (.iadd, 1) := by decide +kernel
theorem dX9_part_61 : decode cX9_part 61 = .ok (.iload_n 2, 1) := by decide +kernel
theorem dX9_part_62 : decode cX9_part 62 = .ok (.iadd, 1) := by decide +kernel
theorem dX9_part_63 : decode cX9_part 63 = .ok (.iaload, 1) := by decide +kernel
theorem dX9_part_64 : decode cX9_part 64 = .ok (.ireturn, 1) := by decide +kernel
theorem dX9_wide_0 : decode cX9_wide 0 = .ok (.iload_n 1, 1) := by decide +kernel
theorem dX9_wide_1 : decode cX9_wide 1 = .ok (.iconst 4, 1) := by decide +kernel
theorem dX9_wide_2 : decode cX9_wide 2 = .ok (.if_icmp .eq 17, 3) := by decide +kernel
theorem dX9_wide_5 : decode cX9_wide 5 = .ok (.iload_n 1, 1) := by decide +kernel
theorem dX9_wide_6 : decode cX9_wide 6 = .ok (.bipush 8, 2) := by decide +kernel
theorem dX9_wide_8 : decode cX9_wide 8 = .ok (.if_icmp .eq 11, 3) := by decide +kernel
theorem dX9_wide_11 : decode cX9_wide 11 = .ok (.iload_n 1, 1) := by decide +kernel
theorem dX9_wide_12 : decode cX9_wide 12 = .ok (.bipush 16, 2) := by decide +kernel
theorem dX9_wide_14 : decode cX9_wide 14 = .ok (.if_icmp .eq 5, 3) := by decide +kernel
theorem dX9_wide_17 : decode cX9_wide 17 = .ok (.iconst (-1), 1) := by decide +kernel
theorem dX9_wide_18 : decode cX9_wide 18 = .ok (.ireturn, 1) := by decide +kernel
theorem dX9_wide_19 : decode cX9_wide 19 = .ok (.aload_n 0, 1) := by decide +kernel
theorem dX9_wide_20 : decode cX9_wide 20 = .ok (.getfield 28, 3) := by decide +kernel
theorem dX9_wide_23 : decode cX9_wide 23 = .ok (.bipush 80, 2) := by decide +kernel
theorem dX9_wide_25 : decode cX9_wide 25 = .ok (.iaload, 1) := by decide +kernel
theorem dX9_wide_26 : decode cX9_wide 26 = .ok (.istore_n 2, 1) := by decide +kernel
theorem dX9_wide_27 : decode cX9_wide 27 = .ok (.iload_n 2, 1) := by decide +kernel
theorem dX9_wide_28 : decode cX9_wide 28 = .ok (.iload_n 1, 1) := by decide +kernel
theorem dX9_wide_29 : decode cX9_wide 29 = .ok (.if_icmp .ne 6, 3) := by decide +kernel
theorem dX9_wide_32 : decode cX9_wide 32 = .ok (.bipush (-2), 2) := by decide +kernel
theorem dX9_wide_34 : decode cX9_wide 34 = .ok (.ireturn, 1) := by decide +kernel
theorem dX9_wide_35 : decode cX9_wide 35 = .ok (.aload_n 0, 1) := by decide +kernel
theorem dX9_wide_36 : decode cX9_wide 36 = .ok (.invokevirtual 157, 3) := by decide +kernel
theorem dX9_wide_39 : decode cX9_wide 39 = .ok (.aload_n 0, 1) := by decide +kernel
theorem dX9_wide_40 : decode cX9_wide 40 = .ok (.getfield 28, 3) := by decide +kernel
theorem dX9_wide_43 : decode cX9_wide 43 = .ok (.bipush 80, 2) := by decide +kernel
theorem dX9_wide_45 : decode cX9_wide 45 = .ok (.iload_n 1, 1) := by decide +kernel
theorem dX9_wide_46 : decode cX9_wide 46 = .ok (.iastore, 1) := by decide +kernel
theorem dX9_wide_47 : decode cX9_wide 47 = .ok (.aload_n 0, 1) := by decide +kernel
theorem dX9_wide_48 : decode cX9_wide 48 = .ok (.invokevirtual 113, 3) := by decide +kernel
theorem dX9_wide_51 : decode cX9_wide 51 = .ok (.iload_n 2, 1) := by decide +kernel
theorem dX9_wide_52 : decode cX9_wide 52 = .ok (.ireturn, 1) := by decide +kernel
theorem dX9_hold_0 : decode cX9_hold 0 = .ok (.iload_n 1, 1) := by decide +kernel
theorem dX9_hold_1 : decode cX9_hold 1 = .ok (.i2l, 1) := by decide +kernel
theorem dX9_hold_2 : decode cX9_hold 2 = .ok (.lconst 1, 1) := by decide +kernel
theorem dX9_hold_3 : decode cX9_hold 3 = .ok (.ldc2_w 145, 3) := by decide +kernel
theorem dX9_hold_6 : decode cX9_hold 6 = .ok (.invokestatic 71, 3) := by decide +kernel
theorem dX9_hold_9 : decode cX9_hold 9 = .ok (.ifCond .ne 5, 3) := by decide +kernel
theorem dX9_hold_12 : decode cX9_hold 12 = .ok (.iconst (-1), 1) := by decide +kernel
theorem dX9_hold_13 : decode cX9_hold 13 = .ok (.ireturn, 1) := by decide +kernel
theorem dX9_hold_14 : decode cX9_hold 14 = .ok (.aload_n 0, 1) := by decide +kernel
theorem dX9_hold_15 : decode cX9_hold 15 = .ok (.getfield 28, 3) := by decide +kernel
theorem dX9_hold_18 : decode cX9_hold 18 = .ok (.bipush 81, 2) := by decide +kernel
theorem dX9_hold_20 : decode cX9_hold 20 = .ok (.iaload, 1) := by decide +kernel
theorem dX9_hold_21 : decode cX9_hold 21 = .ok (.istore_n 2, 1) := by decide +kernel
theorem dX9_hold_22 : decode cX9_hold 22 = .ok (.iload_n 2, 1) := by decide +kernel
theorem dX9_hold_23 : decode cX9_hold 23 = .ok (.iload_n 1, 1) := by decide +kernel
theorem dX9_hold_24 : decode cX9_hold 24 = .ok (.if_icmp .ne 6, 3) := by decide +kernel
theorem dX9_hold_27 : decode cX9_hold 27 = .ok (.bipush (-2), 2) := by decide +kernel
theorem dX9_hold_29 : decode cX9_hold 29 = .ok (.ireturn, 1) := by decide +kernel
theorem dX9_hold_30 : decode cX9_hold 30 = .ok (.aload_n 0, 1) := by decide +kernel
theorem dX9_hold_31 : decode cX9_hold 31 = .ok (.invokevirtual 157, 3) := by decide +kernel
theorem dX9_hold_34 : decode cX9_hold 34 = .ok (.aload_n 0, 1) := by decide +kernel
theorem dX9_hold_35 : decode cX9_hold 35 = .ok (.getfield 28, 3) := by decide +kernel
theorem dX9_hold_38 : decode cX9_hold 38 = .ok (.bipush 81, 2) := by decide +kernel
theorem dX9_hold_40 : decode cX9_hold 40 = .ok (.iload_n 1, 1) := by decide +kernel
theorem dX9_hold_41 : decode cX9_hold 41 = .ok (.iastore, 1) := by decide +kernel
theorem dX9_hold_42 : decode cX9_hold 42 = .ok (.iload_n 2, 1) := by decide +kernel
theorem dX9_hold_43 : decode cX9_hold 43 = .ok (.ireturn, 1) := by decide +kernel
theorem dX9_undo_0 : decode cX9_undo 0 = .ok (.aload_n 0, 1) := by decide +kernel
theorem dX9_undo_1 : decode cX9_undo 1 = .ok (.getfield 106, 3) := by decide +kernel
theorem dX9_undo_4 : decode cX9_undo 4 = .ok (.ifCond .ne 6, 3) := by decide +kernel
theorem dX9_undo_7 : decode cX9_undo 7 = .ok (.bipush (-2), 2) := by decide +kernel
theorem dX9_undo_9 : decode cX9_undo 9 = .ok (.ireturn, 1) := by decide +kernel
theorem dX9_undo_10 : decode cX9_undo 10 = .ok (.aload_n 0, 1) := by decide +kernel
theorem dX9_undo_11 : decode cX9_undo 11 = .ok (.dup, 1) := by decide +kernel
theorem dX9_undo_12 : decode cX9_undo 12 = .ok (.getfield 106, 3) := by decide +kernel
theorem dX9_undo_15 : decode cX9_undo 15 = .ok (.iconst 1, 1) := by decide +kernel
theorem dX9_undo_16 : decode cX9_undo 16 = .ok (.isub, 1) := by decide +kernel
theorem dX9_undo_17 : decode cX9_undo 17 = .ok (.putfield 106, 3) := by decide +kernel
theorem dX9_undo_20 : decode cX9_undo 20 = .ok (.iconst 0, 1) := by decide +kernel
theorem dX9_undo_21 : decode cX9_undo 21 = .ok (.istore_n 1, 1) := by decide +kernel
theorem dX9_undo_22 : decode cX9_undo 22 = .ok (.iload_n 1, 1) := by decide +kernel
theorem dX9_undo_23 : decode cX9_undo 23 = .ok (.bipush 83, 2) := by decide +kernel
theorem dX9_undo_25 : decode cX9_undo 25 = .ok (.if_icmp .ge 29, 3) := by decide +kernel
theorem dX9_undo_28 : decode cX9_undo 28 = .ok (.aload_n 0, 1) := by decide +kernel
theorem dX9_undo_29 : decode cX9_undo 29 = .ok (.getfield 28, 3) := by decide +kernel
theorem dX9_undo_32 : decode cX9_undo 32 = .ok (.iload_n 1, 1) := by decide +kernel
theorem dX9_undo_33 : decode cX9_undo 33 = .ok (.aload_n 0, 1) := by decide +kernel
theorem dX9_undo_34 : decode cX9_undo 34 = .ok (.getfield 31, 3) := by decide +kernel
theorem dX9_undo_37 : decode cX9_undo 37 = .ok (.bipush 83, 2) := by decide +kernel
theorem dX9_undo_39 : decode cX9_undo 39 = .ok (.aload_n 0, 1) := by decide +kernel
theorem dX9_undo_40 : decode cX9_undo 40 = .ok (.getfield 106, 3) := by decide +kernel
theorem dX9_undo_43 : decode cX9_undo 43 = .ok (.imul, 1) := by decide +kernel
theorem dX9_undo_44 : decode cX9_undo 44 = .ok (.iload_n 1, 1) := by decide +kernel
theorem dX9_undo_45 : decode cX9_undo 45 = .ok (.iadd, 1) := by decide +kernel
theorem dX9_undo_46 : decode cX9_undo 46 = .ok (.iaload, 1) := by decide +kernel
theorem dX9_undo_47 : decode cX9_undo 47 = .ok (.iastore, 1) := by decide +kernel
theorem dX9_undo_48 : decode cX9_undo 48 = .ok (.iinc 1 1, 3) := by decide +kernel
theorem dX9_undo_51 : decode cX9_undo 51 = .ok (.goto (-29), 3) := by decide +kernel
theorem dX9_undo_54 : decode cX9_undo 54 = .ok (.aload_n 0, 1) := by decide +kernel
theorem dX9_undo_55 : decode cX9_undo 55 = .ok (.iconst 0, 1) := by decide +kernel
theorem dX9_undo_56 : decode cX9_undo 56 = .ok (.putfield 109, 3) := by decide +kernel
theorem dX9_undo_59 : decode cX9_undo 59 = .ok (.aload_n 0, 1) := by decide +kernel
theorem dX9_undo_60 : decode cX9_undo 60 = .ok (.invokevirtual 113, 3) := by decide +kernel
theorem dX9_undo_63 : decode cX9_undo 63 = .ok (.aload_n 0, 1) := by decide +kernel
theorem dX9_undo_64 : decode cX9_undo 64 = .ok (.getfield 106, 3) := by decide +kernel
theorem dX9_undo_67 : decode cX9_undo 67 = .ok (.ireturn, 1) := by decide +kernel
theorem dX9_code_0 : decode cX9_code 0 = .ok (.aload_n 0, 1) := by decide +kernel
theorem dX9_code_1 : decode cX9_code 1 = .ok (.iload_n 1, 1) := by decide +kernel
theorem dX9_code_2 : decode cX9_code 2 = .ok (.invokevirtual 140, 3) := by decide +kernel
theorem dX9_code_5 : decode cX9_code 5 = .ok (.ifCond .eq 15, 3) := by decide +kernel
theorem dX9_code_8 : decode cX9_code 8 = .ok (.iload_n 2, 1) := by decide +kernel
theorem dX9_code_9 : decode cX9_code 9 = .ok (.i2l, 1) := by decide +kernel
theorem dX9_code_10 : decode cX9_code 10 = .ok (.lconst 0, 1) := by decide +kernel
theorem dX9_code_11 : decode cX9_code 11 = .ok (.ldc2_w 145, 3) := by decide +kernel
theorem dX9_code_14 : decode cX9_code 14 = .ok (.invokestatic 71, 3) := by decide +kernel
theorem dX9_code_17 : decode cX9_code 17 = .ok (.ifCond .ne 5, 3) := by decide +kernel
theorem dX9_code_20 : decode cX9_code 20 = .ok (.iconst (-1), 1) := by decide +kernel
theorem dX9_code_21 : decode cX9_code 21 = .ok (.ireturn, 1) := by decide +kernel
theorem dX9_code_22 : decode cX9_code 22 = .ok (.iload_n 2, 1) := by decide +kernel
theorem dX9_code_23 : decode cX9_code 23 = .ok (.tableswitch 57 0 3 #[29, 36, 43, 50], 29) := by decide +kernel
theorem dX9_code_52 : decode cX9_code 52 = .ok (.aload_n 0, 1) := by decide +kernel
theorem dX9_code_53 : decode cX9_code 53 = .ok (.getfield 19, 3) := by decide +kernel
theorem dX9_code_56 : decode cX9_code 56 = .ok (.iload_n 1, 1) := by decide +kernel
theorem dX9_code_57 : decode cX9_code 57 = .ok (.iaload, 1) := by decide +kernel
theorem dX9_code_58 : decode cX9_code 58 = .ok (.ireturn, 1) := by decide +kernel
theorem dX9_code_59 : decode cX9_code 59 = .ok (.aload_n 0, 1) := by decide +kernel
theorem dX9_code_60 : decode cX9_code 60 = .ok (.getfield 22, 3) := by decide +kernel
theorem dX9_code_63 : decode cX9_code 63 = .ok (.iload_n 1, 1) := by decide +kernel
theorem dX9_code_64 : decode cX9_code 64 = .ok (.iaload, 1) := by decide +kernel
theorem dX9_code_65 : decode cX9_code 65 = .ok (.ireturn, 1) := by decide +kernel
theorem dX9_code_66 : decode cX9_code 66 = .ok (.aload_n 0, 1) := by decide +kernel
theorem dX9_code_67 : decode cX9_code 67 = .ok (.getfield 25, 3) := by decide +kernel
theorem dX9_code_70 : decode cX9_code 70 = .ok (.iload_n 1, 1) := by decide +kernel
theorem dX9_code_71 : decode cX9_code 71 = .ok (.iaload, 1) := by decide +kernel
theorem dX9_code_72 : decode cX9_code 72 = .ok (.ireturn, 1) := by decide +kernel
theorem dX9_code_73 : decode cX9_code 73 = .ok (.aload_n 0, 1) := by decide +kernel
theorem dX9_code_74 : decode cX9_code 74 = .ok (.getfield 37, 3) := by decide +kernel
theorem dX9_code_77 : decode cX9_code 77 = .ok (.iload_n 1, 1) := by decide +kernel
theorem dX9_code_78 : decode cX9_code 78 = .ok (.iaload, 1) := by decide +kernel
theorem dX9_code_79 : decode cX9_code 79 = .ok (.ireturn, 1) := by decide +kernel
theorem dX9_code_80 : decode cX9_code 80 = .ok (.aload_n 0, 1) := by decide +kernel
theorem dX9_code_81 : decode cX9_code 81 = .ok (.getfield 37, 3) := by decide +kernel
theorem dX9_code_84 : decode cX9_code 84 = .ok (.iload_n 1, 1) := by decide +kernel
theorem dX9_code_85 : decode cX9_code 85 = .ok (.iaload, 1) := by decide +kernel
theorem dX9_code_86 : decode cX9_code 86 = .ok (.bipush (-4), 2) := by decide +kernel
theorem dX9_code_88 : decode cX9_code 88 = .ok (.if_icmp .ne 8, 3) := by decide +kernel
theorem dX9_code_91 : decode cX9_code 91 = .ok (.bipush (-4), 2) := by decide +kernel
theorem dX9_code_93 : decode cX9_code 93 = .ok (.goto 10, 3) := by decide +kernel
theorem dX9_code_96 : decode cX9_code 96 = .ok (.iload_n 1, 1) := by decide +kernel
theorem dX9_code_97 : decode cX9_code 97 = .ok (.aload_n 0, 1) := by decide +kernel
theorem dX9_code_98 : decode cX9_code 98 = .ok (.iload_n 1, 1) := by decide +kernel
theorem dX9_code_99 : decode cX9_code 99 = .ok (.invokevirtual 184, 3) := by decide +kernel
theorem dX9_code_102 : decode cX9_code 102 = .ok (.isub, 1) := by decide +kernel
theorem dX9_code_103 : decode cX9_code 103 = .ok (.ireturn, 1) := by decide +kernel
theorem dX9_headOf_0 : decode cX9_headOf 0 = .ok (.iload_n 1, 1) := by decide +kernel
theorem dX9_headOf_1 : decode cX9_headOf 1 = .ok (.istore_n 2, 1) := by decide +kernel
theorem dX9_headOf_2 : decode cX9_headOf 2 = .ok (.aload_n 0, 1) := by decide +kernel
theorem dX9_headOf_3 : decode cX9_headOf 3 = .ok (.getfield 40, 3) := by decide +kernel
theorem dX9_headOf_6 : decode cX9_headOf 6 = .ok (.iload_n 2, 1) := by decide +kernel
theorem dX9_headOf_7 : decode cX9_headOf 7 = .ok (.iaload, 1) := by decide +kernel
theorem dX9_headOf_8 : decode cX9_headOf 8 = .ok (.bipush (-4), 2) := by decide +kernel
theorem dX9_headOf_10 : decode cX9_headOf 10 = .ok (.if_icmp .ne 9, 3) := by decide +kernel
theorem dX9_headOf_13 : decode cX9_headOf 13 = .ok (.iinc 2 (-1), 3) := by decide +kernel
theorem dX9_headOf_16 : decode cX9_headOf 16 = .ok (.goto (-14), 3) := by decide +kernel
theorem dX9_headOf_19 : decode cX9_headOf 19 = .ok (.iload_n 2, 1) := by decide +kernel
theorem dX9_headOf_20 : decode cX9_headOf 20 = .ok (.ireturn, 1) := by decide +kernel
theorem dX9_references_0 : decode cX9_references 0 = .ok (.iconst 0, 1) := by decide +kernel
theorem dX9_references_1 : decode cX9_references 1 = .ok (.istore_n 3, 1) := by decide +kernel
theorem dX9_references_2 : decode cX9_references 2 = .ok (.iload_n 1, 1) := by decide +kernel
theorem dX9_references_3 : decode cX9_references 3 = .ok (.istore 4, 2) := by decide +kernel
theorem dX9_references_5 : decode cX9_references 5 = .ok (.iload 4, 2) := by decide +kernel
theorem dX9_references_7 : decode cX9_references 7 = .ok (.iload_n 2, 1) := by decide +kernel
theorem dX9_references_8 : decode cX9_references 8 = .ok (.if_icmp .ge 41, 3) := by decide +kernel
theorem dX9_references_11 : decode cX9_references 11 = .ok (.iload_n 3, 1) := by decide +kernel
theorem dX9_references_12 : decode cX9_references 12 = .ok (.aload_n 0, 1) := by decide +kernel
theorem dX9_references_13 : decode cX9_references 13 = .ok (.getfield 37, 3) := by decide +kernel
theorem dX9_references_16 : decode cX9_references 16 = .ok (.iload 4, 2) := by decide +kernel
theorem dX9_references_18 : decode cX9_references 18 = .ok (.iaload, 1) := by decide +kernel
theorem dX9_references_19 : decode cX9_references 19 = .ok (.bipush (-4), 2) := by decide +kernel
theorem dX9_references_21 : decode cX9_references 21 = .ok (.if_icmp .eq 19, 3) := by decide +kernel
theorem dX9_references_24 : decode cX9_references 24 = .ok (.aload_n 0, 1) := by decide +kernel
theorem dX9_references_25 : decode cX9_references 25 = .ok (.getfield 40, 3) := by decide +kernel
theorem dX9_references_28 : decode cX9_references 28 = .ok (.iload 4, 2) := by decide +kernel
theorem dX9_references_30 : decode cX9_references 30 = .ok (.iaload, 1) := by decide +kernel
theorem dX9_references_31 : decode cX9_references 31 = .ok (.bipush (-4), 2) := by decide +kernel
theorem dX9_references_33 : decode cX9_references 33 = .ok (.if_icmp .eq 7, 3) := by decide +kernel
theorem dX9_references_36 : decode cX9_references 36 = .ok (.iconst 1, 1) := by decide +kernel
theorem dX9_references_37 : decode cX9_references 37 = .ok (.goto 4, 3) := by decide +kernel
theorem dX9_references_40 : decode cX9_references 40 = .ok (.iconst 0, 1) := by decide +kernel
theorem dX9_references_41 : decode cX9_references 41 = .ok (.iadd, 1) := by decide +kernel
theorem dX9_references_42 : decode cX9_references 42 = .ok (.istore_n 3, 1) := by decide +kernel
theorem dX9_references_43 : decode cX9_references 43 = .ok (.iinc 4 1, 3) := by decide +kernel
theorem dX9_references_46 : decode cX9_references 46 = .ok (.goto (-41), 3) := by decide +kernel
theorem dX9_references_49 : decode cX9_references 49 = .ok (.iload_n 3, 1) := by decide +kernel
theorem dX9_references_50 : decode cX9_references 50 = .ok (.ireturn, 1) := by decide +kernel
theorem dX9_size_0 : decode cX9_size 0 = .ok (.iload_n 1, 1) := by decide +kernel
theorem dX9_size_1 : decode cX9_size 1 = .ok (.i2l, 1) := by decide +kernel
theorem dX9_size_2 : decode cX9_size 2 = .ok (.lconst 0, 1) := by decide +kernel
theorem dX9_size_3 : decode cX9_size 3 = .ok (.ldc2_w 187, 3) := by decide +kernel
theorem dX9_size_6 : decode cX9_size 6 = .ok (.invokestatic 71, 3) := by decide +kernel
theorem dX9_size_9 : decode cX9_size 9 = .ok (.ifCond .ne 5, 3) := by decide +kernel
theorem dX9_size_12 : decode cX9_size 12 = .ok (.iconst (-1), 1) := by decide +kernel
theorem dX9_size_13 : decode cX9_size 13 = .ok (.ireturn, 1) := by decide +kernel
theorem dX9_size_14 : decode cX9_size 14 = .ok (.iconst 0, 1) := by decide +kernel
theorem dX9_size_15 : decode cX9_size 15 = .ok (.istore_n 2, 1) := by decide +kernel
theorem dX9_size_16 : decode cX9_size 16 = .ok (.iconst 0, 1) := by decide +kernel
theorem dX9_size_17 : decode cX9_size 17 = .ok (.istore_n 3, 1) := by decide +kernel
theorem dX9_size_18 : decode cX9_size 18 = .ok (.iload_n 3, 1) := by decide +kernel
theorem dX9_size_19 : decode cX9_size 19 = .ok (.aload_n 0, 1) := by decide +kernel
theorem dX9_size_20 : decode cX9_size 20 = .ok (.getfield 103, 3) := by decide +kernel
theorem dX9_size_23 : decode cX9_size 23 = .ok (.if_icmp .ge 21, 3) := by decide +kernel
theorem dX9_size_26 : decode cX9_size 26 = .ok (.iload_n 2, 1) := by decide +kernel
theorem dX9_size_27 : decode cX9_size 27 = .ok (.aload_n 0, 1) := by decide +kernel
theorem dX9_size_28 : decode cX9_size 28 = .ok (.getfield 19, 3) := by decide +kernel
theorem dX9_size_31 : decode cX9_size 31 = .ok (.iload_n 3, 1) := by decide +kernel
theorem dX9_size_32 : decode cX9_size 32 = .ok (.iaload, 1) := by decide +kernel
theorem dX9_size_33 : decode cX9_size 33 = .ok (.invokestatic 127, 3) := by decide +kernel
theorem dX9_size_36 : decode cX9_size 36 = .ok (.iadd, 1) := by decide +kernel
theorem dX9_size_37 : decode cX9_size 37 = .ok (.istore_n 2, 1) := by decide +kernel
theorem dX9_size_38 : decode cX9_size 38 = .ok (.iinc 3 1, 3) := by decide +kernel
theorem dX9_size_41 : decode cX9_size 41 = .ok (.goto (-23), 3) := by decide +kernel
theorem dX9_size_44 : decode cX9_size 44 = .ok (.iload_n 1, 1) := by decide +kernel
theorem dX9_size_45 : decode cX9_size 45 = .ok (.tableswitch 81 0 4 #[35, 45, 50, 57, 79], 35) := by decide +kernel
theorem dX9_size_80 : decode cX9_size 80 = .ok (.aload_n 0, 1) := by decide +kernel
theorem dX9_size_81 : decode cX9_size 81 = .ok (.getfield 40, 3) := by decide +kernel
theorem dX9_size_84 : decode cX9_size 84 = .ok (.aload_n 0, 1) := by decide +kernel
theorem dX9_size_85 : decode cX9_size 85 = .ok (.getfield 103, 3) := by decide +kernel
theorem dX9_size_88 : decode cX9_size 88 = .ok (.iaload, 1) := by decide +kernel
theorem dX9_size_89 : decode cX9_size 89 = .ok (.ireturn, 1) := by decide +kernel
theorem dX9_size_90 : decode cX9_size 90 = .ok (.aload_n 0, 1) := by decide +kernel
theorem dX9_size_91 : decode cX9_size 91 = .ok (.invokevirtual 189, 3) := by decide +kernel
theorem dX9_size_94 : decode cX9_size 94 = .ok (.ireturn, 1) := by decide +kernel
theorem dX9_size_95 : decode cX9_size 95 = .ok (.iconst 3, 1) := by decide +kernel
theorem dX9_size_96 : decode cX9_size 96 = .ok (.aload_n 0, 1) := by decide +kernel
theorem dX9_size_97 : decode cX9_size 97 = .ok (.invokevirtual 192, 3) := by decide +kernel
theorem dX9_size_100 : decode cX9_size 100 = .ok (.imul, 1) := by decide +kernel
theorem dX9_size_101 : decode cX9_size 101 = .ok (.ireturn, 1) := by decide +kernel
theorem dX9_size_102 : decode cX9_size 102 = .ok (.aload_n 0, 1) := by decide +kernel
theorem dX9_size_103 : decode cX9_size 103 = .ok (.getfield 40, 3) := by decide +kernel
theorem dX9_size_106 : decode cX9_size 106 = .ok (.aload_n 0, 1) := by decide +kernel
theorem dX9_size_107 : decode cX9_size 107 = .ok (.getfield 103, 3) := by decide +kernel
theorem dX9_size_110 : decode cX9_size 110 = .ok (.iaload, 1) := by decide +kernel
theorem dX9_size_111 : decode cX9_size 111 = .ok (.aload_n 0, 1) := by decide +kernel
theorem dX9_size_112 : decode cX9_size 112 = .ok (.invokevirtual 189, 3) := by decide +kernel
theorem dX9_size_115 : decode cX9_size 115 = .ok (.iadd, 1) := by decide +kernel
theorem dX9_size_116 : decode cX9_size 116 = .ok (.iconst 3, 1) := by decide +kernel
theorem dX9_size_117 : decode cX9_size 117 = .ok (.aload_n 0, 1) := by decide +kernel
theorem dX9_size_118 : decode cX9_size 118 = .ok (.invokevirtual 192, 3) := by decide +kernel
theorem dX9_size_121 : decode cX9_size 121 = .ok (.imul, 1) := by decide +kernel
theorem dX9_size_122 : decode cX9_size 122 = .ok (.iadd, 1) := by decide +kernel
theorem dX9_size_123 : decode cX9_size 123 = .ok (.ireturn, 1) := by decide +kernel
theorem dX9_size_124 : decode cX9_size 124 = .ok (.iload_n 2, 1) := by decide +kernel
theorem dX9_size_125 : decode cX9_size 125 = .ok (.ireturn, 1) := by decide +kernel
theorem dX9_size_126 : decode cX9_size 126 = .ok (.aload_n 0, 1) := by decide +kernel
theorem dX9_size_127 : decode cX9_size 127 = .ok (.iconst 0, 1) := by decide +kernel
theorem dX9_size_128 : decode cX9_size 128 = .ok (.aload_n 0, 1) := by decide +kernel
theorem dX9_size_129 : decode cX9_size 129 = .ok (.getfield 103, 3) := by decide +kernel
theorem dX9_size_132 : decode cX9_size 132 = .ok (.invokevirtual 195, 3) := by decide +kernel
theorem dX9_size_135 : decode cX9_size 135 = .ok (.ireturn, 1) := by decide +kernel
theorem dX9_kindOf_0 : decode cX9_kindOf 0 = .ok (.iload_n 0, 1) := by decide +kernel
theorem dX9_kindOf_1 : decode cX9_kindOf 1 = .ok (.tableswitch 146 97 122 #[119, 146, 146, 146, 146, 146, 146, 146, 146, 134, 140, 127, 121, 146, 146, 129, 143, 146, 125, 146, 146, 146, 131, 123, 146, 137], 119) := by decide +kernel
theorem dX9_kindOf_120 : decode cX9_kindOf 120 = .ok (.iconst 0, 1) := by decide +kernel
theorem dX9_kindOf_121 : decode cX9_kindOf 121 = .ok (.ireturn, 1) := by decide +kernel
theorem dX9_kindOf_122 : decode cX9_kindOf 122 = .ok (.iconst 1, 1) := by decide +kernel
theorem dX9_kindOf_123 : decode cX9_kindOf 123 = .ok (.ireturn, 1) := by decide +kernel
theorem dX9_kindOf_124 : decode cX9_kindOf 124 = .ok (.iconst 2, 1) := by decide +kernel
theorem dX9_kindOf_125 : decode cX9_kindOf 125 = .ok (.ireturn, 1) := by decide +kernel
theorem dX9_kindOf_126 : decode cX9_kindOf 126 = .ok (.iconst 3, 1) := by decide +kernel
theorem dX9_kindOf_127 : decode cX9_kindOf 127 = .ok (.ireturn, 1) := by decide +kernel
theorem dX9_kindOf_128 : decode cX9_kindOf 128 = .ok (.iconst 4, 1) := by decide +kernel
theorem dX9_kindOf_129 : decode cX9_kindOf 129 = .ok (.ireturn, 1) := by decide +kernel
theorem dX9_kindOf_130 : decode cX9_kindOf 130 = .ok (.iconst 5, 1) := by decide +kernel
theorem dX9_kindOf_131 : decode cX9_kindOf 131 = .ok (.ireturn, 1) := by decide +kernel
theorem dX9_kindOf_132 : decode cX9_kindOf 132 = .ok (.bipush 6, 2) := by decide +kernel
theorem dX9_kindOf_134 : decode cX9_kindOf 134 = .ok (.ireturn, 1) := by decide +kernel
theorem dX9_kindOf_135 : decode cX9_kindOf 135 = .ok (.bipush 7, 2) := by decide +kernel
theorem dX9_kindOf_137 : decode cX9_kindOf 137 = .ok (.ireturn, 1) := by decide +kernel
theorem dX9_kindOf_138 : decode cX9_kindOf 138 = .ok (.bipush 8, 2) := by decide +kernel
theorem dX9_kindOf_140 : decode cX9_kindOf 140 = .ok (.ireturn, 1) := by decide +kernel
theorem dX9_kindOf_141 : decode cX9_kindOf 141 = .ok (.bipush 9, 2) := by decide +kernel
theorem dX9_kindOf_143 : decode cX9_kindOf 143 = .ok (.ireturn, 1) := by decide +kernel
theorem dX9_kindOf_144 : decode cX9_kindOf 144 = .ok (.bipush 10, 2) := by decide +kernel
theorem dX9_kindOf_146 : decode cX9_kindOf 146 = .ok (.ireturn, 1) := by decide +kernel
theorem dX9_kindOf_147 : decode cX9_kindOf 147 = .ok (.bipush 11, 2) := by decide +kernel
theorem dX9_kindOf_149 : decode cX9_kindOf 149 = .ok (.ireturn, 1) := by decide +kernel
theorem dX9_nibbleOf_0 : decode cX9_nibbleOf 0 = .ok (.aload_n 0, 1) := by decide +kernel
theorem dX9_nibbleOf_1 : decode cX9_nibbleOf 1 = .ok (.getfield 37, 3) := by decide +kernel
theorem dX9_nibbleOf_4 : decode cX9_nibbleOf 4 = .ok (.iload_n 1, 1) := by decide +kernel
theorem dX9_nibbleOf_5 : decode cX9_nibbleOf 5 = .ok (.iaload, 1) := by decide +kernel
theorem dX9_nibbleOf_6 : decode cX9_nibbleOf 6 = .ok (.bipush (-4), 2) := by decide +kernel
theorem dX9_nibbleOf_8 : decode cX9_nibbleOf 8 = .ok (.if_icmp .eq 50, 3) := by decide +kernel
theorem dX9_nibbleOf_11 : decode cX9_nibbleOf 11 = .ok (.iload_n 2, 1) := by decide +kernel
theorem dX9_nibbleOf_12 : decode cX9_nibbleOf 12 = .ok (.ifCond .ne 8, 3) := by decide +kernel
theorem dX9_nibbleOf_15 : decode cX9_nibbleOf 15 = .ok (.bipush 15, 2) := by decide +kernel
theorem dX9_nibbleOf_17 : decode cX9_nibbleOf 17 = .ok (.goto 40, 3) := by decide +kernel
theorem dX9_nibbleOf_20 : decode cX9_nibbleOf 20 = .ok (.iload_n 2, 1) := by decide +kernel
theorem dX9_nibbleOf_21 : decode cX9_nibbleOf 21 = .ok (.iconst 1, 1) := by decide +kernel
theorem dX9_nibbleOf_22 : decode cX9_nibbleOf 22 = .ok (.if_icmp .ne 12, 3) := by decide +kernel
theorem dX9_nibbleOf_25 : decode cX9_nibbleOf 25 = .ok (.aload_n 0, 1) := by decide +kernel
theorem dX9_nibbleOf_26 : decode cX9_nibbleOf 26 = .ok (.getfield 37, 3) := by decide +kernel
theorem dX9_nibbleOf_29 : decode cX9_nibbleOf 29 = .ok (.iload_n 1, 1) := by decide +kernel
theorem dX9_nibbleOf_30 : decode cX9_nibbleOf 30 = .ok (.iaload, 1) := by decide +kernel
theorem dX9_nibbleOf_31 : decode cX9_nibbleOf 31 = .ok (.goto 26, 3) := by decide +kernel
theorem dX9_nibbleOf_34 : decode cX9_nibbleOf 34 = .ok (.aload_n 0, 1) := by decide +kernel
theorem dX9_nibbleOf_35 : decode cX9_nibbleOf 35 = .ok (.getfield 22, 3) := by decide +kernel
theorem dX9_nibbleOf_38 : decode cX9_nibbleOf 38 = .ok (.iload_n 1, 1) := by decide +kernel
theorem dX9_nibbleOf_39 : decode cX9_nibbleOf 39 = .ok (.aload_n 0, 1) := by decide +kernel
theorem dX9_nibbleOf_40 : decode cX9_nibbleOf 40 = .ok (.getfield 28, 3) := by decide +kernel
theorem dX9_nibbleOf_43 : decode cX9_nibbleOf 43 = .ok (.bipush 10, 2) := by decide +kernel
theorem dX9_nibbleOf_45 : decode cX9_nibbleOf 45 = .ok (.aload_n 0, 1) := by decide +kernel
theorem dX9_nibbleOf_46 : decode cX9_nibbleOf 46 = .ok (.getfield 37, 3) := by decide +kernel
theorem dX9_nibbleOf_49 : decode cX9_nibbleOf 49 = .ok (.iload_n 1, 1) := by decide +kernel
theorem dX9_nibbleOf_50 : decode cX9_nibbleOf 50 = .ok (.iaload, 1) := by decide +kernel
theorem dX9_nibbleOf_51 : decode cX9_nibbleOf 51 = .ok (.imul, 1) := by decide +kernel
theorem dX9_nibbleOf_52 : decode cX9_nibbleOf 52 = .ok (.iconst 1, 1) := by decide +kernel
theorem dX9_nibbleOf_53 : decode cX9_nibbleOf 53 = .ok (.iadd, 1) := by decide +kernel
theorem dX9_nibbleOf_54 : decode cX9_nibbleOf 54 = .ok (.iaload, 1) := by decide +kernel
theorem dX9_nibbleOf_55 : decode cX9_nibbleOf 55 = .ok (.iadd, 1) := by decide +kernel
theorem dX9_nibbleOf_56 : decode cX9_nibbleOf 56 = .ok (.iaload, 1) := by decide +kernel
theorem dX9_nibbleOf_57 : decode cX9_nibbleOf 57 = .ok (.ireturn, 1) := by decide +kernel
theorem dX9_nibbleOf_58 : decode cX9_nibbleOf 58 = .ok (.iload_n 2, 1) := by decide +kernel
theorem dX9_nibbleOf_59 : decode cX9_nibbleOf 59 = .ok (.ifCond .ne 13, 3) := by decide +kernel
theorem dX9_nibbleOf_62 : decode cX9_nibbleOf 62 = .ok (.aload_n 0, 1) := by decide +kernel
theorem dX9_nibbleOf_63 : decode cX9_nibbleOf 63 = .ok (.getfield 19, 3) := by decide +kernel
theorem dX9_nibbleOf_66 : decode cX9_nibbleOf 66 = .ok (.iload_n 1, 1) := by decide +kernel
theorem dX9_nibbleOf_67 : decode cX9_nibbleOf 67 = .ok (.iaload, 1) := by decide +kernel
theorem dX9_nibbleOf_68 : decode cX9_nibbleOf 68 = .ok (.invokestatic 199, 3) := by decide +kernel
theorem dX9_nibbleOf_71 : decode cX9_nibbleOf 71 = .ok (.ireturn, 1) := by decide +kernel
theorem dX9_nibbleOf_72 : decode cX9_nibbleOf 72 = .ok (.aload_n 0, 1) := by decide +kernel
theorem dX9_nibbleOf_73 : decode cX9_nibbleOf 73 = .ok (.getfield 19, 3) := by decide +kernel
theorem dX9_nibbleOf_76 : decode cX9_nibbleOf 76 = .ok (.iload_n 1, 1) := by decide +kernel
theorem dX9_nibbleOf_77 : decode cX9_nibbleOf 77 = .ok (.iaload, 1) := by decide +kernel
theorem dX9_nibbleOf_78 : decode cX9_nibbleOf 78 = .ok (.invokestatic 86, 3) := by decide +kernel
theorem dX9_nibbleOf_81 : decode cX9_nibbleOf 81 = .ok (.ifCond .eq 12, 3) := by decide +kernel
theorem dX9_nibbleOf_84 : decode cX9_nibbleOf 84 = .ok (.aload_n 0, 1) := by decide +kernel
theorem dX9_nibbleOf_85 : decode cX9_nibbleOf 85 = .ok (.getfield 22, 3) := by decide +kernel
theorem dX9_nibbleOf_88 : decode cX9_nibbleOf 88 = .ok (.iload_n 1, 1) := by decide +kernel
theorem dX9_nibbleOf_89 : decode cX9_nibbleOf 89 = .ok (.iaload, 1) := by decide +kernel
theorem dX9_nibbleOf_90 : decode cX9_nibbleOf 90 = .ok (.goto 24, 3) := by decide +kernel
theorem dX9_nibbleOf_93 : decode cX9_nibbleOf 93 = .ok (.aload_n 0, 1) := by decide +kernel
theorem dX9_nibbleOf_94 : decode cX9_nibbleOf 94 = .ok (.getfield 40, 3) := by decide +kernel
theorem dX9_nibbleOf_97 : decode cX9_nibbleOf 97 = .ok (.aload_n 0, 1) := by decide +kernel
theorem dX9_nibbleOf_98 : decode cX9_nibbleOf 98 = .ok (.getfield 22, 3) := by decide +kernel
theorem dX9_nibbleOf_101 : decode cX9_nibbleOf 101 = .ok (.iload_n 1, 1) := by decide +kernel
theorem dX9_nibbleOf_102 : decode cX9_nibbleOf 102 = .ok (.iaload, 1) := by decide +kernel
theorem dX9_nibbleOf_103 : decode cX9_nibbleOf 103 = .ok (.iaload, 1) := by decide +kernel
theorem dX9_nibbleOf_104 : decode cX9_nibbleOf 104 = .ok (.bipush 12, 2) := by decide +kernel
theorem dX9_nibbleOf_106 : decode cX9_nibbleOf 106 = .ok (.iconst 4, 1) := by decide +kernel
theorem dX9_nibbleOf_107 : decode cX9_nibbleOf 107 = .ok (.iload_n 2, 1) := by decide +kernel
theorem dX9_nibbleOf_108 : decode cX9_nibbleOf 108 = .ok (.imul, 1) := by decide +kernel
theorem dX9_nibbleOf_109 : decode cX9_nibbleOf 109 = .ok (.isub, 1) := by decide +kernel
theorem dX9_nibbleOf_110 : decode cX9_nibbleOf 110 = .ok (.ishr, 1) := by decide +kernel
theorem dX9_nibbleOf_111 : decode cX9_nibbleOf 111 = .ok (.bipush 15, 2) := by decide +kernel
theorem dX9_nibbleOf_113 : decode cX9_nibbleOf 113 = .ok (.iand, 1) := by decide +kernel
theorem dX9_nibbleOf_114 : decode cX9_nibbleOf 114 = .ok (.ireturn, 1) := by decide +kernel
theorem dX9_nibble_0 : decode cX9_nibble 0 = .ok (.iload_n 1, 1) := by decide +kernel
theorem dX9_nibble_1 : decode cX9_nibble 1 = .ok (.ifCond .ge 5, 3) := by decide +kernel
theorem dX9_nibble_4 : decode cX9_nibble 4 = .ok (.iconst (-1), 1) := by decide +kernel
theorem dX9_nibble_5 : decode cX9_nibble 5 = .ok (.ireturn, 1) := by decide +kernel
theorem dX9_nibble_6 : decode cX9_nibble 6 = .ok (.iload_n 1, 1) := by decide +kernel
theorem dX9_nibble_7 : decode cX9_nibble 7 = .ok (.aload_n 0, 1) := by decide +kernel
theorem dX9_nibble_8 : decode cX9_nibble 8 = .ok (.getfield 40, 3) := by decide +kernel
theorem dX9_nibble_11 : decode cX9_nibble 11 = .ok (.aload_n 0, 1) := by decide +kernel
theorem dX9_nibble_12 : decode cX9_nibble 12 = .ok (.getfield 103, 3) := by decide +kernel
theorem dX9_nibble_15 : decode cX9_nibble 15 = .ok (.iaload, 1) := by decide +kernel
theorem dX9_nibble_16 : decode cX9_nibble 16 = .ok (.if_icmp .lt 6, 3) := by decide +kernel
theorem dX9_nibble_19 : decode cX9_nibble 19 = .ok (.bipush (-4), 2) := by decide +kernel
theorem dX9_nibble_21 : decode cX9_nibble 21 = .ok (.ireturn, 1) := by decide +kernel
theorem dX9_nibble_22 : decode cX9_nibble 22 = .ok (.aload_n 0, 1) := by decide +kernel
theorem dX9_nibble_23 : decode cX9_nibble 23 = .ok (.getfield 103, 3) := by decide +kernel
theorem dX9_nibble_26 : decode cX9_nibble 26 = .ok (.iconst 1, 1) := by decide +kernel
theorem dX9_nibble_27 : decode cX9_nibble 27 = .ok (.isub, 1) := by decide +kernel
theorem dX9_nibble_28 : decode cX9_nibble 28 = .ok (.istore_n 2, 1) := by decide +kernel
theorem dX9_nibble_29 : decode cX9_nibble 29 = .ok (.aload_n 0, 1) := by decide +kernel
theorem dX9_nibble_30 : decode cX9_nibble 30 = .ok (.getfield 40, 3) := by decide +kernel
theorem dX9_nibble_33 : decode cX9_nibble 33 = .ok (.iload_n 2, 1) := by decide +kernel
theorem dX9_nibble_34 : decode cX9_nibble 34 = .ok (.iaload, 1) := by decide +kernel
theorem dX9_nibble_35 : decode cX9_nibble 35 = .ok (.bipush (-4), 2) := by decide +kernel
theorem dX9_nibble_37 : decode cX9_nibble 37 = .ok (.if_icmp .eq 13, 3) := by decide +kernel
theorem dX9_nibble_40 : decode cX9_nibble 40 = .ok (.aload_n 0, 1) := by decide +kernel
theorem dX9_nibble_41 : decode cX9_nibble 41 = .ok (.getfield 40, 3) := by decide +kernel
theorem dX9_nibble_44 : decode cX9_nibble 44 = .ok (.iload_n 2, 1) := by decide +kernel
theorem dX9_nibble_45 : decode cX9_nibble 45 = .ok (.iaload, 1) := by decide +kernel
theorem dX9_nibble_46 : decode cX9_nibble 46 = .ok (.iload_n 1, 1) := by decide +kernel
theorem dX9_nibble_47 : decode cX9_nibble 47 = .ok (.if_icmp .le 9, 3) := by decide +kernel
theorem dX9_nibble_50 : decode cX9_nibble 50 = .ok (.iinc 2 (-1), 3) := by decide +kernel
theorem dX9_nibble_53 : decode cX9_nibble 53 = .ok (.goto (-24), 3) := by decide +kernel
theorem dX9_nibble_56 : decode cX9_nibble 56 = .ok (.aload_n 0, 1) := by decide +kernel
theorem dX9_nibble_57 : decode cX9_nibble 57 = .ok (.iload_n 2, 1) := by decide +kernel
theorem dX9_nibble_58 : decode cX9_nibble 58 = .ok (.iload_n 1, 1) := by decide +kernel
theorem dX9_nibble_59 : decode cX9_nibble 59 = .ok (.aload_n 0, 1) := by decide +kernel
theorem dX9_nibble_60 : decode cX9_nibble 60 = .ok (.getfield 40, 3) := by decide +kernel
theorem dX9_nibble_63 : decode cX9_nibble 63 = .ok (.iload_n 2, 1) := by decide +kernel
theorem dX9_nibble_64 : decode cX9_nibble 64 = .ok (.iaload, 1) := by decide +kernel
theorem dX9_nibble_65 : decode cX9_nibble 65 = .ok (.isub, 1) := by decide +kernel
theorem dX9_nibble_66 : decode cX9_nibble 66 = .ok (.invokevirtual 202, 3) := by decide +kernel
theorem dX9_nibble_69 : decode cX9_nibble 69 = .ok (.ireturn, 1) := by decide +kernel
theorem dX9_address_0 : decode cX9_address 0 = .ok (.aload_n 0, 1) := by decide +kernel
theorem dX9_address_1 : decode cX9_address 1 = .ok (.iload_n 1, 1) := by decide +kernel
theorem dX9_address_2 : decode cX9_address 2 = .ok (.invokevirtual 140, 3) := by decide +kernel
theorem dX9_address_5 : decode cX9_address 5 = .ok (.ifCond .eq 12, 3) := by decide +kernel
theorem dX9_address_8 : decode cX9_address 8 = .ok (.aload_n 0, 1) := by decide +kernel
theorem dX9_address_9 : decode cX9_address 9 = .ok (.getfield 40, 3) := by decide +kernel
theorem dX9_address_12 : decode cX9_address 12 = .ok (.iload_n 1, 1) := by decide +kernel
theorem dX9_address_13 : decode cX9_address 13 = .ok (.iaload, 1) := by decide +kernel
theorem dX9_address_14 : decode cX9_address 14 = .ok (.goto 4, 3) := by decide +kernel
theorem dX9_address_17 : decode cX9_address 17 = .ok (.iconst (-1), 1) := by decide +kernel
theorem dX9_address_18 : decode cX9_address 18 = .ok (.ireturn, 1) := by decide +kernel
theorem dX9_at_0 : decode cX9_at 0 = .ok (.iload_n 1, 1) := by decide +kernel
theorem dX9_at_1 : decode cX9_at 1 = .ok (.ifCond .ge 5, 3) := by decide +kernel
theorem dX9_at_4 : decode cX9_at 4 = .ok (.iconst (-1), 1) := by decide +kernel
theorem dX9_at_5 : decode cX9_at 5 = .ok (.ireturn, 1) := by decide +kernel
theorem dX9_at_6 : decode cX9_at 6 = .ok (.iconst 0, 1) := by decide +kernel
theorem dX9_at_7 : decode cX9_at 7 = .ok (.istore_n 2, 1) := by decide +kernel
theorem dX9_at_8 : decode cX9_at 8 = .ok (.iload_n 2, 1) := by decide +kernel
theorem dX9_at_9 : decode cX9_at 9 = .ok (.aload_n 0, 1) := by decide +kernel
theorem dX9_at_10 : decode cX9_at 10 = .ok (.getfield 103, 3) := by decide +kernel
theorem dX9_at_13 : decode cX9_at 13 = .ok (.if_icmp .ge 21, 3) := by decide +kernel
theorem dX9_at_16 : decode cX9_at 16 = .ok (.aload_n 0, 1) := by decide +kernel
theorem dX9_at_17 : decode cX9_at 17 = .ok (.getfield 40, 3) := by decide +kernel
theorem dX9_at_20 : decode cX9_at 20 = .ok (.iload_n 2, 1) := by decide +kernel
theorem dX9_at_21 : decode cX9_at 21 = .ok (.iaload, 1) := by decide +kernel
theorem dX9_at_22 : decode cX9_at 22 = .ok (.iload_n 1, 1) := by decide +kernel
theorem dX9_at_23 : decode cX9_at 23 = .ok (.if_icmp .ne 5, 3) := by decide +kernel
theorem dX9_at_26 : decode cX9_at 26 = .ok (.iload_n 2, 1) := by decide +kernel
theorem dX9_at_27 : decode cX9_at 27 = .ok (.ireturn, 1) := by decide +kernel
theorem dX9_at_28 : decode cX9_at 28 = .ok (.iinc 2 1, 3) := by decide +kernel
theorem dX9_at_31 : decode cX9_at 31 = .ok (.goto (-23), 3) := by decide +kernel
theorem dX9_at_34 : decode cX9_at 34 = .ok (.bipush (-4), 2) := by decide +kernel
theorem dX9_at_36 : decode cX9_at 36 = .ok (.ireturn, 1) := by decide +kernel
theorem dX9_lineEnd_0 : decode cX9_lineEnd 0 = .ok (.iload_n 1, 1) := by decide +kernel
theorem dX9_lineEnd_1 : decode cX9_lineEnd 1 = .ok (.iconst 1, 1) := by decide +kernel
theorem dX9_lineEnd_2 : decode cX9_lineEnd 2 = .ok (.iadd, 1) := by decide +kernel
theorem dX9_lineEnd_3 : decode cX9_lineEnd 3 = .ok (.aload_n 0, 1) := by decide +kernel
theorem dX9_lineEnd_4 : decode cX9_lineEnd 4 = .ok (.getfield 28, 3) := by decide +kernel
theorem dX9_lineEnd_7 : decode cX9_lineEnd 7 = .ok (.bipush 80, 2) := by decide +kernel
theorem dX9_lineEnd_9 : decode cX9_lineEnd 9 = .ok (.iaload, 1) := by decide +kernel
theorem dX9_lineEnd_10 : decode cX9_lineEnd 10 = .ok (.imul, 1) := by decide +kernel
theorem dX9_lineEnd_11 : decode cX9_lineEnd 11 = .ok (.istore_n 2, 1) := by decide +kernel
theorem dX9_lineEnd_12 : decode cX9_lineEnd 12 = .ok (.iload_n 2, 1) := by decide +kernel
theorem dX9_lineEnd_13 : decode cX9_lineEnd 13 = .ok (.aload_n 0, 1) := by decide +kernel
theorem dX9_lineEnd_14 : decode cX9_lineEnd 14 = .ok (.getfield 103, 3) := by decide +kernel
theorem dX9_lineEnd_17 : decode cX9_lineEnd 17 = .ok (.if_icmp .ge 7, 3) := by decide +kernel
theorem dX9_lineEnd_20 : decode cX9_lineEnd 20 = .ok (.iload_n 2, 1) := by decide +kernel
theorem dX9_lineEnd_21 : decode cX9_lineEnd 21 = .ok (.goto 7, 3) := by decide +kernel
theorem dX9_lineEnd_24 : decode cX9_lineEnd 24 = .ok (.aload_n 0, 1) := by decide +kernel
theorem dX9_lineEnd_25 : decode cX9_lineEnd 25 = .ok (.getfield 103, 3) := by decide +kernel
theorem dX9_lineEnd_28 : decode cX9_lineEnd 28 = .ok (.ireturn, 1) := by decide +kernel
theorem dX9_line_0 : decode cX9_line 0 = .ok (.iload_n 1, 1) := by decide +kernel
theorem dX9_line_1 : decode cX9_line 1 = .ok (.i2l, 1) := by decide +kernel
theorem dX9_line_2 : decode cX9_line 2 = .ok (.lconst 0, 1) := by decide +kernel
theorem dX9_line_3 : decode cX9_line 3 = .ok (.aload_n 0, 1) := by decide +kernel
theorem dX9_line_4 : decode cX9_line 4 = .ok (.invokevirtual 192, 3) := by decide +kernel
theorem dX9_line_7 : decode cX9_line 7 = .ok (.iconst 1, 1) := by decide +kernel
theorem dX9_line_8 : decode cX9_line 8 = .ok (.isub, 1) := by decide +kernel
theorem dX9_line_9 : decode cX9_line 9 = .ok (.i2l, 1) := by decide +kernel
theorem dX9_line_10 : decode cX9_line 10 = .ok (.invokestatic 71, 3) := by decide +kernel
theorem dX9_line_13 : decode cX9_line 13 = .ok (.ifCond .eq 15, 3) := by decide +kernel
theorem dX9_line_16 : decode cX9_line 16 = .ok (.iload_n 2, 1) := by decide +kernel
theorem dX9_line_17 : decode cX9_line 17 = .ok (.i2l, 1) := by decide +kernel
theorem dX9_line_18 : decode cX9_line 18 = .ok (.lconst 0, 1) := by decide +kernel
theorem dX9_line_19 : decode cX9_line 19 = .ok (.ldc2_w 143, 3) := by decide +kernel
theorem dX9_line_22 : decode cX9_line 22 = .ok (.invokestatic 71, 3) := by decide +kernel
theorem dX9_line_25 : decode cX9_line 25 = .ok (.ifCond .ne 5, 3) := by decide +kernel
theorem dX9_line_28 : decode cX9_line 28 = .ok (.iconst (-1), 1) := by decide +kernel
theorem dX9_line_29 : decode cX9_line 29 = .ok (.ireturn, 1) := by decide +kernel
theorem dX9_line_30 : decode cX9_line 30 = .ok (.iload_n 1, 1) := by decide +kernel
theorem dX9_line_31 : decode cX9_line 31 = .ok (.aload_n 0, 1) := by decide +kernel
theorem dX9_line_32 : decode cX9_line 32 = .ok (.getfield 28, 3) := by decide +kernel
theorem dX9_line_35 : decode cX9_line 35 = .ok (.bipush 80, 2) := by decide +kernel
theorem dX9_line_37 : decode cX9_line 37 = .ok (.iaload, 1) := by decide +kernel
theorem dX9_line_38 : decode cX9_line 38 = .ok (.imul, 1) := by decide +kernel
theorem dX9_line_39 : decode cX9_line 39 = .ok (.istore_n 3, 1) := by decide +kernel
theorem dX9_line_40 : decode cX9_line 40 = .ok (.iload_n 2, 1) := by decide +kernel
theorem dX9_line_41 : decode cX9_line 41 = .ok (.ifCond .ne 12, 3) := by decide +kernel
theorem dX9_line_44 : decode cX9_line 44 = .ok (.aload_n 0, 1) := by decide +kernel
theorem dX9_line_45 : decode cX9_line 45 = .ok (.getfield 40, 3) := by decide +kernel
theorem dX9_line_48 : decode cX9_line 48 = .ok (.iload_n 3, 1) := by decide +kernel
theorem dX9_line_49 : decode cX9_line 49 = .ok (.iaload, 1) := by decide +kernel
theorem dX9_line_50 : decode cX9_line 50 = .ok (.goto 38, 3) := by decide +kernel
theorem dX9_line_53 : decode cX9_line 53 = .ok (.iload_n 2, 1) := by decide +kernel
theorem dX9_line_54 : decode cX9_line 54 = .ok (.iconst 1, 1) := by decide +kernel
theorem dX9_line_55 : decode cX9_line 55 = .ok (.if_icmp .ne 23, 3) := by decide +kernel
theorem dX9_line_58 : decode cX9_line 58 = .ok (.aload_n 0, 1) := by decide +kernel
theorem dX9_line_59 : decode cX9_line 59 = .ok (.getfield 40, 3) := by decide +kernel
theorem dX9_line_62 : decode cX9_line 62 = .ok (.aload_n 0, 1) := by decide +kernel
theorem dX9_line_63 : decode cX9_line 63 = .ok (.iload_n 1, 1) := by decide +kernel
theorem dX9_line_64 : decode cX9_line 64 = .ok (.invokevirtual 205, 3) := by decide +kernel
theorem dX9_line_67 : decode cX9_line 67 = .ok (.iaload, 1) := by decide +kernel
theorem dX9_line_68 : decode cX9_line 68 = .ok (.aload_n 0, 1) := by decide +kernel
theorem dX9_line_69 : decode cX9_line 69 = .ok (.getfield 40, 3) := by decide +kernel
theorem dX9_line_72 : decode cX9_line 72 = .ok (.iload_n 3, 1) := by decide +kernel
theorem dX9_line_73 : decode cX9_line 73 = .ok (.iaload, 1) := by decide +kernel
theorem dX9_line_74 : decode cX9_line 74 = .ok (.isub, 1) := by decide +kernel
theorem dX9_line_75 : decode cX9_line 75 = .ok (.goto 13, 3) := by decide +kernel
theorem dX9_line_78 : decode cX9_line 78 = .ok (.aload_n 0, 1) := by decide +kernel
theorem dX9_line_79 : decode cX9_line 79 = .ok (.iload_n 3, 1) := by decide +kernel
theorem dX9_line_80 : decode cX9_line 80 = .ok (.aload_n 0, 1) := by decide +kernel
theorem dX9_line_81 : decode cX9_line 81 = .ok (.iload_n 1, 1) := by decide +kernel
theorem dX9_line_82 : decode cX9_line 82 = .ok (.invokevirtual 205, 3) := by decide +kernel
theorem dX9_line_85 : decode cX9_line 85 = .ok (.invokevirtual 195, 3) := by decide +kernel
theorem dX9_line_88 : decode cX9_line 88 = .ok (.ireturn, 1) := by decide +kernel
theorem dX9_seek_0 : decode cX9_seek 0 = .ok (.aload_n 0, 1) := by decide +kernel
theorem dX9_seek_1 : decode cX9_seek 1 = .ok (.iload_n 1, 1) := by decide +kernel
theorem dX9_seek_2 : decode cX9_seek 2 = .ok (.invokevirtual 140, 3) := by decide +kernel
theorem dX9_seek_5 : decode cX9_seek 5 = .ok (.ifCond .ne 5, 3) := by decide +kernel
theorem dX9_seek_8 : decode cX9_seek 8 = .ok (.iconst (-1), 1) := by decide +kernel
theorem dX9_seek_9 : decode cX9_seek 9 = .ok (.ireturn, 1) := by decide +kernel
theorem dX9_seek_10 : decode cX9_seek 10 = .ok (.iload_n 1, 1) := by decide +kernel
theorem dX9_seek_11 : decode cX9_seek 11 = .ok (.iconst 1, 1) := by decide +kernel
theorem dX9_seek_12 : decode cX9_seek 12 = .ok (.iadd, 1) := by decide +kernel
theorem dX9_seek_13 : decode cX9_seek 13 = .ok (.istore_n 2, 1) := by decide +kernel
theorem dX9_seek_14 : decode cX9_seek 14 = .ok (.iload_n 2, 1) := by decide +kernel
theorem dX9_seek_15 : decode cX9_seek 15 = .ok (.aload_n 0, 1) := by decide +kernel
theorem dX9_seek_16 : decode cX9_seek 16 = .ok (.getfield 103, 3) := by decide +kernel
theorem dX9_seek_19 : decode cX9_seek 19 = .ok (.if_icmp .ge 20, 3) := by decide +kernel
theorem dX9_seek_22 : decode cX9_seek 22 = .ok (.aload_n 0, 1) := by decide +kernel
theorem dX9_seek_23 : decode cX9_seek 23 = .ok (.getfield 40, 3) := by decide +kernel
theorem dX9_seek_26 : decode cX9_seek 26 = .ok (.iload_n 2, 1) := by decide +kernel
