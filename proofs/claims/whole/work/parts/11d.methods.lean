def tJ0_length_8abf5 : List (Nat × Instr × Nat) := [(0, .aload_n 0, 1), (1, .getfield 9, 3), (4, .arraylength, 1), (5, .aload_n 0, 1), (6, .invokevirtual 335, 3), (9, .ishr, 1), (10, .ireturn, 1)]
theorem DJ0_length_8abf5 : xdt cJ0_length_8abf5 tJ0_length_8abf5 = true := by decide +kernel
abbrev mJ0_length_8abf5 : XM := (cJ0_length_8abf5, yJ0_length_8abf5, 1, (some .int), 0)
theorem FJ0_length_8abf5 : xMF mJ0_length_8abf5 0 := ⟨by decide +kernel, xTb_mem 375 (by decide +kernel) rfl, xTb_mem 64 (by decide +kernel) rfl, by decide +kernel, by decide +kernel, by decide +kernel, by decide⟩
theorem VJ0_length_8abf5 : xMV mJ0_length_8abf5 := ⟨xTb_mem 373 (by decide +kernel) rfl, xTb_mem 374 (by decide +kernel) rfl⟩
def tJ0_charAt_5068e : List (Nat × Instr × Nat) := [(0, .aload_n 0, 1), (1, .invokevirtual 492, 3), (4, .ifCond .eq 12, 3), (7, .aload_n 0, 1), (8, .getfield 9, 3), (11, .iload_n 1, 1), (12, .invokestatic 495, 3), (15, .ireturn, 1), (16, .aload_n 0, 1), (17, .getfield 9, 3), (20, .iload_n 1, 1), (21, .invokestatic 498, 3), (24, .ireturn, 1)]
theorem DJ0_charAt_5068e : xdt cJ0_charAt_5068e tJ0_charAt_5068e = true := by decide +kernel
abbrev mJ0_charAt_5068e : XM := (cJ0_charAt_5068e, yJ0_charAt_5068e, 2, (some .char), 0)
theorem FJ0_charAt_5068e : xMF mJ0_charAt_5068e 1 := ⟨by decide +kernel, xTb_mem 385 (by decide +kernel) rfl, xTb_mem 64 (by decide +kernel) rfl, by decide +kernel, by decide +kernel, by decide +kernel, by decide⟩
theorem VJ0_charAt_5068e : xMV mJ0_charAt_5068e := ⟨xTb_mem 383 (by decide +kernel) rfl, xTb_mem 384 (by decide +kernel) rfl⟩
def tJ0_indexOf_0f7a4 : List (Nat × Instr × Nat) := [(0, .aload_n 0, 1), (1, .iload_n 1, 1), (2, .iconst 0, 1), (3, .invokevirtual 633, 3), (6, .ireturn, 1)]
theorem DJ0_indexOf_0f7a4 : xdt cJ0_indexOf_0f7a4 tJ0_indexOf_0f7a4 = true := by decide +kernel
abbrev mJ0_indexOf_0f7a4 : XM := (cJ0_indexOf_0f7a4, yJ0_indexOf_0f7a4, 2, (some .int), 0)
theorem FJ0_indexOf_0f7a4 : xMF mJ0_indexOf_0f7a4 1 := ⟨by decide +kernel, xTb_mem 436 (by decide +kernel) rfl, xTb_mem 64 (by decide +kernel) rfl, by decide +kernel, by decide +kernel, by decide +kernel, by decide⟩
theorem VJ0_indexOf_0f7a4 : xMV mJ0_indexOf_0f7a4 := ⟨xTb_mem 434 (by decide +kernel) rfl, xTb_mem 435 (by decide +kernel) rfl⟩
def tJ0_indexOf_7cf53 : List (Nat × Instr × Nat) := [(0, .aload_n 0, 1), (1, .invokevirtual 492, 3), (4, .ifCond .eq 19, 3), (7, .aload_n 0, 1), (8, .getfield 9, 3), (11, .iload_n 1, 1), (12, .iload_n 2, 1), (13, .aload_n 0, 1), (14, .invokevirtual 505, 3), (17, .invokestatic 637, 3), (20, .goto 16, 3), (23, .aload_n 0, 1), (24, .getfield 9, 3), (27, .iload_n 1, 1), (28, .iload_n 2, 1), (29, .aload_n 0, 1), (30, .invokevirtual 505, 3), (33, .invokestatic 640, 3), (36, .ireturn, 1)]
theorem DJ0_indexOf_7cf53 : xdt cJ0_indexOf_7cf53 tJ0_indexOf_7cf53 = true := by decide +kernel
abbrev mJ0_indexOf_7cf53 : XM := (cJ0_indexOf_7cf53, yJ0_indexOf_7cf53, 3, (some .int), 0)
theorem FJ0_indexOf_7cf53 : xMF mJ0_indexOf_7cf53 2 := ⟨by decide +kernel, xTb_mem 440 (by decide +kernel) rfl, xTb_mem 64 (by decide +kernel) rfl, by decide +kernel, by decide +kernel, by decide +kernel, by decide⟩
theorem VJ0_indexOf_7cf53 : xMV mJ0_indexOf_7cf53 := ⟨xTb_mem 438 (by decide +kernel) rfl, xTb_mem 439 (by decide +kernel) rfl⟩
def tJ0_coder_7d493 : List (Nat × Instr × Nat) := [(0, .getstatic 38, 3), (3, .ifCond .eq 10, 3), (6, .aload_n 0, 1), (7, .getfield 15, 3), (10, .goto 4, 3), (13, .iconst 1, 1), (14, .ireturn, 1)]
theorem DJ0_coder_7d493 : xdt cJ0_coder_7d493 tJ0_coder_7d493 = true := by decide +kernel
abbrev mJ0_coder_7d493 : XM := (cJ0_coder_7d493, yJ0_coder_7d493, 1, (some .byte), 0)
theorem FJ0_coder_7d493 : xMF mJ0_coder_7d493 0 := ⟨by decide +kernel, xTb_mem 379 (by decide +kernel) rfl, xTb_mem 64 (by decide +kernel) rfl, by decide +kernel, by decide +kernel, by decide +kernel, by decide⟩
theorem VJ0_coder_7d493 : xMV mJ0_coder_7d493 := ⟨xTb_mem 377 (by decide +kernel) rfl, xTb_mem 378 (by decide +kernel) rfl⟩
def tJ0_isLatin1_aae02 : List (Nat × Instr × Nat) := [(0, .getstatic 38, 3), (3, .ifCond .eq 14, 3), (6, .aload_n 0, 1), (7, .getfield 15, 3), (10, .ifCond .ne 7, 3), (13, .iconst 1, 1), (14, .goto 4, 3), (17, .iconst 0, 1), (18, .ireturn, 1)]
theorem DJ0_isLatin1_aae02 : xdt cJ0_isLatin1_aae02 tJ0_isLatin1_aae02 = true := by decide +kernel
abbrev mJ0_isLatin1_aae02 : XM := (cJ0_isLatin1_aae02, yJ0_isLatin1_aae02, 1, (some .boolean), 0)
theorem FJ0_isLatin1_aae02 : xMF mJ0_isLatin1_aae02 0 := ⟨by decide +kernel, xTb_mem 389 (by decide +kernel) rfl, xTb_mem 64 (by decide +kernel) rfl, by decide +kernel, by decide +kernel, by decide +kernel, by decide⟩
theorem VJ0_isLatin1_aae02 : xMV mJ0_isLatin1_aae02 := ⟨xTb_mem 387 (by decide +kernel) rfl, xTb_mem 388 (by decide +kernel) rfl⟩
def tJ0_checkIndex_df160 : List (Nat × Instr × Nat) := [(0, .iload_n 0, 1), (1, .iload_n 1, 1), (2, .getstatic 1053, 3), (5, .invokestatic 1059, 3), (8, .pop, 1), (9, .return_, 1)]
theorem DJ0_checkIndex_df160 : xdt cJ0_checkIndex_df160 tJ0_checkIndex_df160 = true := by decide +kernel
abbrev mJ0_checkIndex_df160 : XM := (cJ0_checkIndex_df160, yJ0_checkIndex_df160, 2, none, 0)
theorem FJ0_checkIndex_df160 : xMF mJ0_checkIndex_df160 2 := ⟨by decide +kernel, xTb_mem 395 (by decide +kernel) rfl, xTb_mem 64 (by decide +kernel) rfl, by decide +kernel, by decide +kernel, by decide +kernel, by decide⟩
theorem VJ0_checkIndex_df160 : xMS mJ0_checkIndex_df160 := xTb_mem 394 (by decide +kernel) rfl
def tJ0_checkBoundsBeginEnd_23922 : List (Nat × Instr × Nat) := [(0, .iload_n 0, 1), (1, .iload_n 1, 1), (2, .iload_n 2, 1), (3, .getstatic 1053, 3), (6, .invokestatic 1062, 3), (9, .pop, 1), (10, .return_, 1)]
theorem DJ0_checkBoundsBeginEnd_23922 : xdt cJ0_checkBoundsBeginEnd_23922 tJ0_checkBoundsBeginEnd_23922 = true := by decide +kernel
abbrev mJ0_checkBoundsBeginEnd_23922 : XM := (cJ0_checkBoundsBeginEnd_23922, yJ0_checkBoundsBeginEnd_23922, 3, none, 0)
theorem FJ0_checkBoundsBeginEnd_23922 : xMF mJ0_checkBoundsBeginEnd_23922 3 := ⟨by decide +kernel, xTb_mem 471 (by decide +kernel) rfl, xTb_mem 64 (by decide +kernel) rfl, by decide +kernel, by decide +kernel, by decide +kernel, by decide⟩
theorem VJ0_checkBoundsBeginEnd_23922 : xMS mJ0_checkBoundsBeginEnd_23922 := xTb_mem 470 (by decide +kernel) rfl
def tJ1_charAt_3b067 : List (Nat × Instr × Nat) := [(0, .iload_n 1, 1), (1, .aload_n 0, 1), (2, .arraylength, 1), (3, .invokestatic 9, 3), (6, .aload_n 0, 1), (7, .iload_n 1, 1), (8, .baload, 1), (9, .sipush 255, 3), (12, .iand, 1), (13, .i2c, 1), (14, .ireturn, 1)]
theorem DJ1_charAt_3b067 : xdt cJ1_charAt_3b067 tJ1_charAt_3b067 = true := by decide +kernel
abbrev mJ1_charAt_3b067 : XM := (cJ1_charAt_3b067, yJ1_charAt_3b067, 2, (some .char), 0)
theorem FJ1_charAt_3b067 : xMF mJ1_charAt_3b067 2 := ⟨by decide +kernel, xTb_mem 392 (by decide +kernel) rfl, xTb_mem 65 (by decide +kernel) rfl, by decide +kernel, by decide +kernel, by decide +kernel, by decide⟩
theorem VJ1_charAt_3b067 : xMS mJ1_charAt_3b067 := xTb_mem 391 (by decide +kernel) rfl
def tJ1_canEncode_9a6ad : List (Nat × Instr × Nat) := [(0, .iload_n 0, 1), (1, .ifCond .lt 14, 3), (4, .iload_n 0, 1), (5, .sipush 255, 3), (8, .if_icmp .gt 7, 3), (11, .iconst 1, 1), (12, .goto 4, 3), (15, .iconst 0, 1), (16, .ireturn, 1)]
theorem DJ1_canEncode_9a6ad : xdt cJ1_canEncode_9a6ad tJ1_canEncode_9a6ad = true := by decide +kernel
abbrev mJ1_canEncode_9a6ad : XM := (cJ1_canEncode_9a6ad, yJ1_canEncode_9a6ad, 1, (some .boolean), 0)
theorem FJ1_canEncode_9a6ad : xMF mJ1_canEncode_9a6ad 1 := ⟨by decide +kernel, xTb_mem 447 (by decide +kernel) rfl, xTb_mem 65 (by decide +kernel) rfl, by decide +kernel, by decide +kernel, by decide +kernel, by decide⟩
theorem VJ1_canEncode_9a6ad : xMS mJ1_canEncode_9a6ad := xTb_mem 446 (by decide +kernel) rfl
def tJ1_indexOf_4cfef : List (Nat × Instr × Nat) := [(0, .iload_n 1, 1), (1, .invokestatic 88, 3), (4, .ifCond .ne 5, 3), (7, .iconst (-1), 1), (8, .ireturn, 1), (9, .iload_n 2, 1), (10, .iconst 0, 1), (11, .invokestatic 92, 3), (14, .istore_n 2, 1), (15, .iload_n 3, 1), (16, .aload_n 0, 1), (17, .arraylength, 1), (18, .invokestatic 38, 3), (21, .istore_n 3, 1), (22, .iload_n 2, 1), (23, .iload_n 3, 1), (24, .if_icmp .lt 5, 3), (27, .iconst (-1), 1), (28, .ireturn, 1), (29, .aload_n 0, 1), (30, .iload_n 1, 1), (31, .iload_n 2, 1), (32, .iload_n 3, 1), (33, .invokestatic 95, 3), (36, .ireturn, 1)]
theorem DJ1_indexOf_4cfef : xdt cJ1_indexOf_4cfef tJ1_indexOf_4cfef = true := by decide +kernel
abbrev mJ1_indexOf_4cfef : XM := (cJ1_indexOf_4cfef, yJ1_indexOf_4cfef, 4, (some .int), 0)
theorem FJ1_indexOf_4cfef : xMF mJ1_indexOf_4cfef 4 := ⟨by decide +kernel, xTb_mem 444 (by decide +kernel) rfl, xTb_mem 65 (by decide +kernel) rfl, by decide +kernel, by decide +kernel, by decide +kernel, by decide⟩
theorem VJ1_indexOf_4cfef : xMS mJ1_indexOf_4cfef := xTb_mem 443 (by decide +kernel) rfl
def tJ1_indexOfChar_4cfef : List (Nat × Instr × Nat) := [(0, .iload_n 1, 1), (1, .i2b, 1), (2, .istore 4, 2), (4, .iload_n 2, 1), (5, .istore 5, 2), (7, .iload 5, 2), (9, .iload_n 3, 1), (10, .if_icmp .ge 21, 3), (13, .aload_n 0, 1), (14, .iload 5, 2), (16, .baload, 1), (17, .iload 4, 2), (19, .if_icmp .ne 6, 3), (22, .iload 5, 2), (24, .ireturn, 1), (25, .iinc 5 1, 3), (28, .goto (-21), 3), (31, .iconst (-1), 1), (32, .ireturn, 1)]
theorem DJ1_indexOfChar_4cfef : xdt cJ1_indexOfChar_4cfef tJ1_indexOfChar_4cfef = true := by decide +kernel
abbrev mJ1_indexOfChar_4cfef : XM := (cJ1_indexOfChar_4cfef, yJ1_indexOfChar_4cfef, 6, (some .int), 0)
theorem FJ1_indexOfChar_4cfef : xMF mJ1_indexOfChar_4cfef 4 := ⟨by decide +kernel, xTb_mem 456 (by decide +kernel) rfl, xTb_mem 65 (by decide +kernel) rfl, by decide +kernel, by decide +kernel, by decide +kernel, by decide⟩
theorem VJ1_indexOfChar_4cfef : xMS mJ1_indexOfChar_4cfef := xTb_mem 455 (by decide +kernel) rfl
