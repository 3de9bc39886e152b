/-! SqueezedCodeModel: simple, placeOf, byAddress -/
def TgI (g : XH) : Prop := ∀ i, 0 ≤ i → i < g 4 3 → kTgt (g 5 i) → g 7 (g 6 i) = 1
theorem csN_head (g : XH) : ∀ i : Nat, (csN g i).2.2.1 ≠ 0 → ∃ i0 : Nat, i0 < i ∧ 0 ≤ g 244 i0 ∧ (i : Int) + (csN g i).2.2.1 = i0 + g (10 + 3 * (g 244 i0).toNat) 2 := by
  intro i
  induction i with
  | zero => intro q; exact absurd rfl q
  | succ i ih =>
    intro q
    by_cases h0 : (csN g i).2.2.1 = 0
    · by_cases h1 : g 244 i < 0
      · exact absurd (csN_own h0 h1).2.1 q
      · refine ⟨i, by omega, by omega, ?_⟩
        rw [(csN_ref h0 h1).2.1]
        omega
    · obtain ⟨i0, a, b, c⟩ := ih h0
      refine ⟨i0, by omega, b, ?_⟩
      rw [(csN_in h0).2.1]
      omega
theorem tgt_head {g : XH} (hC : CI g) {v : Int} (h0 : 0 ≤ v) (hv : v < g 4 3) (h7 : g 7 v = 1) : 0 ≤ g 251 v := by
  refine Classical.byContradiction (fun q => ?_)
  have hL := hC.2.2.2.1
  have ev : ((v.toNat : Nat) : Int) = v := by omega
  have hrf := rowF hC (j := v.toNat) (by omega)
  rw [ev] at hrf
  have hne : (csN g v.toNat).2.2.1 ≠ 0 := fun w => q (hrf.2.2.2.2.2.1.mpr w)
  obtain ⟨i0, a, b, c⟩ := csN_head g v.toNat hne
  have hPK := (FB_PK hC.2.1.1 hL.2.2.2.2.1).1
  have hr := csN_rg hC.1 hC.2.1 hPK v.toNat (by omega)
  have e := (hL.2.2.2.2.1 (i0 : Int) (by omega) (by omega)).2.1
  have hm : Mt g (10 + 3 * (g 244 (i0 : Int)).toNat) i0 := by
    rw [e] at b ⊢
    exact bst_Mt _ b
  obtain ⟨k, -, -, -, kr⟩ := hL.1
  have hpk := (hPK (i0 : Int) (by omega) (by omega)).resolve_left (by omega)
  have hw := (hC.2.1.ew (e := (g 244 (i0 : Int)).toNat) (by omega)).1
  have hs := (rch_seq kr hL.hr (g (10 + 3 * (g 244 (i0 : Int)).toNat) 2).toNat i0 (by omega) (by omega) (by omega) (by omega)).mp (by have := hm.1; omega)
  have := (hs.2.2 (v - i0) (by omega) (by omega)).2
  rw [show (i0 : Int) + (v - i0) = v by omega] at this
  omega
theorem adr_ok {g x : XH} (hC : CI g) (hT : TgI g) (hX : Off SRu g x) {i : Int} (h0 : 0 ≤ i) (hi : i < g 4 3) (hk : kTgt (g 5 i)) : 0 ≤ adr x (g 6 i) ∧ adr x (g 6 i) < 65536 := by
  have hP := hC.1
  have hv := (hP.2 i h0 hi).2.2.1 hk.1 hk.2
  have h251 := tgt_head hC hv.1 hv.2 (hT i h0 hi hk)
  have hr := hC.rows hv.1 hv.2
  unfold adr
  rw [hX 4 (by unfold SRu; omega), hX 251 (by unfold SRu; omega)]
  by_cases q : x 255 7 ≠ 0 ∧ 0 ≤ g 6 i ∧ g 6 i < g 4 3
  · rw [pik_t q]; omega
  · rw [pik_f q]; have := hP.1; omega
theorem RRc.k {x h : XH} {j z : Int} (hR : RRc x h) (a : j ≠ 7) (b : j ≠ 8) (c : j ≠ 10) (d : j ≠ 12) (e : j ≠ 14) (f : j ≠ 15) (i : j ≠ 16) : RRc (hset x 255 j z) h := by
  have e5 : ∀ y, y ≠ j → hset x 255 j z 255 y = x 255 y := fun y q => hset_i q
  have e6 : hset x 255 j z 256 = x 256 := hset_c (by decide)
  have e7 : hset x 255 j z 257 = x 257 := hset_c (by decide)
  have e8 : hset x 255 j z 258 = x 258 := hset_c (by decide)
  unfold RRc
  rw [e6, e7, e8, e5 7 (Ne.symm a), e5 8 (Ne.symm b), e5 10 (Ne.symm c), e5 12 (Ne.symm d), e5 14 (Ne.symm e), e5 15 (Ne.symm f), e5 16 (Ne.symm i)]
  exact hR
theorem RRc.m {x h : XH} {j z : Int} (hR : RRc x h) (a : j ≠ 16) (b : j ≠ 18) (c : j ≠ 20) (d : j ≠ 21) (e : j ≠ 22) (f : j ≠ 23) (i : j ≠ 26) : RRc x (hset h 259 j z) := by
  have e5 : ∀ y, y ≠ j → hset h 259 j z 259 y = h 259 y := fun y q => hset_i q
  have e6 : hset h 259 j z 271 = h 271 := hset_c (by decide)
  have e7 : hset h 259 j z 272 = h 272 := hset_c (by decide)
  have e8 : hset h 259 j z 273 = h 273 := hset_c (by decide)
  unfold RRc
  rw [e6, e7, e8, e5 16 (Ne.symm a), e5 18 (Ne.symm b), e5 20 (Ne.symm c), e5 21 (Ne.symm d), e5 22 (Ne.symm e), e5 23 (Ne.symm f), e5 26 (Ne.symm i)]
  exact hR
theorem RRc.sum {x h : XH} {z : Int} (hR : RRc x h) : RRc (hset x 255 10 z) (hset h 259 18 z) := by
  obtain ⟨r1, r2, r3, r4, r5, r6, r7, r8, r9, r10⟩ := hR
  refine ⟨?_, by rw [hset_s, hset_s], ?_, ?_, ?_, ?_, ?_, fun j a b => ?_, fun j a b => ?_, fun j a b => ?_⟩
  · rw [hset_i (by decide), hset_i (by decide)]; exact r1
  · rw [hset_i (by decide), hset_i (by decide)]; exact r3
  · rw [hset_i (by decide), hset_i (by decide)]; exact r4
  · rw [hset_i (by decide), hset_i (by decide)]; exact r5
  · rw [hset_i (by decide), hset_i (by decide)]; exact r6
  · rw [hset_i (by decide), hset_i (by decide)]; exact r7
  · rw [hset_c (by decide), hset_c (by decide)]; exact r8 j a b
  · rw [hset_i (by decide)] at b
    rw [hset_c (by decide), hset_c (by decide)]; exact r9 j a b
  · rw [hset_i (by decide)] at b
    rw [hset_c (by decide), hset_c (by decide)]; exact r10 j a b
theorem RRc.trap {x h : XH} {z : Int} (hR : RRc x h) : RRc (hset x 255 8 z) (hset h 259 21 z) := by
  obtain ⟨r1, r2, r3, r4, r5, r6, r7, r8, r9, r10⟩ := hR
  refine ⟨?_, ?_, ?_, by rw [hset_s, hset_s], ?_, ?_, ?_, fun j a b => ?_, fun j a b => ?_, fun j a b => ?_⟩
  · rw [hset_i (by decide), hset_i (by decide)]; exact r1
  · rw [hset_i (by decide), hset_i (by decide)]; exact r2
  · rw [hset_i (by decide), hset_i (by decide)]; exact r3
  · rw [hset_i (by decide), hset_i (by decide)]; exact r5
  · rw [hset_i (by decide), hset_i (by decide)]; exact r6
  · rw [hset_i (by decide), hset_i (by decide)]; exact r7
  · rw [hset_c (by decide), hset_c (by decide)]; exact r8 j a b
  · rw [hset_i (by decide)] at b
    rw [hset_c (by decide), hset_c (by decide)]; exact r9 j a b
  · rw [hset_i (by decide)] at b
    rw [hset_c (by decide), hset_c (by decide)]; exact r10 j a b
theorem RRc.cel {x h : XH} {v z : Int} (hR : RRc x h) : RRc (hset x 256 v z) (hset h 271 v z) := by
  obtain ⟨r1, r2, r3, r4, r5, r6, r7, r8, r9, r10⟩ := hR
  refine ⟨r1, r2, r3, r4, r5, r6, r7, fun j a b => ?_, r9, r10⟩
  rw [hset_at, hset_at]
  split
  · rfl
  · exact r8 j a b
theorem RRc.out {x h : XH} {z : Int} (hR : RRc x h) (h12 : 0 ≤ x 255 12) : RRc (tellH x z) (hset (hset h 272 (x 255 12) z) 259 20 (x 255 12 + 1)) := by
  obtain ⟨r1, r2, r3, r4, r5, r6, r7, r8, r9, r10⟩ := hR
  unfold tellH
  refine ⟨?_, ?_, by rw [hset_s, hset_s], ?_, ?_, ?_, ?_, fun j a b => ?_, fun j a b => ?_, fun j a b => ?_⟩
  · rw [hset_i (by decide), hset_c (by decide), hset_i (by decide), hset_c (by decide)]; exact r1
  · rw [hset_i (by decide), hset_c (by decide), hset_i (by decide), hset_c (by decide)]; exact r2
  · rw [hset_i (by decide), hset_c (by decide), hset_i (by decide), hset_c (by decide)]; exact r4
  · rw [hset_i (by decide), hset_c (by decide), hset_i (by decide), hset_c (by decide)]; exact r5
  · rw [hset_i (by decide), hset_c (by decide), hset_i (by decide), hset_c (by decide)]; exact r6
  · rw [hset_i (by decide), hset_c (by decide), hset_i (by decide), hset_c (by decide)]; exact r7
  · rw [hset_c (by decide), hset_c (by decide), hset_c (by decide), hset_c (by decide)]; exact r8 j a b
  · rw [hset_s] at b
    rw [hset_c (c := 259) (by decide), hset_c (c := 255) (by decide), hset_at, hset_at]
    split
    · rfl
    · exact r9 j a (by omega)
  · rw [hset_i (by decide), hset_c (by decide)] at b
    rw [hset_c (by decide), hset_c (by decide), hset_c (by decide), hset_c (by decide)]; exact r10 j a b
theorem RNx.sum {x : XH} {z : Int} (hN : RNx x) (hz : 0 ≤ z ∧ z < 65536) : RNx (hset x 255 10 z) := by
  refine ⟨by rw [hset_s]; exact hz, fun j a b => ?_⟩
  rw [hset_c (by decide)]
  exact hN.2 j a b
theorem RNx.k {x : XH} {j z : Int} (hN : RNx x) (hj : j ≠ 10) : RNx (hset x 255 j z) := by
  refine ⟨by rw [hset_i (Ne.symm hj)]; exact hN.1, fun j a b => ?_⟩
  rw [hset_c (by decide)]
  exact hN.2 j a b
theorem mod65 (a : Int) : 0 ≤ a % 65536 ∧ a % 65536 < 65536 := by omega
def OSm (h h' : XH) : Prop := Off (fun c => c = 259 ∨ c = 271 ∨ c = 272) h h' ∧ ∀ j, j ≠ 18 → j ≠ 20 → h' 259 j = h 259 j
set_option maxRecDepth 100000 in
set_option maxHeartbeats 4000000 in
theorem pX9_simple {K : XK} {n : Nat} {h : XH} (x : XH) (kd v : Int) (hk : 0 ≤ kd ∧ kd ≤ 6) (hv : 0 ≤ v ∧ v ≤ 9) (hR : RRc x h) (hN : RNx x) (h6 : kd = 6 → 0 ≤ x 255 12 ∧ x 255 12 < 12) : MV K mX9_simple 0 n [vr 259, vi (ltr kd), vi v] h (fun h' => RRc (wkH x kd v) h' ∧ RNx (wkH x kd v) ∧ OSm h h') := by
  refine xMeth FX9_simple (Nat.le_of_ble_eq_true rfl) ?_
  have h271 := hR.2.2.2.2.2.2.2.1 v hv.1 (by omega)
  have hn1 := hN.1
  have hcv := hN.2 v hv.1 (by omega)
  have h18 := hR.2.1
  have h20 := hR.2.2.1
  have hm : 0 ≤ x 255 10 * v ∧ x 255 10 * v < 2147483648 := by
    refine ⟨Int.mul_nonneg hn1.1 hv.1, Int.lt_of_le_of_lt (Int.mul_le_mul (show x 255 10 ≤ 65535 by omega) hv.2 hv.1 (by decide)) (by decide)⟩
  have hk7 : kd = 0 ∨ kd = 1 ∨ kd = 2 ∨ kd = 3 ∨ kd = 4 ∨ kd = 5 ∨ kd = 6 := by omega
  rcases hk7 with e | e | e | e | e | e | e <;> subst e
  · refine x_iload_n 1 (xd DX9_simple rfl) rfl rfl ?_
    refine x_lookup 60 (off := 59) (xd DX9_simple rfl) (by decide) (by decide) (by rfl) rfl ?_
    refine x_aload_n 61 (xd DX9_simple rfl) rfl rfl ?_
    refine x_aload_n 62 (xd DX9_simple rfl) rfl rfl ?_
    refine x_gi 65 18 rfl LX9_214 (xd DX9_simple rfl) rfl ⟨Or.inr ⟨rfl, by decide⟩, by decide⟩ rfl ?_
    refine x_iload_n 66 (xd DX9_simple rfl) rfl rfl ?_
    refine x_iadd 67 (xd DX9_simple rfl) rfl ?_
    refine x_ldc 69 (xd DX9_simple rfl) KX9_241 rfl ?_
    refine x_irem 70 (by omega) (by omega) (by omega) (by omega) (xd DX9_simple rfl) rfl ?_
    refine x_pi 73 18 rfl LX9_214 (xd DX9_simple rfl) rfl rfl ⟨Or.inr ⟨rfl, by decide⟩, by decide⟩ rfl ?_
    refine x_goto 180 (xd DX9_simple rfl) rfl ?_
    refine x_rv (xd DX9_simple rfl) rfl ?_
    show RRc (hset x 255 10 ((x 255 10 + v) % 65536)) _ ∧ RNx (hset x 255 10 ((x 255 10 + v) % 65536)) ∧ _
    rw [hR.2.1]
    exact ⟨hR.sum, hN.sum (mod65 _), ⟨(Off.set (S := fun c => c = 259 ∨ c = 271 ∨ c = 272) (Or.inl rfl)), fun j a b => hset_i a⟩⟩
  · refine x_iload_n 1 (xd DX9_simple rfl) rfl rfl ?_
    refine x_lookup 76 (off := 75) (xd DX9_simple rfl) (by decide) (by decide) (by rfl) rfl ?_
    refine x_aload_n 77 (xd DX9_simple rfl) rfl rfl ?_
    refine x_aload_n 78 (xd DX9_simple rfl) rfl rfl ?_
    refine x_gi 81 18 rfl LX9_214 (xd DX9_simple rfl) rfl ⟨Or.inr ⟨rfl, by decide⟩, by decide⟩ rfl ?_
    refine x_iload_n 82 (xd DX9_simple rfl) rfl rfl ?_
    refine x_imul 83 (xd DX9_simple rfl) rfl ?_
    refine x_ldc 85 (xd DX9_simple rfl) KX9_241 rfl ?_
    refine x_irem 86 (by first | omega | (rw [h18]; omega)) (by first | omega | (rw [h18]; omega)) (by first | omega | (rw [h18]; omega)) (by first | omega | (rw [h18]; omega)) (xd DX9_simple rfl) rfl ?_
    refine x_pi 89 18 rfl LX9_214 (xd DX9_simple rfl) rfl rfl ⟨Or.inr ⟨rfl, by decide⟩, by decide⟩ rfl ?_
    refine x_goto 180 (xd DX9_simple rfl) rfl ?_
    refine x_rv (xd DX9_simple rfl) rfl ?_
    show RRc (hset x 255 10 ((x 255 10 * v) % 65536)) _ ∧ RNx (hset x 255 10 ((x 255 10 * v) % 65536)) ∧ _
    rw [hR.2.1]
    exact ⟨hR.sum, hN.sum (mod65 _), ⟨(Off.set (S := fun c => c = 259 ∨ c = 271 ∨ c = 272) (Or.inl rfl)), fun j a b => hset_i a⟩⟩
  · refine x_iload_n 1 (xd DX9_simple rfl) rfl rfl ?_
    refine x_lookup 92 (off := 91) (xd DX9_simple rfl) (by decide) (by decide) (by rfl) rfl ?_
    refine x_aload_n 93 (xd DX9_simple rfl) rfl rfl ?_
    refine x_aload_n 94 (xd DX9_simple rfl) rfl rfl ?_
    refine x_gi 97 18 rfl LX9_214 (xd DX9_simple rfl) rfl ⟨Or.inr ⟨rfl, by decide⟩, by decide⟩ rfl ?_
    refine x_iload_n 98 (xd DX9_simple rfl) rfl rfl ?_
    refine x_ixor 99 (xd DX9_simple rfl) rfl ?_
    refine x_pi 102 18 rfl LX9_214 (xd DX9_simple rfl) rfl rfl ⟨Or.inr ⟨rfl, by decide⟩, by decide⟩ rfl ?_
    refine x_goto 180 (xd DX9_simple rfl) rfl ?_
    refine x_rv (xd DX9_simple rfl) rfl ?_
    show RRc (hset x 255 10 (xxor (x 255 10) v)) _ ∧ RNx (hset x 255 10 (xxor (x 255 10) v)) ∧ _
    rw [hR.2.1]
    exact ⟨hR.sum, hN.sum (xxor_rg hN.1.1 hN.1.2 hv.1 (by omega)), ⟨(Off.set (S := fun c => c = 259 ∨ c = 271 ∨ c = 272) (Or.inl rfl)), fun j a b => hset_i a⟩⟩
  · refine x_iload_n 1 (xd DX9_simple rfl) rfl rfl ?_
    refine x_lookup 105 (off := 104) (xd DX9_simple rfl) (by decide) (by decide) (by rfl) rfl ?_
    refine x_aload_n 106 (xd DX9_simple rfl) rfl rfl ?_
    refine x_gr 109 _ LX9_43 (xd DX9_simple rfl) rfl rfl ⟨by decide, by decide⟩ (by decide) rfl rfl ?_
    refine x_iload_n 110 (xd DX9_simple rfl) rfl rfl ?_
    refine x_aload_n 111 (xd DX9_simple rfl) rfl rfl ?_
    refine x_gi 114 18 rfl LX9_214 (xd DX9_simple rfl) rfl ⟨Or.inr ⟨rfl, by decide⟩, by decide⟩ rfl ?_
    refine x_iastore 115 (xd DX9_simple rfl) rfl ⟨Or.inr ⟨rfl, by decide⟩, by decide⟩ (by decide) (by omega) (by omega) rfl ?_
    refine x_goto 180 (xd DX9_simple rfl) rfl ?_
    refine x_rv (xd DX9_simple rfl) rfl ?_
    show RRc (hset x 256 v (x 255 10)) _ ∧ RNx (hset x 256 v (x 255 10)) ∧ _
    rw [hR.2.1]
    refine ⟨hR.cel, ⟨hN.1, fun j a b => ?_⟩, (Off.set (S := fun c => c = 259 ∨ c = 271 ∨ c = 272) (Or.inr (Or.inl rfl))), fun j a b => rfl⟩
    rw [hset_at]
    split
    · exact hN.1
    · exact hN.2 j a b
  · refine x_iload_n 1 (xd DX9_simple rfl) rfl rfl ?_
    refine x_lookup 118 (off := 117) (xd DX9_simple rfl) (by decide) (by decide) (by rfl) rfl ?_
    refine x_aload_n 119 (xd DX9_simple rfl) rfl rfl ?_
    refine x_aload_n 120 (xd DX9_simple rfl) rfl rfl ?_
    refine x_gr 123 _ LX9_43 (xd DX9_simple rfl) rfl rfl ⟨by decide, by decide⟩ (by decide) rfl rfl ?_
    refine x_iload_n 124 (xd DX9_simple rfl) rfl rfl ?_
    refine x_iaload 125 (xd DX9_simple rfl) rfl ⟨Or.inr ⟨rfl, by decide⟩, by decide⟩ (by decide) (by omega) (by omega) rfl ?_
    refine x_pi 128 18 rfl LX9_214 (xd DX9_simple rfl) rfl rfl ⟨Or.inr ⟨rfl, by decide⟩, by decide⟩ rfl ?_
    refine x_goto 180 (xd DX9_simple rfl) rfl ?_
    refine x_rv (xd DX9_simple rfl) rfl ?_
    show RRc (hset x 255 10 (x 256 v)) _ ∧ RNx (hset x 255 10 (x 256 v)) ∧ _
    rw [h271]
    exact ⟨hR.sum, hN.sum (hN.2 v hv.1 (by omega)), ⟨(Off.set (S := fun c => c = 259 ∨ c = 271 ∨ c = 272) (Or.inl rfl)), fun j a b => hset_i a⟩⟩
  · refine x_iload_n 1 (xd DX9_simple rfl) rfl rfl ?_
    refine x_lookup 131 (off := 130) (xd DX9_simple rfl) (by decide) (by decide) (by rfl) rfl ?_
    refine x_aload_n 132 (xd DX9_simple rfl) rfl rfl ?_
    refine x_aload_n 133 (xd DX9_simple rfl) rfl rfl ?_
    refine x_gi 136 18 rfl LX9_214 (xd DX9_simple rfl) rfl ⟨Or.inr ⟨rfl, by decide⟩, by decide⟩ rfl ?_
    refine x_aload_n 137 (xd DX9_simple rfl) rfl rfl ?_
    refine x_gr 140 _ LX9_43 (xd DX9_simple rfl) rfl rfl ⟨by decide, by decide⟩ (by decide) rfl rfl ?_
    refine x_iload_n 141 (xd DX9_simple rfl) rfl rfl ?_
    refine x_iaload 142 (xd DX9_simple rfl) rfl ⟨Or.inr ⟨rfl, by decide⟩, by decide⟩ (by decide) (by omega) (by omega) rfl ?_
    refine x_iadd 143 (xd DX9_simple rfl) rfl ?_
    refine x_ldc 145 (xd DX9_simple rfl) KX9_241 rfl ?_
    refine x_irem 146 (by first | omega | (rw [h18, h271]; omega)) (by first | omega | (rw [h18, h271]; omega)) (by first | omega | (rw [h18, h271]; omega)) (by first | omega | (rw [h18, h271]; omega)) (xd DX9_simple rfl) rfl ?_
    refine x_pi 149 18 rfl LX9_214 (xd DX9_simple rfl) rfl rfl ⟨Or.inr ⟨rfl, by decide⟩, by decide⟩ rfl ?_
    refine x_goto 180 (xd DX9_simple rfl) rfl ?_
    refine x_rv (xd DX9_simple rfl) rfl ?_
    show RRc (hset x 255 10 ((x 255 10 + x 256 v) % 65536)) _ ∧ RNx (hset x 255 10 ((x 255 10 + x 256 v) % 65536)) ∧ _
    rw [hR.2.1, h271]
    exact ⟨hR.sum, hN.sum (mod65 _), ⟨(Off.set (S := fun c => c = 259 ∨ c = 271 ∨ c = 272) (Or.inl rfl)), fun j a b => hset_i a⟩⟩
  · refine x_iload_n 1 (xd DX9_simple rfl) rfl rfl ?_
    have h12 := h6 rfl
    refine x_lookup 152 (off := 151) (xd DX9_simple rfl) (by decide) (by decide) (by rfl) rfl ?_
    refine x_aload_n 153 (xd DX9_simple rfl) rfl rfl ?_
    refine x_gr 156 _ LX9_46 (xd DX9_simple rfl) rfl rfl ⟨by decide, by decide⟩ (by decide) rfl rfl ?_
    refine x_aload_n 157 (xd DX9_simple rfl) rfl rfl ?_
    refine x_gi 160 20 rfl LX9_220 (xd DX9_simple rfl) rfl ⟨Or.inr ⟨rfl, by decide⟩, by decide⟩ rfl ?_
    refine x_aload_n 161 (xd DX9_simple rfl) rfl rfl ?_
    refine x_gi 164 18 rfl LX9_214 (xd DX9_simple rfl) rfl ⟨Or.inr ⟨rfl, by decide⟩, by decide⟩ rfl ?_
    refine x_iload_n 165 (xd DX9_simple rfl) rfl rfl ?_
    refine x_iadd 166 (xd DX9_simple rfl) rfl ?_
    refine x_ldc 168 (xd DX9_simple rfl) KX9_241 rfl ?_
    refine x_irem 169 (by omega) (by omega) (by omega) (by omega) (xd DX9_simple rfl) rfl ?_
    refine x_iastore 170 (xd DX9_simple rfl) rfl ⟨Or.inr ⟨rfl, by decide⟩, by decide⟩ (by decide) (by omega) (by omega) rfl ?_
    refine x_aload_n 171 (xd DX9_simple rfl) rfl rfl ?_
    refine x_dupr 172 (xd DX9_simple rfl) rfl ?_
    refine x_gi 175 20 rfl LX9_220 (xd DX9_simple rfl) rfl ⟨Or.inr ⟨rfl, by decide⟩, by decide⟩ rfl ?_
    refine x_iconst 176 (xd DX9_simple rfl) rfl ?_
    refine x_iadd 177 (xd DX9_simple rfl) rfl ?_
    refine x_pi 180 20 rfl LX9_220 (xd DX9_simple rfl) rfl rfl ⟨Or.inr ⟨rfl, by decide⟩, by decide⟩ rfl ?_
    refine x_rv (xd DX9_simple rfl) rfl ?_
    show RRc (tellH x ((x 255 10 + v) % 65536)) _ ∧ RNx (tellH x ((x 255 10 + v) % 65536)) ∧ _
    rw [hset_c (by decide), hR.2.1, hR.2.2.1]
    refine ⟨hR.out h12.1, ?_, ?_⟩
    · unfold tellH
      exact RNx.k ⟨by rw [hset_c (by decide)]; exact hN.1, fun j a b => by rw [hset_c (by decide)]; exact hN.2 j a b⟩ (by decide)
    · exact ⟨(Off.set (S := fun c => c = 259 ∨ c = 271 ∨ c = 272) (Or.inr (Or.inr rfl))).tr (Off.set (Or.inl rfl)), fun j a b => by rw [hset_i b]; rfl⟩


set_option maxRecDepth 100000 in
set_option maxHeartbeats 4000000 in
theorem pX9_placeOf {K : XK} {n : Nat} {h : XH} (g x : XH) (v : Int) (hM : MG g h) (hX : Off SRu g x) (hR : RRc x h) (h7 : x 255 7 = 0 ∨ x 255 7 = 1) (hv : 0 ≤ v ∧ v < g 4 3) : MI K mX9_placeOf 0 n [vr 259, vi v] h (fun zr h' => zr = adr x v ∧ h' = h) := by
  refine xMeth FX9_placeOf (Nat.le_of_ble_eq_true rfl) ?_
  have hP1 := hM.1.1.1
  refine x_aload_n 1 (xd DX9_placeOf rfl) rfl rfl ?_
  refine x_gi 4 16 rfl LX9_208 (xd DX9_placeOf rfl) rfl ⟨Or.inr ⟨rfl, by decide⟩, by decide⟩ rfl ?_
  refine x_if_ne 7 11 (xd DX9_placeOf rfl) rfl (by rw [hR.1]; omega) rfl (fun c4 => ?_) (fun c4 => ?_)
  · rw [hR.1] at c4
    refine x_aload_n 12 (xd DX9_placeOf rfl) rfl rfl ?_
    refine x_gr 15 _ LX9_40 (xd DX9_placeOf rfl) rfl rfl ⟨by decide, by decide⟩ (by decide) rfl rfl ?_
    refine x_iload_n 16 (xd DX9_placeOf rfl) rfl rfl ?_
    refine x_iaload 17 (xd DX9_placeOf rfl) rfl ⟨Or.inr ⟨rfl, by decide⟩, by decide⟩ (by decide) (by omega) (by omega) rfl ?_
    refine x_ri (xd DX9_placeOf rfl) rfl ?_
    refine ⟨?_, rfl⟩
    unfold adr
    rw [hX 4 (by unfold SRu; omega), hX 251 (by unfold SRu; omega)]
    first
      | (rw [pik_t ⟨c4, hv⟩]; exact (hM.2.1.row hv.1 hv.2).2)
      | rw [pik_f (fun q => q.1 c4)]
  · rw [hR.1] at c4
    refine x_iload_n 8 (xd DX9_placeOf rfl) rfl rfl ?_
    refine x_goto 17 (xd DX9_placeOf rfl) rfl ?_
    refine x_ri (xd DX9_placeOf rfl) rfl ?_
    refine ⟨?_, rfl⟩
    unfold adr
    rw [hX 4 (by unfold SRu; omega), hX 251 (by unfold SRu; omega)]
    first
      | (rw [pik_t ⟨c4, hv⟩]; exact (hM.2.1.row hv.1 hv.2).2)
      | rw [pik_f (fun q => q.1 c4)]

set_option maxRecDepth 100000 in
set_option maxHeartbeats 4000000 in
theorem pX9_byAddress {K : XK} {n : Nat} {h : XH} (g x : XH) (hC : CI g) (hTg : TgI g) (hM : MG g h) (hX : Off SRu g x) (hR : RRc x h) (h7 : x 255 7 = 0 ∨ x 255 7 = 1) (hs : xrg (x 255 10)) : MI K mX9_byAddress 1 n [vr 259] h (fun zr h' => (0 ≤ fP (jmpP x) 0 (g 4 3).toNat → zr = g 6 (fP (jmpP x) 0 (g 4 3).toNat) ∧ h' = h) ∧ (¬ 0 ≤ fP (jmpP x) 0 (g 4 3).toNat → zr = -4 ∧ h' = hset h 259 21 1)) := by
  refine xMeth FX9_byAddress (Nat.le_of_ble_eq_true rfl) ?_
  have hP1 := hM.1.1.1
  have hn := hM.1.n
  have e5 : x 5 = g 5 := hX 5 (by unfold SRu; omega)
  have e6 : x 6 = g 6 := hX 6 (by unfold SRu; omega)
  have hadr : ∀ i, 0 ≤ i → i < g 4 3 → kTgt (g 5 i) → 0 ≤ adr x (g 6 i) ∧ adr x (g 6 i) < 65536 := fun i a b c => adr_ok hC hTg hX a b c
  have loop : ∀ (f : Nat) (xi : Int), 0 ≤ xi → xi ≤ g 4 3 → g 4 3 - xi < (f : Int) → (∀ j : Nat, j < xi.toNat → ¬ jmpP x j) → WI K mX9_byAddress 1 n (qI n (fun zr h' => (0 ≤ fP (jmpP x) 0 (g 4 3).toNat → zr = g 6 (fP (jmpP x) 0 (g 4 3).toNat) ∧ h' = h) ∧ (¬ 0 ≤ fP (jmpP x) 0 (g 4 3).toNat → zr = -4 ∧ h' = hset h 259 21 1))) 2 [(0, vr 259), (1, vi xi)] [] h := by
    intro f
    induction f with
    | zero => intro xi a b c; exact absurd c (by omega)
    | succ f ih =>
      intro xi h0 h1 hf hne
      refine x_iload_n 3 (xd DX9_byAddress rfl) rfl rfl ?_
      refine x_aload_n 4 (xd DX9_byAddress rfl) rfl rfl ?_
      refine x_gi 7 5 rfl LX9_103 (xd DX9_byAddress rfl) rfl ⟨Or.inr ⟨rfl, by decide⟩, by decide⟩ rfl ?_
      refine x_icmp_ge 10 51 (xd DX9_byAddress rfl) rfl (by omega) (by omega) rfl (fun c7 => ?_) (fun c7 => ?_)
      · rw [hM.1.n] at c7
        refine x_aload_n 52 (xd DX9_byAddress rfl) rfl rfl ?_
        refine x_iconst 53 (xd DX9_byAddress rfl) rfl ?_
        refine x_pi 56 21 rfl LX9_223 (xd DX9_byAddress rfl) rfl rfl ⟨Or.inr ⟨rfl, by decide⟩, by decide⟩ rfl ?_
        refine x_bipush 58 (xd DX9_byAddress rfl) rfl rfl ?_
        refine x_ri (xd DX9_byAddress rfl) rfl ?_
        have hF := fP_no (p := jmpP x) (g 4 3).toNat 0 (fun j _ b => hne j (by omega))
        rw [hF]
        exact ⟨fun q => absurd q (by decide), fun _ => ⟨rfl, rfl⟩⟩
      · rw [hM.1.n] at c7
        have hrp := hM.1.2.2.2.1.2 xi h0 c7
        have hv := hM.1.1.v h0 c7
        refine x_aload_n 11 (xd DX9_byAddress rfl) rfl rfl ?_
        refine x_gr 14 _ LX9_19 (xd DX9_byAddress rfl) rfl rfl ⟨by decide, by decide⟩ (by decide) rfl rfl ?_
        refine x_iload_n 15 (xd DX9_byAddress rfl) rfl rfl ?_
        refine x_iaload 16 (xd DX9_byAddress rfl) rfl ⟨Or.inr ⟨rfl, by decide⟩, by decide⟩ (by decide) (by omega) (by omega) rfl ?_
        refine x_bipush 18 (xd DX9_byAddress rfl) rfl rfl ?_
        refine x_icmp_ne 21 45 (xd DX9_byAddress rfl) rfl (by first | decide | (rw [hrp.1]; have := ltr_rg (g 5 xi); omega)) (by first | decide | (rw [hrp.1]; have := ltr_rg (g 5 xi); omega)) rfl (fun c18 => ?_) (fun c18 => ?_)
        · have hnj : ¬ jmpP x xi.toNat := fun q => by
            have q1 := q.1
            rw [e5, show ((xi.toNat : Nat) : Int) = xi by omega] at q1
            rw [hrp.1, q1] at c18
            exact c18 rfl
          refine x_iinc 48 (L' := [(0, _), (1, _)]) (xd DX9_byAddress rfl) rfl (by decide) rfl rfl rfl ?_
          refine x_goto 2 (xd DX9_byAddress rfl) rfl ?_
          refine ih (xi + 1) (by omega) (by omega) (by omega) (fun j b => ?_)
          by_cases e : j = xi.toNat
          · rw [e]; exact hnj
          · exact hne j (by omega)
        · have c18e : g 5 xi = 9 := by
            rw [hrp.1] at c18
            exact (ltr_inj hv.1 (by decide)).mp c18
          have hvt := (hM.1.1.2 xi h0 c7).2.2.1 (by omega) (by omega)
          refine x_aload_n 22 (xd DX9_byAddress rfl) rfl rfl ?_
          refine x_aload_n 23 (xd DX9_byAddress rfl) rfl rfl ?_
          refine x_gr 26 _ LX9_22 (xd DX9_byAddress rfl) rfl rfl ⟨by decide, by decide⟩ (by decide) rfl rfl ?_
          refine x_iload_n 27 (xd DX9_byAddress rfl) rfl rfl ?_
          refine x_iaload 28 (xd DX9_byAddress rfl) rfl ⟨Or.inr ⟨rfl, by decide⟩, by decide⟩ (by decide) (by omega) (by omega) rfl ?_
          refine x_Vi 31 (pX9_placeOf g x (h 264 xi) hM hX hR h7 (by rw [hrp.2.1]; exact hvt)) FX9_placeOf VX9_placeOf CX9_235 (xd DX9_byAddress rfl) rfl rfl rfl ⟨by decide, rfl⟩ ⟨by decide, by decide⟩ (by decide) (Nat.le_of_ble_eq_true rfl) (by decide) rfl ?_
          rintro z9 h9 ⟨q1, q2⟩
          rw [q1, q2]
          clear q1 q2 z9 h9
          rw [hrp.2.1]
          refine x_aload_n 32 (xd DX9_byAddress rfl) rfl rfl ?_
          refine x_gi 35 18 rfl LX9_214 (xd DX9_byAddress rfl) rfl ⟨Or.inr ⟨rfl, by decide⟩, by decide⟩ rfl ?_
          refine x_icmp_ne 38 45 (xd DX9_byAddress rfl) rfl (by first | (rw [hR.2.1]; exact hs) | (have := hadr xi h0 (by omega) (by rw [c18e]; unfold kTgt; decide); omega)) (by first | (rw [hR.2.1]; exact hs) | (have := hadr xi h0 (by omega) (by rw [c18e]; unfold kTgt; decide); omega)) rfl (fun c35 => ?_) (fun c35 => ?_)
          · have hnj : ¬ jmpP x xi.toNat := fun q => by
              have q1 := q.2
              rw [e6, show ((xi.toNat : Nat) : Int) = xi by omega] at q1
              exact c35 (by rw [hR.2.1]; exact q1)
            refine x_iinc 48 (L' := [(0, _), (1, _)]) (xd DX9_byAddress rfl) rfl (by decide) rfl rfl rfl ?_
            refine x_goto 2 (xd DX9_byAddress rfl) rfl ?_
            refine ih (xi + 1) (by omega) (by omega) (by omega) (fun j b => ?_)
            by_cases e : j = xi.toNat
            · rw [e]; exact hnj
            · exact hne j (by omega)
          · have hyj : jmpP x xi.toNat := by
              unfold jmpP
              rw [e5, e6, show ((xi.toNat : Nat) : Int) = xi by omega]
              exact ⟨c18e, by rw [← hR.2.1]; exact c35⟩
            refine x_aload_n 39 (xd DX9_byAddress rfl) rfl rfl ?_
            refine x_gr 42 _ LX9_22 (xd DX9_byAddress rfl) rfl rfl ⟨by decide, by decide⟩ (by decide) rfl rfl ?_
            refine x_iload_n 43 (xd DX9_byAddress rfl) rfl rfl ?_
            refine x_iaload 44 (xd DX9_byAddress rfl) rfl ⟨Or.inr ⟨rfl, by decide⟩, by decide⟩ (by decide) (by omega) (by omega) rfl ?_
            refine x_ri (xd DX9_byAddress rfl) rfl ?_
            have hF := fP_hit (g 4 3).toNat 0 xi.toNat (by omega) (by omega) (fun j _ b => hne j b) hyj
            rw [hF, show ((xi.toNat : Nat) : Int) = xi by omega]
            exact ⟨fun _ => ⟨hrp.2.1, rfl⟩, fun q => absurd h0 q⟩
  refine x_iconst 1 (xd DX9_byAddress rfl) rfl ?_
  refine x_istore_n 2 (L' := [(0, _), (1, _)]) (xd DX9_byAddress rfl) (by decide) rfl rfl rfl ?_
  exact loop 60 0 (by omega) (by omega) (by omega) (fun j b => absurd b (by omega))

set_option maxRecDepth 100000 in
set_option maxHeartbeats 4000000 in
theorem pX9_goesOn {K : XK} {n : Nat} {h : XH} (g x : XH) (hM : MG g h) (h17 : h 259 17 = if x 255 6 = 0 then x 255 9 else -4) (h20 : h 259 20 = x 255 12) (h9 : x 255 6 = 0 → 0 ≤ x 255 9 ∧ x 255 9 < g 4 3) (h12 : 0 ≤ x 255 12 ∧ x 255 12 ≤ 12) : MI K mX9_goesOn 0 n [vr 259] h (fun zr h' => (x 255 6 = 0 ∧ g 5 (x 255 9) = 6 ∧ x 255 12 = 12 → zr = 0 ∧ h' = hset h 259 17 (-4)) ∧ (¬ (x 255 6 = 0 ∧ g 5 (x 255 9) = 6 ∧ x 255 12 = 12) → zr = xp (x 255 6 = 0) ∧ h' = h)) := by
  refine xMeth FX9_goesOn (Nat.le_of_ble_eq_true rfl) ?_
  have hP1 := hM.1.1.1
  have hrg17 : -4 ≤ h 259 17 ∧ h 259 17 < 48 := by
    rw [h17]
    split
    · rename_i q; have := h9 q; omega
    · omega
  refine x_aload_n 1 (xd DX9_goesOn rfl) rfl rfl ?_
  refine x_gi 4 17 rfl LX9_211 (xd DX9_goesOn rfl) rfl ⟨Or.inr ⟨rfl, by decide⟩, by decide⟩ rfl ?_
  refine x_bipush 6 (xd DX9_goesOn rfl) rfl rfl ?_
  refine x_icmp_eq 9 38 (xd DX9_goesOn rfl) rfl (by omega) (by omega) rfl (fun c6 => ?_) (fun c6 => ?_)
  · have h6 : ¬ x 255 6 = 0 := fun q => by rw [if_pos q] at h17; have := h9 q; omega
    refine x_aload_n 39 (xd DX9_goesOn rfl) rfl rfl ?_
    refine x_gi 42 17 rfl LX9_211 (xd DX9_goesOn rfl) rfl ⟨Or.inr ⟨rfl, by decide⟩, by decide⟩ rfl ?_
    refine x_bipush 44 (xd DX9_goesOn rfl) rfl rfl ?_
    refine x_icmp_eq 47 51 (xd DX9_goesOn rfl) rfl (by first | omega | (rw [hset_s]; decide)) (by first | omega | (rw [hset_s]; decide)) rfl (fun c44 => ?_) (fun c44 => ?_)
    · refine x_iconst 52 (xd DX9_goesOn rfl) rfl ?_
      refine x_rz (xd DX9_goesOn rfl) rfl (by omega) ?_
      first
        | exact ⟨fun _ => ⟨rfl, rfl⟩, fun q => absurd ⟨h6, hkd, by omega⟩ q⟩
        | exact ⟨fun q => absurd q.1 h6, fun _ => ⟨xp_f h6, rfl⟩⟩
        | (exfalso; rw [hset_s] at c44; omega)
        | (exfalso; omega)
        | exact ⟨fun q => absurd q.2.2 (by omega), fun _ => ⟨xp_t h6, rfl⟩⟩
        | exact ⟨fun q => absurd q.2.1 hkd, fun _ => ⟨xp_t h6, rfl⟩⟩
    · refine x_iconst 48 (xd DX9_goesOn rfl) rfl ?_
      refine x_goto 52 (xd DX9_goesOn rfl) rfl ?_
      refine x_rz (xd DX9_goesOn rfl) rfl (by omega) ?_
      first
        | exact ⟨fun _ => ⟨rfl, rfl⟩, fun q => absurd ⟨h6, hkd, by omega⟩ q⟩
        | exact ⟨fun q => absurd q.1 h6, fun _ => ⟨xp_f h6, rfl⟩⟩
        | (exfalso; rw [hset_s] at c44; omega)
        | (exfalso; omega)
        | exact ⟨fun q => absurd q.2.2 (by omega), fun _ => ⟨xp_t h6, rfl⟩⟩
        | exact ⟨fun q => absurd q.2.1 hkd, fun _ => ⟨xp_t h6, rfl⟩⟩
  · have h6 : x 255 6 = 0 := Classical.byContradiction (fun q => by rw [if_neg q] at h17; omega)
    have e17 : h 259 17 = x 255 9 := by rw [if_pos h6] at h17; exact h17
    have h90 := h9 h6
    have hrp := hM.1.2.2.2.1.2 (x 255 9) h90.1 h90.2
    have hv := hM.1.1.v h90.1 h90.2
    refine x_aload_n 10 (xd DX9_goesOn rfl) rfl rfl ?_
    refine x_gi 13 20 rfl LX9_220 (xd DX9_goesOn rfl) rfl ⟨Or.inr ⟨rfl, by decide⟩, by decide⟩ rfl ?_
    refine x_bipush 15 (xd DX9_goesOn rfl) rfl rfl ?_
    refine x_icmp_ne 18 38 (xd DX9_goesOn rfl) rfl (by omega) (by omega) rfl (fun c15 => ?_) (fun c15 => ?_)
    · refine x_aload_n 39 (xd DX9_goesOn rfl) rfl rfl ?_
      refine x_gi 42 17 rfl LX9_211 (xd DX9_goesOn rfl) rfl ⟨Or.inr ⟨rfl, by decide⟩, by decide⟩ rfl ?_
      refine x_bipush 44 (xd DX9_goesOn rfl) rfl rfl ?_
      refine x_icmp_eq 47 51 (xd DX9_goesOn rfl) rfl (by first | omega | (rw [hset_s]; decide)) (by first | omega | (rw [hset_s]; decide)) rfl (fun c44 => ?_) (fun c44 => ?_)
      · refine x_iconst 52 (xd DX9_goesOn rfl) rfl ?_
        refine x_rz (xd DX9_goesOn rfl) rfl (by omega) ?_
        first
          | exact ⟨fun _ => ⟨rfl, rfl⟩, fun q => absurd ⟨h6, hkd, by omega⟩ q⟩
          | exact ⟨fun q => absurd q.1 h6, fun _ => ⟨xp_f h6, rfl⟩⟩
          | (exfalso; rw [hset_s] at c44; omega)
          | (exfalso; omega)
          | exact ⟨fun q => absurd q.2.2 (by omega), fun _ => ⟨xp_t h6, rfl⟩⟩
          | exact ⟨fun q => absurd q.2.1 hkd, fun _ => ⟨xp_t h6, rfl⟩⟩
      · refine x_iconst 48 (xd DX9_goesOn rfl) rfl ?_
        refine x_goto 52 (xd DX9_goesOn rfl) rfl ?_
        refine x_rz (xd DX9_goesOn rfl) rfl (by omega) ?_
        first
          | exact ⟨fun _ => ⟨rfl, rfl⟩, fun q => absurd ⟨h6, hkd, by omega⟩ q⟩
          | exact ⟨fun q => absurd q.1 h6, fun _ => ⟨xp_f h6, rfl⟩⟩
          | (exfalso; rw [hset_s] at c44; omega)
          | (exfalso; omega)
          | exact ⟨fun q => absurd q.2.2 (by omega), fun _ => ⟨xp_t h6, rfl⟩⟩
          | exact ⟨fun q => absurd q.2.1 hkd, fun _ => ⟨xp_t h6, rfl⟩⟩
    · refine x_aload_n 19 (xd DX9_goesOn rfl) rfl rfl ?_
      refine x_gr 22 _ LX9_19 (xd DX9_goesOn rfl) rfl rfl ⟨by decide, by decide⟩ (by decide) rfl rfl ?_
      refine x_aload_n 23 (xd DX9_goesOn rfl) rfl rfl ?_
      refine x_gi 26 17 rfl LX9_211 (xd DX9_goesOn rfl) rfl ⟨Or.inr ⟨rfl, by decide⟩, by decide⟩ rfl ?_
      refine x_iaload 27 (xd DX9_goesOn rfl) rfl ⟨Or.inr ⟨rfl, by decide⟩, by decide⟩ (by decide) (by omega) (by omega) rfl ?_
      refine x_bipush 29 (xd DX9_goesOn rfl) rfl rfl ?_
      refine x_icmp_ne 32 38 (xd DX9_goesOn rfl) rfl (by first | decide | (rw [e17, hrp.1]; have := ltr_rg (g 5 (x 255 9)); omega)) (by first | decide | (rw [e17, hrp.1]; have := ltr_rg (g 5 (x 255 9)); omega)) rfl (fun c29 => ?_) (fun c29 => ?_)
      · have hkd : ¬ g 5 (x 255 9) = 6 := fun q => by
          rw [e17, hrp.1, q] at c29
          exact c29 rfl
        refine x_aload_n 39 (xd DX9_goesOn rfl) rfl rfl ?_
        refine x_gi 42 17 rfl LX9_211 (xd DX9_goesOn rfl) rfl ⟨Or.inr ⟨rfl, by decide⟩, by decide⟩ rfl ?_
        refine x_bipush 44 (xd DX9_goesOn rfl) rfl rfl ?_
        refine x_icmp_eq 47 51 (xd DX9_goesOn rfl) rfl (by first | omega | (rw [hset_s]; decide)) (by first | omega | (rw [hset_s]; decide)) rfl (fun c44 => ?_) (fun c44 => ?_)
        · refine x_iconst 52 (xd DX9_goesOn rfl) rfl ?_
          refine x_rz (xd DX9_goesOn rfl) rfl (by omega) ?_
          first
            | exact ⟨fun _ => ⟨rfl, rfl⟩, fun q => absurd ⟨h6, hkd, by omega⟩ q⟩
            | exact ⟨fun q => absurd q.1 h6, fun _ => ⟨xp_f h6, rfl⟩⟩
            | (exfalso; rw [hset_s] at c44; omega)
            | (exfalso; omega)
            | exact ⟨fun q => absurd q.2.2 (by omega), fun _ => ⟨xp_t h6, rfl⟩⟩
            | exact ⟨fun q => absurd q.2.1 hkd, fun _ => ⟨xp_t h6, rfl⟩⟩
        · refine x_iconst 48 (xd DX9_goesOn rfl) rfl ?_
          refine x_goto 52 (xd DX9_goesOn rfl) rfl ?_
          refine x_rz (xd DX9_goesOn rfl) rfl (by omega) ?_
          first
            | exact ⟨fun _ => ⟨rfl, rfl⟩, fun q => absurd ⟨h6, hkd, by omega⟩ q⟩
            | exact ⟨fun q => absurd q.1 h6, fun _ => ⟨xp_f h6, rfl⟩⟩
            | (exfalso; rw [hset_s] at c44; omega)
            | (exfalso; omega)
            | exact ⟨fun q => absurd q.2.2 (by omega), fun _ => ⟨xp_t h6, rfl⟩⟩
            | exact ⟨fun q => absurd q.2.1 hkd, fun _ => ⟨xp_t h6, rfl⟩⟩
      · have hkd : g 5 (x 255 9) = 6 := by
          rw [e17, hrp.1] at c29
          exact (ltr_inj hv.1 (by decide)).mp c29
        refine x_aload_n 33 (xd DX9_goesOn rfl) rfl rfl ?_
        refine x_bipush 35 (xd DX9_goesOn rfl) rfl rfl ?_
        refine x_pi 38 17 rfl LX9_211 (xd DX9_goesOn rfl) rfl rfl ⟨Or.inr ⟨rfl, by decide⟩, by decide⟩ rfl ?_
        refine x_aload_n 39 (xd DX9_goesOn rfl) rfl rfl ?_
        refine x_gi 42 17 rfl LX9_211 (xd DX9_goesOn rfl) rfl ⟨Or.inr ⟨rfl, by decide⟩, by decide⟩ rfl ?_
        refine x_bipush 44 (xd DX9_goesOn rfl) rfl rfl ?_
        refine x_icmp_eq 47 51 (xd DX9_goesOn rfl) rfl (by first | omega | (rw [hset_s]; decide)) (by first | omega | (rw [hset_s]; decide)) rfl (fun c44 => ?_) (fun c44 => ?_)
        · refine x_iconst 52 (xd DX9_goesOn rfl) rfl ?_
          refine x_rz (xd DX9_goesOn rfl) rfl (by omega) ?_
          first
            | exact ⟨fun _ => ⟨rfl, rfl⟩, fun q => absurd ⟨h6, hkd, by omega⟩ q⟩
            | exact ⟨fun q => absurd q.1 h6, fun _ => ⟨xp_f h6, rfl⟩⟩
            | (exfalso; rw [hset_s] at c44; omega)
            | (exfalso; omega)
            | exact ⟨fun q => absurd q.2.2 (by omega), fun _ => ⟨xp_t h6, rfl⟩⟩
            | exact ⟨fun q => absurd q.2.1 hkd, fun _ => ⟨xp_t h6, rfl⟩⟩
        · refine x_iconst 48 (xd DX9_goesOn rfl) rfl ?_
          refine x_goto 52 (xd DX9_goesOn rfl) rfl ?_
          refine x_rz (xd DX9_goesOn rfl) rfl (by omega) ?_
          first
            | exact ⟨fun _ => ⟨rfl, rfl⟩, fun q => absurd ⟨h6, hkd, by omega⟩ q⟩
            | exact ⟨fun q => absurd q.1 h6, fun _ => ⟨xp_f h6, rfl⟩⟩
            | (exfalso; rw [hset_s] at c44; omega)
            | (exfalso; omega)
            | exact ⟨fun q => absurd q.2.2 (by omega), fun _ => ⟨xp_t h6, rfl⟩⟩
            | exact ⟨fun q => absurd q.2.1 hkd, fun _ => ⟨xp_t h6, rfl⟩⟩

