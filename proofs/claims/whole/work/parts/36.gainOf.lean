/-! Layout.gainOf, mostGainOf -/
theorem LY.hr {h : XH} (hL : LY h) : ∀ j, 0 ≤ j → j < h 4 3 → 0 ≤ h 193 j ∧ h 193 j ≤ 4 := hL.2.2.1
theorem LY.hrl {h : XH} (hL : LY h) : ∀ j, 0 ≤ j → j < h 4 3 → j + h 193 j ≤ h 4 3 := fun j a b => by
  obtain ⟨k, -, -, -, hr⟩ := hL.1
  exact rch_le hr hL.hr a b
theorem LY.hs {h : XH} (hL : LY h) : ∀ j : Nat, (j : Int) < h 4 3 → ∀ p, 2 ≤ p → p ≤ 4 → 0 ≤ h (195 + j) p ∧ h (195 + j) p ≤ 3 := fun j q p a b => by
  have h1 := (hL.2.2.2.2.1 (j : Int) (by omega) q).2.2 p a b
  rw [Int.toNat_natCast] at h1
  rw [h1]
  exact shr_rg _
/-- a sequence as the program has it: simple instructions, within -/
def SqOk (h : XH) (i m : Int) : Prop := 0 ≤ i ∧ 2 ≤ m ∧ m ≤ 4 ∧ i + m ≤ h 4 3 ∧ ∀ x, 0 ≤ x → x < m → kSim (h 5 (i + x))
theorem Took.ew {g h : XH} {c : Nat} {i m z : Int} (ht : Took g c h i m z) (hP : PW h) (hs : SqOk h i m) (hz : -1 ≤ z ∧ z < m) : EW g c := by
  obtain ⟨a, b, e⟩ := ht
  obtain ⟨s1, s2, s3, s4, s5⟩ := hs
  unfold EW
  rw [a, b]
  refine ⟨⟨s2, s3⟩, by split <;> omega, fun j q r => ?_⟩
  rw [(e j q r).1, (e j q r).2]
  have k1 := s5 j q r
  have k2 := (hP.2 (i + j) (by omega) (by omega)).2.1 k1.2
  exact ⟨k1, k2⟩
theorem cntR_rg (p : Nat → Prop) (a : Nat) : ∀ d : Nat, 0 ≤ cntR p a d ∧ cntR p a d ≤ d
  | 0 => by unfold cntR; omega
  | d + 1 => by
    have := cntR_rg p a d
    have h2 := xp01 (p (a + d))
    unfold cntR
    omega
theorem mostRg {m c : Int} {p : Nat → Prop} {d : Nat} (h1 : 2 ≤ m) (h2 : m ≤ 4) (hd : d ≤ 48) : xrg ((2 * m - kRef c) * cntR p 0 d - (1 + 2 * m)) := by
  have h3 := cntR_rg p 0 d
  have h4 := kRef_rg c
  have h5 : 0 ≤ (2 * m - kRef c) * cntR p 0 d := Int.mul_nonneg (by omega) h3.1
  have h6 : (2 * m - kRef c) * cntR p 0 d ≤ 8 * 48 := Int.mul_le_mul (by omega) (by omega) h3.1 (by decide)
  omega
def SGa (x : Nat) : Prop := x = 245 ∨ S3 246 x
set_option maxRecDepth 100000 in
set_option maxHeartbeats 4000000 in
theorem pX3_gainOf {K : XK} {n : Nat} {h : XH} (i m z : Int) (hP : PW h) (hL : LY h) (hs : SqOk h i m) (hz : -1 ≤ z ∧ z < m) : MI K mX3_gainOf 4 n [vr 192, vi i, vi m, vi z] h (fun zr h' => Off SGa h h' ∧ Took h' 246 h i m z ∧ TrEq h' (h' 245) 0 ∧ zr = h 192 13 - h' 245 0 - (1 + 2 * m) ∧ 0 ≤ h' 245 0 ∧ h' 245 0 ≤ 192) := by
  refine xMeth FX3_gainOf (Nat.le_of_ble_eq_true rfl) ?_
  have hP1 := hP.1
  refine x_aload_n 1 (xd DX3_gainOf rfl) rfl rfl ?_
  refine x_gr 4 _ LX3_32 (xd DX3_gainOf rfl) rfl rfl ⟨by decide, by decide⟩ (by decide) rfl rfl ?_
  refine x_aload_n 5 (xd DX3_gainOf rfl) rfl rfl ?_
  refine x_gr 8 _ LX3_51 (xd DX3_gainOf rfl) rfl rfl ⟨by decide, by decide⟩ (by decide) rfl rfl ?_
  refine x_iload_n 9 (xd DX3_gainOf rfl) rfl rfl ?_
  refine x_iload_n 10 (xd DX3_gainOf rfl) rfl rfl ?_
  refine x_iload_n 11 (xd DX3_gainOf rfl) rfl rfl ?_
  refine x_Vv 14 (pX1_take 246 i m z xEnt_246 (by omega) hs.1 ⟨hs.2.1, hs.2.2.1⟩ (by have := hs.2.2.2.1; omega) (by have := hs.2.2.1; omega)) FX1_take VX1_take CX3_160 (xd DX3_gainOf rfl) rfl rfl rfl ⟨by decide, rfl⟩ ⟨by decide, by decide⟩ (by decide) (Nat.le_of_ble_eq_true rfl) (by decide) rfl ?_
  rintro h1 ⟨o1, tk⟩
  have P1 : PW h1 := hP.off o1 (by unfold S3; omega) (by unfold S3; omega) (by unfold S3; omega) (by unfold S3; omega)
  have C1 : EW h1 246 := tk.ew hP hs hz
  have e4 : h1 4 = h 4 := o1 4 (by unfold S3; omega)
  have e193 : h1 193 = h 193 := o1 193 (by unfold S3; omega)
  have hr1 : ∀ j, 0 ≤ j → j < h1 4 3 → 0 ≤ h1 193 j ∧ h1 193 j ≤ 4 := by rw [e4, e193]; exact hL.hr
  refine x_aload_n 15 (xd DX3_gainOf rfl) rfl rfl ?_
  refine x_gi 18 13 rfl LX3_142 (xd DX3_gainOf rfl) rfl ⟨Or.inr ⟨rfl, by decide⟩, by decide⟩ rfl ?_
  refine x_aload_n 19 (xd DX3_gainOf rfl) rfl rfl ?_
  refine x_Vi 22 (pX3_fewestWithCandidate P1 C1 hr1 (by rw [e4, e193]; exact hL.hrl) (fun j q p a b => by rw [e4] at q; rw [o1 (195 + j) (by unfold S3; omega)]; exact hL.hs j q p a b)) FX3_fewestWithCandidate VX3_fewestWithCandidate CX3_164 (xd DX3_gainOf rfl) rfl rfl rfl ⟨by decide, rfl⟩ ⟨by decide, by decide⟩ (by decide) (Nat.le_of_ble_eq_true rfl) (by decide) rfl ?_
  rintro zf h2 ⟨o2, t2, rfl, b2⟩
  refine x_isub 23 (xd DX3_gainOf rfl) rfl ?_
  refine x_iload_n 24 (xd DX3_gainOf rfl) rfl rfl ?_
  refine x_Si 27 (pX8_entryNibbles m) FX8_entryNibbles VX8_entryNibbles CX3_168 (xd DX3_gainOf rfl) rfl rfl (by decide) (Nat.le_of_ble_eq_true rfl) (by decide) rfl ?_
  rintro z9 h9 ⟨q1, q2⟩
  rw [q1, q2]
  clear q1 q2 z9 h9
  refine x_isub 28 (xd DX3_gainOf rfl) rfl ?_
  refine x_ri (xd DX3_gainOf rfl) rfl ?_
  refine ⟨(o1.mono (fun x q => Or.inr q)).tr (o2.mono (fun x q => Or.inl q)), ?_, ⟨?_, fun j a b => ?_⟩, ?_, b2⟩
  · unfold Took
    rw [o2 246 (by decide), o2 (246 + 1) (by decide), o2 (246 + 2) (by decide)]
    exact tk
  · rw [o2 4 (by decide)]; exact t2.1
  · rw [o2 4 (by decide)] at b
    rw [trF_off o2 (Or.inl rfl) (by have := P1.1; omega)]
    exact t2.2 j a b
  · rw [o1 192 (by unfold S3; omega)]

set_option maxRecDepth 100000 in
set_option maxHeartbeats 4000000 in
theorem pX3_mostGainOf {K : XK} {n : Nat} {h : XH} (i m z : Int) (hP : PW h) (hL : LY h) (hs : SqOk h i m) (hz : -1 ≤ z ∧ z < m) : MI K mX3_mostGainOf 4 n [vr 192, vi i, vi m, vi z] h (fun zr h' => Off (S3 246) h h' ∧ Took h' 246 h i m z ∧ zr = (2 * m - kRef (h' 246 3)) * cntR (fun j => Mt h' 246 j) 0 (h 4 3).toNat - (1 + 2 * m) ∧ xrg zr) := by
  refine xMeth FX3_mostGainOf (Nat.le_of_ble_eq_true rfl) ?_
  have hP1 := hP.1
  refine x_aload_n 1 (xd DX3_mostGainOf rfl) rfl rfl ?_
  refine x_gr 4 _ LX3_32 (xd DX3_mostGainOf rfl) rfl rfl ⟨by decide, by decide⟩ (by decide) rfl rfl ?_
  refine x_aload_n 5 (xd DX3_mostGainOf rfl) rfl rfl ?_
  refine x_gr 8 _ LX3_51 (xd DX3_mostGainOf rfl) rfl rfl ⟨by decide, by decide⟩ (by decide) rfl rfl ?_
  refine x_iload_n 9 (xd DX3_mostGainOf rfl) rfl rfl ?_
  refine x_iload_n 10 (xd DX3_mostGainOf rfl) rfl rfl ?_
  refine x_iload_n 11 (xd DX3_mostGainOf rfl) rfl rfl ?_
  refine x_Vv 14 (pX1_take 246 i m z xEnt_246 (by omega) hs.1 ⟨hs.2.1, hs.2.2.1⟩ (by have := hs.2.2.2.1; omega) (by have := hs.2.2.1; omega)) FX1_take VX1_take CX3_160 (xd DX3_mostGainOf rfl) rfl rfl rfl ⟨by decide, rfl⟩ ⟨by decide, by decide⟩ (by decide) (Nat.le_of_ble_eq_true rfl) (by decide) rfl ?_
  rintro h1 ⟨o1, tk⟩
  have P1 : PW h1 := hP.off o1 (by unfold S3; omega) (by unfold S3; omega) (by unfold S3; omega) (by unfold S3; omega)
  have C1 : EW h1 246 := tk.ew hP hs hz
  have e4 : h1 4 = h 4 := o1 4 (by unfold S3; omega)
  have e193 : h1 193 = h 193 := o1 193 (by unfold S3; omega)
  have hr1 : ∀ j, 0 ≤ j → j < h1 4 3 → 0 ≤ h1 193 j ∧ h1 193 j ≤ 4 := by rw [e4, e193]; exact hL.hr
  refine x_iconst 15 (xd DX3_mostGainOf rfl) rfl ?_
  refine x_iload_n 16 (xd DX3_mostGainOf rfl) rfl rfl ?_
  refine x_imul 17 (xd DX3_mostGainOf rfl) rfl ?_
  refine x_aload_n 18 (xd DX3_mostGainOf rfl) rfl rfl ?_
  refine x_gr 21 _ LX3_32 (xd DX3_mostGainOf rfl) rfl rfl ⟨by decide, by decide⟩ (by decide) rfl rfl ?_
  refine x_gi 24 3 rfl LX3_133 (xd DX3_mostGainOf rfl) rfl ⟨Or.inr ⟨rfl, by decide⟩, by decide⟩ rfl ?_
  refine x_Si 27 (pX8_referenceNibbles _ (by have := C1.1; have := C1.2.1; omega)) FX8_referenceNibbles VX8_referenceNibbles CX3_136 (xd DX3_mostGainOf rfl) rfl rfl (by decide) (Nat.le_of_ble_eq_true rfl) (by decide) rfl ?_
  rintro z9 h9 ⟨q1, q2⟩
  rw [q1, q2]
  clear q1 q2 z9 h9
  refine x_isub 28 (xd DX3_mostGainOf rfl) rfl ?_
  refine x_istore 30 (L' := [(0, _), (1, _), (2, _), (3, _), (4, _)]) (xd DX3_mostGainOf rfl) (by decide) rfl rfl rfl ?_
  refine x_iload 32 (xd DX3_mostGainOf rfl) rfl rfl ?_
  refine x_aload_n 33 (xd DX3_mostGainOf rfl) rfl rfl ?_
  refine x_aload_n 34 (xd DX3_mostGainOf rfl) rfl rfl ?_
  refine x_gr 37 _ LX3_32 (xd DX3_mostGainOf rfl) rfl rfl ⟨by decide, by decide⟩ (by decide) rfl rfl ?_
  refine x_Vi 40 (pX3_matchesOf 246 xEnt_246 C1 P1 hr1) FX3_matchesOf VX3_matchesOf CX3_171 (xd DX3_mostGainOf rfl) rfl rfl rfl ⟨by decide, rfl⟩ ⟨by decide, by decide⟩ (by decide) (Nat.le_of_ble_eq_true rfl) (by decide) rfl ?_
  rintro z9 h9 ⟨q1, q2⟩
  rw [q1, q2]
  clear q1 q2 z9 h9
  refine x_imul 41 (xd DX3_mostGainOf rfl) rfl ?_
  refine x_iload_n 42 (xd DX3_mostGainOf rfl) rfl rfl ?_
  refine x_Si 45 (pX8_entryNibbles m) FX8_entryNibbles VX8_entryNibbles CX3_168 (xd DX3_mostGainOf rfl) rfl rfl (by decide) (Nat.le_of_ble_eq_true rfl) (by decide) rfl ?_
  rintro z9 h9 ⟨q1, q2⟩
  rw [q1, q2]
  clear q1 q2 z9 h9
  refine x_isub 46 (xd DX3_mostGainOf rfl) rfl ?_
  refine x_ri (xd DX3_mostGainOf rfl) rfl ?_
  exact ⟨o1, tk, by rw [e4], mostRg hs.2.1 hs.2.2.1 (by rw [e4]; omega)⟩

