/-! SqueezedCodeModel: add, gain, drop, wide, hold, undo -/
theorem Noted.rt {g h h1 : XH} (hN : Noted h h1) (hM : MG g h) : RT g h1 ∧ TRg h1 := by
  have e := hN.1 266 (by decide)
  unfold RT TRg
  rw [e]
  exact ⟨hM.1.2.2.2.2.1, hM.1.2.2.2.2.2⟩
theorem chd_gh {g g' h h1 h2 : XH} (hM : MG g h) (hC : Cgd g g') (hN : Off (fun c => c = 259 ∨ c = 267) h h1) (h5 : h1 259 5 = h 259 5) (hO : Off (fun c => c = 266) h1 h2) (hT : RT g' h2) (hR : TRg h2) : GH g' h2 := by
  obtain ⟨c1, c2, -⟩ := hC
  have hk : ∀ c, c < 8 → g' c = g c := fun c q => c1 c (by unfold SCh; omega)
  refine ⟨c2.1, c2.2.1, c2.2.2.2.1, ?_, hT, hR⟩
  have a4 := hM.1.2.2.2.1
  exact (a4.eq (hk 4 (by omega)) (hk 5 (by omega)) (hk 6 (by omega)) (hk 7 (by omega))).mv (by rw [hO 259 (by decide), h5]) (by rw [hO 263 (by decide), hN 263 (by decide)]) (by rw [hO 264 (by decide), hN 264 (by decide)]) (by rw [hO 265 (by decide), hN 265 (by decide)])
theorem chd_mk {g g' h h1 h2 h3 : XH} (hM : MG g h) (hC : Cgd g g') (hK : KeptR g g') (hN : Noted h h1) (hO : Off (fun c => c = 266) h1 h2) (hG : GH g' h2) (hO3 : Off S890 h2 h3) (hR3 : RC g' h3) : Chd g' h h3 := by
  have hr := hN.rh hM.2.2.1 hM.1.2.1 hM.2.2.2.1 hM.1.2.2.2.2.1 hK
  have e9 : h3 259 = h1 259 := by rw [hO3 259 (by unfold S890; omega), hO 259 (by decide)]
  have e7 : h3 267 = h1 267 := by rw [hO3 267 (by unfold S890; omega), hO 267 (by decide)]
  refine ⟨⟨hG.off hO3 (by unfold S890; omega) (by unfold S890; omega) (by unfold S890; omega) (by unfold S890; omega) (by unfold S890; omega), hR3, hC.2.1.2.2.1, hr.mv (by rw [e9]) e7, hN.2.2.2.2.2.2.mv e7⟩, by rw [e9]; exact hN.2.2.2.1, fun c hc => ?_, by rw [e9]; exact hN.2.1 0 (by decide) (by decide)⟩
  rw [hO3 c (by unfold S890; unfold SM at hc; omega), hO c (by unfold SM at hc; omega), hN.1 c (by unfold SM at hc; omega)]
theorem add_rt {g g' h h1 h2 : XH} {i m z : Int} (hM : MG g h) (hN : Noted h h1) (hA : AddR g g' i m z) (hs : SqOk g i m) (hz : -1 ≤ z ∧ z < m) (h8 : g 8 1 < 8) (hl : Lays h1 (mEnt (g 8 1)) i m z h2) : RT g' (hset h2 266 82 (g 8 1 + 1)) ∧ TRg (hset h2 266 82 (g 8 1 + 1)) := by
  have hr := hN.rt hM
  have h81 := hM.1.2.1.1
  have eb : mEnt (g 8 1) = 10 * g 8 1 := by unfold mEnt; rw [if_pos h8]
  rw [eb] at hl
  have hP1 : RP g h1 := hM.1.2.2.2.1.mv (hN.2.1 5 (by decide) (by decide)) (hN.1 _ (by decide)) (hN.1 _ (by decide)) (hN.1 _ (by decide))
  have hk : ∀ j, j ≠ 82 → (j < 10 * g 8 1 ∨ 10 * g 8 1 + 10 ≤ j) → hset h2 266 82 (g 8 1 + 1) 266 j = h1 266 j := fun j a b => by rw [hset_i a]; exact hl.2.1 j b
  refine ⟨⟨?_, ?_, ?_, fun e he => ?_⟩, fun j a b => ?_⟩
  · rw [hk _ (by omega) (by omega), hr.1.1, hA.2.1]
  · rw [hk _ (by omega) (by omega), hr.1.2.1, hA.2.2.1]
  · rw [hset_s, hA.1]
  · rw [hA.1] at he
    by_cases y : (e : Int) < g 8 1
    · exact ((hr.1.2.2.2 e y).mv (fun x a b => hk _ (by omega) (by omega))).eq (hA.2.2.2.1 e y)
    · have ee : (g 8 1).toNat = e := by omega
      have ht := hA.2.2.2.2
      rw [ee] at ht
      have := hl.me hP1 ⟨hs.1, hs.2.2.2.1⟩ hz.1 ht
      refine ME.mv (b := 10 * g 8 1) this (fun x a b => ?_)
      rw [hset_i (by omega), show (e : Int) = g 8 1 by omega]
  · by_cases e : j = 82
    · rw [e, hset_s]; omega
    · rw [hset_i e]
      exact hl.rg hr.2 ⟨hs.2.1, hs.2.2.1⟩ hz (hP1.sq hM.1.1 hs.1 hs.2.2.2.1) j a b
set_option maxRecDepth 100000 in
set_option maxHeartbeats 4000000 in
theorem pX9_add {K : XK} {n : Nat} {h : XH} (g g' : XH) (i m z : Int) (hM : MG g h) (hAA : hindC g i m z = 0 → Cgd g g' ∧ KeptR g g' ∧ AddR g g' i m z) (hi : xrg i) (hm : xrg m) (hz : xrg z) : MI K mX9_add 5 n [vr 259, vi i, vi m, vi z] h (fun zr h' => (hindC g i m z ≠ 0 → zr = hindC g i m z ∧ Kp g h h') ∧ (hindC g i m z = 0 → zr = g 8 1 ∧ Chd g' h h')) := by
  refine xMeth FX9_add (Nat.le_of_ble_eq_true rfl) ?_
  have h81 := hM.1.2.1.1
  refine x_aload_n 1 (xd DX9_add rfl) rfl rfl ?_
  refine x_iload_n 2 (xd DX9_add rfl) rfl rfl ?_
  refine x_iload_n 3 (xd DX9_add rfl) rfl rfl ?_
  refine x_iload_n 4 (xd DX9_add rfl) rfl rfl ?_
  refine x_Vi 7 (pX9_refusal g i m z hM.1.1 hM.1.2.1 hM.1.2.2.1 hM.1.2.2.2.1 hM.1.2.2.2.2.1 hM.1.2.2.2.2.2 hi hm hz) FX9_refusal VX9_refusal CX9_153 (xd DX9_add rfl) rfl rfl rfl ⟨by decide, rfl⟩ ⟨by decide, by decide⟩ (by decide) (Nat.le_of_ble_eq_true rfl) (by decide) rfl ?_
  rintro z9 h0 ⟨q1, hO, hk, hTR⟩
  rw [q1]
  clear q1 z9
  have hK0 := hM.keep0 hO hk hTR
  refine x_istore 9 (L' := [(0, _), (1, _), (2, _), (3, _), (4, _)]) (xd DX9_add rfl) (by decide) rfl rfl rfl ?_
  refine x_iload 11 (xd DX9_add rfl) rfl rfl ?_
  refine x_if_eq 14 17 (xd DX9_add rfl) rfl (by exact hindC_rg g i m z) rfl (fun c11 => ?_) (fun c11 => ?_)
  · have h00 := hindC_0 c11
    have hA := hAA c11
    have hq : SqOk g i m := h00.2.1.1.ok hM.1.2.2.1 (by omega)
    refine x_aload_n 18 (xd DX9_add rfl) rfl rfl ?_
    refine x_Vv 21 (pX9_note (by have := hK0.1.2.2.2.1.1; have := hK0.1.2.2.1.1; omega) hK0.1.1.2.2.2.2.2 hK0.1.2.2.2.2) FX9_note VX9_note CX9_157 (xd DX9_add rfl) rfl rfl rfl ⟨by decide, rfl⟩ ⟨by decide, by decide⟩ (by decide) (Nat.le_of_ble_eq_true rfl) (by decide) rfl ?_
    intro h1 hN
    have e82 : h1 266 82 = g 8 1 := by rw [hN.1 266 (by decide)]; exact hK0.1.1.e
    refine x_aload_n 22 (xd DX9_add rfl) rfl rfl ?_
    refine x_aload_n 23 (xd DX9_add rfl) rfl rfl ?_
    refine x_gr 26 _ LX9_28 (xd DX9_add rfl) rfl rfl ⟨by decide, by decide⟩ (by decide) rfl rfl ?_
    refine x_bipush 28 (xd DX9_add rfl) rfl rfl ?_
    refine x_iaload 29 (xd DX9_add rfl) rfl ⟨Or.inr ⟨rfl, by decide⟩, by decide⟩ (by decide) (by omega) (by omega) rfl ?_
    refine x_iload_n 30 (xd DX9_add rfl) rfl rfl ?_
    refine x_iload_n 31 (xd DX9_add rfl) rfl rfl ?_
    refine x_iload_n 32 (xd DX9_add rfl) rfl rfl ?_
    refine x_Vv 35 (pX9_lays (h1 266 82) i m z (by omega) (by omega) (by omega) (by have := hq.2.2.2.1; have := hM.1.1.1; omega) (by omega)) FX9_lays VX9_lays CX9_123 (xd DX9_add rfl) rfl rfl rfl ⟨by decide, rfl⟩ ⟨by decide, by decide⟩ (by decide) (Nat.le_of_ble_eq_true rfl) (by decide) rfl ?_
    intro h2 hl
    rw [e82] at hl
    have e82b : h2 266 82 = g 8 1 := by rw [hl.2.1 82 (by unfold mEnt; split <;> omega)]; exact e82
    have hrt := add_rt hK0.1 hN hA.2.2 hq (by omega) (by omega) hl
    have hG2 := chd_gh hK0.1 hA.1 hN.1 (hN.2.1 5 (by decide) (by decide)) (hl.1.tr (Off.set rfl)) hrt.1 hrt.2
    refine x_aload_n 36 (xd DX9_add rfl) rfl rfl ?_
    refine x_gr 39 _ LX9_28 (xd DX9_add rfl) rfl rfl ⟨by decide, by decide⟩ (by decide) rfl rfl ?_
    refine x_bipush 41 (xd DX9_add rfl) rfl rfl ?_
    refine x_dup2 42 (xd DX9_add rfl) rfl ?_
    refine x_iaload 43 (xd DX9_add rfl) rfl ⟨Or.inr ⟨rfl, by decide⟩, by decide⟩ (by decide) (by omega) (by omega) rfl ?_
    refine x_iconst 44 (xd DX9_add rfl) rfl ?_
    refine x_iadd 45 (xd DX9_add rfl) rfl ?_
    rw [e82b]
    refine x_iastore 46 (xd DX9_add rfl) rfl ⟨Or.inr ⟨rfl, by decide⟩, by decide⟩ (by decide) (by omega) (by omega) rfl ?_
    refine x_aload_n 47 (xd DX9_add rfl) rfl rfl ?_
    refine x_Vv 50 (pX9_cover g' hG2) FX9_cover VX9_cover CX9_113 (xd DX9_add rfl) rfl rfl rfl ⟨by decide, rfl⟩ ⟨by decide, by decide⟩ (by decide) (Nat.le_of_ble_eq_true rfl) (by decide) rfl ?_
    intro h3 ⟨hO3, hR3⟩
    have hX := chd_mk hK0.1 hA.1 hA.2.1 hN (hl.1.tr (Off.set rfl)) hG2 hO3 hR3
    refine x_aload_n 51 (xd DX9_add rfl) rfl rfl ?_
    refine x_gr 54 _ LX9_28 (xd DX9_add rfl) rfl rfl ⟨by decide, by decide⟩ (by decide) rfl rfl ?_
    refine x_bipush 56 (xd DX9_add rfl) rfl rfl ?_
    refine x_iaload 57 (xd DX9_add rfl) rfl ⟨Or.inr ⟨rfl, by decide⟩, by decide⟩ (by decide) (by omega) (by omega) rfl ?_
    refine x_iconst 58 (xd DX9_add rfl) rfl ?_
    refine x_isub 59 (xd DX9_add rfl) rfl ?_
    refine x_ri (xd DX9_add rfl) rfl ?_
    refine ⟨fun q => absurd c11 q, fun _ => ⟨?_, ?_⟩⟩
    · rw [hX.1.1.e, hA.2.2.1]; omega
    · refine ⟨hX.1, hX.2.1, fun c hc => ?_, ?_⟩
      · rw [hX.2.2.1 c hc, hO c (by unfold SM at hc; omega)]
      · rw [hX.2.2.2, hO 259 (by decide)]
  · refine x_iload 16 (xd DX9_add rfl) rfl rfl ?_
    refine x_ri (xd DX9_add rfl) rfl ?_
    exact ⟨fun _ => ⟨rfl, hK0⟩, fun q => absurd q c11⟩

set_option maxRecDepth 100000 in
set_option maxHeartbeats 4000000 in
theorem pX9_gain {K : XK} {n : Nat} {h : XH} (g : XH) (i m z : Int) (hM : MG g h) (hi : xrg i) (hm : xrg m) (hz : xrg z) : MI K mX9_gain 5 n [vr 259, vi i, vi m, vi z] h (fun zr h' => zr = pik (hindC g i m z ≠ 0) (hindC g i m z) (GfC g i m z + 100000) ∧ Kp g h h') := by
  refine xMeth FX9_gain (Nat.le_of_ble_eq_true rfl) ?_
  have h81 := hM.1.2.1.1
  refine x_aload_n 1 (xd DX9_gain rfl) rfl rfl ?_
  refine x_iload_n 2 (xd DX9_gain rfl) rfl rfl ?_
  refine x_iload_n 3 (xd DX9_gain rfl) rfl rfl ?_
  refine x_iload_n 4 (xd DX9_gain rfl) rfl rfl ?_
  refine x_Vi 7 (pX9_refusal g i m z hM.1.1 hM.1.2.1 hM.1.2.2.1 hM.1.2.2.2.1 hM.1.2.2.2.2.1 hM.1.2.2.2.2.2 hi hm hz) FX9_refusal VX9_refusal CX9_153 (xd DX9_gain rfl) rfl rfl rfl ⟨by decide, rfl⟩ ⟨by decide, by decide⟩ (by decide) (Nat.le_of_ble_eq_true rfl) (by decide) rfl ?_
  rintro z9 h0 ⟨q1, hO, hk, hTR⟩
  rw [q1]
  clear q1 z9
  have hK0 := hM.keep0 hO hk hTR
  refine x_istore 9 (L' := [(0, _), (1, _), (2, _), (3, _), (4, _)]) (xd DX9_gain rfl) (by decide) rfl rfl rfl ?_
  refine x_iload 11 (xd DX9_gain rfl) rfl rfl ?_
  refine x_if_eq 14 17 (xd DX9_gain rfl) rfl (by exact hindC_rg g i m z) rfl (fun c11 => ?_) (fun c11 => ?_)
  · have h00 := hindC_0 c11
    have hq : SqOk g i m := h00.2.1.1.ok hM.1.2.2.1 (by omega)
    refine x_aload_n 18 (xd DX9_gain rfl) rfl rfl ?_
    refine x_iload_n 19 (xd DX9_gain rfl) rfl rfl ?_
    refine x_iload_n 20 (xd DX9_gain rfl) rfl rfl ?_
    refine x_iload_n 21 (xd DX9_gain rfl) rfl rfl ?_
    refine x_Vi 24 (pX9_gainOf g i m z hK0.1.1 hK0.1.2.1.2 hq (by omega)) FX9_gainOf VX9_gainOf CX9_163 (xd DX9_gain rfl) rfl rfl rfl ⟨by decide, rfl⟩ ⟨by decide, by decide⟩ (by decide) (Nat.le_of_ble_eq_true rfl) (by decide) rfl ?_
    rintro z9 h1 ⟨q1, hO1, hk1, hG1, -⟩
    rw [q1]
    clear q1 z9
    refine x_istore 26 (L' := [(0, _), (1, _), (2, _), (3, _), (4, _), (5, _)]) (xd DX9_gain rfl) (by decide) rfl rfl rfl ?_
    refine x_aload_n 27 (xd DX9_gain rfl) rfl rfl ?_
    refine x_Vv 30 (pX9_cover g hG1) FX9_cover VX9_cover CX9_113 (xd DX9_gain rfl) rfl rfl rfl ⟨by decide, rfl⟩ ⟨by decide, by decide⟩ (by decide) (Nat.le_of_ble_eq_true rfl) (by decide) rfl ?_
    intro h3 ⟨hO3, hR3⟩
    refine x_iload 32 (xd DX9_gain rfl) rfl rfl ?_
    refine x_ldc 34 (xd DX9_gain rfl) KX9_166 rfl ?_
    refine x_iadd 35 (xd DX9_gain rfl) rfl ?_
    refine x_ri (xd DX9_gain rfl) rfl ?_
    refine ⟨(pik_f (fun q => q c11) _ _).symm, ?_⟩
    refine hM.keep (fun c hc => ?_) (hG1.off hO3 (by unfold S890; omega) (by unfold S890; omega) (by unfold S890; omega) (by unfold S890; omega) (by unfold S890; omega)) hR3
    unfold SN at hc
    rw [hO3 c (by unfold S890; omega), hO1 c (by omega), hO c (by omega)]
  · refine x_iload 16 (xd DX9_gain rfl) rfl rfl ?_
    refine x_ri (xd DX9_gain rfl) rfl ?_
    exact ⟨(pik_t c11 _ _).symm, hK0⟩

set_option maxRecDepth 100000 in
set_option maxHeartbeats 4000000 in
theorem pX9_drop {K : XK} {n : Nat} {h : XH} (g g' : XH) (e : Int) (hM : MG g h) (hAA : (0 ≤ e ∧ e < g 8 1) → Cgd g g' ∧ KeptR g g' ∧ DrpR g g' e.toNat) (he : xrg e) : MI K mX9_drop 5 n [vr 259, vi e] h (fun zr h' => (¬ (0 ≤ e ∧ e < g 8 1) → zr = -1 ∧ h' = h) ∧ ((0 ≤ e ∧ e < g 8 1) → zr = g 8 1 - 1 ∧ Chd g' h h')) := by
  refine xMeth FX9_drop (Nat.le_of_ble_eq_true rfl) ?_
  have h81 := hM.1.2.1.1
  refine x_aload_n 1 (xd DX9_drop rfl) rfl rfl ?_
  refine x_iload_n 2 (xd DX9_drop rfl) rfl rfl ?_
  refine x_Vi 5 (pX9_isEntry e he (by rw [hM.1.e]; omega)) FX9_isEntry VX9_isEntry CX9_160 (xd DX9_drop rfl) rfl rfl rfl ⟨by decide, rfl⟩ ⟨by decide, by decide⟩ (by decide) (Nat.le_of_ble_eq_true rfl) (by decide) rfl ?_
  rintro z9 h9 ⟨q1, q2⟩
  rw [q1, q2]
  clear q1 q2 z9 h9
  refine x_ifp_ne 8 10 (xd DX9_drop rfl) rfl rfl (fun c5 => ?_) (fun c5 => ?_)
  · have hA := hAA (by rw [hM.1.e] at c5; omega)
    have h00 : 0 ≤ e ∧ e < g 8 1 := by rw [hM.1.e] at c5; omega
    refine x_aload_n 11 (xd DX9_drop rfl) rfl rfl ?_
    refine x_Vv 14 (pX9_note (by have := hM.2.2.2.1.1; have := hM.2.2.1.1; omega) hM.1.2.2.2.2.2 hM.2.2.2.2) FX9_note VX9_note CX9_157 (xd DX9_drop rfl) rfl rfl rfl ⟨by decide, rfl⟩ ⟨by decide, by decide⟩ (by decide) (Nat.le_of_ble_eq_true rfl) (by decide) rfl ?_
    intro h1 hN
    have e82 : h1 266 82 = g 8 1 := by rw [hN.1 266 (by decide)]; exact hM.1.e
    have hrt := hN.rt hM
    refine x_aload_n 15 (xd DX9_drop rfl) rfl rfl ?_
    refine x_gr 18 _ LX9_28 (xd DX9_drop rfl) rfl rfl ⟨by decide, by decide⟩ (by decide) rfl rfl ?_
    refine x_bipush 20 (xd DX9_drop rfl) rfl rfl ?_
    refine x_dup2 21 (xd DX9_drop rfl) rfl ?_
    refine x_iaload 22 (xd DX9_drop rfl) rfl ⟨Or.inr ⟨rfl, by decide⟩, by decide⟩ (by decide) (by omega) (by omega) rfl ?_
    refine x_iconst 23 (xd DX9_drop rfl) rfl ?_
    refine x_isub 24 (xd DX9_drop rfl) rfl ?_
    rw [e82]
    refine x_iastore 25 (xd DX9_drop rfl) rfl ⟨Or.inr ⟨rfl, by decide⟩, by decide⟩ (by decide) (by omega) (by omega) rfl ?_
    refine x_bipush 27 (xd DX9_drop rfl) rfl rfl ?_
    refine x_iload_n 28 (xd DX9_drop rfl) rfl rfl ?_
    refine x_imul 29 (xd DX9_drop rfl) rfl ?_
    refine x_istore_n 30 (L' := [(0, _), (1, _), (2, _)]) (xd DX9_drop rfl) (by decide) rfl rfl rfl ?_
    have loop : ∀ (f : Nat) (xk : Int) (xg : XH), 10 * e ≤ xk → xk ≤ 10 * (g 8 1 - 1) → 10 * (g 8 1 - 1) - xk < (f : Int) → Off (fun c => c = 266) h1 xg → (∀ j, xg 266 j = if 10 * e ≤ j ∧ j < xk then h1 266 (j + 10) else if j = 82 then g 8 1 - 1 else h1 266 j) → WI K mX9_drop 5 n (qI n (fun zr h' => (¬ (0 ≤ e ∧ e < g 8 1) → zr = -1 ∧ h' = h) ∧ ((0 ≤ e ∧ e < g 8 1) → zr = g 8 1 - 1 ∧ Chd g' h h'))) 30 [(0, vr 259), (1, vi e), (2, vi xk)] [] xg := by
      intro f
      induction f with
      | zero => intro xk xg a b c; exact absurd c (by omega)
      | succ f ih =>
        intro xk xg h0 h1k hf hOx hI
        refine x_iload_n 31 (xd DX9_drop rfl) rfl rfl ?_
        refine x_bipush 33 (xd DX9_drop rfl) rfl rfl ?_
        have ex82 : xg 266 82 = g 8 1 - 1 := by rw [hI, if_neg (by omega), if_pos rfl]
        refine x_aload_n 34 (xd DX9_drop rfl) rfl rfl ?_
        refine x_gr 37 _ LX9_28 (xd DX9_drop rfl) rfl rfl ⟨by decide, by decide⟩ (by decide) rfl rfl ?_
        refine x_bipush 39 (xd DX9_drop rfl) rfl rfl ?_
        refine x_iaload 40 (xd DX9_drop rfl) rfl ⟨Or.inr ⟨rfl, by decide⟩, by decide⟩ (by decide) (by omega) (by omega) rfl ?_
        refine x_imul 41 (xd DX9_drop rfl) rfl ?_
        refine x_icmp_ge 44 65 (xd DX9_drop rfl) rfl (by omega) (by omega) rfl (fun c41 => ?_) (fun c41 => ?_)
        · have exk : xk = 10 * (g 8 1 - 1) := by omega
          have hAr := hA.2.2
          have hrt2 : RT g' xg ∧ TRg xg := by
            have hlo : ∀ j, j ≠ 82 → (j < 10 * e ∨ xk ≤ j) → xg 266 j = h1 266 j := fun j a b => by rw [hI, if_neg (by omega), if_neg a]
            refine ⟨⟨?_, ?_, ?_, fun x hx => ?_⟩, fun j a b => ?_⟩
            · rw [hlo _ (by omega) (by omega), hrt.1.1, hAr.2.1]
            · rw [hlo _ (by omega) (by omega), hrt.1.2.1, hAr.2.2.1]
            · rw [ex82, hAr.1]
            · rw [hAr.1] at hx
              have hE := hAr.2.2.2 x hx
              by_cases y : x < e.toNat
              · rw [if_pos y] at hE
                exact ((hrt.1.2.2.2 x (by omega)).mv (fun j a b => hlo _ (by omega) (by omega))).eq hE
              · rw [if_neg y] at hE
                refine ME.eq ?_ hE
                refine (hrt.1.2.2.2 (x + 1) (by omega)).mv (fun j a b => ?_)
                rw [hI, if_pos (by omega)]
                congr 1
                omega
            · rw [hI]
              split
              · exact hrt.2 _ (by omega) (by omega)
              · split
                · omega
                · exact hrt.2 _ (by omega) (by omega)
          have hG2 := chd_gh hM hA.1 hN.1 (hN.2.1 5 (by decide) (by decide)) hOx hrt2.1 hrt2.2
          refine x_aload_n 66 (xd DX9_drop rfl) rfl rfl ?_
          refine x_Vv 69 (pX9_cover g' hG2) FX9_cover VX9_cover CX9_113 (xd DX9_drop rfl) rfl rfl rfl ⟨by decide, rfl⟩ ⟨by decide, by decide⟩ (by decide) (Nat.le_of_ble_eq_true rfl) (by decide) rfl ?_
          intro h3 ⟨hO3, hR3⟩
          have hX := chd_mk hM hA.1 hA.2.1 hN hOx hG2 hO3 hR3
          refine x_aload_n 70 (xd DX9_drop rfl) rfl rfl ?_
          refine x_gr 73 _ LX9_28 (xd DX9_drop rfl) rfl rfl ⟨by decide, by decide⟩ (by decide) rfl rfl ?_
          refine x_bipush 75 (xd DX9_drop rfl) rfl rfl ?_
          refine x_iaload 76 (xd DX9_drop rfl) rfl ⟨Or.inr ⟨rfl, by decide⟩, by decide⟩ (by decide) (by omega) (by omega) rfl ?_
          refine x_ri (xd DX9_drop rfl) rfl ?_
          refine ⟨fun q => absurd h00 q, fun _ => ⟨?_, hX⟩⟩
          rw [hX.1.1.e, hA.2.2.1]
        · refine x_aload_n 45 (xd DX9_drop rfl) rfl rfl ?_
          refine x_gr 48 _ LX9_28 (xd DX9_drop rfl) rfl rfl ⟨by decide, by decide⟩ (by decide) rfl rfl ?_
          refine x_iload_n 49 (xd DX9_drop rfl) rfl rfl ?_
          refine x_aload_n 50 (xd DX9_drop rfl) rfl rfl ?_
          refine x_gr 53 _ LX9_28 (xd DX9_drop rfl) rfl rfl ⟨by decide, by decide⟩ (by decide) rfl rfl ?_
          refine x_iload_n 54 (xd DX9_drop rfl) rfl rfl ?_
          refine x_bipush 56 (xd DX9_drop rfl) rfl rfl ?_
          refine x_iadd 57 (xd DX9_drop rfl) rfl ?_
          refine x_iaload 58 (xd DX9_drop rfl) rfl ⟨Or.inr ⟨rfl, by decide⟩, by decide⟩ (by decide) (by omega) (by omega) rfl ?_
          refine x_iastore 59 (xd DX9_drop rfl) rfl ⟨Or.inr ⟨rfl, by decide⟩, by decide⟩ (by decide) (by omega) (by omega) rfl ?_
          refine x_iinc 62 (L' := [(0, _), (1, _), (2, _)]) (xd DX9_drop rfl) rfl (by decide) rfl rfl rfl ?_
          refine x_goto 30 (xd DX9_drop rfl) rfl ?_
          refine ih (xk + 1) _ (by omega) (by omega) (by omega) (hOx.tr (Off.set rfl)) (fun j => ?_)
          rw [hset_at]
          by_cases q : j = xk
          · rw [if_pos q, hI, if_neg (by omega), if_neg (by omega), if_pos (by omega), q]
          · rw [if_neg q, hI]
            by_cases y : 10 * e ≤ j ∧ j < xk
            · rw [if_pos y, if_pos (by omega)]
            · rw [if_neg y, if_neg (c := 10 * e ≤ j ∧ j < xk + 1) (by omega)]
    exact loop 90 (10 * e) _ (by omega) (by omega) (by omega) (Off.set rfl) (fun j => by rw [hset_at, if_neg (c := _ ∧ _) (by omega)])
  · refine x_iconst 9 (xd DX9_drop rfl) rfl ?_
    refine x_ri (xd DX9_drop rfl) rfl ?_
    exact ⟨fun _ => ⟨rfl, rfl⟩, fun q => absurd q (by rw [hM.1.e] at c5; omega)⟩

theorem set_rt {g g' h h1 : XH} {b c v : Int} {k : Int} (hM : MG g h) (hN : Noted h h1) (hA : SetR g g' b c) (hk : k = 80 ∨ k = 81) (h2 : hset h1 266 k v 266 80 = b) (h3 : hset h1 266 k v 266 81 = c) (hv : xrg v) : RT g' (hset h1 266 k v) ∧ TRg (hset h1 266 k v) := by
  have hr := hN.rt hM
  have h81 := hM.1.2.1.1
  refine ⟨⟨by rw [h2, hA.2.1], by rw [h3, hA.2.2.1], by rw [hset_i (by omega), hr.1.2.2.1, hA.1], fun e he => ?_⟩, fun j a b => ?_⟩
  · rw [hA.1] at he
    exact ((hr.1.2.2.2 e he).mv (fun x a b => hset_i (by omega))).eq (hA.2.2.2 e he)
  · rw [hset_at]
    split
    · exact hv
    · exact hr.2 j a b
set_option maxRecDepth 100000 in
set_option maxHeartbeats 4000000 in
theorem pX9_wide {K : XK} {n : Nat} {h : XH} (g g' : XH) (w : Int) (hM : MG g h) (hAA : (w = 4 ∨ w = 8 ∨ w = 16) → w ≠ g 8 2 → Cgd g g' ∧ KeptR g g' ∧ SetR g g' w (g 8 3)) (hi : xrg w) : MI K mX9_wide 5 n [vr 259, vi w] h (fun zr h' => (¬ (w = 4 ∨ w = 8 ∨ w = 16) → zr = -1 ∧ h' = h) ∧ ((w = 4 ∨ w = 8 ∨ w = 16) → w = g 8 2 → zr = -2 ∧ h' = h) ∧ ((w = 4 ∨ w = 8 ∨ w = 16) → w ≠ g 8 2 → zr = g 8 2 ∧ Chd g' h h')) := by
  refine xMeth FX9_wide (Nat.le_of_ble_eq_true rfl) ?_
  refine x_iload_n 1 (xd DX9_wide rfl) rfl rfl ?_
  refine x_iconst 2 (xd DX9_wide rfl) rfl ?_
  refine x_icmp_eq 5 19 (xd DX9_wide rfl) rfl (by omega) (by omega) rfl (fun c2 => ?_) (fun c2 => ?_)
  · refine x_aload_n 20 (xd DX9_wide rfl) rfl rfl ?_
    refine x_gr 23 _ LX9_28 (xd DX9_wide rfl) rfl rfl ⟨by decide, by decide⟩ (by decide) rfl rfl ?_
    refine x_bipush 25 (xd DX9_wide rfl) rfl rfl ?_
    refine x_iaload 26 (xd DX9_wide rfl) rfl ⟨Or.inr ⟨rfl, by decide⟩, by decide⟩ (by decide) (by omega) (by omega) rfl ?_
    refine x_istore_n 27 (L' := [(0, _), (1, _), (2, _)]) (xd DX9_wide rfl) (by decide) rfl rfl rfl ?_
    refine x_iload_n 28 (xd DX9_wide rfl) rfl rfl ?_
    refine x_iload_n 29 (xd DX9_wide rfl) rfl rfl ?_
    refine x_icmp_ne 32 35 (xd DX9_wide rfl) rfl (by first | omega | (rw [hM.1.2.2.2.2.1.1]; have := hM.1.2.1.2.1; omega)) (by first | omega | (rw [hM.1.2.2.2.2.1.1]; have := hM.1.2.1.2.1; omega)) rfl (fun c29 => ?_) (fun c29 => ?_)
    · rw [hM.1.2.2.2.2.1.1] at c29
      have hw4 : w = 4 ∨ w = 8 ∨ w = 16 := by omega
      have hA := hAA hw4 (fun q => c29 q.symm)
      refine x_aload_n 36 (xd DX9_wide rfl) rfl rfl ?_
      refine x_Vv 39 (pX9_note (by have := hM.2.2.2.1.1; have := hM.2.2.1.1; omega) hM.1.2.2.2.2.2 hM.2.2.2.2) FX9_note VX9_note CX9_157 (xd DX9_wide rfl) rfl rfl rfl ⟨by decide, rfl⟩ ⟨by decide, by decide⟩ (by decide) (Nat.le_of_ble_eq_true rfl) (by decide) rfl ?_
      intro h1 hN
      refine x_aload_n 40 (xd DX9_wide rfl) rfl rfl ?_
      refine x_gr 43 _ LX9_28 (xd DX9_wide rfl) rfl rfl ⟨by decide, by decide⟩ (by decide) rfl rfl ?_
      refine x_bipush 45 (xd DX9_wide rfl) rfl rfl ?_
      refine x_iload_n 46 (xd DX9_wide rfl) rfl rfl ?_
      refine x_iastore 47 (xd DX9_wide rfl) rfl ⟨Or.inr ⟨rfl, by decide⟩, by decide⟩ (by decide) (by omega) (by omega) rfl ?_
      have hrt := set_rt hM hN hA.2.2 (Or.inl rfl) (v := w) hset_s (by rw [hset_i (by decide), (hN.rt hM).1.2.1]) hi
      have hG2 := chd_gh hM hA.1 hN.1 (hN.2.1 5 (by decide) (by decide)) (Off.set rfl) hrt.1 hrt.2
      refine x_aload_n 48 (xd DX9_wide rfl) rfl rfl ?_
      refine x_Vv 51 (pX9_cover g' hG2) FX9_cover VX9_cover CX9_113 (xd DX9_wide rfl) rfl rfl rfl ⟨by decide, rfl⟩ ⟨by decide, by decide⟩ (by decide) (Nat.le_of_ble_eq_true rfl) (by decide) rfl ?_
      intro h3 ⟨hO3, hR3⟩
      have hX := chd_mk hM hA.1 hA.2.1 hN (Off.set rfl) hG2 hO3 hR3
      refine x_iload_n 52 (xd DX9_wide rfl) rfl rfl ?_
      refine x_ri (xd DX9_wide rfl) rfl ?_
      exact ⟨fun q => absurd hw4 q, fun _ q => absurd q.symm c29, fun _ _ => ⟨hM.1.2.2.2.2.1.1, hX⟩⟩
    · rw [hM.1.2.2.2.2.1.1] at c29
      refine x_bipush 34 (xd DX9_wide rfl) rfl rfl ?_
      refine x_ri (xd DX9_wide rfl) rfl ?_
      exact ⟨fun q => absurd q (by omega), fun _ _ => ⟨rfl, rfl⟩, fun _ q => absurd c29.symm q⟩
  · refine x_iload_n 6 (xd DX9_wide rfl) rfl rfl ?_
    refine x_bipush 8 (xd DX9_wide rfl) rfl rfl ?_
    refine x_icmp_eq 11 19 (xd DX9_wide rfl) rfl (by omega) (by omega) rfl (fun c8 => ?_) (fun c8 => ?_)
    · refine x_aload_n 20 (xd DX9_wide rfl) rfl rfl ?_
      refine x_gr 23 _ LX9_28 (xd DX9_wide rfl) rfl rfl ⟨by decide, by decide⟩ (by decide) rfl rfl ?_
      refine x_bipush 25 (xd DX9_wide rfl) rfl rfl ?_
      refine x_iaload 26 (xd DX9_wide rfl) rfl ⟨Or.inr ⟨rfl, by decide⟩, by decide⟩ (by decide) (by omega) (by omega) rfl ?_
      refine x_istore_n 27 (L' := [(0, _), (1, _), (2, _)]) (xd DX9_wide rfl) (by decide) rfl rfl rfl ?_
      refine x_iload_n 28 (xd DX9_wide rfl) rfl rfl ?_
      refine x_iload_n 29 (xd DX9_wide rfl) rfl rfl ?_
      refine x_icmp_ne 32 35 (xd DX9_wide rfl) rfl (by first | omega | (rw [hM.1.2.2.2.2.1.1]; have := hM.1.2.1.2.1; omega)) (by first | omega | (rw [hM.1.2.2.2.2.1.1]; have := hM.1.2.1.2.1; omega)) rfl (fun c29 => ?_) (fun c29 => ?_)
      · rw [hM.1.2.2.2.2.1.1] at c29
        have hw4 : w = 4 ∨ w = 8 ∨ w = 16 := by omega
        have hA := hAA hw4 (fun q => c29 q.symm)
        refine x_aload_n 36 (xd DX9_wide rfl) rfl rfl ?_
        refine x_Vv 39 (pX9_note (by have := hM.2.2.2.1.1; have := hM.2.2.1.1; omega) hM.1.2.2.2.2.2 hM.2.2.2.2) FX9_note VX9_note CX9_157 (xd DX9_wide rfl) rfl rfl rfl ⟨by decide, rfl⟩ ⟨by decide, by decide⟩ (by decide) (Nat.le_of_ble_eq_true rfl) (by decide) rfl ?_
        intro h1 hN
        refine x_aload_n 40 (xd DX9_wide rfl) rfl rfl ?_
        refine x_gr 43 _ LX9_28 (xd DX9_wide rfl) rfl rfl ⟨by decide, by decide⟩ (by decide) rfl rfl ?_
        refine x_bipush 45 (xd DX9_wide rfl) rfl rfl ?_
        refine x_iload_n 46 (xd DX9_wide rfl) rfl rfl ?_
        refine x_iastore 47 (xd DX9_wide rfl) rfl ⟨Or.inr ⟨rfl, by decide⟩, by decide⟩ (by decide) (by omega) (by omega) rfl ?_
        have hrt := set_rt hM hN hA.2.2 (Or.inl rfl) (v := w) hset_s (by rw [hset_i (by decide), (hN.rt hM).1.2.1]) hi
        have hG2 := chd_gh hM hA.1 hN.1 (hN.2.1 5 (by decide) (by decide)) (Off.set rfl) hrt.1 hrt.2
        refine x_aload_n 48 (xd DX9_wide rfl) rfl rfl ?_
        refine x_Vv 51 (pX9_cover g' hG2) FX9_cover VX9_cover CX9_113 (xd DX9_wide rfl) rfl rfl rfl ⟨by decide, rfl⟩ ⟨by decide, by decide⟩ (by decide) (Nat.le_of_ble_eq_true rfl) (by decide) rfl ?_
        intro h3 ⟨hO3, hR3⟩
        have hX := chd_mk hM hA.1 hA.2.1 hN (Off.set rfl) hG2 hO3 hR3
        refine x_iload_n 52 (xd DX9_wide rfl) rfl rfl ?_
        refine x_ri (xd DX9_wide rfl) rfl ?_
        exact ⟨fun q => absurd hw4 q, fun _ q => absurd q.symm c29, fun _ _ => ⟨hM.1.2.2.2.2.1.1, hX⟩⟩
      · rw [hM.1.2.2.2.2.1.1] at c29
        refine x_bipush 34 (xd DX9_wide rfl) rfl rfl ?_
        refine x_ri (xd DX9_wide rfl) rfl ?_
        exact ⟨fun q => absurd q (by omega), fun _ _ => ⟨rfl, rfl⟩, fun _ q => absurd c29.symm q⟩
    · refine x_iload_n 12 (xd DX9_wide rfl) rfl rfl ?_
      refine x_bipush 14 (xd DX9_wide rfl) rfl rfl ?_
      refine x_icmp_eq 17 19 (xd DX9_wide rfl) rfl (by omega) (by omega) rfl (fun c14 => ?_) (fun c14 => ?_)
      · refine x_aload_n 20 (xd DX9_wide rfl) rfl rfl ?_
        refine x_gr 23 _ LX9_28 (xd DX9_wide rfl) rfl rfl ⟨by decide, by decide⟩ (by decide) rfl rfl ?_
        refine x_bipush 25 (xd DX9_wide rfl) rfl rfl ?_
        refine x_iaload 26 (xd DX9_wide rfl) rfl ⟨Or.inr ⟨rfl, by decide⟩, by decide⟩ (by decide) (by omega) (by omega) rfl ?_
        refine x_istore_n 27 (L' := [(0, _), (1, _), (2, _)]) (xd DX9_wide rfl) (by decide) rfl rfl rfl ?_
        refine x_iload_n 28 (xd DX9_wide rfl) rfl rfl ?_
        refine x_iload_n 29 (xd DX9_wide rfl) rfl rfl ?_
        refine x_icmp_ne 32 35 (xd DX9_wide rfl) rfl (by first | omega | (rw [hM.1.2.2.2.2.1.1]; have := hM.1.2.1.2.1; omega)) (by first | omega | (rw [hM.1.2.2.2.2.1.1]; have := hM.1.2.1.2.1; omega)) rfl (fun c29 => ?_) (fun c29 => ?_)
        · rw [hM.1.2.2.2.2.1.1] at c29
          have hw4 : w = 4 ∨ w = 8 ∨ w = 16 := by omega
          have hA := hAA hw4 (fun q => c29 q.symm)
          refine x_aload_n 36 (xd DX9_wide rfl) rfl rfl ?_
          refine x_Vv 39 (pX9_note (by have := hM.2.2.2.1.1; have := hM.2.2.1.1; omega) hM.1.2.2.2.2.2 hM.2.2.2.2) FX9_note VX9_note CX9_157 (xd DX9_wide rfl) rfl rfl rfl ⟨by decide, rfl⟩ ⟨by decide, by decide⟩ (by decide) (Nat.le_of_ble_eq_true rfl) (by decide) rfl ?_
          intro h1 hN
          refine x_aload_n 40 (xd DX9_wide rfl) rfl rfl ?_
          refine x_gr 43 _ LX9_28 (xd DX9_wide rfl) rfl rfl ⟨by decide, by decide⟩ (by decide) rfl rfl ?_
          refine x_bipush 45 (xd DX9_wide rfl) rfl rfl ?_
          refine x_iload_n 46 (xd DX9_wide rfl) rfl rfl ?_
          refine x_iastore 47 (xd DX9_wide rfl) rfl ⟨Or.inr ⟨rfl, by decide⟩, by decide⟩ (by decide) (by omega) (by omega) rfl ?_
          have hrt := set_rt hM hN hA.2.2 (Or.inl rfl) (v := w) hset_s (by rw [hset_i (by decide), (hN.rt hM).1.2.1]) hi
          have hG2 := chd_gh hM hA.1 hN.1 (hN.2.1 5 (by decide) (by decide)) (Off.set rfl) hrt.1 hrt.2
          refine x_aload_n 48 (xd DX9_wide rfl) rfl rfl ?_
          refine x_Vv 51 (pX9_cover g' hG2) FX9_cover VX9_cover CX9_113 (xd DX9_wide rfl) rfl rfl rfl ⟨by decide, rfl⟩ ⟨by decide, by decide⟩ (by decide) (Nat.le_of_ble_eq_true rfl) (by decide) rfl ?_
          intro h3 ⟨hO3, hR3⟩
          have hX := chd_mk hM hA.1 hA.2.1 hN (Off.set rfl) hG2 hO3 hR3
          refine x_iload_n 52 (xd DX9_wide rfl) rfl rfl ?_
          refine x_ri (xd DX9_wide rfl) rfl ?_
          exact ⟨fun q => absurd hw4 q, fun _ q => absurd q.symm c29, fun _ _ => ⟨hM.1.2.2.2.2.1.1, hX⟩⟩
        · rw [hM.1.2.2.2.2.1.1] at c29
          refine x_bipush 34 (xd DX9_wide rfl) rfl rfl ?_
          refine x_ri (xd DX9_wide rfl) rfl ?_
          exact ⟨fun q => absurd q (by omega), fun _ _ => ⟨rfl, rfl⟩, fun _ q => absurd c29.symm q⟩
      · refine x_iconst 18 (xd DX9_wide rfl) rfl ?_
        refine x_ri (xd DX9_wide rfl) rfl ?_
        exact ⟨fun _ => ⟨rfl, rfl⟩, fun q => absurd q (by omega), fun q => absurd q (by omega)⟩

