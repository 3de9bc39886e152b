/-! SqueezedCodeModel: choose -/
theorem GH.gh2 {S : Nat → Prop} {g g' h : XH} (hG : GH g h) (hO : Off S g g') (hs : ∀ c, S c → (34 ≤ c ∧ c < 192) ∨ (245 ≤ c ∧ c ≤ 248) ∨ 254 ≤ c) : GH g' h := by
  obtain ⟨a1, a2, a3, a4, a5, a6⟩ := hG
  have hk : ∀ c, (c < 34 ∨ (192 ≤ c ∧ c ≤ 244) ∨ (249 ≤ c ∧ c ≤ 253)) → ¬ S c := fun c q z => by have := hs c z; omega
  refine ⟨a1.off hO (hk _ (by omega)) (hk _ (by omega)) (hk _ (by omega)) (hk _ (by omega)), SW.same (fun x q => hO x (hk _ (by unfold S26 at q; omega))) a2, a3.off hO (fun c q => hk c (by omega)) a1 a2, a4.eq (hO _ (hk _ (by omega))) (hO _ (hk _ (by omega))) (hO _ (hk _ (by omega))) (hO _ (hk _ (by omega))), a5.eq (SEq.same (fun x q => hO x (hk _ (by unfold S26 at q; omega))) a2.1.2), a6⟩
theorem RC.gh2 {S : Nat → Prop} {g g' h : XH} (hR : RC g h) (hO : Off S g g') (hs : ∀ c, S c → (34 ≤ c ∧ c < 192) ∨ (245 ≤ c ∧ c ≤ 248) ∨ 254 ≤ c) : RC g' h := by
  have hk : ∀ c, (c < 34 ∨ (192 ≤ c ∧ c ≤ 244) ∨ (249 ≤ c ∧ c ≤ 253)) → g' c = g c := fun c q => hO c (fun z => by have := hs c z; omega)
  unfold RC
  rw [hk 4 (by omega), hk 251 (by omega), hk 249 (by omega), hk 192 (by omega)]
  exact hR
theorem fnd_one {x x0 : XH} {z : Int} {a b c : Int} (hf : FndR x x0 z) : xp (0 < (scM (sqC x) (GfC x) (x 4 3).toNat 3 (0, a, b, c)).1) = z ∧ (z ≠ 0 → (scM (sqC x) (GfC x) (x 4 3).toNat 3 (0, a, b, c)).2 = (x0 254 2, x0 254 3, x0 254 4)) := by
  obtain ⟨-, ⟨q, e⟩ | ⟨q, e1, e2⟩⟩ := hf
  · have h0 : ∀ i m, ¬ sqC x i m := fun i m y => by have := y.2; omega
    rw [scM_0 h0]
    exact ⟨by rw [e]; exact xp_0.mpr (show ¬ (0 : Int) < 0 by decide), fun y => absurd e y⟩
  · have hs : sqC x = SqR x := by
      funext i m
      exact propext ⟨fun y => y.1, fun y => ⟨y, q⟩⟩
    rw [hs]
    have hq := scM_q (sq := SqR x) (G := GfC x) (N := (x 4 3).toNat) (s := (0, x 254 2, x 254 3, x 254 4)) (s' := (0, a, b, c)) ⟨rfl, fun y => absurd (show (0 : Int) < 0 from y) (by decide)⟩ 3
    rw [← e2] at hq
    have h1 : x0 254 5 = (scM (SqR x) (GfC x) (x 4 3).toNat 3 (0, a, b, c)).1 := hq.1
    rw [← h1]
    refine ⟨e1.symm, fun y => ?_⟩
    have p5 : 0 < x0 254 5 := Classical.byContradiction (fun w => y (by rw [e1]; exact xp_0.mpr w))
    rw [← hq.2 p5]
    rfl
theorem turn_gh {y g3 hh h2 : XH} {z : Int} (hG : GH y hh) (hr : RdyC z y) (hz : z ≠ 0) (hN : NxtR y g3) (hl : Lays hh (mEnt (y 8 1)) (y 254 2) (y 254 3) (y 254 4) h2) : GH g3 (hset h2 266 82 (y 8 1 + 1)) := by
  obtain ⟨q8, qs, qm, qz⟩ := hr.2 hz
  obtain ⟨nO, hA, hL⟩ := hN
  have hs := qs.ok hG.2.2.1 qm.2
  have h81 := hG.2.1.1
  have hk : ∀ c, c < 8 → g3 c = y c := fun c q => nO c (by unfold ST SL; omega)
  have eb : mEnt (y 8 1) = 10 * y 8 1 := by unfold mEnt; rw [if_pos q8]
  rw [eb] at hl
  have hkk : ∀ j, j ≠ 82 → (j < 10 * y 8 1 ∨ 10 * y 8 1 + 10 ≤ j) → hset h2 266 82 (y 8 1 + 1) 266 j = hh 266 j := fun j a b => by rw [hset_i a]; exact hl.2.1 j b
  have a4 := hG.2.2.2.1
  refine ⟨hG.1.off nO (by unfold ST SL; omega) (by unfold ST SL; omega) (by unfold ST SL; omega) (by unfold ST SL; omega), hA.sw hG.2.1 hG.1 hs q8 qz, hL, ?_, ⟨?_, ?_, ?_, fun e he => ?_⟩, fun j a b => ?_⟩
  · exact (a4.eq (hk 4 (by omega)) (hk 5 (by omega)) (hk 6 (by omega)) (hk 7 (by omega))).mv (by rw [hset_c (by decide), hl.1 259 (by decide)]) (by rw [hset_c (by decide), hl.1 263 (by decide)]) (by rw [hset_c (by decide), hl.1 264 (by decide)]) (by rw [hset_c (by decide), hl.1 265 (by decide)])
  · rw [hkk _ (by omega) (by omega), hG.2.2.2.2.1.1, hA.2.1]
  · rw [hkk _ (by omega) (by omega), hG.2.2.2.2.1.2.1, hA.2.2.1]
  · rw [hset_s, hA.1]
  · rw [hA.1] at he
    by_cases w : (e : Int) < y 8 1
    · exact ((hG.2.2.2.2.1.2.2.2 e w).mv (fun x a b => hkk _ (by omega) (by omega))).eq (hA.2.2.2.1 e w)
    · have ee : (y 8 1).toNat = e := by omega
      have ht := hA.2.2.2.2
      rw [ee] at ht
      have := hl.me a4 ⟨hs.1, hs.2.2.2.1⟩ qz.1 ht
      refine ME.mv (b := 10 * y 8 1) this (fun x a b => ?_)
      rw [hset_i (by omega), show (e : Int) = y 8 1 by omega]
  · by_cases e : j = 82
    · rw [e, hset_s]; omega
    · rw [hset_i e]
      exact hl.rg hG.2.2.2.2.2 ⟨hs.2.1, hs.2.2.1⟩ qz (a4.sq hG.1 hs.1 hs.2.2.2.1) j a b
def KpC (g h h' : XH) : Prop := MG g h' ∧ Off (fun c => c = 259 ∨ SN c) h h' ∧ ∀ j, j ≠ 28 → j ≠ 29 → j ≠ 30 → h' 259 j = h 259 j
set_option maxRecDepth 100000 in
set_option maxHeartbeats 4000000 in
theorem pX9_choose_bad {K : XK} {n : Nat} {h : XH} (c : Int) (hc : xrg c) (hc1 : ¬ (1 ≤ c ∧ c ≤ 8)) : MI K mX9_choose 6 n [vr 259, vi c] h (fun zr h' => zr = -1 ∧ h' = h) := by
  refine xMeth FX9_choose (Nat.le_of_ble_eq_true rfl) ?_
  refine x_iload_n 1 (xd DX9_choose rfl) rfl rfl ?_
  refine x_i2l 2 (by omega) (xd DX9_choose rfl) rfl ?_
  refine x_lconst 3 (xd DX9_choose rfl) (z := 1) rfl rfl ?_
  refine x_ldc2 6 (xd DX9_choose rfl) KX9_176 rfl ?_
  refine x_Si 9 (pX9_in c 1 8 (by omega) (by omega) (by omega)) FX9_in VX9_in CX9_71 (xd DX9_choose rfl) rfl rfl (by decide) (Nat.le_of_ble_eq_true rfl) (by decide) rfl ?_
  rintro z9 h9 ⟨q1, q2⟩
  rw [q1, q2]
  clear q1 q2 z9 h9
  refine x_ifp_ne 12 14 (xd DX9_choose rfl) rfl rfl (fun c9 => ?_) (fun c9 => ?_)
  · exact absurd c9 hc1
  · refine x_iconst 13 (xd DX9_choose rfl) rfl ?_
    refine x_ri (xd DX9_choose rfl) rfl ?_
    exact ⟨rfl, rfl⟩

set_option maxRecDepth 100000 in
set_option maxHeartbeats 4000000 in
theorem pX9_choose_none {K : XK} {n : Nat} {h : XH} (g g0 : XH) (c : Int) (hM : MG g h) (hc : xrg c) (hc1 : 1 ≤ c ∧ c ≤ 8) (hF : FndR g g0 0) : MI K mX9_choose 6 n [vr 259, vi c] h (fun zr h' => zr = -2 ∧ KpC g h h') := by
  refine xMeth FX9_choose (Nat.le_of_ble_eq_true rfl) ?_
  refine x_iload_n 1 (xd DX9_choose rfl) rfl rfl ?_
  refine x_i2l 2 (by omega) (xd DX9_choose rfl) rfl ?_
  refine x_lconst 3 (xd DX9_choose rfl) (z := 1) rfl rfl ?_
  refine x_ldc2 6 (xd DX9_choose rfl) KX9_176 rfl ?_
  refine x_Si 9 (pX9_in c 1 8 (by omega) (by omega) (by omega)) FX9_in VX9_in CX9_71 (xd DX9_choose rfl) rfl rfl (by decide) (Nat.le_of_ble_eq_true rfl) (by decide) rfl ?_
  rintro z9 h9 ⟨q1, q2⟩
  rw [q1, q2]
  clear q1 q2 z9 h9
  refine x_ifp_ne 12 14 (xd DX9_choose rfl) rfl rfl (fun c9 => ?_) (fun c9 => ?_)
  · refine x_iconst 15 (xd DX9_choose rfl) rfl ?_
    refine x_istore_n 16 (L' := [(0, _), (1, _), (2, _)]) (xd DX9_choose rfl) (by decide) rfl rfl rfl ?_
    refine x_iload_n 17 (xd DX9_choose rfl) rfl rfl ?_
    refine x_iload_n 18 (xd DX9_choose rfl) rfl rfl ?_
    refine x_icmp_ge 21 80 (xd DX9_choose rfl) rfl (by omega) (by omega) rfl (fun c18 => absurd c18 (by omega)) (fun _ => ?_)
    refine x_aload_n 22 (xd DX9_choose rfl) rfl rfl ?_
    refine x_Vi 25 (pX9_chooses g hM.1 hM.2.1.2) FX9_chooses VX9_chooses CX9_178 (xd DX9_choose rfl) rfl rfl rfl ⟨by decide, rfl⟩ ⟨by decide, by decide⟩ (by decide) (Nat.le_of_ble_eq_true rfl) (by decide) rfl ?_
    rintro z9 xq ⟨q1, q2, hG1, hR1, hO1, hk1⟩
    have hfo := fnd_one (a := h 259 28) (b := h 259 29) (c := h 259 30) hF
    rw [hfo.1] at q1
    rw [q1]
    clear q1 z9
    refine x_if_eq 28 80 (xd DX9_choose rfl) rfl (by omega) rfl (fun _ => ?_) (fun c25 => absurd c25 (by decide))
    refine x_iload_n 81 (xd DX9_choose rfl) rfl rfl ?_
    refine x_if_ne 84 89 (xd DX9_choose rfl) rfl (by omega) rfl (fun c81 => absurd c81 (by decide)) (fun _ => ?_)
    refine x_bipush 86 (xd DX9_choose rfl) rfl rfl ?_
    refine x_goto 90 (xd DX9_choose rfl) rfl ?_
    refine x_ri (xd DX9_choose rfl) rfl ?_
    refine ⟨rfl, ⟨hG1, hR1, hM.2.2.1, hM.2.2.2.1.mv (hk1 11 (by decide) (by decide) (by decide)) (hO1 267 (by decide)), hM.2.2.2.2.mv (hO1 267 (by decide))⟩, hO1.mono (fun c q => ?_), hk1⟩
    unfold SN
    omega
  · exact absurd hc1 c9

def ChI (g h g' : XH) (x : XH) (k : Int) (y : XH) : Prop := GH x y ∧ RC x y ∧ x 8 1 = g 8 1 + k ∧ RH g' y ∧ BRg y ∧ y 259 15 = 0 ∧ y 259 0 = h 259 0 ∧ Off SM h y
theorem ChI.fin {g h gk x x0 y : XH} {k z : Int} (hI : ChI g h (hset gk 255 5 0) x k y) (hF : FndR x x0 z) (he : gk = x0) (hW : HW (hset gk 255 5 0)) : k = gk 8 1 - g 8 1 ∧ Chd (hset gk 255 5 0) h y := by
  obtain ⟨a1, a2, a3, a4, a5, a6, a7, a8⟩ := hI
  subst he
  have hO : Off (fun c => STr c ∨ c = 255) x (hset gk 255 5 0) := (hF.1.mono (fun c q => Or.inl q)).tr (Off.set (Or.inr rfl))
  have hs : ∀ c, (STr c ∨ c = 255) → (34 ≤ c ∧ c < 192) ∨ (245 ≤ c ∧ c ≤ 248) ∨ 254 ≤ c := fun c q => by unfold STr SGa S3 at q; omega
  refine ⟨?_, ⟨a1.gh2 hO hs, a2.gh2 hO hs, hW, a4, a5⟩, a6, a8, a7⟩
  rw [hF.1 8 (by unfold STr SGa S3; omega), a3]
  omega
set_option maxRecDepth 100000 in
set_option maxHeartbeats 4000000 in
theorem pX9_choose_some {K : XK} {n : Nat} {h : XH} (g g0 g1 gk : XH) (z0 c : Int) (hM : MG g h) (hc : xrg c) (hc1 : 1 ≤ c ∧ c ≤ 8) (hF : FndR g g0 z0) (hz0 : z0 ≠ 0) (hO01 : Off SHi g0 g1) (hCh : ChR c.toNat z0 g1 gk) (hKp : KeptR g (hset gk 255 5 0)) (hW : HW (hset gk 255 5 0)) : MI K mX9_choose 6 n [vr 259, vi c] h (fun zr h' => zr = gk 8 1 - g 8 1 ∧ Chd (hset gk 255 5 0) h h') := by
  refine xMeth FX9_choose (Nat.le_of_ble_eq_true rfl) ?_
  have loop : ∀ (f : Nat) (xk : Int) (x x0 : XH) (xz : Int) (xg : XH), 1 ≤ xk → xk ≤ c → c - xk < (f : Int) → ChI g h (hset gk 255 5 0) x xk xg → FndR x x0 xz → ChR (c.toNat - xk.toNat) xz x0 gk → WI K mX9_choose 6 n (qI n (fun zr h' => zr = gk 8 1 - g 8 1 ∧ Chd (hset gk 255 5 0) h h')) 16 [(0, vr 259), (1, vi c), (2, vi xk)] [] xg := by
    intro f
    induction f with
    | zero => intro xk x x0 xz xg a b c; exact absurd c (by omega)
    | succ f ih =>
      intro xk x x0 xz xg k0 k1 hf hI hF hCh
      have hz01 : xrg xz := by have := hF.rdy.1; omega
      refine x_iload_n 17 (xd DX9_choose rfl) rfl rfl ?_
      refine x_iload_n 18 (xd DX9_choose rfl) rfl rfl ?_
      refine x_icmp_ge 21 80 (xd DX9_choose rfl) rfl (by omega) (by omega) rfl (fun c18 => ?_) (fun c18 => ?_)
      · have hgk : gk = x0 := by
          have e : c.toNat - xk.toNat = 0 := by omega
          rw [e] at hCh
          exact hCh
        refine x_iload_n 81 (xd DX9_choose rfl) rfl rfl ?_
        refine x_if_ne 84 89 (xd DX9_choose rfl) rfl (by omega) rfl (fun _ => ?_) (fun c81 => absurd c81 (by omega))
        refine x_iload_n 90 (xd DX9_choose rfl) rfl rfl ?_
        refine x_ri (xd DX9_choose rfl) rfl ?_
        exact hI.fin hF hgk hW
      · refine x_aload_n 22 (xd DX9_choose rfl) rfl rfl ?_
        refine x_Vi 25 (pX9_chooses x hI.1 hI.2.1.2) FX9_chooses VX9_chooses CX9_178 (xd DX9_choose rfl) rfl rfl rfl ⟨by decide, rfl⟩ ⟨by decide, by decide⟩ (by decide) (Nat.le_of_ble_eq_true rfl) (by decide) rfl ?_
        rintro z9 xq ⟨q1, q2, hG1, hR1, hO1, hk1⟩
        have hfo := fnd_one (a := xg 259 28) (b := xg 259 29) (c := xg 259 30) hF
        rw [hfo.1] at q1
        rw [q1]
        clear q1 z9
        have hI1 : ChI g h (hset gk 255 5 0) x xk xq := ⟨hG1, hR1, hI.2.2.1, hI.2.2.2.1.mv (hk1 11 (by decide) (by decide) (by decide)) (hO1 267 (by decide)), hI.2.2.2.2.1.mv (hO1 267 (by decide)), by rw [hk1 15 (by decide) (by decide) (by decide)]; exact hI.2.2.2.2.2.1, by rw [hk1 0 (by decide) (by decide) (by decide)]; exact hI.2.2.2.2.2.2.1, hI.2.2.2.2.2.2.2.tr (hO1.mono (fun c q => by unfold SM; omega))⟩
        refine x_if_eq 28 80 (xd DX9_choose rfl) rfl (by exact hz01) rfl (fun c25 => ?_) (fun c25 => ?_)
        · have hgk : gk = x0 := by
            have e : c.toNat - xk.toNat = (c.toNat - xk.toNat - 1) + 1 := by omega
            rw [e, c25] at hCh
            rcases hCh with y | y
            · exact y.2
            · exact absurd rfl y.1
          replace hI := hI1
          refine x_iload_n 81 (xd DX9_choose rfl) rfl rfl ?_
          refine x_if_ne 84 89 (xd DX9_choose rfl) rfl (by omega) rfl (fun _ => ?_) (fun c81 => absurd c81 (by omega))
          refine x_iload_n 90 (xd DX9_choose rfl) rfl rfl ?_
          refine x_ri (xd DX9_choose rfl) rfl ?_
          exact hI.fin hF hgk hW
        · have hz0 := c25
          have hGy : GH x0 xq := hI1.1.gh2 hF.1 (fun c q => by unfold STr SGa S3 at q; omega)
          have hrd := hF.rdy
          have q8 := hrd.2 hz0
          have hs0 := q8.2.1.ok hGy.2.2.1 q8.2.2.1.2
          have h81y := hGy.2.1.1
          have h48y := hGy.1.1
          have q20 := hfo.2 hz0
          rw [← q2] at q20
          have q21 : xq 259 28 = x0 254 2 := congrArg (fun y => y.1) q20
          have q22 : xq 259 29 = x0 254 3 := congrArg (fun y => y.2.1) q20
          have q23 : xq 259 30 = x0 254 4 := congrArg (fun y => y.2.2) q20
          have hC2 := hCh
          rw [show c.toNat - xk.toNat = (c.toNat - (xk + 1).toNat) + 1 by omega] at hC2
          rcases hC2 with y | ⟨-, g3, g4, z4, hN3, hF4, hC4⟩
          · exact absurd y.1 hz0
          refine x_iload_n 29 (xd DX9_choose rfl) rfl rfl ?_
          refine x_if_ne 32 36 (xd DX9_choose rfl) rfl (by omega) rfl (fun _ => ?_) (fun c29 => absurd c29 (by omega))
          refine x_aload_n 37 (xd DX9_choose rfl) rfl rfl ?_
          refine x_aload_n 38 (xd DX9_choose rfl) rfl rfl ?_
          refine x_gr 41 _ LX9_28 (xd DX9_choose rfl) rfl rfl ⟨by decide, by decide⟩ (by decide) rfl rfl ?_
          refine x_bipush 43 (xd DX9_choose rfl) rfl rfl ?_
          refine x_iaload 44 (xd DX9_choose rfl) rfl ⟨Or.inr ⟨rfl, by decide⟩, by decide⟩ (by decide) (by omega) (by omega) rfl ?_
          refine x_aload_n 45 (xd DX9_choose rfl) rfl rfl ?_
          refine x_gi 48 28 rfl LX9_167 (xd DX9_choose rfl) rfl ⟨Or.inr ⟨rfl, by decide⟩, by decide⟩ rfl ?_
          refine x_aload_n 49 (xd DX9_choose rfl) rfl rfl ?_
          refine x_gi 52 29 rfl LX9_170 (xd DX9_choose rfl) rfl ⟨Or.inr ⟨rfl, by decide⟩, by decide⟩ rfl ?_
          refine x_aload_n 53 (xd DX9_choose rfl) rfl rfl ?_
          refine x_gi 56 30 rfl LX9_173 (xd DX9_choose rfl) rfl ⟨Or.inr ⟨rfl, by decide⟩, by decide⟩ rfl ?_
          rw [q21, q22, q23]
          refine x_Vv 59 (pX9_lays (xq 266 82) (x0 254 2) (x0 254 3) (x0 254 4) (by rw [hGy.e]; omega) hs0.1 q8.2.2.1 (by have := hs0.2.2.2.1; omega) q8.2.2.2) FX9_lays VX9_lays CX9_123 (xd DX9_choose rfl) rfl rfl rfl ⟨by decide, rfl⟩ ⟨by decide, by decide⟩ (by decide) (Nat.le_of_ble_eq_true rfl) (by decide) rfl ?_
          intro h2 hl
          rw [hGy.e] at hl
          have e82b : h2 266 82 = x0 8 1 := by rw [hl.2.1 82 (by unfold mEnt; split <;> omega)]; exact hGy.e
          refine x_aload_n 60 (xd DX9_choose rfl) rfl rfl ?_
          refine x_gr 63 _ LX9_28 (xd DX9_choose rfl) rfl rfl ⟨by decide, by decide⟩ (by decide) rfl rfl ?_
          refine x_bipush 65 (xd DX9_choose rfl) rfl rfl ?_
          refine x_dup2 66 (xd DX9_choose rfl) rfl ?_
          refine x_iaload 67 (xd DX9_choose rfl) rfl ⟨Or.inr ⟨rfl, by decide⟩, by decide⟩ (by decide) (by omega) (by omega) rfl ?_
          refine x_iconst 68 (xd DX9_choose rfl) rfl ?_
          refine x_iadd 69 (xd DX9_choose rfl) rfl ?_
          rw [e82b]
          have hG3 := turn_gh hGy hrd hz0 hN3 hl
          refine x_iastore 70 (xd DX9_choose rfl) rfl ⟨Or.inr ⟨rfl, by decide⟩, by decide⟩ (by decide) (by omega) (by omega) rfl ?_
          refine x_aload_n 71 (xd DX9_choose rfl) rfl rfl ?_
          refine x_Vv 74 (pX9_cover g3 hG3) FX9_cover VX9_cover CX9_113 (xd DX9_choose rfl) rfl rfl rfl ⟨by decide, rfl⟩ ⟨by decide, by decide⟩ (by decide) (Nat.le_of_ble_eq_true rfl) (by decide) rfl ?_
          intro h3 ⟨hO3, hR3⟩
          refine x_iinc 77 (L' := [(0, _), (1, _), (2, _)]) (xd DX9_choose rfl) rfl (by decide) rfl rfl rfl ?_
          refine x_goto 16 (xd DX9_choose rfl) rfl ?_
          refine ih (xk + 1) g3 g4 z4 _ (by omega) (by omega) (by omega) ?_ hF4 hC4
          have e259 : h3 259 = xq 259 := by rw [hO3 259 (by unfold S890; omega), hset_c (by decide), hl.1 259 (by decide)]
          have e267 : h3 267 = xq 267 := by rw [hO3 267 (by unfold S890; omega), hset_c (by decide), hl.1 267 (by decide)]
          obtain ⟨i1, i2, i3, i4, i5, i6, i7, i8⟩ := hI1
          refine ⟨hG3.off hO3 (by unfold S890; omega) (by unfold S890; omega) (by unfold S890; omega) (by unfold S890; omega) (by unfold S890; omega), hR3, ?_, i4.mv (by rw [e259]) e267, i5.mv e267, by rw [e259]; exact i6, by rw [e259]; exact i7, fun c hc => ?_⟩
          · rw [hN3.2.1.1, hF.1 8 (by unfold STr SGa S3; omega), i3]; omega
          · rw [hO3 c (by unfold S890; unfold SM at hc; omega), hset_c (by unfold SM at hc; omega), hl.1 c (by unfold SM at hc; omega)]
            exact i8 c hc
  refine x_iload_n 1 (xd DX9_choose rfl) rfl rfl ?_
  refine x_i2l 2 (by omega) (xd DX9_choose rfl) rfl ?_
  refine x_lconst 3 (xd DX9_choose rfl) (z := 1) rfl rfl ?_
  refine x_ldc2 6 (xd DX9_choose rfl) KX9_176 rfl ?_
  refine x_Si 9 (pX9_in c 1 8 (by omega) (by omega) (by omega)) FX9_in VX9_in CX9_71 (xd DX9_choose rfl) rfl rfl (by decide) (Nat.le_of_ble_eq_true rfl) (by decide) rfl ?_
  rintro z9 h9 ⟨q1, q2⟩
  rw [q1, q2]
  clear q1 q2 z9 h9
  refine x_ifp_ne 12 14 (xd DX9_choose rfl) rfl rfl (fun c9 => ?_) (fun c9 => ?_)
  · refine x_iconst 15 (xd DX9_choose rfl) rfl ?_
    refine x_istore_n 16 (L' := [(0, _), (1, _), (2, _)]) (xd DX9_choose rfl) (by decide) rfl rfl rfl ?_
    refine x_iload_n 17 (xd DX9_choose rfl) rfl rfl ?_
    refine x_iload_n 18 (xd DX9_choose rfl) rfl rfl ?_
    refine x_icmp_ge 21 80 (xd DX9_choose rfl) rfl (by omega) (by omega) rfl (fun c18 => absurd c18 (by omega)) (fun _ => ?_)
    refine x_aload_n 22 (xd DX9_choose rfl) rfl rfl ?_
    refine x_Vi 25 (pX9_chooses g hM.1 hM.2.1.2) FX9_chooses VX9_chooses CX9_178 (xd DX9_choose rfl) rfl rfl rfl ⟨by decide, rfl⟩ ⟨by decide, by decide⟩ (by decide) (Nat.le_of_ble_eq_true rfl) (by decide) rfl ?_
    rintro z9 xq ⟨q1, q2, hG1, hR1, hO1, hk1⟩
    have hfo := fnd_one (a := h 259 28) (b := h 259 29) (c := h 259 30) hF
    rw [hfo.1] at q1
    rw [q1]
    clear q1 z9
    refine x_if_eq 28 80 (xd DX9_choose rfl) rfl (by have := hF.rdy.1; omega) rfl (fun c25 => ?_) (fun c25 => ?_)
    · exact absurd c25 hz0
    · refine x_iload_n 29 (xd DX9_choose rfl) rfl rfl ?_
      refine x_if_ne 32 36 (xd DX9_choose rfl) rfl (by omega) rfl (fun c29 => absurd c29 (by decide)) (fun _ => ?_)
      refine x_aload_n 33 (xd DX9_choose rfl) rfl rfl ?_
      refine x_Vv 36 (pX9_note (by rw [hk1 11 (by decide) (by decide) (by decide), hM.2.2.2.1.1]; have := hM.2.2.1.1; omega) hG1.2.2.2.2.2 (hM.2.2.2.2.mv (hO1 267 (by decide)))) FX9_note VX9_note CX9_157 (xd DX9_choose rfl) rfl rfl rfl ⟨by decide, rfl⟩ ⟨by decide, by decide⟩ (by decide) (Nat.le_of_ble_eq_true rfl) (by decide) rfl ?_
      intro xn hN
      have hGy : GH g1 xn := ((hG1.gh2 hF.1 (fun c q => by unfold STr SGa S3 at q; omega)).gh2 hO01 (fun c q => by unfold SHi at q; omega)).mv (hN.2.1 5 (by decide) (by decide)) (hN.1 263 (by decide)) (hN.1 264 (by decide)) (hN.1 265 (by decide)) (hN.1 266 (by decide))
      have hrd : RdyC z0 g1 := by
        obtain ⟨r1, r2⟩ := hF.rdy
        refine ⟨r1, fun q => ?_⟩
        have r3 := r2 q
        unfold SqR at r3 ⊢
        rw [hO01 8 (by unfold SHi; omega), hO01 254 (by unfold SHi; omega), hO01 4 (by unfold SHi; omega), hO01 193 (by unfold SHi; omega)]
        exact r3
      have q8 := hrd.2 hz0
      have hs0 := q8.2.1.ok hGy.2.2.1 q8.2.2.1.2
      have h81y := hGy.2.1.1
      have h48y := hGy.1.1
      have q20 := hfo.2 hz0
      rw [← q2] at q20
      have e254 : g1 254 = g0 254 := hO01 254 (by unfold SHi; omega)
      have q21 : xn 259 28 = g1 254 2 := by rw [hN.2.1 28 (by decide) (by decide), e254]; exact congrArg (fun y => y.1) q20
      have q22 : xn 259 29 = g1 254 3 := by rw [hN.2.1 29 (by decide) (by decide), e254]; exact congrArg (fun y => y.2.1) q20
      have q23 : xn 259 30 = g1 254 4 := by rw [hN.2.1 30 (by decide) (by decide), e254]; exact congrArg (fun y => y.2.2) q20
      have hC2 := hCh
      rw [show c.toNat = (c.toNat - (1 : Int).toNat) + 1 by omega] at hC2
      rcases hC2 with y | ⟨-, g3, g4, z4, hN3, hF4, hC4⟩
      · exact absurd y.1 hz0
      refine x_aload_n 37 (xd DX9_choose rfl) rfl rfl ?_
      refine x_aload_n 38 (xd DX9_choose rfl) rfl rfl ?_
      refine x_gr 41 _ LX9_28 (xd DX9_choose rfl) rfl rfl ⟨by decide, by decide⟩ (by decide) rfl rfl ?_
      refine x_bipush 43 (xd DX9_choose rfl) rfl rfl ?_
      refine x_iaload 44 (xd DX9_choose rfl) rfl ⟨Or.inr ⟨rfl, by decide⟩, by decide⟩ (by decide) (by omega) (by omega) rfl ?_
      refine x_aload_n 45 (xd DX9_choose rfl) rfl rfl ?_
      refine x_gi 48 28 rfl LX9_167 (xd DX9_choose rfl) rfl ⟨Or.inr ⟨rfl, by decide⟩, by decide⟩ rfl ?_
      refine x_aload_n 49 (xd DX9_choose rfl) rfl rfl ?_
      refine x_gi 52 29 rfl LX9_170 (xd DX9_choose rfl) rfl ⟨Or.inr ⟨rfl, by decide⟩, by decide⟩ rfl ?_
      refine x_aload_n 53 (xd DX9_choose rfl) rfl rfl ?_
      refine x_gi 56 30 rfl LX9_173 (xd DX9_choose rfl) rfl ⟨Or.inr ⟨rfl, by decide⟩, by decide⟩ rfl ?_
      rw [q21, q22, q23]
      refine x_Vv 59 (pX9_lays (xn 266 82) (g1 254 2) (g1 254 3) (g1 254 4) (by rw [hGy.e]; omega) hs0.1 q8.2.2.1 (by have := hs0.2.2.2.1; omega) q8.2.2.2) FX9_lays VX9_lays CX9_123 (xd DX9_choose rfl) rfl rfl rfl ⟨by decide, rfl⟩ ⟨by decide, by decide⟩ (by decide) (Nat.le_of_ble_eq_true rfl) (by decide) rfl ?_
      intro h2 hl
      rw [hGy.e] at hl
      have e82b : h2 266 82 = g1 8 1 := by rw [hl.2.1 82 (by unfold mEnt; split <;> omega)]; exact hGy.e
      refine x_aload_n 60 (xd DX9_choose rfl) rfl rfl ?_
      refine x_gr 63 _ LX9_28 (xd DX9_choose rfl) rfl rfl ⟨by decide, by decide⟩ (by decide) rfl rfl ?_
      refine x_bipush 65 (xd DX9_choose rfl) rfl rfl ?_
      refine x_dup2 66 (xd DX9_choose rfl) rfl ?_
      refine x_iaload 67 (xd DX9_choose rfl) rfl ⟨Or.inr ⟨rfl, by decide⟩, by decide⟩ (by decide) (by omega) (by omega) rfl ?_
      refine x_iconst 68 (xd DX9_choose rfl) rfl ?_
      refine x_iadd 69 (xd DX9_choose rfl) rfl ?_
      rw [e82b]
      have hG3 := turn_gh hGy hrd hz0 hN3 hl
      refine x_iastore 70 (xd DX9_choose rfl) rfl ⟨Or.inr ⟨rfl, by decide⟩, by decide⟩ (by decide) (by omega) (by omega) rfl ?_
      refine x_aload_n 71 (xd DX9_choose rfl) rfl rfl ?_
      refine x_Vv 74 (pX9_cover g3 hG3) FX9_cover VX9_cover CX9_113 (xd DX9_choose rfl) rfl rfl rfl ⟨by decide, rfl⟩ ⟨by decide, by decide⟩ (by decide) (Nat.le_of_ble_eq_true rfl) (by decide) rfl ?_
      intro h3 ⟨hO3, hR3⟩
      refine x_iinc 77 (L' := [(0, _), (1, _), (2, _)]) (xd DX9_choose rfl) rfl (by decide) rfl rfl rfl ?_
      refine x_goto 16 (xd DX9_choose rfl) rfl ?_
      refine loop 10 1 g3 g4 z4 _ (by omega) (by omega) (by omega) ?_ hF4 hC4
      have e259 : h3 259 = xn 259 := by rw [hO3 259 (by unfold S890; omega), hset_c (by decide), hl.1 259 (by decide)]
      have e267 : h3 267 = xn 267 := by rw [hO3 267 (by unfold S890; omega), hset_c (by decide), hl.1 267 (by decide)]
      have hrh := hN.rh hM.2.2.1 hM.1.2.1 (hM.2.2.2.1.mv (hk1 11 (by decide) (by decide) (by decide)) (hO1 267 (by decide))) hG1.2.2.2.2.1 hKp
      refine ⟨hG3.off hO3 (by unfold S890; omega) (by unfold S890; omega) (by unfold S890; omega) (by unfold S890; omega) (by unfold S890; omega), hR3, ?_, hrh.mv (by rw [e259]) e267, hN.2.2.2.2.2.2.mv e267, by rw [e259]; exact hN.2.2.2.1, by rw [e259, hN.2.1 0 (by decide) (by decide)]; exact hk1 0 (by decide) (by decide) (by decide), fun c hc => ?_⟩
      · rw [hN3.2.1.1, hO01 8 (by unfold SHi; omega), hF.1 8 (by unfold STr SGa S3; omega)]
      · unfold SM at hc
        rw [hO3 c (by unfold S890; omega), hset_c (by omega), hl.1 c (by omega), hN.1 c (by omega)]
        exact hO1 c (by omega)
  · exact absurd hc1 c9

