/-! SqueezedCodeModel: step -/
theorem stpH_k (x : XH) (k : Nat) {j : Int} (a : j ≠ 6) (b : j ≠ 8) (c : j ≠ 9) (d : j ≠ 10) (e : j ≠ 12) : stpH x k 255 j = stpB x k 255 j := by
  have hC : stpC x k 255 j = stpB x k 255 j := by
    unfold stpC
    split
    · unfold wkH tellH
      (repeat' split) <;> first | (rw [hset_i d]; done) | (rw [hset_c (by decide)]; done) | (rw [hset_i e, hset_c (by decide)]; done)
    · unfold trnH
      split
      · rw [hset_i c]
      split
      · rw [hset_i c]
      split
      · rw [hset_i d]
      split
      · unfold jmpH
        by_cases q : 0 ≤ fP (jmpP (stpB x k)) 0 (stpB x k 4 3).toNat
        · rw [pik_t q, hset_i c]
        · rw [pik_f q, hset_i a, hset_i b]
      · rw [hset_i a]
  unfold stpH
  by_cases q : 0 ≤ stpC x k 255 9 ∧ stpC x k 255 9 < x 4 3
  · rw [pik_t q]; exact hC
  · rw [pik_f q, hset_i a]; exact hC
theorem stpH_11 (x : XH) (k : Nat) : stpH x k 255 11 = x 255 11 + 1 := by
  rw [stpH_k x k (by decide) (by decide) (by decide) (by decide) (by decide)]
  unfold stpB
  rw [hset_i (by decide), hset_s]
theorem stpH_13 (x : XH) (k : Nat) : stpH x k 255 13 = x 255 13 := by
  rw [stpH_k x k (by decide) (by decide) (by decide) (by decide) (by decide)]
  unfold stpB
  rw [hset_i (by decide), hset_i (by decide)]
  exact stpA_255 x k (by decide) (by decide) (by decide)
theorem goH_s (h : XH) (k m : Nat) : goH h k (m + 1) = pik (h 255 6 = 0) (pik (h 5 (h 255 9) = 6 ∧ h 255 12 = 12) (hset h 255 6 1) (goH (stpH h k) k m)) h := rfl
theorem OSt.rf {h : XH} : OSt h h := ⟨Off.rf, fun _ _ => rfl⟩
theorem OSt.tr {a b c : XH} (h1 : OSt a b) (h2 : OSt b c) : OSt a c := ⟨h1.1.tr h2.1, fun j hj => (h2.2 j hj).trans (h1.2 j hj)⟩
theorem OSt.mg {g h h' : XH} (hO : OSt h h') (hM : MG g h) : MG g h' := hM.run (hO.1.mono (fun c q => by omega)) (hO.2 5 (by decide)) (hO.2 11 (by decide))
set_option maxRecDepth 100000 in
set_option maxHeartbeats 4000000 in
theorem pX9_step {K : XK} {n : Nat} {h : XH} (g : XH) (k : Nat) (c : Int) (hC : CI g) (hTg : TgI g) (hM : MG g h) (hR : RR g h) (hk : g 8 2 = (2 ^ k : Nat)) (hc : xrg c) : MI K mX9_step 5 n [vr 259, vi c] h (fun zr h' => (¬ (1 ≤ c ∧ c ≤ 400) → zr = -1 ∧ h' = h) ∧ ((1 ≤ c ∧ c ≤ 400) → (g 255 5 = 0 ∨ g 255 6 ≠ 0 → zr = -2 ∧ h' = h) ∧ (g 255 5 = 1 ∧ g 255 6 = 0 → RRs (goH g k c.toNat) h' ∧ OSt h h' ∧ zr = (goH g k c.toNat) 255 11 - g 255 11))) := by
  refine xMeth FX9_step (Nat.le_of_ble_eq_true rfl) ?_
  have hP1 := hM.1.1.1
  have h15 := hR.1
  have h50 := hC.2.2.2.2.1
  have loop : (1 ≤ c ∧ c ≤ 400) → (g 255 5 = 1 ∧ g 255 6 = 0) → ∀ (f : Nat) (xk : Int) (x y : XH), 0 ≤ xk → xk ≤ c → c - xk < (f : Int) → RRs x y → Off SRu g x → RW x → x 255 13 = g 8 3 → OSt h y → xk = x 255 11 - g 255 11 → goH g k c.toNat = goH x k (c.toNat - xk.toNat) → WI K mX9_step 5 n (qI n (fun zr h' => (¬ (1 ≤ c ∧ c ≤ 400) → zr = -1 ∧ h' = h) ∧ ((1 ≤ c ∧ c ≤ 400) → (g 255 5 = 0 ∨ g 255 6 ≠ 0 → zr = -2 ∧ h' = h) ∧ (g 255 5 = 1 ∧ g 255 6 = 0 → RRs (goH g k c.toNat) h' ∧ OSt h h' ∧ zr = (goH g k c.toNat) 255 11 - g 255 11)))) 35 [(0, vr 259), (1, vi c), (2, vi xk)] [] y := by
    intro hc1 hg f
    induction f with
    | zero => intro xk x y a b c; exact absurd c (by omega)
    | succ f ih =>
      intro xk x y k0 k1 hf hS hX hRW h13 hOy hxk hgo
      have x4 : x 4 = g 4 := hX 4 (by unfold SRu; omega)
      have x5 : x 5 = g 5 := hX 5 (by unfold SRu; omega)
      have hPx : PW x := hM.1.1.off hX (by unfold SRu; omega) (by unfold SRu; omega) (by unfold SRu; omega) (by unfold SRu; omega)
      have hax : ∀ j, 0 ≤ j → j < x 4 3 → xrg (x 251 j) := fun j a b => by
        rw [x4] at b
        rw [hX 251 (by unfold SRu; omega)]
        have := (hC.rows a b).2.2.1
        omega
      refine x_iload_n 36 (xd DX9_step rfl) rfl rfl ?_
      refine x_iload_n 37 (xd DX9_step rfl) rfl rfl ?_
      refine x_icmp_ge 40 57 (xd DX9_step rfl) rfl (by omega) (by omega) rfl (fun c37 => ?_) (fun c37 => ?_)
      · refine x_iload_n 58 (xd DX9_step rfl) rfl rfl ?_
        refine x_ri (xd DX9_step rfl) rfl ?_
        refine ⟨fun q => absurd hc1 q, fun _ => ⟨fun q => absurd q (by omega), fun _ => ?_⟩⟩
        rw [hgo]
        rw [show c.toNat - xk.toNat = 0 by omega]
        exact ⟨hS, hOy, hxk⟩
      · refine x_aload_n 41 (xd DX9_step rfl) rfl rfl ?_
        refine x_Vi 44 (pX9_goesOn g x (hOy.mg hM) hS.2.2.1 hS.1.2.2.1 (fun q => by have := hRW.2.2.2.2.1 q; rw [x4] at this; exact this) hRW.2.2.2.2.2.2.1) FX9_goesOn VX9_goesOn CX9_254 (xd DX9_step rfl) rfl rfl rfl ⟨by decide, rfl⟩ ⟨by decide, by decide⟩ (by decide) (Nat.le_of_ble_eq_true rfl) (by decide) rfl ?_
        rintro z9 y2 ⟨hA, hB⟩
        have hgs := goH_s x k (c.toNat - xk.toNat - 1)
        rw [show c.toNat - xk.toNat - 1 + 1 = c.toNat - xk.toNat by omega, x5] at hgs
        by_cases hnA : x 255 6 = 0 ∧ g 5 (x 255 9) = 6 ∧ x 255 12 = 12
        · obtain ⟨a1, a2⟩ := hA hnA
          rw [a1, a2]
          rw [pik_t hnA.1, pik_t hnA.2] at hgs
          refine x_if_eq 47 57 (xd DX9_step rfl) rfl (by decide) rfl (fun _ => ?_) (fun c44 => absurd c44 (by decide))
          refine x_iload_n 58 (xd DX9_step rfl) rfl rfl ?_
          refine x_ri (xd DX9_step rfl) rfl ?_
          refine ⟨fun q => absurd hc1 q, fun _ => ⟨fun q => absurd q (by omega), fun _ => ?_⟩⟩
          rw [hgo]
          rw [hgs]
          refine ⟨⟨hS.1.m (by decide) (by decide) (by decide) (by decide) (by decide) (by decide) (by decide) |>.k (by decide) (by decide) (by decide) (by decide) (by decide) (by decide) (by decide), hS.2.1.k (by decide), by rw [hset_s, hset_s, if_neg (by decide)], by rw [hset_i (by decide), hset_i (by decide)]; exact hS.2.2.2⟩, hOy.tr ⟨Off.set (Or.inl rfl), fun j hj => hset_i (by omega)⟩, by rw [hset_i (by decide)]; exact hxk⟩
        · obtain ⟨a1, a2⟩ := hB hnA
          rw [a1, a2]
          clear a1 a2 hA hB
          by_cases h6 : x 255 6 = 0
          · rw [xp_1.mpr h6]
            rw [pik_t h6, pik_f (fun q => hnA ⟨h6, q⟩)] at hgs
            refine x_if_eq 47 57 (xd DX9_step rfl) rfl (by decide) rfl (fun c44 => absurd c44 (by decide)) (fun _ => ?_)
            refine x_aload_n 48 (xd DX9_step rfl) rfl rfl ?_
            refine x_Vv 51 (pX9_oneStep g x k hC hTg (hOy.mg hM) hk hX hS hRW h13 h6 (fun q1 q2 => hnA ⟨h6, q1, q2⟩)) FX9_oneStep VX9_oneStep CX9_257 (xd DX9_step rfl) rfl rfl rfl ⟨by decide, rfl⟩ ⟨by decide, by decide⟩ (by decide) (Nat.le_of_ble_eq_true rfl) (by decide) rfl ?_
            intro y3 ⟨hT1, hT2⟩
            refine x_iinc 54 (L' := [(0, _), (1, _), (2, _)]) (xd DX9_step rfl) rfl (by decide) rfl rfl rfl ?_
            refine x_goto 35 (xd DX9_step rfl) rfl ?_
            refine ih (xk + 1) (stpH x k) y3 (by omega) (by omega) (by omega) hT1 (hX.tr (stpH_off x k)) ?_ (by rw [stpH_13]; exact h13) (hOy.tr hT2) (by rw [stpH_11]; omega) ?_
            · refine (stp_RW hPx hRW h6 (fun q => ?_) hax).1
              have := hRW.2.2.2.2.2.2.1
              have : x 255 12 ≠ 12 := fun w => hnA ⟨h6, by rw [← x5]; exact q, w⟩
              omega
            · rw [hgo, hgs]
              congr 1
              omega
          · rw [xp_0.mpr h6]
            rw [pik_f h6] at hgs
            refine x_if_eq 47 57 (xd DX9_step rfl) rfl (by decide) rfl (fun _ => ?_) (fun c44 => absurd c44 (by decide))
            refine x_iload_n 58 (xd DX9_step rfl) rfl rfl ?_
            refine x_ri (xd DX9_step rfl) rfl ?_
            refine ⟨fun q => absurd hc1 q, fun _ => ⟨fun q => absurd q (by omega), fun _ => ?_⟩⟩
            rw [hgo]
            rw [hgs]
            exact ⟨hS, hOy, hxk⟩
  refine x_iload_n 1 (xd DX9_step rfl) rfl rfl ?_
  refine x_i2l 2 (by omega) (xd DX9_step rfl) rfl ?_
  refine x_lconst 3 (xd DX9_step rfl) (z := 1) rfl rfl ?_
  refine x_ldc2 6 (xd DX9_step rfl) KX9_252 rfl ?_
  refine x_Si 9 (pX9_in c 1 400 (by omega) (by omega) (by omega)) FX9_in VX9_in CX9_71 (xd DX9_step rfl) rfl rfl (by decide) (Nat.le_of_ble_eq_true rfl) (by decide) rfl ?_
  rintro z9 h9 ⟨q1, q2⟩
  rw [q1, q2]
  clear q1 q2 z9 h9
  refine x_ifp_ne 12 14 (xd DX9_step rfl) rfl rfl (fun c9 => ?_) (fun c9 => ?_)
  · refine x_aload_n 15 (xd DX9_step rfl) rfl rfl ?_
    refine x_gz 18 15 rfl LX9_109 (xd DX9_step rfl) rfl ⟨Or.inr ⟨rfl, by decide⟩, by decide⟩ rfl ?_
    refine x_if_eq 21 30 (xd DX9_step rfl) rfl (by omega) rfl (fun c18 => ?_) (fun c18 => ?_)
    · refine x_bipush 32 (xd DX9_step rfl) rfl rfl ?_
      refine x_ri (xd DX9_step rfl) rfl ?_
      refine ⟨fun q => absurd c9 q, fun _ => ⟨fun _ => ⟨rfl, rfl⟩, fun q => ?_⟩⟩
      exfalso
      have hr := hR.2 q.1
      rw [if_pos q.2] at hr
      have := (hC.2.2.2.2.2.1 q.1).2.2.2.2.1 q.2
      omega
    · have h51 : g 255 5 = 1 := by omega
      have hr := hR.2 h51
      have hrw := hC.2.2.2.2.2.1 h51
      refine x_aload_n 22 (xd DX9_step rfl) rfl rfl ?_
      refine x_gi 25 17 rfl LX9_211 (xd DX9_step rfl) rfl ⟨Or.inr ⟨rfl, by decide⟩, by decide⟩ rfl ?_
      refine x_bipush 27 (xd DX9_step rfl) rfl rfl ?_
      refine x_icmp_ne 30 33 (xd DX9_step rfl) rfl (by first | decide | (rw [hr.2.2.1]; have := hrw.2.2.2.2.1; split <;> omega)) (by first | decide | (rw [hr.2.2.1]; have := hrw.2.2.2.2.1; split <;> omega)) rfl (fun c27 => ?_) (fun c27 => ?_)
      · refine x_iconst 34 (xd DX9_step rfl) rfl ?_
        refine x_istore_n 35 (L' := [(0, _), (1, _), (2, _)]) (xd DX9_step rfl) (by decide) rfl rfl rfl ?_
        have h60 : g 255 6 = 0 := Classical.byContradiction (fun q => by
          have := hr.2.2.1
          rw [if_neg q] at this
          omega)
        exact loop c9 ⟨h51, h60⟩ 410 0 g h (by omega) (by omega) (by omega) ⟨hr.1, hr.2.1, hr.2.2.1, hr.2.2.2.1⟩ Off.rf hrw hr.2.2.2.2 OSt.rf (by omega) rfl
      · refine x_bipush 32 (xd DX9_step rfl) rfl rfl ?_
        refine x_ri (xd DX9_step rfl) rfl ?_
        refine ⟨fun q => absurd c9 q, fun _ => ⟨fun _ => ⟨rfl, rfl⟩, fun q => ?_⟩⟩
        exfalso
        have hr := hR.2 q.1
        rw [if_pos q.2] at hr
        have := (hC.2.2.2.2.2.1 q.1).2.2.2.2.1 q.2
        omega
  · refine x_iconst 13 (xd DX9_step rfl) rfl ?_
    refine x_ri (xd DX9_step rfl) rfl ?_
    exact ⟨fun _ => ⟨rfl, rfl⟩, fun q => absurd q c9⟩

