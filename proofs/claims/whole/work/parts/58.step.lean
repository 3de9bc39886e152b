/-! SqueezedCode: start, step -/
theorem goH_keeps {k : Nat} : ∀ (m : Nat) {h : XH}, PW h → RW h → (∀ j, 0 ≤ j → j < h 4 3 → xrg (h 251 j)) → Off SRu h (goH h k m) ∧ RW (goH h k m)
  | 0, _, _, hR, _ => ⟨Off.rf, hR⟩
  | m + 1, h, hP, hR, ha => by
    unfold goH
    by_cases q : h 255 6 = 0
    · rw [pik_t q]
      by_cases q2 : h 5 (h 255 9) = 6 ∧ h 255 12 = 12
      · rw [pik_t q2]
        exact ⟨o255, (hR.x.s (j := 6) (z := 1) (by omega)).w (fun z => by rw [hset_s] at z; exact absurd z (by decide))⟩
      · rw [pik_f q2]
        have oo := stpH_off h k
        have r1 := (stp_RW (k := k) hP hR q (fun z => by have := hR.2.2.2.2.2.2.1; omega) ha).1
        obtain ⟨a, b⟩ := goH_keeps m (h := stpH h k) (hP.off oo (by unfold SRu; omega) (by unfold SRu; omega) (by unfold SRu; omega) (by unfold SRu; omega)) r1 (by rw [oo 251 (by unfold SRu; omega), oo 4 (by unfold SRu; omega)]; exact ha)
        exact ⟨oo.tr a, b⟩
    · rw [pik_f q]; exact ⟨Off.rf, hR⟩
theorem CI.run {h xg : XH} (hC : CI h) (hO : Off SRu h xg) (hR : RW xg) : CI xg := by
  have hn : ∀ c, c < 255 → xg c = h c := fun c q => hO c (by unfold SRu; omega)
  have e1 := hn 1 (by omega)
  exact ⟨hC.1.off hO (by unfold SRu; omega) (by unfold SRu; omega) (by unfold SRu; omega) (by unfold SRu; omega), hC.2.1.same (fun x z => hn x (by unfold S26 at z; omega)), hC.2.2.1.same (fun x a b => hn x (by omega)), hC.2.2.2.1.off hO (fun c q y => by unfold SRu at y; omega) hC.1 hC.2.1, hR.1, fun _ => hR, by rw [e1]; exact hC.2.2.2.2.2.2.1, by rw [e1, hn 2 (by omega)]; exact hC.2.2.2.2.2.2.2⟩
theorem Begun.rw1 {h' : XH} {sq mh : Int} (hB : Begun h' sq mh) (hq : sq = 0 ∨ sq = 1) (hm : 1 ≤ mh ∧ mh ≤ 4) (h4 : 1 ≤ h' 4 3) (hc : ∀ j, 0 ≤ j → j < 10 → h' 256 j = 0) : RW h' := by
  obtain ⟨a5, a6, a7, a8, a9, a10, a11, a12, a13, a14, -⟩ := hB
  refine ⟨Or.inr a5, Or.inl a6, by rw [a7]; exact hq, Or.inl a8, fun _ => by omega, by rw [a10]; decide, by omega, by omega, by omega, fun j a b => by rw [hc j a b]; decide, fun j a b => absurd b (by omega)⟩
set_option maxRecDepth 100000 in
set_option maxHeartbeats 4000000 in
theorem pX8_start {K : XK} {n : Nat} {h : XH} (sq : Int) (hq : xrg sq) (hC : CI h) : MI K mX8_start 3 n [vr 0, vi sq] h (fun zr h' => (¬ (0 ≤ sq ∧ sq ≤ 1) → zr = -1 ∧ h' = h) ∧ ((0 ≤ sq ∧ sq ≤ 1) → Off SBg h h' ∧ Begun h' sq (h 8 3) ∧ (∀ j, 0 ≤ j → j < 10 → h' 256 j = 0) ∧ CI h' ∧ zr = 0)) := by
  refine xMeth FX8_start (Nat.le_of_ble_eq_true rfl) ?_
  have hlen := hC.len
  have hP1 := hC.1.1
  have hS1 := hC.2.1.1
  have hS3 := hC.2.1.2.2.1
  have hx5 := hC.2.2.2.2.1
  refine x_iload_n 1 (xd DX8_start rfl) rfl rfl ?_
  refine x_if_lt 4 9 (xd DX8_start rfl) rfl (by omega) rfl (fun c1 => ?_) (fun c1 => ?_)
  · refine x_iconst 10 (xd DX8_start rfl) rfl ?_
    refine x_ri (xd DX8_start rfl) rfl ?_
    exact ⟨fun _ => ⟨rfl, rfl⟩, fun q => absurd q (by omega)⟩
  · refine x_iload_n 5 (xd DX8_start rfl) rfl rfl ?_
    refine x_iconst 6 (xd DX8_start rfl) rfl ?_
    refine x_icmp_le 9 11 (xd DX8_start rfl) rfl (by omega) (by omega) rfl (fun c6 => ?_) (fun c6 => ?_)
    · refine x_aload_n 12 (xd DX8_start rfl) rfl rfl ?_
      refine x_gr 15 _ LX8_60 (xd DX8_start rfl) rfl rfl ⟨by decide, by decide⟩ (by decide) rfl rfl ?_
      refine x_iload_n 16 (xd DX8_start rfl) rfl rfl ?_
      refine x_iconst 17 (xd DX8_start rfl) rfl ?_
      refine x_icmp_ne 20 24 (xd DX8_start rfl) rfl (by omega) (by omega) rfl (fun c17 => ?_) (fun c17 => ?_)
      · refine x_iconst 25 (xd DX8_start rfl) rfl ?_
        refine x_aload_n 26 (xd DX8_start rfl) rfl rfl ?_
        refine x_gr 29 _ LX8_26 (xd DX8_start rfl) rfl rfl ⟨by decide, by decide⟩ (by decide) rfl rfl ?_
        refine x_gi 32 3 rfl LX8_189 (xd DX8_start rfl) rfl ⟨Or.inr ⟨rfl, by decide⟩, by decide⟩ rfl ?_
        refine x_Vv 35 (pX5_begin _ (h 8 3) (by decide) hS3) FX5_begin VX5_begin CX8_233 (xd DX8_start rfl) rfl rfl rfl ⟨by decide, rfl⟩ ⟨by decide, by decide⟩ (by decide) (Nat.le_of_ble_eq_true rfl) (by decide) rfl ?_
        rintro h1 ⟨o1, b1, z1⟩
        refine x_iconst 36 (xd DX8_start rfl) rfl ?_
        refine x_ri (xd DX8_start rfl) rfl ?_
        have r1 : RW h1 := b1.rw1 (by decide) hS3 (by rw [o1 4 (by unfold SBg; omega)]; omega) z1
        have c1 : CI h1 := hC.run (o1.mono (fun x q => by unfold SBg at q; unfold SRu; omega)) r1
        first
          | exact ⟨fun q => absurd ⟨by omega, by omega⟩ q, fun _ => ⟨o1, by rw [show sq = 1 by omega]; exact b1, z1, c1, rfl⟩⟩
          | exact ⟨fun q => absurd ⟨by omega, by omega⟩ q, fun _ => ⟨o1, by rw [show sq = 0 by omega]; exact b1, z1, c1, rfl⟩⟩
      · refine x_iconst 21 (xd DX8_start rfl) rfl ?_
        refine x_goto 25 (xd DX8_start rfl) rfl ?_
        refine x_aload_n 26 (xd DX8_start rfl) rfl rfl ?_
        refine x_gr 29 _ LX8_26 (xd DX8_start rfl) rfl rfl ⟨by decide, by decide⟩ (by decide) rfl rfl ?_
        refine x_gi 32 3 rfl LX8_189 (xd DX8_start rfl) rfl ⟨Or.inr ⟨rfl, by decide⟩, by decide⟩ rfl ?_
        refine x_Vv 35 (pX5_begin _ (h 8 3) (by decide) hS3) FX5_begin VX5_begin CX8_233 (xd DX8_start rfl) rfl rfl rfl ⟨by decide, rfl⟩ ⟨by decide, by decide⟩ (by decide) (Nat.le_of_ble_eq_true rfl) (by decide) rfl ?_
        rintro h1 ⟨o1, b1, z1⟩
        refine x_iconst 36 (xd DX8_start rfl) rfl ?_
        refine x_ri (xd DX8_start rfl) rfl ?_
        have r1 : RW h1 := b1.rw1 (by decide) hS3 (by rw [o1 4 (by unfold SBg; omega)]; omega) z1
        have c1 : CI h1 := hC.run (o1.mono (fun x q => by unfold SBg at q; unfold SRu; omega)) r1
        first
          | exact ⟨fun q => absurd ⟨by omega, by omega⟩ q, fun _ => ⟨o1, by rw [show sq = 1 by omega]; exact b1, z1, c1, rfl⟩⟩
          | exact ⟨fun q => absurd ⟨by omega, by omega⟩ q, fun _ => ⟨o1, by rw [show sq = 0 by omega]; exact b1, z1, c1, rfl⟩⟩
    · refine x_iconst 10 (xd DX8_start rfl) rfl ?_
      refine x_ri (xd DX8_start rfl) rfl ?_
      exact ⟨fun _ => ⟨rfl, rfl⟩, fun q => absurd q (by omega)⟩

set_option maxRecDepth 100000 in
set_option maxHeartbeats 4000000 in
theorem pX8_step {K : XK} {n : Nat} {h : XH} (c : Int) (hc : xrg c) (hC : CI h) : MI K mX8_step 6 n [vr 0, vi c] h (fun zr h' => (¬ (1 ≤ c ∧ c ≤ 400) → zr = -1 ∧ h' = h) ∧ ((1 ≤ c ∧ c ≤ 400) → (h 255 5 = 0 ∨ h 255 6 ≠ 0 → zr = -2 ∧ h' = h) ∧ (h 255 5 = 1 ∧ h 255 6 = 0 → ∃ k : Nat, h 8 2 = (2 ^ k : Nat) ∧ h' = goH h k c.toNat ∧ zr = h' 255 11 - h 255 11 ∧ CI h'))) := by
  refine xMeth FX8_step (Nat.le_of_ble_eq_true rfl) ?_
  have hlen := hC.len
  have hP1 := hC.1.1
  have hS1 := hC.2.1.1
  have hS3 := hC.2.1.2.2.1
  have hx5 := hC.2.2.2.2.1
  obtain ⟨k, hk1, hk2, hk3, -⟩ := hC.2.2.2.1.1
  refine x_iload_n 1 (xd DX8_step rfl) rfl rfl ?_
  refine x_iconst 2 (xd DX8_step rfl) rfl ?_
  refine x_icmp_lt 5 12 (xd DX8_step rfl) rfl (by omega) (by omega) rfl (fun c2 => ?_) (fun c2 => ?_)
  · refine x_iconst 13 (xd DX8_step rfl) rfl ?_
    refine x_ri (xd DX8_step rfl) rfl ?_
    exact ⟨fun _ => ⟨rfl, rfl⟩, fun q => absurd q (by omega)⟩
  · refine x_iload_n 6 (xd DX8_step rfl) rfl rfl ?_
    refine x_sipush 9 (xd DX8_step rfl) rfl rfl ?_
    refine x_icmp_le 12 14 (xd DX8_step rfl) rfl (by omega) (by omega) rfl (fun c9 => ?_) (fun c9 => ?_)
    · refine x_aload_n 15 (xd DX8_step rfl) rfl rfl ?_
      refine x_gr 18 _ LX8_60 (xd DX8_step rfl) rfl rfl ⟨by decide, by decide⟩ (by decide) rfl rfl ?_
      refine x_gz 21 5 rfl LX8_237 (xd DX8_step rfl) rfl ⟨Or.inr ⟨rfl, by decide⟩, by decide⟩ rfl ?_
      refine x_if_eq 24 34 (xd DX8_step rfl) rfl (by omega) rfl (fun c21 => ?_) (fun c21 => ?_)
      · refine x_bipush 36 (xd DX8_step rfl) rfl rfl ?_
        refine x_ri (xd DX8_step rfl) rfl ?_
        first
          | exact ⟨fun q => absurd ⟨by omega, by omega⟩ q, fun _ => ⟨fun _ => ⟨rfl, rfl⟩, fun q => absurd q.1 (by omega)⟩⟩
          | exact ⟨fun q => absurd ⟨by omega, by omega⟩ q, fun _ => ⟨fun _ => ⟨rfl, rfl⟩, fun q => absurd q.2 (by omega)⟩⟩
      · refine x_aload_n 25 (xd DX8_step rfl) rfl rfl ?_
        refine x_gr 28 _ LX8_60 (xd DX8_step rfl) rfl rfl ⟨by decide, by decide⟩ (by decide) rfl rfl ?_
        refine x_gz 31 6 rfl LX8_241 (xd DX8_step rfl) rfl ⟨Or.inr ⟨rfl, by decide⟩, by decide⟩ rfl ?_
        refine x_if_eq 34 37 (xd DX8_step rfl) rfl (by have hR := hC.2.2.2.2.2.1 (by omega); have := hR.2.1; omega) rfl (fun c31 => ?_) (fun c31 => ?_)
        · refine x_aload_n 38 (xd DX8_step rfl) rfl rfl ?_
          refine x_gr 41 _ LX8_60 (xd DX8_step rfl) rfl rfl ⟨by decide, by decide⟩ (by decide) rfl rfl ?_
          refine x_iload_n 42 (xd DX8_step rfl) rfl rfl ?_
          refine x_Vi 45 (pX5_go c k ⟨by omega, by omega⟩ hC.1 (hC.2.2.2.2.2.1 (by omega)) hk2 (by omega) (fun j a b => by have := (hC.rows a b).2.2.1; omega)) FX5_go VX5_go CX8_244 (xd DX8_step rfl) rfl rfl rfl ⟨by decide, rfl⟩ ⟨by decide, by decide⟩ (by decide) (Nat.le_of_ble_eq_true rfl) (by decide) rfl ?_
          rintro zr h1 ⟨g1, g2⟩
          refine x_ri (xd DX8_step rfl) rfl ?_
          have hR := hC.2.2.2.2.2.1 (by omega)
          have kp := goH_keeps (k := k) c.toNat hC.1 hR (fun j a b => by have := (hC.rows a b).2.2.1; omega)
          rw [← g1] at kp
          have h6 := hR.2.1
          exact ⟨fun q => absurd ⟨by omega, by omega⟩ q, fun _ => ⟨fun q => absurd q (by omega), fun _ => ⟨k, hk3, g1, g2, hC.run kp.1 kp.2⟩⟩⟩
        · refine x_bipush 36 (xd DX8_step rfl) rfl rfl ?_
          refine x_ri (xd DX8_step rfl) rfl ?_
          first
            | exact ⟨fun q => absurd ⟨by omega, by omega⟩ q, fun _ => ⟨fun _ => ⟨rfl, rfl⟩, fun q => absurd q.1 (by omega)⟩⟩
            | exact ⟨fun q => absurd ⟨by omega, by omega⟩ q, fun _ => ⟨fun _ => ⟨rfl, rfl⟩, fun q => absurd q.2 (by omega)⟩⟩
    · refine x_iconst 13 (xd DX8_step rfl) rfl ?_
      refine x_ri (xd DX8_step rfl) rfl ?_
      exact ⟨fun _ => ⟨rfl, rfl⟩, fun q => absurd q (by omega)⟩

