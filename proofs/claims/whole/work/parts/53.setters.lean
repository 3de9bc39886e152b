/-! SqueezedCode: wide, hold, undo -/
/-- the table with another width and number held -/
def SetR (h h' : XH) (b c : Int) : Prop := h' 8 1 = h 8 1 ∧ h' 8 2 = b ∧ h' 8 3 = c ∧ ∀ e : Nat, (e : Int) < h 8 1 → EEq h' (10 + 3 * e) h (10 + 3 * e)
theorem SetR.mk1 {h h1 h3 : XH} {k v : Int} (hk : k ≠ 1) (h8 : ∀ x, x < 34 → h1 x = h x) (hS : SW h 8) (hs : SEq h3 8 (hset h1 8 k v) 8) : SetR h h3 (hset h1 8 k v 8 2) (hset h1 8 k v 8 3) := by
  obtain ⟨p, q, r, s⟩ := hs
  have hS1 := hS.1
  have e8 := h8 8 (by omega)
  rw [hset_i (by omega), e8] at p s
  refine ⟨p, q, r, fun e y => ?_⟩
  have s1 := s e y
  rw [show 8 + 2 + 3 * e = 10 + 3 * e by omega] at s1
  refine s1.tr (EEq.off (S := fun x => hset h1 8 k v x ≠ h x) (fun x q => Classical.byContradiction q) ?_ ?_ ?_)
  all_goals (intro q9; apply q9; rw [hset_c (by omega)]; exact h8 _ (by omega))
set_option maxRecDepth 100000 in
set_option maxHeartbeats 4000000 in
theorem pX8_wide {K : XK} {n : Nat} {h : XH} (w : Int) (hC : CI h) (hi : xrg w) : MI K mX8_wide 6 n [vr 0, vi w] h (fun zr h' => (¬ (w = 4 ∨ w = 8 ∨ w = 16) → zr = -1 ∧ h' = h) ∧ ((w = 4 ∨ w = 8 ∨ w = 16) → w = h 8 2 → zr = -2 ∧ h' = h) ∧ ((w = 4 ∨ w = 8 ∨ w = 16) → w ≠ h 8 2 → Cgd h h' ∧ KeptR h h' ∧ zr = h 8 2 ∧ SetR h h' w (h 8 3))) := by
  refine xMeth FX8_wide (Nat.le_of_ble_eq_true rfl) ?_
  have hP := hC.1
  have hS := hC.2.1
  have hH := hC.2.2.1
  have hL := hC.2.2.2.1
  have hP1 := hP.1
  have hS1 := hS.1
  have hS2 := hS.2.1
  have hS3 := hS.2.2.1
  refine x_iload_n 1 (xd DX8_wide rfl) rfl rfl ?_
  refine x_iconst 2 (xd DX8_wide rfl) rfl ?_
  refine x_icmp_eq 5 19 (xd DX8_wide rfl) rfl (by omega) (by omega) rfl (fun c2 => ?_) (fun c2 => ?_)
  · refine x_aload_n 20 (xd DX8_wide rfl) rfl rfl ?_
    refine x_gr 23 _ LX8_26 (xd DX8_wide rfl) rfl rfl ⟨by decide, by decide⟩ (by decide) rfl rfl ?_
    refine x_gi 26 2 rfl LX8_186 (xd DX8_wide rfl) rfl ⟨Or.inr ⟨rfl, by decide⟩, by decide⟩ rfl ?_
    refine x_istore_n 27 (L' := [(0, _), (1, _), (2, _)]) (xd DX8_wide rfl) (by decide) rfl rfl rfl ?_
    refine x_iload_n 28 (xd DX8_wide rfl) rfl rfl ?_
    refine x_iload_n 29 (xd DX8_wide rfl) rfl rfl ?_
    refine x_icmp_ne 32 35 (xd DX8_wide rfl) rfl (by omega) (by omega) rfl (fun c29 => ?_) (fun c29 => ?_)
    · refine x_aload_n 36 (xd DX8_wide rfl) rfl rfl ?_
      refine x_gr 39 _ LX8_33 (xd DX8_wide rfl) rfl rfl ⟨by decide, by decide⟩ (by decide) rfl rfl ?_
      refine x_aload_n 40 (xd DX8_wide rfl) rfl rfl ?_
      refine x_gr 43 _ LX8_26 (xd DX8_wide rfl) rfl rfl ⟨by decide, by decide⟩ (by decide) rfl rfl ?_
      refine x_Vv 46 (pX2_keep hH hS) FX2_keep VX2_keep CX8_137 (xd DX8_wide rfl) rfl rfl rfl ⟨by decide, rfl⟩ ⟨by decide, by decide⟩ (by decide) (Nat.le_of_ble_eq_true rfl) (by decide) rfl ?_
      rintro h1 ⟨o1, k1⟩
      have l1 : ∀ x, x < 34 → h1 x = h x := fun x q => o1 x (by unfold SHi; omega)
      have HW1 : HW h1 := KeptR.hw hH hS k1
      have SW1 : SW h1 8 := hS.same (fun x q => l1 x (by unfold S26 at q; omega))
      have PW1 : PW h1 := hP.off o1 (by unfold SHi; omega) (by unfold SHi; omega) (by unfold SHi; omega) (by unfold SHi; omega)
      have e8 := l1 8 (by omega)
      have e4 := l1 4 (by omega)
      have KR1 : KeptR h h1 := k1
      have SW2 : SW (hset h1 8 2 w) 8 := by
        refine ⟨?_, ?_, ?_, fun e q => ?_⟩
        · rw [hset_i (by decide)]; exact SW1.1
        · rw [hset_s]; omega
        · rw [hset_i (by decide)]; exact SW1.2.2.1
        · rw [hset_i (by decide)] at q
          exact (SW1.2.2.2 e q).off (ocell (c := 8)) (by omega) (by omega) (by omega)
      have PW2 : PW (hset h1 8 2 w) := PW1.off (ocell (c := 8)) (by decide) (by decide) (by decide) (by decide)
      have HW2 : HW (hset h1 8 2 w) := HW1.same (fun x q r => hset_c (by omega))
      refine x_aload_n 47 (xd DX8_wide rfl) rfl rfl ?_
      refine x_gr 50 _ LX8_26 (xd DX8_wide rfl) rfl rfl ⟨by decide, by decide⟩ (by decide) rfl rfl ?_
      refine x_iload_n 51 (xd DX8_wide rfl) rfl rfl ?_
      refine x_pi 54 2 rfl LX8_186 (xd DX8_wide rfl) rfl rfl ⟨Or.inr ⟨rfl, by decide⟩, by decide⟩ rfl ?_
      refine x_aload_n 55 (xd DX8_wide rfl) rfl rfl ?_
      refine x_Vv 58 (pX8_settle PW2 SW2) FX8_settle VX8_settle CX8_103 (xd DX8_wide rfl) rfl rfl rfl ⟨by decide, rfl⟩ ⟨by decide, by decide⟩ (by decide) (Nat.le_of_ble_eq_true rfl) (by decide) rfl ?_
      rintro h3 ⟨o3, l3, f3⟩
      refine x_iload_n 59 (xd DX8_wide rfl) rfl rfl ?_
      refine x_ri (xd DX8_wide rfl) rfl ?_
      obtain ⟨g1, g2, g3⟩ := Cgd.mk1 hC ((o1.mono (fun x q => by unfold SHi at q; unfold SCh; omega)).tr (Off.set (c := 8) (k := 2) (z := w) (by unfold SCh; omega))) HW2 SW2 o3 l3 f3
      have o4 : Off (fun x => ¬ (34 ≤ x ∧ x < 192)) h1 h3 := fun x q => by
        have q := Classical.not_not.mp q
        rw [g3 x q.1 q.2]; exact hset_c (by omega)
      have g4 := SetR.mk1 (by decide) l1 hS g2
      rw [hset_s, hset_i (by decide), e8] at g4
      exact ⟨fun q => absurd q (by omega), fun _ q => absurd q (by omega), fun _ _ => ⟨g1, KR1.off hH hS o4 (fun x a b q => q ⟨a, b⟩), rfl, g4⟩⟩
    · refine x_bipush 34 (xd DX8_wide rfl) rfl rfl ?_
      refine x_ri (xd DX8_wide rfl) rfl ?_
      exact ⟨fun q => absurd q (by omega), fun _ _ => ⟨rfl, rfl⟩, fun _ q => absurd q (by omega)⟩
  · refine x_iload_n 6 (xd DX8_wide rfl) rfl rfl ?_
    refine x_bipush 8 (xd DX8_wide rfl) rfl rfl ?_
    refine x_icmp_eq 11 19 (xd DX8_wide rfl) rfl (by omega) (by omega) rfl (fun c8 => ?_) (fun c8 => ?_)
    · refine x_aload_n 20 (xd DX8_wide rfl) rfl rfl ?_
      refine x_gr 23 _ LX8_26 (xd DX8_wide rfl) rfl rfl ⟨by decide, by decide⟩ (by decide) rfl rfl ?_
      refine x_gi 26 2 rfl LX8_186 (xd DX8_wide rfl) rfl ⟨Or.inr ⟨rfl, by decide⟩, by decide⟩ rfl ?_
      refine x_istore_n 27 (L' := [(0, _), (1, _), (2, _)]) (xd DX8_wide rfl) (by decide) rfl rfl rfl ?_
      refine x_iload_n 28 (xd DX8_wide rfl) rfl rfl ?_
      refine x_iload_n 29 (xd DX8_wide rfl) rfl rfl ?_
      refine x_icmp_ne 32 35 (xd DX8_wide rfl) rfl (by omega) (by omega) rfl (fun c29 => ?_) (fun c29 => ?_)
      · refine x_aload_n 36 (xd DX8_wide rfl) rfl rfl ?_
        refine x_gr 39 _ LX8_33 (xd DX8_wide rfl) rfl rfl ⟨by decide, by decide⟩ (by decide) rfl rfl ?_
        refine x_aload_n 40 (xd DX8_wide rfl) rfl rfl ?_
        refine x_gr 43 _ LX8_26 (xd DX8_wide rfl) rfl rfl ⟨by decide, by decide⟩ (by decide) rfl rfl ?_
        refine x_Vv 46 (pX2_keep hH hS) FX2_keep VX2_keep CX8_137 (xd DX8_wide rfl) rfl rfl rfl ⟨by decide, rfl⟩ ⟨by decide, by decide⟩ (by decide) (Nat.le_of_ble_eq_true rfl) (by decide) rfl ?_
        rintro h1 ⟨o1, k1⟩
        have l1 : ∀ x, x < 34 → h1 x = h x := fun x q => o1 x (by unfold SHi; omega)
        have HW1 : HW h1 := KeptR.hw hH hS k1
        have SW1 : SW h1 8 := hS.same (fun x q => l1 x (by unfold S26 at q; omega))
        have PW1 : PW h1 := hP.off o1 (by unfold SHi; omega) (by unfold SHi; omega) (by unfold SHi; omega) (by unfold SHi; omega)
        have e8 := l1 8 (by omega)
        have e4 := l1 4 (by omega)
        have KR1 : KeptR h h1 := k1
        have SW2 : SW (hset h1 8 2 w) 8 := by
          refine ⟨?_, ?_, ?_, fun e q => ?_⟩
          · rw [hset_i (by decide)]; exact SW1.1
          · rw [hset_s]; omega
          · rw [hset_i (by decide)]; exact SW1.2.2.1
          · rw [hset_i (by decide)] at q
            exact (SW1.2.2.2 e q).off (ocell (c := 8)) (by omega) (by omega) (by omega)
        have PW2 : PW (hset h1 8 2 w) := PW1.off (ocell (c := 8)) (by decide) (by decide) (by decide) (by decide)
        have HW2 : HW (hset h1 8 2 w) := HW1.same (fun x q r => hset_c (by omega))
        refine x_aload_n 47 (xd DX8_wide rfl) rfl rfl ?_
        refine x_gr 50 _ LX8_26 (xd DX8_wide rfl) rfl rfl ⟨by decide, by decide⟩ (by decide) rfl rfl ?_
        refine x_iload_n 51 (xd DX8_wide rfl) rfl rfl ?_
        refine x_pi 54 2 rfl LX8_186 (xd DX8_wide rfl) rfl rfl ⟨Or.inr ⟨rfl, by decide⟩, by decide⟩ rfl ?_
        refine x_aload_n 55 (xd DX8_wide rfl) rfl rfl ?_
        refine x_Vv 58 (pX8_settle PW2 SW2) FX8_settle VX8_settle CX8_103 (xd DX8_wide rfl) rfl rfl rfl ⟨by decide, rfl⟩ ⟨by decide, by decide⟩ (by decide) (Nat.le_of_ble_eq_true rfl) (by decide) rfl ?_
        rintro h3 ⟨o3, l3, f3⟩
        refine x_iload_n 59 (xd DX8_wide rfl) rfl rfl ?_
        refine x_ri (xd DX8_wide rfl) rfl ?_
        obtain ⟨g1, g2, g3⟩ := Cgd.mk1 hC ((o1.mono (fun x q => by unfold SHi at q; unfold SCh; omega)).tr (Off.set (c := 8) (k := 2) (z := w) (by unfold SCh; omega))) HW2 SW2 o3 l3 f3
        have o4 : Off (fun x => ¬ (34 ≤ x ∧ x < 192)) h1 h3 := fun x q => by
          have q := Classical.not_not.mp q
          rw [g3 x q.1 q.2]; exact hset_c (by omega)
        have g4 := SetR.mk1 (by decide) l1 hS g2
        rw [hset_s, hset_i (by decide), e8] at g4
        exact ⟨fun q => absurd q (by omega), fun _ q => absurd q (by omega), fun _ _ => ⟨g1, KR1.off hH hS o4 (fun x a b q => q ⟨a, b⟩), rfl, g4⟩⟩
      · refine x_bipush 34 (xd DX8_wide rfl) rfl rfl ?_
        refine x_ri (xd DX8_wide rfl) rfl ?_
        exact ⟨fun q => absurd q (by omega), fun _ _ => ⟨rfl, rfl⟩, fun _ q => absurd q (by omega)⟩
    · refine x_iload_n 12 (xd DX8_wide rfl) rfl rfl ?_
      refine x_bipush 14 (xd DX8_wide rfl) rfl rfl ?_
      refine x_icmp_eq 17 19 (xd DX8_wide rfl) rfl (by omega) (by omega) rfl (fun c14 => ?_) (fun c14 => ?_)
      · refine x_aload_n 20 (xd DX8_wide rfl) rfl rfl ?_
        refine x_gr 23 _ LX8_26 (xd DX8_wide rfl) rfl rfl ⟨by decide, by decide⟩ (by decide) rfl rfl ?_
        refine x_gi 26 2 rfl LX8_186 (xd DX8_wide rfl) rfl ⟨Or.inr ⟨rfl, by decide⟩, by decide⟩ rfl ?_
        refine x_istore_n 27 (L' := [(0, _), (1, _), (2, _)]) (xd DX8_wide rfl) (by decide) rfl rfl rfl ?_
        refine x_iload_n 28 (xd DX8_wide rfl) rfl rfl ?_
        refine x_iload_n 29 (xd DX8_wide rfl) rfl rfl ?_
        refine x_icmp_ne 32 35 (xd DX8_wide rfl) rfl (by omega) (by omega) rfl (fun c29 => ?_) (fun c29 => ?_)
        · refine x_aload_n 36 (xd DX8_wide rfl) rfl rfl ?_
          refine x_gr 39 _ LX8_33 (xd DX8_wide rfl) rfl rfl ⟨by decide, by decide⟩ (by decide) rfl rfl ?_
          refine x_aload_n 40 (xd DX8_wide rfl) rfl rfl ?_
          refine x_gr 43 _ LX8_26 (xd DX8_wide rfl) rfl rfl ⟨by decide, by decide⟩ (by decide) rfl rfl ?_
          refine x_Vv 46 (pX2_keep hH hS) FX2_keep VX2_keep CX8_137 (xd DX8_wide rfl) rfl rfl rfl ⟨by decide, rfl⟩ ⟨by decide, by decide⟩ (by decide) (Nat.le_of_ble_eq_true rfl) (by decide) rfl ?_
          rintro h1 ⟨o1, k1⟩
          have l1 : ∀ x, x < 34 → h1 x = h x := fun x q => o1 x (by unfold SHi; omega)
          have HW1 : HW h1 := KeptR.hw hH hS k1
          have SW1 : SW h1 8 := hS.same (fun x q => l1 x (by unfold S26 at q; omega))
          have PW1 : PW h1 := hP.off o1 (by unfold SHi; omega) (by unfold SHi; omega) (by unfold SHi; omega) (by unfold SHi; omega)
          have e8 := l1 8 (by omega)
          have e4 := l1 4 (by omega)
          have KR1 : KeptR h h1 := k1
          have SW2 : SW (hset h1 8 2 w) 8 := by
            refine ⟨?_, ?_, ?_, fun e q => ?_⟩
            · rw [hset_i (by decide)]; exact SW1.1
            · rw [hset_s]; omega
            · rw [hset_i (by decide)]; exact SW1.2.2.1
            · rw [hset_i (by decide)] at q
              exact (SW1.2.2.2 e q).off (ocell (c := 8)) (by omega) (by omega) (by omega)
          have PW2 : PW (hset h1 8 2 w) := PW1.off (ocell (c := 8)) (by decide) (by decide) (by decide) (by decide)
          have HW2 : HW (hset h1 8 2 w) := HW1.same (fun x q r => hset_c (by omega))
          refine x_aload_n 47 (xd DX8_wide rfl) rfl rfl ?_
          refine x_gr 50 _ LX8_26 (xd DX8_wide rfl) rfl rfl ⟨by decide, by decide⟩ (by decide) rfl rfl ?_
          refine x_iload_n 51 (xd DX8_wide rfl) rfl rfl ?_
          refine x_pi 54 2 rfl LX8_186 (xd DX8_wide rfl) rfl rfl ⟨Or.inr ⟨rfl, by decide⟩, by decide⟩ rfl ?_
          refine x_aload_n 55 (xd DX8_wide rfl) rfl rfl ?_
          refine x_Vv 58 (pX8_settle PW2 SW2) FX8_settle VX8_settle CX8_103 (xd DX8_wide rfl) rfl rfl rfl ⟨by decide, rfl⟩ ⟨by decide, by decide⟩ (by decide) (Nat.le_of_ble_eq_true rfl) (by decide) rfl ?_
          rintro h3 ⟨o3, l3, f3⟩
          refine x_iload_n 59 (xd DX8_wide rfl) rfl rfl ?_
          refine x_ri (xd DX8_wide rfl) rfl ?_
          obtain ⟨g1, g2, g3⟩ := Cgd.mk1 hC ((o1.mono (fun x q => by unfold SHi at q; unfold SCh; omega)).tr (Off.set (c := 8) (k := 2) (z := w) (by unfold SCh; omega))) HW2 SW2 o3 l3 f3
          have o4 : Off (fun x => ¬ (34 ≤ x ∧ x < 192)) h1 h3 := fun x q => by
            have q := Classical.not_not.mp q
            rw [g3 x q.1 q.2]; exact hset_c (by omega)
          have g4 := SetR.mk1 (by decide) l1 hS g2
          rw [hset_s, hset_i (by decide), e8] at g4
          exact ⟨fun q => absurd q (by omega), fun _ q => absurd q (by omega), fun _ _ => ⟨g1, KR1.off hH hS o4 (fun x a b q => q ⟨a, b⟩), rfl, g4⟩⟩
        · refine x_bipush 34 (xd DX8_wide rfl) rfl rfl ?_
          refine x_ri (xd DX8_wide rfl) rfl ?_
          exact ⟨fun q => absurd q (by omega), fun _ _ => ⟨rfl, rfl⟩, fun _ q => absurd q (by omega)⟩
      · refine x_iconst 18 (xd DX8_wide rfl) rfl ?_
        refine x_ri (xd DX8_wide rfl) rfl ?_
        exact ⟨fun _ => ⟨rfl, rfl⟩, fun q => absurd q (by omega), fun q => absurd q (by omega)⟩

set_option maxRecDepth 100000 in
set_option maxHeartbeats 4000000 in
theorem pX8_hold {K : XK} {n : Nat} {h : XH} (c : Int) (hC : CI h) (hi : xrg c) : MI K mX8_hold 6 n [vr 0, vi c] h (fun zr h' => (¬ (1 ≤ c ∧ c ≤ 4) → zr = -1 ∧ h' = h) ∧ ((1 ≤ c ∧ c ≤ 4) → c = h 8 3 → zr = -2 ∧ h' = h) ∧ ((1 ≤ c ∧ c ≤ 4) → c ≠ h 8 3 → Cgd h h' ∧ KeptR h h' ∧ zr = h 8 3 ∧ SetR h h' (h 8 2) c)) := by
  refine xMeth FX8_hold (Nat.le_of_ble_eq_true rfl) ?_
  have hP := hC.1
  have hS := hC.2.1
  have hH := hC.2.2.1
  have hL := hC.2.2.2.1
  have hP1 := hP.1
  have hS1 := hS.1
  have hS2 := hS.2.1
  have hS3 := hS.2.2.1
  refine x_iload_n 1 (xd DX8_hold rfl) rfl rfl ?_
  refine x_iconst 2 (xd DX8_hold rfl) rfl ?_
  refine x_icmp_lt 5 10 (xd DX8_hold rfl) rfl (by omega) (by omega) rfl (fun c2 => ?_) (fun c2 => ?_)
  · refine x_iconst 11 (xd DX8_hold rfl) rfl ?_
    refine x_ri (xd DX8_hold rfl) rfl ?_
    exact ⟨fun _ => ⟨rfl, rfl⟩, fun q => absurd q (by omega), fun q => absurd q (by omega)⟩
  · refine x_iload_n 6 (xd DX8_hold rfl) rfl rfl ?_
    refine x_iconst 7 (xd DX8_hold rfl) rfl ?_
    refine x_icmp_le 10 12 (xd DX8_hold rfl) rfl (by omega) (by omega) rfl (fun c7 => ?_) (fun c7 => ?_)
    · refine x_aload_n 13 (xd DX8_hold rfl) rfl rfl ?_
      refine x_gr 16 _ LX8_26 (xd DX8_hold rfl) rfl rfl ⟨by decide, by decide⟩ (by decide) rfl rfl ?_
      refine x_gi 19 3 rfl LX8_189 (xd DX8_hold rfl) rfl ⟨Or.inr ⟨rfl, by decide⟩, by decide⟩ rfl ?_
      refine x_istore_n 20 (L' := [(0, _), (1, _), (2, _)]) (xd DX8_hold rfl) (by decide) rfl rfl rfl ?_
      refine x_iload_n 21 (xd DX8_hold rfl) rfl rfl ?_
      refine x_iload_n 22 (xd DX8_hold rfl) rfl rfl ?_
      refine x_icmp_ne 25 28 (xd DX8_hold rfl) rfl (by omega) (by omega) rfl (fun c22 => ?_) (fun c22 => ?_)
      · refine x_aload_n 29 (xd DX8_hold rfl) rfl rfl ?_
        refine x_gr 32 _ LX8_33 (xd DX8_hold rfl) rfl rfl ⟨by decide, by decide⟩ (by decide) rfl rfl ?_
        refine x_aload_n 33 (xd DX8_hold rfl) rfl rfl ?_
        refine x_gr 36 _ LX8_26 (xd DX8_hold rfl) rfl rfl ⟨by decide, by decide⟩ (by decide) rfl rfl ?_
        refine x_Vv 39 (pX2_keep hH hS) FX2_keep VX2_keep CX8_137 (xd DX8_hold rfl) rfl rfl rfl ⟨by decide, rfl⟩ ⟨by decide, by decide⟩ (by decide) (Nat.le_of_ble_eq_true rfl) (by decide) rfl ?_
        rintro h1 ⟨o1, k1⟩
        have l1 : ∀ x, x < 34 → h1 x = h x := fun x q => o1 x (by unfold SHi; omega)
        have HW1 : HW h1 := KeptR.hw hH hS k1
        have SW1 : SW h1 8 := hS.same (fun x q => l1 x (by unfold S26 at q; omega))
        have PW1 : PW h1 := hP.off o1 (by unfold SHi; omega) (by unfold SHi; omega) (by unfold SHi; omega) (by unfold SHi; omega)
        have e8 := l1 8 (by omega)
        have e4 := l1 4 (by omega)
        have KR1 : KeptR h h1 := k1
        have SW2 : SW (hset h1 8 3 c) 8 := by
          refine ⟨?_, ?_, ?_, fun e q => ?_⟩
          · rw [hset_i (by decide)]; exact SW1.1
          · rw [hset_i (by decide)]; exact SW1.2.1
          · rw [hset_s]; omega
          · rw [hset_i (by decide)] at q
            exact (SW1.2.2.2 e q).off (ocell (c := 8)) (by omega) (by omega) (by omega)
        have PW2 : PW (hset h1 8 3 c) := PW1.off (ocell (c := 8)) (by decide) (by decide) (by decide) (by decide)
        have HW2 : HW (hset h1 8 3 c) := HW1.same (fun x q r => hset_c (by omega))
        refine x_aload_n 40 (xd DX8_hold rfl) rfl rfl ?_
        refine x_gr 43 _ LX8_26 (xd DX8_hold rfl) rfl rfl ⟨by decide, by decide⟩ (by decide) rfl rfl ?_
        refine x_iload_n 44 (xd DX8_hold rfl) rfl rfl ?_
        refine x_pi 47 3 rfl LX8_189 (xd DX8_hold rfl) rfl rfl ⟨Or.inr ⟨rfl, by decide⟩, by decide⟩ rfl ?_
        refine x_aload_n 48 (xd DX8_hold rfl) rfl rfl ?_
        refine x_Vv 51 (pX8_settle PW2 SW2) FX8_settle VX8_settle CX8_103 (xd DX8_hold rfl) rfl rfl rfl ⟨by decide, rfl⟩ ⟨by decide, by decide⟩ (by decide) (Nat.le_of_ble_eq_true rfl) (by decide) rfl ?_
        rintro h3 ⟨o3, l3, f3⟩
        refine x_iload_n 52 (xd DX8_hold rfl) rfl rfl ?_
        refine x_ri (xd DX8_hold rfl) rfl ?_
        obtain ⟨g1, g2, g3⟩ := Cgd.mk1 hC ((o1.mono (fun x q => by unfold SHi at q; unfold SCh; omega)).tr (Off.set (c := 8) (k := 3) (z := c) (by unfold SCh; omega))) HW2 SW2 o3 l3 f3
        have o4 : Off (fun x => ¬ (34 ≤ x ∧ x < 192)) h1 h3 := fun x q => by
          have q := Classical.not_not.mp q
          rw [g3 x q.1 q.2]; exact hset_c (by omega)
        have g4 := SetR.mk1 (by decide) l1 hS g2
        rw [hset_s, hset_i (by decide), e8] at g4
        exact ⟨fun q => absurd q (by omega), fun _ q => absurd q (by omega), fun _ _ => ⟨g1, KR1.off hH hS o4 (fun x a b q => q ⟨a, b⟩), rfl, g4⟩⟩
      · refine x_bipush 27 (xd DX8_hold rfl) rfl rfl ?_
        refine x_ri (xd DX8_hold rfl) rfl ?_
        exact ⟨fun q => absurd q (by omega), fun _ _ => ⟨rfl, rfl⟩, fun _ q => absurd q (by omega)⟩
    · refine x_iconst 11 (xd DX8_hold rfl) rfl ?_
      refine x_ri (xd DX8_hold rfl) rfl ?_
      exact ⟨fun _ => ⟨rfl, rfl⟩, fun q => absurd q (by omega), fun q => absurd q (by omega)⟩

def UndR (h h' : XH) : Prop := h' 34 1 = h 34 1 - 1 ∧ SEq h' 8 h (36 + 26 * (h 34 1 - 1).toNat) ∧ ∀ x, 36 ≤ x → x < 192 → h' x = h x
set_option maxRecDepth 100000 in
set_option maxHeartbeats 4000000 in
theorem pX8_undo {K : XK} {n : Nat} {h : XH} (hC : CI h) : MI K mX8_undo 6 n [vr 0] h (fun zr h' => (h 34 1 = 0 → zr = -2 ∧ h' = h) ∧ (h 34 1 ≠ 0 → Cgd h h' ∧ zr = h 34 1 - 1 ∧ UndR h h')) := by
  refine xMeth FX8_undo (Nat.le_of_ble_eq_true rfl) ?_
  have hP := hC.1
  have hS := hC.2.1
  have hH := hC.2.2.1
  have hL := hC.2.2.2.1
  have hP1 := hP.1
  have hS1 := hS.1
  have hS2 := hS.2.1
  have hS3 := hS.2.2.1
  have hH1 := hH.1
  refine x_aload_n 1 (xd DX8_undo rfl) rfl rfl ?_
  refine x_gr 4 _ LX8_33 (xd DX8_undo rfl) rfl rfl ⟨by decide, by decide⟩ (by decide) rfl rfl ?_
  refine x_gi 7 1 rfl LX8_100 (xd DX8_undo rfl) rfl ⟨Or.inr ⟨rfl, by decide⟩, by decide⟩ rfl ?_
  refine x_if_ne 10 13 (xd DX8_undo rfl) rfl (by omega) rfl (fun c7 => ?_) (fun c7 => ?_)
  · refine x_aload_n 14 (xd DX8_undo rfl) rfl rfl ?_
    refine x_gr 17 _ LX8_33 (xd DX8_undo rfl) rfl rfl ⟨by decide, by decide⟩ (by decide) rfl rfl ?_
    refine x_aload_n 18 (xd DX8_undo rfl) rfl rfl ?_
    refine x_gr 21 _ LX8_26 (xd DX8_undo rfl) rfl rfl ⟨by decide, by decide⟩ (by decide) rfl rfl ?_
    refine x_Vv 24 (pX2_giveBack hH (by omega)) FX2_giveBack VX2_giveBack CX8_192 (xd DX8_undo rfl) rfl rfl rfl ⟨by decide, rfl⟩ ⟨by decide, by decide⟩ (by decide) (Nat.le_of_ble_eq_true rfl) (by decide) rfl ?_
    rintro h1 ⟨o1, d1, s1⟩
    have SW1 : SW h1 8 := s1.sw (hH.2 (h 34 1 - 1).toNat (by omega))
    have PW1 : PW h1 := hP.off o1 (by unfold SGb; omega) (by unfold SGb; omega) (by unfold SGb; omega) (by unfold SGb; omega)
    have HW1 : HW h1 := ⟨by rw [d1]; omega, fun k q => (hH.2 k (by omega)).same (fun x z => o1 x (by unfold S26 at z; unfold SGb; omega))⟩
    refine x_aload_n 25 (xd DX8_undo rfl) rfl rfl ?_
    refine x_Vv 28 (pX8_settle PW1 SW1) FX8_settle VX8_settle CX8_103 (xd DX8_undo rfl) rfl rfl rfl ⟨by decide, rfl⟩ ⟨by decide, by decide⟩ (by decide) (Nat.le_of_ble_eq_true rfl) (by decide) rfl ?_
    rintro h3 ⟨o3, l3, f3⟩
    refine x_aload_n 29 (xd DX8_undo rfl) rfl rfl ?_
    refine x_gr 32 _ LX8_33 (xd DX8_undo rfl) rfl rfl ⟨by decide, by decide⟩ (by decide) rfl rfl ?_
    refine x_gi 35 1 rfl LX8_100 (xd DX8_undo rfl) rfl ⟨Or.inr ⟨rfl, by decide⟩, by decide⟩ rfl ?_
    refine x_ri (xd DX8_undo rfl) rfl ?_
    obtain ⟨g1, g2, g3⟩ := Cgd.mk1 hC (o1.mono (fun x q => by unfold SGb at q; unfold SCh; omega)) HW1 SW1 o3 l3 f3
    have e34 := g3 34 (by omega) (by omega)
    refine ⟨fun q => absurd q (by omega), fun _ => ⟨g1, by rw [e34]; exact d1, by rw [e34]; exact d1, g2.tr s1, fun x a b => ?_⟩⟩
    rw [g3 x (by omega) b]
    exact o1 x (by unfold SGb; omega)
  · refine x_bipush 12 (xd DX8_undo rfl) rfl rfl ?_
    refine x_ri (xd DX8_undo rfl) rfl ?_
    exact ⟨fun _ => ⟨rfl, rfl⟩, fun q => absurd q (by omega)⟩

