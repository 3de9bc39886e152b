/-! SqueezedCode: the changes -/
theorem SW.same {h xg : XH} {s : Nat} (hs : ∀ x, S26 s x → xg x = h x) (hS : SW h s) : SW xg s :=
  (SEq.off (S := fun x => xg x ≠ h x) (fun x q => Classical.byContradiction q) (fun x z q => q (hs x z)) hS.1.2).sw hS
theorem SEq.same {h xg : XH} {s : Nat} (hs : ∀ x, S26 s x → xg x = h x) (h8 : h s 1 ≤ 8) : SEq xg s h s :=
  SEq.off (S := fun x => xg x ≠ h x) (fun x q => Classical.byContradiction q) (fun x z q => q (hs x z)) h8
theorem HW.same {h xg : XH} (hs : ∀ x, 34 ≤ x → x < 192 → xg x = h x) (hH : HW h) : HW xg := by
  obtain ⟨a, b⟩ := hH
  have e34 := hs 34 (by omega) (by omega)
  refine ⟨by rw [e34]; exact a, fun k q => ?_⟩
  rw [e34] at q
  exact (b k q).same (fun x z => hs x (by unfold S26 at z; omega) (by unfold S26 at z; omega))
theorem KeptR.hw {h h1 : XH} (hH : HW h) (hS : SW h 8) (hK : KeptR h h1) : HW h1 := by
  obtain ⟨a, b, c⟩ := hK
  have hH1 := hH.1
  refine ⟨by split at a <;> omega, fun k q => ?_⟩
  by_cases z : (k : Int) < h1 34 1 - 1
  · refine (b k z).sw ?_
    by_cases y : h 34 1 = 6
    · rw [if_pos y]; rw [if_pos y] at a; exact hH.2 (k + 1) (by omega)
    · rw [if_neg y]; rw [if_neg y] at a; exact hH.2 k (by omega)
  · rw [show k = (h1 34 1 - 1).toNat by omega]; exact c.sw hS
/-- a change's outcome: the class's picture again, the run ended, the program and the text as they were -/
def Cgd (h h' : XH) : Prop := Off SCh h h' ∧ CI h' ∧ h' 255 5 = 0
theorem Cgd.mk1 {h h2 h3 : XH} (hC : CI h) (hO : Off SCh h h2) (hH : HW h2) (hS : SW h2 8) (hO2 : Off SSe h2 h3) (hL : LY h3) (h5 : h3 255 5 = 0) : Cgd h h3 ∧ SEq h3 8 h2 8 ∧ (∀ x, 34 ≤ x → x < 192 → h3 x = h2 x) := by
  have hq : ∀ x, x < 192 → h3 x = h2 x := fun x q => hO2 x (by unfold SSe SL; omega)
  have oo : Off SCh h h3 := hO.tr (hO2.mono (fun x q => by unfold SSe SL at q; unfold SCh; omega))
  refine ⟨⟨oo, ⟨hC.1.off oo (by unfold SCh; omega) (by unfold SCh; omega) (by unfold SCh; omega) (by unfold SCh; omega), hS.same (fun x z => hq x (by unfold S26 at z; omega)), hH.same (fun x _ z => hq x z), hL, Or.inl h5, fun q => by omega, ?_, ?_⟩, h5⟩, SEq.same (fun x z => hq x (by unfold S26 at z; omega)) hS.1.2, fun x _ z => hq x z⟩
  · rw [oo 1 (by unfold SCh; omega)]; exact hC.2.2.2.2.2.2.1
  · rw [oo 1 (by unfold SCh; omega), oo 2 (by unfold SCh; omega)]; exact hC.2.2.2.2.2.2.2
theorem hindC_0 {h : XH} {i m z : Int} (q : hindC h i m z = 0) : ((0 ≤ i ∧ i < h 4 3) ∧ 2 ≤ m ∧ m ≤ 4 ∧ -1 ≤ z ∧ z < m) ∧ (SqR h i m ∧ ¬ Alike h i m (if z < 0 then -4 else z)) ∧ h 8 1 < 8 := by
  unfold hindC at q
  by_cases a : (0 ≤ i ∧ i < h 4 3) ∧ 2 ≤ m ∧ m ≤ 4 ∧ -1 ≤ z ∧ z < m
  · rw [pik_t a] at q
    by_cases b : SqR h i m ∧ ¬ Alike h i m (if z < 0 then -4 else z)
    · rw [pik_t b] at q
      exact ⟨a, b, by split at q <;> omega⟩
    · rw [pik_f b] at q; omega
  · rw [pik_f a] at q; omega
theorem hindC_rg (h : XH) (i m z : Int) : xrg (hindC h i m z) := by
  unfold hindC
  by_cases a : (0 ≤ i ∧ i < h 4 3) ∧ 2 ≤ m ∧ m ≤ 4 ∧ -1 ≤ z ∧ z < m
  · rw [pik_t a]
    by_cases b : SqR h i m ∧ ¬ Alike h i m (if z < 0 then -4 else z)
    · rw [pik_t b]; split <;> decide
    · rw [pik_f b]; decide
  · rw [pik_f a]; decide
/-- the table with one more entry -/
def AddR (h h' : XH) (i m z : Int) : Prop := h' 8 1 = h 8 1 + 1 ∧ h' 8 2 = h 8 2 ∧ h' 8 3 = h 8 3 ∧ (∀ e : Nat, (e : Int) < h 8 1 → EEq h' (10 + 3 * e) h (10 + 3 * e)) ∧ Took h' (10 + 3 * (h 8 1).toNat) h i m z
def DrpR (h h' : XH) (e : Nat) : Prop := h' 8 1 = h 8 1 - 1 ∧ h' 8 2 = h 8 2 ∧ h' 8 3 = h 8 3 ∧ ∀ x : Nat, (x : Int) < h 8 1 - 1 → EEq h' (10 + 3 * x) h (10 + 3 * (if x < e then x else x + 1))
theorem AddR.sw {h h' : XH} {i m z : Int} (hA : AddR h h' i m z) (hS : SW h 8) (hP : PW h) (hq : SqOk h i m) (h8 : h 8 1 < 8) (hz : -1 ≤ z ∧ z < m) : SW h' 8 := by
  obtain ⟨a, b, c, d, e⟩ := hA
  have hS1 := hS.1
  refine ⟨by omega, by rw [b]; exact hS.2.1, by rw [c]; exact hS.2.2.1, fun x hx => ?_⟩
  by_cases q : (x : Int) < h 8 1
  · exact (d x q).ew (hS.ew q)
  · rw [show 8 + 2 + 3 * x = 10 + 3 * (h 8 1).toNat by omega]; exact e.ew hP hq hz
theorem DrpR.sw {h h' : XH} {e : Nat} (hA : DrpR h h' e) (hS : SW h 8) (he : (e : Int) < h 8 1) : SW h' 8 := by
  obtain ⟨a, b, c, d⟩ := hA
  have hS1 := hS.1
  refine ⟨by omega, by rw [b]; exact hS.2.1, by rw [c]; exact hS.2.2.1, fun x hx => ?_⟩
  refine (d x (by omega)).ew (hS.ew ?_)
  split <;> omega
theorem SqOk.off {S : Nat → Prop} {h xg : XH} (hO : Off S h xg) (h4 : ¬ S 4) (h5 : ¬ S 5) {i m : Int} (hq : SqOk h i m) : SqOk xg i m := by
  unfold SqOk at hq ⊢
  rw [hO 4 h4, hO 5 h5]; exact hq
/-- a changed table told of the heap before the keeping -/
theorem AddR.off {h h1 h2 h3 : XH} {i m z : Int} (h8 : ∀ x, x < 34 → h1 x = h x) (hS : SW h 8) (hlt : h 8 1 < 8) (hA : AddR h1 h2 i m z) (hs : SEq h3 8 h2 8) (hm : m ≤ 4) : AddR h h3 i m z := by
  obtain ⟨a, b, c, d, e⟩ := hA
  obtain ⟨p, q, r, s⟩ := hs
  have hS1 := hS.1
  have e8 := h8 8 (by omega)
  have ee : ∀ x : Nat, x < 8 → EEq h1 (10 + 3 * x) h (10 + 3 * x) := fun x y => EEq.off (S := fun x => h1 x ≠ h x) (fun x q => Classical.byContradiction q) (fun q => q (h8 _ (by omega))) (fun q => q (h8 _ (by omega))) (fun q => q (h8 _ (by omega)))
  rw [e8] at a b c d e
  refine ⟨by omega, by omega, by omega, fun x y => ?_, ?_⟩
  · exact ((s x (by omega)).tr (d x y)).tr (ee x (by omega))
  · have s1 := s (h 8 1).toNat (by omega)
    rw [show 8 + 2 + 3 * (h 8 1).toNat = 10 + 3 * (h 8 1).toNat by omega] at s1
    obtain ⟨t1, t2, t3⟩ := e
    refine ⟨s1.1.trans t1, s1.2.1.trans t2, fun j u v => ?_⟩
    have k1 := s1.2.2 j u (by omega)
    have k2 := t3 j u v
    rw [k1.1, k1.2, k2.1, k2.2, h8 5 (by omega), h8 6 (by omega)]
    exact ⟨rfl, rfl⟩
theorem DrpR.off {h h1 h2 h3 : XH} {e : Nat} (h8 : ∀ x, x < 34 → h1 x = h x) (hS : SW h 8) (hA : DrpR h1 h2 e) (hs : SEq h3 8 h2 8) : DrpR h h3 e := by
  obtain ⟨a, b, c, d⟩ := hA
  obtain ⟨p, q, r, s⟩ := hs
  have hS1 := hS.1
  have e8 := h8 8 (by omega)
  have ee : ∀ x : Nat, x < 8 → EEq h1 (10 + 3 * x) h (10 + 3 * x) := fun x y => EEq.off (S := fun x => h1 x ≠ h x) (fun x q => Classical.byContradiction q) (fun q => q (h8 _ (by omega))) (fun q => q (h8 _ (by omega))) (fun q => q (h8 _ (by omega)))
  rw [e8] at a b c d
  refine ⟨by omega, by omega, by omega, fun x y => ?_⟩
  exact ((s x (by omega)).tr (d x y)).tr (ee _ (by split <;> omega))
set_option maxRecDepth 100000 in
set_option maxHeartbeats 4000000 in
theorem pX8_add {K : XK} {n : Nat} {h : XH} (i m z : Int) (hC : CI h) (hi : xrg i) (hm : xrg m) (hz : xrg z) : MI K mX8_add 6 n [vr 0, vi i, vi m, vi z] h (fun zr h' => (hindC h i m z ≠ 0 → zr = hindC h i m z ∧ h' = h) ∧ (hindC h i m z = 0 → Cgd h h' ∧ KeptR h h' ∧ zr = h 8 1 ∧ AddR h h' i m z)) := by
  refine xMeth FX8_add (Nat.le_of_ble_eq_true rfl) ?_
  have hP := hC.1
  have hS := hC.2.1
  have hH := hC.2.2.1
  have hL := hC.2.2.2.1
  have hP1 := hP.1
  have hS1 := hS.1
  have hS2 := hS.2.1
  have hS3 := hS.2.2.1
  have hind := hindC_rg h i m z
  refine x_aload_n 1 (xd DX8_add rfl) rfl rfl ?_
  refine x_iload_n 2 (xd DX8_add rfl) rfl rfl ?_
  refine x_iload_n 3 (xd DX8_add rfl) rfl rfl ?_
  refine x_iload_n 4 (xd DX8_add rfl) rfl rfl ?_
  refine x_Vi 7 (pX8_hindranceTo i m z hP hS hL hi hm hz) FX8_hindranceTo VX8_hindranceTo CX8_133 (xd DX8_add rfl) rfl rfl rfl ⟨by decide, rfl⟩ ⟨by decide, by decide⟩ (by decide) (Nat.le_of_ble_eq_true rfl) (by decide) rfl ?_
  rintro z9 h9 ⟨q1, q2⟩
  rw [q1, q2]
  clear q1 q2 z9 h9
  refine x_istore 9 (L' := [(0, _), (1, _), (2, _), (3, _), (4, _)]) (xd DX8_add rfl) (by decide) rfl rfl rfl ?_
  refine x_iload 11 (xd DX8_add rfl) rfl rfl ?_
  refine x_if_eq 14 17 (xd DX8_add rfl) rfl (by omega) rfl (fun c11 => ?_) (fun c11 => ?_)
  · obtain ⟨f1, f2, f3'⟩ := hindC_0 c11
    have sq := f2.1.ok hL f1.2.2.1
    refine x_aload_n 18 (xd DX8_add rfl) rfl rfl ?_
    refine x_gr 21 _ LX8_33 (xd DX8_add rfl) rfl rfl ⟨by decide, by decide⟩ (by decide) rfl rfl ?_
    refine x_aload_n 22 (xd DX8_add rfl) rfl rfl ?_
    refine x_gr 25 _ LX8_26 (xd DX8_add rfl) rfl rfl ⟨by decide, by decide⟩ (by decide) rfl rfl ?_
    refine x_Vv 28 (pX2_keep hH hS) FX2_keep VX2_keep CX8_137 (xd DX8_add rfl) rfl rfl rfl ⟨by decide, rfl⟩ ⟨by decide, by decide⟩ (by decide) (Nat.le_of_ble_eq_true rfl) (by decide) rfl ?_
    rintro h1 ⟨o1, k1⟩
    have l1 : ∀ x, x < 34 → h1 x = h x := fun x q => o1 x (by unfold SHi; omega)
    have HW1 : HW h1 := KeptR.hw hH hS k1
    have SW1 : SW h1 8 := hS.same (fun x q => l1 x (by unfold S26 at q; omega))
    have PW1 : PW h1 := hP.off o1 (by unfold SHi; omega) (by unfold SHi; omega) (by unfold SHi; omega) (by unfold SHi; omega)
    have e8 := l1 8 (by omega)
    have e4 := l1 4 (by omega)
    have KR1 : KeptR h h1 := k1
    refine x_aload_n 29 (xd DX8_add rfl) rfl rfl ?_
    refine x_gr 32 _ LX8_26 (xd DX8_add rfl) rfl rfl ⟨by decide, by decide⟩ (by decide) rfl rfl ?_
    refine x_gi 35 1 rfl LX8_97 (xd DX8_add rfl) rfl ⟨Or.inr ⟨rfl, by decide⟩, by decide⟩ rfl ?_
    refine x_istore 37 (L' := [(0, _), (1, _), (2, _), (3, _), (4, _), (5, _)]) (xd DX8_add rfl) (by decide) rfl rfl rfl ?_
    refine x_aload_n 38 (xd DX8_add rfl) rfl rfl ?_
    refine x_gr 41 _ LX8_26 (xd DX8_add rfl) rfl rfl ⟨by decide, by decide⟩ (by decide) rfl rfl ?_
    refine x_aload_n 42 (xd DX8_add rfl) rfl rfl ?_
    refine x_gr 45 _ LX8_19 (xd DX8_add rfl) rfl rfl ⟨by decide, by decide⟩ (by decide) rfl rfl ?_
    refine x_iload_n 46 (xd DX8_add rfl) rfl rfl ?_
    refine x_iload_n 47 (xd DX8_add rfl) rfl rfl ?_
    refine x_iload_n 48 (xd DX8_add rfl) rfl rfl ?_
    refine x_Vv 51 (pX6_append i m z (by rw [e8]; omega) (by omega) (by omega) (by have := sq.2.2.2.1; omega) hz) FX6_append VX6_append CX8_141 (xd DX8_add rfl) rfl rfl rfl ⟨by decide, rfl⟩ ⟨by decide, by decide⟩ (by decide) (Nat.le_of_ble_eq_true rfl) (by decide) rfl ?_
    rintro h2 ⟨o2, a2⟩
    have a2 : AddR h1 h2 i m z := a2
    have SW2 : SW h2 8 := a2.sw SW1 PW1 (sq.off o1 (by unfold SHi; omega) (by unfold SHi; omega)) (by rw [e8]; omega) (by omega)
    have HW2 : HW h2 := HW1.same (fun x q r => o2 x (by unfold ST; omega))
    have PW2 : PW h2 := PW1.off o2 (by unfold ST; omega) (by unfold ST; omega) (by unfold ST; omega) (by unfold ST; omega)
    refine x_aload_n 52 (xd DX8_add rfl) rfl rfl ?_
    refine x_Vv 55 (pX8_settle PW2 SW2) FX8_settle VX8_settle CX8_103 (xd DX8_add rfl) rfl rfl rfl ⟨by decide, rfl⟩ ⟨by decide, by decide⟩ (by decide) (Nat.le_of_ble_eq_true rfl) (by decide) rfl ?_
    rintro h3 ⟨o3, l3, f3⟩
    refine x_iload 57 (xd DX8_add rfl) rfl rfl ?_
    refine x_ri (xd DX8_add rfl) rfl ?_
    obtain ⟨g1, g2, g3⟩ := Cgd.mk1 hC ((o1.mono (fun x q => by unfold SHi at q; unfold SCh; omega)).tr (o2.mono (fun x q => by unfold ST at q; unfold SCh; omega))) HW2 SW2 o3 l3 f3
    have o4 : Off (fun x => ¬ (34 ≤ x ∧ x < 192)) h1 h3 := fun x q => by
      have q := Classical.not_not.mp q
      rw [g3 x q.1 q.2]; exact o2 x (by unfold ST; omega)
    exact ⟨fun q => absurd c11 q, fun _ => ⟨g1, KR1.off hH hS o4 (fun x a b q => q ⟨a, b⟩), by rw [e8], AddR.off l1 hS f3' a2 g2 (by omega)⟩⟩
  · refine x_iload 16 (xd DX8_add rfl) rfl rfl ?_
    refine x_ri (xd DX8_add rfl) rfl ?_
    exact ⟨fun _ => ⟨rfl, rfl⟩, fun q => absurd q c11⟩

set_option maxRecDepth 100000 in
set_option maxHeartbeats 4000000 in
theorem pX8_drop {K : XK} {n : Nat} {h : XH} (e : Int) (hC : CI h) (he : xrg e) : MI K mX8_drop 6 n [vr 0, vi e] h (fun zr h' => (¬ (0 ≤ e ∧ e < h 8 1) → zr = -1 ∧ h' = h) ∧ ((0 ≤ e ∧ e < h 8 1) → Cgd h h' ∧ KeptR h h' ∧ zr = h 8 1 - 1 ∧ DrpR h h' e.toNat)) := by
  refine xMeth FX8_drop (Nat.le_of_ble_eq_true rfl) ?_
  have hP := hC.1
  have hS := hC.2.1
  have hH := hC.2.2.1
  have hL := hC.2.2.2.1
  have hP1 := hP.1
  have hS1 := hS.1
  have hS2 := hS.2.1
  have hS3 := hS.2.2.1
  refine x_aload_n 1 (xd DX8_drop rfl) rfl rfl ?_
  refine x_gr 4 _ LX8_26 (xd DX8_drop rfl) rfl rfl ⟨by decide, by decide⟩ (by decide) rfl rfl ?_
  refine x_iload_n 5 (xd DX8_drop rfl) rfl rfl ?_
  refine x_Vi 8 (pX6_has e he (by omega)) FX6_has VX6_has CX8_144 (xd DX8_drop rfl) rfl rfl rfl ⟨by decide, rfl⟩ ⟨by decide, by decide⟩ (by decide) (Nat.le_of_ble_eq_true rfl) (by decide) rfl ?_
  rintro z9 h9 ⟨q1, q2⟩
  rw [q1, q2]
  clear q1 q2 z9 h9
  refine x_ifp_ne 11 13 (xd DX8_drop rfl) rfl rfl (fun c8 => ?_) (fun c8 => ?_)
  · obtain ⟨xe, rfl⟩ := Int.eq_ofNat_of_zero_le c8.1
    refine x_aload_n 14 (xd DX8_drop rfl) rfl rfl ?_
    refine x_gr 17 _ LX8_33 (xd DX8_drop rfl) rfl rfl ⟨by decide, by decide⟩ (by decide) rfl rfl ?_
    refine x_aload_n 18 (xd DX8_drop rfl) rfl rfl ?_
    refine x_gr 21 _ LX8_26 (xd DX8_drop rfl) rfl rfl ⟨by decide, by decide⟩ (by decide) rfl rfl ?_
    refine x_Vv 24 (pX2_keep hH hS) FX2_keep VX2_keep CX8_137 (xd DX8_drop rfl) rfl rfl rfl ⟨by decide, rfl⟩ ⟨by decide, by decide⟩ (by decide) (Nat.le_of_ble_eq_true rfl) (by decide) rfl ?_
    rintro h1 ⟨o1, k1⟩
    have l1 : ∀ x, x < 34 → h1 x = h x := fun x q => o1 x (by unfold SHi; omega)
    have HW1 : HW h1 := KeptR.hw hH hS k1
    have SW1 : SW h1 8 := hS.same (fun x q => l1 x (by unfold S26 at q; omega))
    have PW1 : PW h1 := hP.off o1 (by unfold SHi; omega) (by unfold SHi; omega) (by unfold SHi; omega) (by unfold SHi; omega)
    have e8 := l1 8 (by omega)
    have e4 := l1 4 (by omega)
    have KR1 : KeptR h h1 := k1
    refine x_aload_n 25 (xd DX8_drop rfl) rfl rfl ?_
    refine x_gr 28 _ LX8_26 (xd DX8_drop rfl) rfl rfl ⟨by decide, by decide⟩ (by decide) rfl rfl ?_
    refine x_iload_n 29 (xd DX8_drop rfl) rfl rfl ?_
    refine x_Vv 32 (pX6_remove xe (by rw [e8]; omega) (by rw [e8]; omega)) FX6_remove VX6_remove CX8_145 (xd DX8_drop rfl) rfl rfl rfl ⟨by decide, rfl⟩ ⟨by decide, by decide⟩ (by decide) (Nat.le_of_ble_eq_true rfl) (by decide) rfl ?_
    rintro h2 ⟨o2, a2⟩
    have a2 : DrpR h1 h2 xe := a2
    have SW2 : SW h2 8 := a2.sw SW1 (by rw [e8]; omega)
    have HW2 : HW h2 := HW1.same (fun x q r => o2 x (by unfold ST; omega))
    have PW2 : PW h2 := PW1.off o2 (by unfold ST; omega) (by unfold ST; omega) (by unfold ST; omega) (by unfold ST; omega)
    refine x_aload_n 33 (xd DX8_drop rfl) rfl rfl ?_
    refine x_Vv 36 (pX8_settle PW2 SW2) FX8_settle VX8_settle CX8_103 (xd DX8_drop rfl) rfl rfl rfl ⟨by decide, rfl⟩ ⟨by decide, by decide⟩ (by decide) (Nat.le_of_ble_eq_true rfl) (by decide) rfl ?_
    rintro h3 ⟨o3, l3, f3⟩
    refine x_aload_n 37 (xd DX8_drop rfl) rfl rfl ?_
    refine x_gr 40 _ LX8_26 (xd DX8_drop rfl) rfl rfl ⟨by decide, by decide⟩ (by decide) rfl rfl ?_
    refine x_gi 43 1 rfl LX8_97 (xd DX8_drop rfl) rfl ⟨Or.inr ⟨rfl, by decide⟩, by decide⟩ rfl ?_
    refine x_ri (xd DX8_drop rfl) rfl ?_
    obtain ⟨g1, g2, g3⟩ := Cgd.mk1 hC ((o1.mono (fun x q => by unfold SHi at q; unfold SCh; omega)).tr (o2.mono (fun x q => by unfold ST at q; unfold SCh; omega))) HW2 SW2 o3 l3 f3
    have o4 : Off (fun x => ¬ (34 ≤ x ∧ x < 192)) h1 h3 := fun x q => by
      have q := Classical.not_not.mp q
      rw [g3 x q.1 q.2]; exact o2 x (by unfold ST; omega)
    have a3 := DrpR.off l1 hS a2 g2
    exact ⟨fun q => absurd c8 q, fun _ => ⟨g1, KR1.off hH hS o4 (fun x a b q => q ⟨a, b⟩), by rw [a3.1], a3⟩⟩
  · refine x_iconst 12 (xd DX8_drop rfl) rfl ?_
    refine x_ri (xd DX8_drop rfl) rfl ?_
    exact ⟨fun _ => ⟨rfl, rfl⟩, fun q => absurd q c8⟩

