/-! the most that an entry can gain -/
theorem bst_v {h : XH} {fw : Int → Int} {i : Int} : ∀ e : Nat, ((bst h fw i e).2 < 0 → (bst h fw i e).1 = kOwn (h 5 i) + fw (i + 1)) ∧ (0 ≤ (bst h fw i e).2 → (bst h fw i e).1 = kRef (h (10 + 3 * (bst h fw i e).2.toNat) 3) + fw (i + h (10 + 3 * (bst h fw i e).2.toNat) 2))
  | 0 => ⟨fun _ => rfl, fun q => absurd (show (0 : Int) ≤ -4 from q) (by decide)⟩
  | e + 1 => by
    have ih := bst_v (h := h) (fw := fw) (i := i) e
    unfold bst
    by_cases q : Mt h (10 + 3 * e) i ∧ kRef (h (10 + 3 * e) 3) + fw (i + h (10 + 3 * e) 2) < (bst h fw i e).1
    · rw [pik_t q]
      refine ⟨fun z => absurd (show (e : Int) < 0 from z) (by omega), fun _ => ?_⟩
      rfl
    · rw [pik_f q]; exact ih
theorem bst_own {h : XH} {fw : Int → Int} {i : Int} : ∀ e : Nat, (bst h fw i e).1 ≤ kOwn (h 5 i) + fw (i + 1)
  | 0 => Int.le_refl _
  | e + 1 => by
    have ih := bst_own (h := h) (fw := fw) (i := i) e
    unfold bst
    by_cases q : Mt h (10 + 3 * e) i ∧ kRef (h (10 + 3 * e) 3) + fw (i + h (10 + 3 * e) 2) < (bst h fw i e).1
    · rw [pik_t q]; exact Int.le_trans (Int.le_of_lt q.2) ih
    · rw [pik_f q]; exact ih
theorem bst_ref {h : XH} {fw : Int → Int} {i : Int} {x : Nat} (hx : Mt h (10 + 3 * x) i) : ∀ e : Nat, x < e → (bst h fw i e).1 ≤ kRef (h (10 + 3 * x) 3) + fw (i + h (10 + 3 * x) 2)
  | 0, q => absurd q (by omega)
  | e + 1, q => by
    unfold bst
    by_cases q1 : Mt h (10 + 3 * e) i ∧ kRef (h (10 + 3 * e) 3) + fw (i + h (10 + 3 * e) 2) < (bst h fw i e).1
    · rw [pik_t q1]
      by_cases q2 : x = e
      · subst q2; exact Int.le_refl _
      · exact Int.le_trans (Int.le_of_lt q1.2) (bst_ref hx e (by omega))
    · rw [pik_f q1]
      by_cases q2 : x = e
      · subst q2; exact Int.not_lt.mp (fun z => q1 ⟨hx, z⟩)
      · exact bst_ref hx e (by omega)
theorem shr_ex {h : XH} {i p : Int} : ∀ e : Nat, 0 < shr h i p e → ∃ x : Nat, x < e ∧ Mt h (10 + 3 * x) i ∧ h (10 + 3 * x) 2 = p ∧ kRef (h (10 + 3 * x) 3) = shr h i p e
  | 0, q => by unfold shr at q; omega
  | e + 1, q => by
    unfold shr at q ⊢
    by_cases q1 : Mt h (10 + 3 * e) i ∧ h (10 + 3 * e) 2 = p ∧ (shr h i p e = 0 ∨ kRef (h (10 + 3 * e) 3) < shr h i p e)
    · rw [pik_t q1]; exact ⟨e, by omega, q1.1, q1.2.1, rfl⟩
    · rw [pik_f q1] at q ⊢
      obtain ⟨x, a, b⟩ := shr_ex e q
      exact ⟨x, by omega, b⟩
/-- the length is the fewest from the first instruction on -/
theorem len_few {h : XH} (hP : PW h) (hS : SW h 8) (hL : LY h) : h 192 13 = h 243 0 := by
  obtain ⟨-, -, hr, hN, hF, -, h13, -⟩ := hL
  have hP1 := hP.1
  have key : ∀ i : Nat, (i : Int) ≤ h 4 3 → 0 ≤ (csN h i).2.2.1 ∧ (i : Int) + (csN h i).2.2.1 ≤ h 4 3 ∧ h 243 0 = (csN h i).2.2.2 + h 243 ((i : Int) + (csN h i).2.2.1) := by
    intro i
    induction i with
    | zero => intro _; exact ⟨Int.le_refl _, by show (0 : Int) + 0 ≤ _; omega, by show _ = 0 + h 243 (0 + 0); rw [Int.zero_add]; rfl⟩
    | succ i ih =>
      intro q
      obtain ⟨a, b, c⟩ := ih (by omega)
      have f1 := (hF i (by omega) (by omega)).1
      have f2 := (hF i (by omega) (by omega)).2.1
      have bv := bst_v (h := h) (fw := h 243) (i := (i : Int)) (h 8 1).toNat
      rw [← f1, ← f2] at bv
      rw [csN_s]
      by_cases q1 : (csN h i).2.2.1 = 0
      · rw [if_pos q1]
        rw [q1, Int.add_zero] at c
        by_cases q2 : h 244 i < 0
        · rw [if_pos q2]
          have v := bv.1 q2
          refine ⟨Int.le_refl _, by show ((i + 1 : Nat) : Int) + 0 ≤ _; omega, ?_⟩
          show h 243 0 = (csN h i).2.2.2 + kOwn (h 5 i) + h 243 (((i + 1 : Nat) : Int) + 0)
          rw [show ((i + 1 : Nat) : Int) + 0 = (i : Int) + 1 by omega]
          omega
        · rw [if_neg q2]
          have v := bv.2 (by omega)
          have mt := bst_Mt (h := h) (fw := h 243) (i := (i : Int)) (h 8 1).toNat (by rw [← f2]; omega)
          rw [← f2] at mt
          have m1 := mt.2.2.1
          have pk := bst_pk (h := h) (fw := h 243) (i := (i : Int)) (h 8 1).toNat
          rw [← f2] at pk
          have w1 := (hS.ew (e := (h 244 i).toNat) (by omega)).1
          refine ⟨by show 0 ≤ h (10 + 3 * (h 244 i).toNat) 2 - 1; omega, by show ((i + 1 : Nat) : Int) + (h (10 + 3 * (h 244 i).toNat) 2 - 1) ≤ _; omega, ?_⟩
          show h 243 0 = (csN h i).2.2.2 + kRef (h (10 + 3 * (h 244 i).toNat) 3) + h 243 (((i + 1 : Nat) : Int) + (h (10 + 3 * (h 244 i).toNat) 2 - 1))
          rw [show ((i + 1 : Nat) : Int) + (h (10 + 3 * (h 244 i).toNat) 2 - 1) = (i : Int) + h (10 + 3 * (h 244 i).toNat) 2 by omega]
          omega
      · rw [if_neg q1]
        refine ⟨by show 0 ≤ (csN h i).2.2.1 - 1; omega, by show ((i + 1 : Nat) : Int) + ((csN h i).2.2.1 - 1) ≤ _; omega, ?_⟩
        show h 243 0 = (csN h i).2.2.2 + h 243 (((i + 1 : Nat) : Int) + ((csN h i).2.2.1 - 1))
        rw [show ((i + 1 : Nat) : Int) + ((csN h i).2.2.1 - 1) = (i : Int) + (csN h i).2.2.1 by omega]
        exact c
  obtain ⟨a, b, c⟩ := key (h 4 3).toNat (by omega)
  rw [h13]
  rw [show ((h 4 3).toNat : Int) + (csN h (h 4 3).toNat).2.2.1 = h 4 3 by omega, hN] at c
  omega
theorem cntR_s (p : Nat → Prop) (a d : Nat) : cntR p a (d + 1) = cntR p a d + xp (p (a + d)) := rfl
theorem most_ge {h : XH} {i m z g g' : Int} (hP : PW h) (hS : SW h 8) (hL : LY h) (hq : SqOk h i m) (ha : GainIs h i m z g) (hb : MostIs h i m z g') : g ≤ g' := by
  obtain ⟨xa, oa, ta, ra, ea⟩ := ha
  obtain ⟨xb, ob, tb, eb⟩ := hb
  have hP1 := hP.1
  have a4 := oa 4 (by unfold STr SGa S3; omega)
  have a193 := oa 193 (by unfold STr SGa S3; omega)
  have a5 := oa 5 (by unfold STr SGa S3; omega)
  have len := len_few hP hS hL
  have hF := hL.2.2.2.2.1
  have hN := hL.2.2.2.1
  obtain ⟨ra0, ra⟩ := ra
  rw [a4] at ra0 ra
  have hm := hq.2.1
  have k3 := kRef_rg (xb 246 3)
  have own : ∀ j, 0 ≤ j → j < h 4 3 → h 243 j ≤ kOwn (h 5 j) + h 243 (j + 1) := fun j a b => by
    rw [(hF j a b).1]; exact bst_own _
  have hD : ∀ a b : Nat, a ≤ b → (2 * m - kRef (xb 246 3)) * cntR (fun j => Mt xb 246 j) 0 a ≤ (2 * m - kRef (xb 246 3)) * cntR (fun j => Mt xb 246 j) 0 b := by
    intro a b
    induction b with
    | zero => intro q; rw [show a = 0 by omega]; exact Int.le_refl _
    | succ b ih =>
      intro q
      by_cases q1 : a = b + 1
      · rw [q1]; exact Int.le_refl _
      · refine Int.le_trans (ih (by omega)) ?_
        refine Int.mul_le_mul_of_nonneg_left ?_ (by omega)
        rw [cntR_s]
        have := xp01 (Mt xb 246 ((0 + b : Nat) : Int))
        omega
  have sim : ∀ (d : Nat) (j : Int), 0 ≤ j → j + d ≤ h 4 3 → (∀ x, 0 ≤ x → x < (d : Int) → kSim (h 5 (j + x))) → h 243 j ≤ 2 * (d : Int) + h 243 (j + d) := by
    intro d
    induction d with
    | zero => intro j _ _ _; show _ ≤ _ + h 243 (j + 0); rw [Int.add_zero]; show _ ≤ 2 * 0 + _; omega
    | succ d ih =>
      intro j a b c
      have i1 := ih (j + 1) (by omega) (by omega) (fun x u v => by rw [show j + 1 + x = j + (x + 1) by omega]; exact c (x + 1) (by omega) (by omega))
      have o1 := own j a (by omega)
      have s1 := c 0 (by omega) (by omega)
      rw [Int.add_zero] at s1
      unfold kSim at s1
      unfold kOwn at o1
      rw [if_pos s1] at o1
      rw [show j + 1 + (d : Int) = j + ((d + 1 : Nat) : Int) by omega] at i1
      omega
  have key : ∀ (d : Nat) (j : Nat), (j : Int) ≤ h 4 3 → h 4 3 - j ≤ d → h 243 j - xa 245 j ≤ (2 * m - kRef (xb 246 3)) * cntR (fun j => Mt xb 246 j) 0 (h 4 3).toNat - (2 * m - kRef (xb 246 3)) * cntR (fun j => Mt xb 246 j) 0 j := by
    intro d
    induction d with
    | zero => intro j b c; rw [show (j : Int) = h 4 3 by omega, ra0, hN, show (h 4 3).toNat = j by omega]; omega
    | succ d ih =>
      intro j b c
      by_cases q : (j : Int) = h 4 3
      · rw [q, ra0, hN, show (h 4 3).toNat = j by omega]; omega
      · have hr := hL.hr j (by omega) (by omega)
        have hrl := hL.hrl j (by omega) (by omega)
        have tr : ∀ e : Nat, (j : Int) + 1 + e ≤ h 4 3 → e ≤ 3 → h 243 j - trp h (xa 245) j e ≤ (2 * m - kRef (xb 246 3)) * cntR (fun j => Mt xb 246 j) 0 (h 4 3).toNat - (2 * m - kRef (xb 246 3)) * cntR (fun j => Mt xb 246 j) 0 j := by
          intro e
          induction e with
          | zero =>
            intro u _
            unfold trp
            have o1 := own j (by omega) (by omega)
            have i1 := ih (j + 1) (by omega) (by omega)
            have d1 := hD j (j + 1) (by omega)
            rw [show ((j + 1 : Nat) : Int) = (j : Int) + 1 by omega] at i1
            omega
          | succ e ie =>
            intro u u2
            have i2 := ie (by omega) (by omega)
            unfold trp
            by_cases w : 0 < h (195 + (j : Int).toNat) ((e : Int) + 2)
            · rw [if_pos w]
              have f3 := (hF j (by omega) (by omega)).2.2 ((e : Int) + 2) (by omega) (by omega)
              rw [f3] at w
              obtain ⟨x, x1, x2, x3, x4⟩ := shr_ex _ w
              have r1 := bst_ref (fw := h 243) x2 (h 8 1).toNat x1
              rw [← (hF j (by omega) (by omega)).1, x3, x4, ← f3] at r1
              have i1 := ih (j + (e + 2)) (by omega) (by omega)
              have d1 := hD j (j + (e + 2)) (by omega)
              rw [show ((j + (e + 2) : Nat) : Int) = (j : Int) + ((e : Int) + 2) by omega] at i1
              split <;> omega
            · rw [if_neg w]; exact i2
        have tt := tr (h 193 j - 1).toNat (by omega) (by omega)
        rw [ra j (by omega) (by omega)]
        unfold trF
        rw [a193, trp_offS oa (by omega), ta.1, ta.2.1, show Mt xa 246 j = Mt xb 246 j from propext (Mt_took oa ob ta tb j)]
        by_cases w : Mt xb 246 j
        · rw [pik_t w]
          have w3 := w.2.2.1
          rw [tb.1, ob 4 (by unfold STr SGa S3; omega)] at w3
          have s1 := sim m.toNat j (by omega) (by omega) (fun x u v => by
            have w4 := w.2.2.2 x u (by rw [tb.1]; omega)
            rw [ob 5 (by unfold STr SGa S3; omega)] at w4
            rw [← w4.1, (tb.2.2 x u (by omega)).1]
            exact hq.2.2.2.2 x u (by omega))
          rw [Int.toNat_of_nonneg (by omega)] at s1
          have i1 := ih (j + m.toNat) (by omega) (by omega)
          have d1 := hD (j + 1) (j + m.toNat) (by omega)
          have e1 : (2 * m - kRef (xb 246 3)) * cntR (fun j => Mt xb 246 j) 0 (j + 1) = (2 * m - kRef (xb 246 3)) * cntR (fun j => Mt xb 246 j) 0 j + (2 * m - kRef (xb 246 3)) := by
            rw [cntR_s, xp_1.mpr (by rw [Nat.zero_add]; exact w), Int.mul_add, Int.mul_one]
          rw [show ((j + m.toNat : Nat) : Int) = (j : Int) + m by omega] at i1
          rw [← tb.2.1]
          split <;> omega
        · rw [pik_f w]; exact tt
  have k0 := key (h 4 3).toNat 0 (by omega) (by omega)
  rw [ea, eb, len]
  have c0 : cntR (fun j => Mt xb 246 j) 0 0 = 0 := rfl
  rw [c0, Int.mul_zero] at k0
  have z0 : ((0 : Nat) : Int) = 0 := rfl
  rw [z0] at k0
  omega
theorem GfC_le {h : XH} {i m z g : Int} (hP : PW h) (hS : SW h 8) (hL : LY h) (hq : SqOk h i m) (hb : MostIs h i m z g) : GfC h i m z ≤ g := by
  by_cases q : ∃ g, GainIs h i m z g
  · obtain ⟨g0, q0⟩ := q
    rw [← GfC_one hP hL (by have := hq.2.1; omega) q0]
    exact most_ge hP hS hL hq q0 hb
  · unfold GfC
    rw [pik_f q]
    obtain ⟨xb, ob, tb, eb⟩ := hb
    have k3 := kRef_rg (xb 246 3)
    have k4 := (cntR_rg (fun j => Mt xb 246 j) 0 (h 4 3).toNat).1
    have := Int.mul_nonneg (show 0 ≤ 2 * m - kRef (xb 246 3) by have := hq.2.1; omega) k4
    have := hq.2.2.1
    omega
