/-! Layout: the best cover, from the end on -/
noncomputable def bst (h : XH) (fw : Int → Int) (i : Int) : Nat → Int × Int
  | 0 => (kOwn (h 5 i) + fw (i + 1), -4)
  | e + 1 => pik (Mt h (10 + 3 * e) i ∧ kRef (h (10 + 3 * e) 3) + fw (i + h (10 + 3 * e) 2) < (bst h fw i e).1) (kRef (h (10 + 3 * e) 3) + fw (i + h (10 + 3 * e) 2), (e : Int)) (bst h fw i e)
noncomputable def shr (h : XH) (i p : Int) : Nat → Int
  | 0 => 0
  | e + 1 => pik (Mt h (10 + 3 * e) i ∧ h (10 + 3 * e) 2 = p ∧ (shr h i p e = 0 ∨ kRef (h (10 + 3 * e) 3) < shr h i p e)) (kRef (h (10 + 3 * e) 3)) (shr h i p e)
theorem bst_fw {h : XH} {fw fw' : Int → Int} {i : Int} (hf : ∀ j, i < j → fw j = fw' j) : ∀ e : Nat, (∀ x : Nat, x < e → 2 ≤ h (10 + 3 * x) 2) → bst h fw i e = bst h fw' i e
  | 0, _ => by
    unfold bst
    rw [hf (i + 1) (by omega)]
  | e + 1, hx => by
    unfold bst
    have h2 := hx e (by omega)
    rw [bst_fw hf e (fun x q => hx x (by omega)), hf (i + h (10 + 3 * e) 2) (by omega)]
theorem bst_rg {h : XH} {fw : Int → Int} {i B : Int} (hB : 0 ≤ B) (hi : i < h 4 3) (hf : ∀ j, i < j → j ≤ h 4 3 → 0 ≤ fw j ∧ fw j ≤ B) : ∀ e : Nat, (∀ x : Nat, x < e → 2 ≤ h (10 + 3 * x) 2) → 0 ≤ (bst h fw i e).1 ∧ (bst h fw i e).1 ≤ B + 4
  | 0, _ => by
    unfold bst
    have h1 := hf (i + 1) (by omega) (by omega)
    have h2 := kOwn_rg (h 5 i)
    show 0 ≤ kOwn (h 5 i) + fw (i + 1) ∧ kOwn (h 5 i) + fw (i + 1) ≤ B + 4
    omega
  | e + 1, hx => by
    have ih := bst_rg hB hi hf e (fun x q => hx x (by omega))
    have h2 := kRef_rg (h (10 + 3 * e) 3)
    unfold bst
    by_cases q : Mt h (10 + 3 * e) i ∧ kRef (h (10 + 3 * e) 3) + fw (i + h (10 + 3 * e) 2) < (bst h fw i e).1
    · have h1 := hf (i + h (10 + 3 * e) 2) (by have := hx e (by omega); omega) (by have := q.1.2.2.1; omega)
      rw [pik_t q]
      show 0 ≤ kRef (h (10 + 3 * e) 3) + fw (i + h (10 + 3 * e) 2) ∧ kRef (h (10 + 3 * e) 3) + fw (i + h (10 + 3 * e) 2) ≤ B + 4
      omega
    · rw [pik_f q]
      exact ih
theorem bst_pk {h : XH} {fw : Int → Int} {i : Int} : ∀ e : Nat, (bst h fw i e).2 = -4 ∨ (0 ≤ (bst h fw i e).2 ∧ (bst h fw i e).2 < e)
  | 0 => Or.inl rfl
  | e + 1 => by
    have ih := bst_pk (h := h) (fw := fw) (i := i) e
    unfold bst
    by_cases q : Mt h (10 + 3 * e) i ∧ kRef (h (10 + 3 * e) 3) + fw (i + h (10 + 3 * e) 2) < (bst h fw i e).1
    · rw [pik_t q]
      exact Or.inr ⟨by show (0 : Int) ≤ (e : Int); omega, by show (e : Int) < ((e + 1 : Nat) : Int); omega⟩
    · rw [pik_f q]
      rcases ih with q | q
      · exact Or.inl q
      · exact Or.inr ⟨q.1, by omega⟩
theorem shr_rg {h : XH} {i p : Int} : ∀ e : Nat, 0 ≤ shr h i p e ∧ shr h i p e ≤ 3
  | 0 => by unfold shr; omega
  | e + 1 => by
    have ih := shr_rg (h := h) (i := i) (p := p) e
    have h2 := kRef_rg (h (10 + 3 * e) 3)
    unfold shr
    by_cases q : Mt h (10 + 3 * e) i ∧ h (10 + 3 * e) 2 = p ∧ (shr h i p e = 0 ∨ kRef (h (10 + 3 * e) 3) < shr h i p e)
    · rw [pik_t q]; omega
    · rw [pik_f q]; exact ih
/-- the row of the fewest and of the picks, from an instruction on -/
def FBEq (h g : XH) (i : Int) : Prop := ∀ j, i ≤ j → j < h 4 3 → g 243 j = (bst h (g 243) j (h 8 1).toNat).1 ∧ g 244 j = (bst h (g 243) j (h 8 1).toNat).2 ∧ ∀ p, 2 ≤ p → p ≤ 4 → g (195 + j.toNat) p = shr h j p (h 8 1).toNat
/-- at an instruction, e entries offered -/
def FBAt (h g : XH) (i : Int) (e : Nat) : Prop := g 243 i = (bst h (g 243) i e).1 ∧ g 244 i = (bst h (g 243) i e).2 ∧ ∀ p, 2 ≤ p → p ≤ 4 → g (195 + i.toNat) p = shr h i p e
def SFB (c : Nat) : Prop := 195 ≤ c ∧ c ≤ 244
theorem FBEq.keep {h g g' : XH} {i : Int} (hi : 0 ≤ i) (hE : ∀ x : Nat, (x : Int) < h 8 1 → 2 ≤ h (10 + 3 * x) 2) (hq : FBEq h g (i + 1)) (h1 : ∀ j, i < j → g' 243 j = g 243 j) (h2 : ∀ j, i < j → g' 244 j = g 244 j) (h3 : ∀ j : Nat, i < (j : Int) → (j : Int) < h 4 3 → g' (195 + j) = g (195 + j)) : FBEq h g' (i + 1) := by
  intro j a b
  obtain ⟨q1, q2, q3⟩ := hq j a b
  have e1 : bst h (g' 243) j (h 8 1).toNat = bst h (g 243) j (h 8 1).toNat := bst_fw (fun x q => h1 x (by omega)) _ (fun x q => hE x (by omega))
  rw [e1, h1 j (by omega), h2 j (by omega), h3 j.toNat (by omega) (by omega)]
  exact ⟨q1, q2, q3⟩
theorem FBAt.step {h g : XH} {i : Nat} {e : Nat} (hi : i < 48) (hO : Off SFB h g) (hE : ∀ x : Nat, x ≤ e → 2 ≤ h (10 + 3 * x) 2 ∧ h (10 + 3 * x) 2 ≤ 4) (he : e < 8) (hq : FBAt h g i e) : FBAt h (offH g i e) i (e + 1) ∧ Off SFB h (offH g i e) ∧ (∀ j, (i : Int) < j → offH g i e 243 j = g 243 j) ∧ (∀ j, (i : Int) < j → offH g i e 244 j = g 244 j) ∧ (∀ j : Nat, i < j → j < 48 → offH g i e (195 + j) = g (195 + j)) := by
  obtain ⟨q1, q2, q3⟩ := hq
  have hM : Mt g (10 + 3 * e) i = Mt h (10 + 3 * e) i := Mt.off hO (by unfold SFB; omega) (by unfold SFB; omega) (by unfold SFB; omega) (by unfold SFB; omega) (by unfold SFB; omega) (by unfold SFB; omega) (by unfold SFB; omega)
  have hC : g (10 + 3 * e) = h (10 + 3 * e) := hO _ (by unfold SFB; omega)
  have h2 := hE e (by omega)
  have hp : ∀ p, 2 ≤ p → p ≤ 4 → g (195 + i) p = shr h i p e := fun p a b => by have := q3 p a b; rwa [Int.toNat_natCast] at this
  -- the row of the shortest
  have hR : ∀ p, 2 ≤ p → p ≤ 4 → Mt h (10 + 3 * e) i → offR g i e (195 + i) p = shr h i p (e + 1) := by
    intro p a b hm
    unfold offR shr
    rw [hC]
    by_cases ep : h (10 + 3 * e) 2 = p
    · rw [ep, hp p a b]
      by_cases q : shr h i p e = 0 ∨ kRef (h (10 + 3 * e) 3) < shr h i p e
      · rw [pik_t q, pik_t ⟨hm, rfl, q⟩, hset_s]
      · rw [pik_f q, pik_f (fun z => q z.2.2), hp p a b]
    · rw [pik_f (p := Mt h (10 + 3 * e) i ∧ h (10 + 3 * e) 2 = p ∧ (shr h i p e = 0 ∨ kRef (h (10 + 3 * e) 3) < shr h i p e)) (fun z => ep z.2.1)]
      by_cases q : g (195 + i) (h (10 + 3 * e) 2) = 0 ∨ kRef (h (10 + 3 * e) 3) < g (195 + i) (h (10 + 3 * e) 2)
      · rw [pik_t q, hset_i (fun z => ep z.symm), hp p a b]
      · rw [pik_f q, hp p a b]
  have hRo := offR_off g i e
  have r243 : offR g i e 243 = g 243 := hRo 243 (by omega)
  have r244 : offR g i e 244 = g 244 := hRo 244 (by omega)
  have rrow : ∀ j : Nat, i < j → offR g i e (195 + j) = g (195 + j) := fun j a => hRo _ (by omega)
  have hSR : Off SFB h (offR g i e) := hO.tr (hRo.mono (fun c q => by unfold SFB; omega))
  unfold offH
  rw [hM, hC]
  by_cases hm : Mt h (10 + 3 * e) i
  · rw [pik_t hm]
    by_cases hw : kRef (h (10 + 3 * e) 3) + g 243 (i + h (10 + 3 * e) 2) < g 243 i
    · rw [pik_t hw]
      have k243 : ∀ j, (i : Int) < j → hset (hset (offR g i e) 243 i (kRef (h (10 + 3 * e) 3) + g 243 (i + h (10 + 3 * e) 2))) 244 i e 243 j = g 243 j := fun j a => by
        rw [hset_c (by decide), hset_i (by omega), r243]
      refine ⟨⟨?_, ?_, ?_⟩, (hSR.tr (Off.set (by unfold SFB; omega))).tr (Off.set (by unfold SFB; omega)), k243, fun j a => by rw [hset_i (by omega), hset_c (by decide), r244], fun j a b => by rw [hset_c (by omega), hset_c (by omega), rrow j a]⟩
      · rw [bst_fw (fw' := g 243) k243 (e + 1) (fun x q => (hE x (by omega)).1), hset_c (by decide), hset_s]
        unfold bst
        rw [pik_t ⟨hm, by rw [← q1]; exact hw⟩]
      · rw [bst_fw (fw' := g 243) k243 (e + 1) (fun x q => (hE x (by omega)).1), hset_s]
        unfold bst
        rw [pik_t ⟨hm, by rw [← q1]; exact hw⟩]
      · intro p a b
        rw [Int.toNat_natCast, hset_c (by omega), hset_c (by omega)]
        exact hR p a b hm
    · rw [pik_f hw]
      refine ⟨⟨?_, ?_, ?_⟩, hSR, fun j _ => by rw [r243], fun j _ => by rw [r244], fun j a _ => rrow j a⟩
      · rw [r243]
        unfold bst
        rw [pik_f (fun z => hw (by rw [q1]; exact z.2))]
        exact q1
      · rw [r243, r244]
        unfold bst
        rw [pik_f (fun z => hw (by rw [q1]; exact z.2))]
        exact q2
      · intro p a b
        rw [Int.toNat_natCast]
        exact hR p a b hm
  · rw [pik_f hm]
    refine ⟨⟨?_, ?_, fun p a b => ?_⟩, hO, fun _ _ => rfl, fun _ _ => rfl, fun _ _ _ => rfl⟩
    · unfold bst
      rw [pik_f (fun z => hm z.1)]
      exact q1
    · unfold bst
      rw [pik_f (fun z => hm z.1)]
      exact q2
    · unfold shr
      rw [pik_f (fun z => hm z.1)]
      exact q3 p a b
