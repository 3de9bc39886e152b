/-! SqueezedCodeModel: gainOf -/
theorem shr_s (h : XH) (i p : Int) (e : Nat) : shr h i p (e + 1) = pik (Mt h (10 + 3 * e) i ∧ h (10 + 3 * e) 2 = p ∧ (shr h i p e = 0 ∨ kRef (h (10 + 3 * e) 3) < shr h i p e)) (kRef (h (10 + 3 * e) 3)) (shr h i p e) := rfl
theorem shr_le {h : XH} {i p : Int} {x : Nat} (hx : Mt h (10 + 3 * x) i) (hp : h (10 + 3 * x) 2 = p) : ∀ e : Nat, x < e → 0 < shr h i p e ∧ shr h i p e ≤ kRef (h (10 + 3 * x) 3) := by
  intro e
  induction e with
  | zero => intro q; omega
  | succ e ih =>
    intro q
    rw [shr_s]
    have hk := kRef_rg (h (10 + 3 * e) 3)
    have hr := shr_rg (h := h) (i := i) (p := p) e
    by_cases ex : x = e
    · subst ex
      by_cases y : shr h i p x = 0 ∨ kRef (h (10 + 3 * x) 3) < shr h i p x
      · rw [pik_t ⟨hx, hp, y⟩]; omega
      · rw [pik_f (fun z => y z.2.2)]; omega
    · have := ih (by omega)
      by_cases y : Mt h (10 + 3 * e) i ∧ h (10 + 3 * e) 2 = p ∧ (shr h i p e = 0 ∨ kRef (h (10 + 3 * e) 3) < shr h i p e)
      · rw [pik_t y]
        have := y.2.2
        omega
      · rw [pik_f y]; exact this
theorem trp_s (h : XH) (t : Int → Int) (i : Int) (d : Nat) : trp h t i (d + 1) = if 0 < h (195 + i.toNat) ((d : Int) + 2) then (if h (195 + i.toNat) ((d : Int) + 2) + t (i + ((d : Int) + 2)) < trp h t i d then h (195 + i.toNat) ((d : Int) + 2) + t (i + ((d : Int) + 2)) else trp h t i d) else trp h t i d := rfl
theorem trp_up (h : XH) (t : Int → Int) (i : Int) (d : Nat) : trp h t i (d + 1) ≤ trp h t i d := by
  rw [trp_s]
  (repeat' split) <;> omega
theorem trp_own (h : XH) (t : Int → Int) (i : Int) : ∀ d : Nat, trp h t i d ≤ kOwn (h 5 i) + t (i + 1)
  | 0 => Int.le_refl _
  | d + 1 => Int.le_trans (trp_up h t i d) (trp_own h t i d)
theorem trp_ref (h : XH) (t : Int → Int) (i p : Int) (h2 : 2 ≤ p) (hp : 0 < h (195 + i.toNat) p) : ∀ d : Nat, p ≤ d + 1 → trp h t i d ≤ h (195 + i.toNat) p + t (i + p)
  | 0, q => by omega
  | d + 1, q => by
    by_cases e : p = (d : Int) + 2
    · rw [trp_s, ← e, if_pos hp]
      split <;> omega
    · exact Int.le_trans (trp_up h t i d) (trp_ref h t i p h2 hp d (by omega))
theorem trp_at (h : XH) (t : Int → Int) (i : Int) : ∀ d : Nat, trp h t i d = kOwn (h 5 i) + t (i + 1) ∨ ∃ p : Int, 2 ≤ p ∧ p ≤ (d : Int) + 1 ∧ 0 < h (195 + i.toNat) p ∧ trp h t i d = h (195 + i.toNat) p + t (i + p)
  | 0 => Or.inl rfl
  | d + 1 => by
    have ih := trp_at h t i d
    rw [trp_s]
    split
    · rename_i q
      split
      · exact Or.inr ⟨(d : Int) + 2, by omega, by omega, q, rfl⟩
      · rcases ih with e | ⟨p, a, b, c, e⟩
        · exact Or.inl e
        · exact Or.inr ⟨p, a, by omega, c, e⟩
    · rcases ih with e | ⟨p, a, b, c, e⟩
      · exact Or.inl e
      · exact Or.inr ⟨p, a, by omega, c, e⟩
/-- the class's and the reference's ways to the fewest are one -/
theorem bst_trp {h : XH} {f : Int → Int} {i : Int} (hS : SW h 8) (hL : LY h) (hi : 0 ≤ i ∧ i < h 4 3) : (bst h f i (h 8 1).toNat).1 = trp h f i (h 193 i - 1).toNat := by
  have hrow := (hL.2.2.2.2.1 i hi.1 hi.2).2.2
  have hr := hL.hr i hi.1 hi.2
  apply Int.le_antisymm
  · rcases trp_at h f i (h 193 i - 1).toNat with e | ⟨p, a, b, c, e⟩
    · rw [e]; exact bst_own _
    · rw [e]
      rw [hrow p a (by omega)] at c ⊢
      obtain ⟨x, x1, x2, x3, x4⟩ := shr_ex _ c
      rw [← x4, ← x3]
      exact bst_ref x2 _ x1
  · have hv := bst_v (h := h) (fw := f) (i := i) (h 8 1).toNat
    rcases bst_pk (h := h) (fw := f) (i := i) (h 8 1).toNat with e | ⟨e1, e2⟩
    · rw [hv.1 (by omega)]; exact trp_own h f i _
    · have hm := bst_Mt (h := h) (fw := f) (i := i) (h 8 1).toNat e1
      rw [hv.2 e1]
      generalize hx : (bst h f i (h 8 1).toNat).2.toNat = x at hm ⊢
      have hE := (hS.ew (e := x) (by omega)).1
      have hs := shr_le hm rfl (h 8 1).toNat (by omega)
      have hm1 := hm.1
      have := trp_ref h f i (h (10 + 3 * x) 2) (by omega) (by rw [hrow _ (by omega) (by omega)]; exact hs.1) (h 193 i - 1).toNat (by omega)
      rw [hrow _ (by omega) (by omega)] at this
      omega
theorem trF_cw {g : XH} {p : Prop} {t : Int → Int} {i : Int} (hS : SW g 8) (hL : LY g) (hi : 0 ≤ i ∧ i < g 4 3) (hp : p) : trF g t i = (cwB g p t i ((g 8 1).toNat + 1)).1 := by
  have e1 : cwc g (g 8 1).toNat = 246 := by unfold cwc; rw [if_neg (by omega)]
  have h8 := hS.1
  rw [cwB_s, cwB_bst _ (by omega)]
  unfold cwv trF
  rw [e1, bst_trp hS hL hi]
  by_cases q : Mt g 246 i
  · rw [pik_t q]
    by_cases y : kRef (g 246 3) + t (i + g 246 2) < trp g t i (g 193 i - 1).toNat
    · rw [if_pos y, pik_t ⟨Or.inr hp, q, y⟩]
    · rw [if_neg y, pik_f (fun z => y z.2.2), bst_trp hS hL hi]
  · rw [pik_f q, pik_f (fun z => q z.2.1), bst_trp hS hL hi]
/-- the class's picture with a sequence as the candidate -/
def tkH (g : XH) (i m z : Int) : XH := fun c j => if c = 246 then (if j = 2 then m else if j = 3 then (if z < 0 then -4 else z) else g c j) else if c = 247 then g 5 (i + j) else if c = 248 then g 6 (i + j) else g c j
theorem tkH_off (g : XH) (i m z : Int) : Off (S3 246) g (tkH g i m z) := fun c hc => by
  funext j
  unfold S3 at hc
  unfold tkH
  rw [if_neg (by omega), if_neg (by omega), if_neg (by omega)]
theorem tkH_took (g : XH) (i m z : Int) : Took (tkH g i m z) 246 g i m z := ⟨rfl, rfl, fun j _ _ => ⟨rfl, rfl⟩⟩
/-- the ghost may be another that is the same but for the candidate -/
theorem GH.gho {S : Nat → Prop} {g g' h : XH} (hG : GH g h) (hO : Off S g g') (hs : ∀ c, S c → (245 ≤ c ∧ c ≤ 248) ∨ 254 ≤ c) : GH g' h := by
  obtain ⟨a1, a2, a3, a4, a5, a6⟩ := hG
  have hk : ∀ c, (c ≤ 244 ∨ (249 ≤ c ∧ c ≤ 253)) → ¬ S c := fun c q z => by have := hs c z; omega
  refine ⟨a1.off hO (hk _ (by omega)) (hk _ (by omega)) (hk _ (by omega)) (hk _ (by omega)), SW.same (fun x q => hO x (hk _ (by unfold S26 at q; omega))) a2, a3.off hO (fun c q => hk c (by omega)) a1 a2, a4.eq (hO _ (hk _ (by omega))) (hO _ (hk _ (by omega))) (hO _ (hk _ (by omega))) (hO _ (hk _ (by omega))), a5.eq (SEq.same (fun x q => hO x (hk _ (by unfold S26 at q; omega))) a2.1.2), a6⟩
theorem GH.aside {g h h1 : XH} {i m z : Int} (hG : GH g h) (hl : Lays h 83 i m z h1) (hm : 2 ≤ m ∧ m ≤ 4) (hi : 0 ≤ i ∧ i + m ≤ g 4 3) (hz : -1 ≤ z ∧ z < m) : GH g h1 := by
  have h8 := hG.2.1.1
  obtain ⟨a1, a2, a3, a4, a5, a6⟩ := hG
  refine ⟨a1, a2, a3, a4.mv (by rw [hl.1 _ (by decide)]) (hl.1 _ (by decide)) (hl.1 _ (by decide)) (hl.1 _ (by decide)), ?_, hl.rg a6 hm hz (a4.sq a1 hi.1 hi.2)⟩
  have hk : ∀ j, j < 83 → h1 266 j = h 266 j := fun j q => hl.2.1 j (Or.inl q)
  refine ⟨by rw [hk _ (by omega)]; exact a5.1, by rw [hk _ (by omega)]; exact a5.2.1, by rw [hk _ (by omega)]; exact a5.2.2.1, fun e he => (a5.2.2.2 e he).mv (fun x a b => hk _ (by omega))⟩
theorem cw_gain {g h h1 h2 : XH} {i m z : Int} (hG : GH g h) (hs : SqOk g i m) (hz : -1 ≤ z ∧ z < m) (hC : CwE (tkH g i m z) (1 = (1 : Int)) h2 0) : g 192 13 - h2 268 0 - (1 + 2 * m) = GfC g i m z := by
  obtain ⟨a1, a2, a3, -⟩ := hG
  refine GfC_one a1 a3 (by have := hs.2.1; omega) ⟨rset (tkH g i m z) 245 (h2 268), ?_, ?_, ?_, ?_⟩
  · intro c hc
    unfold STr SGa at hc
    rw [rset_c (fun q => hc (Or.inr (Or.inl q)))]
    exact tkH_off g i m z c (fun q => hc (Or.inr (Or.inr q)))
  · have := tkH_took g i m z
    refine ⟨by rw [rset_c (by decide)]; exact this.1, by rw [rset_c (by decide)]; exact this.2.1, fun j a b => ?_⟩
    rw [rset_c (by decide), rset_c (by decide)]
    exact this.2.2 j a b
  · have hk := tkH_off g i m z
    have e4 : tkH g i m z 4 = g 4 := hk 4 (by unfold S3; omega)
    have hG2 : PW (tkH g i m z) ∧ SW (tkH g i m z) 8 ∧ LY (tkH g i m z) := ⟨a1.off hk (by unfold S3; omega) (by unfold S3; omega) (by unfold S3; omega) (by unfold S3; omega), SW.same (fun x q => hk x (by unfold S26 at q; unfold S3; omega)) a2, a3.off hk (fun c q => by unfold S3; omega) a1 a2⟩
    have hO : Off (fun x => x = 245) (tkH g i m z) (rset (tkH g i m z) 245 (h2 268)) := fun c hc => rset_c hc
    refine ⟨?_, fun j a b => ?_⟩
    · rw [rset_s, rset_c (by decide)]; exact hC.1
    · rw [rset_c (by decide)] at b
      have h48 := hG2.1.1
      rw [rset_s, trF_off hO (Or.inl rfl) (by omega), trF_cw hG2.2.1 hG2.2.2 ⟨a, b⟩ (rfl : 1 = (1 : Int))]
      exact (hC.2.1 j a b).1
  · rw [rset_s]
set_option maxRecDepth 100000 in
set_option maxHeartbeats 4000000 in
theorem pX9_gainOf {K : XK} {n : Nat} {h : XH} (g : XH) (i m z : Int) (hG : GH g h) (hR : h 270 (g 4 3) = g 192 13) (hs : SqOk g i m) (hz : -1 ≤ z ∧ z < m) : MI K mX9_gainOf 4 n [vr 259, vi i, vi m, vi z] h (fun zr h' => zr = GfC g i m z ∧ Off (fun c => (c = 266 ∨ c = 268 ∨ c = 269)) h h' ∧ (∀ j, j < 83 → h' 266 j = h 266 j) ∧ GH g h' ∧ (-1000 ≤ zr ∧ zr ≤ 1000)) := by
  refine xMeth FX9_gainOf (Nat.le_of_ble_eq_true rfl) ?_
  refine x_aload_n 1 (xd DX9_gainOf rfl) rfl rfl ?_
  refine x_gr 4 _ LX9_40 (xd DX9_gainOf rfl) rfl rfl ⟨by decide, by decide⟩ (by decide) rfl rfl ?_
  refine x_aload_n 5 (xd DX9_gainOf rfl) rfl rfl ?_
  refine x_gi 8 5 rfl LX9_103 (xd DX9_gainOf rfl) rfl ⟨Or.inr ⟨rfl, by decide⟩, by decide⟩ rfl ?_
  refine x_iaload 9 (xd DX9_gainOf rfl) rfl ⟨Or.inr ⟨rfl, by decide⟩, by decide⟩ (by decide) (by have := hG.n; have := hG.1.1; omega) (by have := hG.n; have := hG.1.1; omega) rfl ?_
  refine x_istore 11 (L' := [(0, _), (1, _), (2, _), (3, _), (4, _)]) (xd DX9_gainOf rfl) (by decide) rfl rfl rfl ?_
  refine x_aload_n 12 (xd DX9_gainOf rfl) rfl rfl ?_
  refine x_bipush 14 (xd DX9_gainOf rfl) rfl rfl ?_
  refine x_iload_n 15 (xd DX9_gainOf rfl) rfl rfl ?_
  refine x_iload_n 16 (xd DX9_gainOf rfl) rfl rfl ?_
  refine x_iload_n 17 (xd DX9_gainOf rfl) rfl rfl ?_
  refine x_Vv 20 (pX9_lays 8 i m z (by omega) hs.1 ⟨hs.2.1, hs.2.2.1⟩ (by have := hs.2.2.2.1; have := hG.1.1; omega) hz) FX9_lays VX9_lays CX9_123 (xd DX9_gainOf rfl) rfl rfl rfl ⟨by decide, rfl⟩ ⟨by decide, by decide⟩ (by decide) (Nat.le_of_ble_eq_true rfl) (by decide) rfl ?_
  intro h1 hl
  rw [show mEnt 8 = 83 from rfl] at hl
  have hG1 := hG.aside hl ⟨hs.2.1, hs.2.2.1⟩ ⟨hs.1, hs.2.2.2.1⟩ hz
  have hG2 : GH (tkH g i m z) h1 := hG1.gho (tkH_off g i m z) (fun c q => by unfold S3 at q; omega)
  refine x_aload_n 21 (xd DX9_gainOf rfl) rfl rfl ?_
  refine x_iconst 22 (xd DX9_gainOf rfl) rfl ?_
  refine x_Vi 25 (pX9_coverWith (tkH g i m z) 1 (Or.inr rfl) hG2 (fun _ => ⟨(tkH_took g i m z).ew hG.1 hs hz, hl.me hG.2.2.2.1 ⟨hs.1, hs.2.2.2.1⟩ hz.1 (tkH_took g i m z)⟩)) FX9_coverWith VX9_coverWith CX9_136 (xd DX9_gainOf rfl) rfl rfl rfl ⟨by decide, rfl⟩ ⟨by decide, by decide⟩ (by decide) (Nat.le_of_ble_eq_true rfl) (by decide) rfl ?_
  rintro z9 h2 ⟨hO2, hC2, q1⟩
  rw [q1]
  clear q1 z9
  refine x_iconst 26 (xd DX9_gainOf rfl) rfl ?_
  refine x_iadd 27 (xd DX9_gainOf rfl) rfl ?_
  refine x_iconst 28 (xd DX9_gainOf rfl) rfl ?_
  refine x_iload_n 29 (xd DX9_gainOf rfl) rfl rfl ?_
  refine x_imul 30 (xd DX9_gainOf rfl) rfl ?_
  refine x_iadd 31 (xd DX9_gainOf rfl) rfl ?_
  refine x_istore 33 (L' := [(0, _), (1, _), (2, _), (3, _), (4, _), (5, _)]) (xd DX9_gainOf rfl) (by decide) rfl rfl rfl ?_
  refine x_iload 35 (xd DX9_gainOf rfl) rfl rfl ?_
  refine x_iload 37 (xd DX9_gainOf rfl) rfl rfl ?_
  refine x_isub 38 (xd DX9_gainOf rfl) rfl ?_
  refine x_ri (xd DX9_gainOf rfl) rfl ?_
  refine ⟨?_, fun c hc => ?_, fun j hj => ?_, ?_, ?_⟩
  · rw [← cw_gain (h := h) (h1 := h1) hG hs hz hC2, hG.n, hR]
    omega
  · rw [hO2 c (by unfold S89; omega), hl.1 c (by omega)]
  · rw [hO2 266 (by unfold S89; omega), hl.2.1 j (Or.inl hj)]
  · exact hG1.off hO2 (by unfold S89; omega) (by unfold S89; omega) (by unfold S89; omega) (by unfold S89; omega) (by unfold S89; omega)
  · have l1 := len_few hG.1 hG.2.1 hG.2.2.1
    have l2 := hG.2.2.1.2.2.2.2.2.1 0 (Int.le_refl _) (by have := hG.1.1; omega)
    have l3 := hC2.2.2 0 (Int.le_refl _) (by have := hG2.1.1; omega)
    have l4 : tkH g i m z 4 3 = g 4 3 := by rw [tkH_off g i m z 4 (by unfold S3; omega)]
    have l5 := hG.1.1
    rw [hG.n, hR]
    have l6 := hs.2.1
    have l7 := hs.2.2.1
    omega

