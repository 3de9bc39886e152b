/-! SqueezedCodeModel: a run: lines held, simple instructions, addresses -/
theorem fP_hit {p : Nat → Prop} : ∀ (d i a : Nat), i ≤ a → a < i + d → (∀ j, i ≤ j → j < a → ¬ p j) → p a → fP p i d = (a : Int)
  | 0, i, a, h1, h2, _, _ => by omega
  | d + 1, i, a, h1, h2, h3, h4 => by
    unfold fP
    by_cases e : i = a
    · subst e; rw [pik_t h4]
    · rw [pik_f (h3 i (Nat.le_refl _) (by omega))]
      exact fP_hit d (i + 1) a (by omega) (by omega) (fun j a1 a2 => h3 j (by omega) a2) h4
theorem fP_no {p : Nat → Prop} : ∀ (d i : Nat), (∀ j, i ≤ j → j < i + d → ¬ p j) → fP p i d = -4
  | 0, _, _ => rfl
  | d + 1, i, h => by
    unfold fP
    rw [pik_f (h i (Nat.le_refl _) (by omega))]
    exact fP_no d (i + 1) (fun j a1 a2 => h j (by omega) (by omega))
theorem MG.run {g h h' : XH} (hM : MG g h) (hO : Off (fun c => c = 259 ∨ 271 ≤ c) h h') (h5 : h' 259 5 = h 259 5) (h11 : h' 259 11 = h 259 11) : MG g h' := by
  have hk : ∀ c, c < 271 → c ≠ 259 → h' c = h c := fun c a b => hO c (by omega)
  exact ⟨hM.1.mv h5 (hk _ (by omega) (by omega)) (hk _ (by omega) (by omega)) (hk _ (by omega) (by omega)) (hk _ (by omega) (by omega)), hM.2.1.mv (hk _ (by omega) (by omega)) (hk _ (by omega) (by omega)), hM.2.2.1, hM.2.2.2.1.mv h11 (hk _ (by omega) (by omega)), hM.2.2.2.2.mv (hk _ (by omega) (by omega))⟩
theorem lAd_off {g x : XH} {k : Nat} {l : Int} (hX : Off SRu g x) : lAd x k l = lAd g k l := by
  unfold lAd
  rw [hX 4 (by unfold SRu; omega), hX 251 (by unfold SRu; omega), hX 192 (by unfold SRu; omega)]
/-- behind the count of a miss, or not -/
def HlI (x : XH) (k : Nat) (l : Int) (h y : XH) : Prop := Off (fun c => c = 259) h y ∧ (∀ j, j ≠ 22 → j ≠ 23 → j ≠ 26 → y 259 j = h 259 j) ∧ y 259 22 = hldM x k l 255 15 ∧ y 259 23 = hldM x k l 255 16 ∧ y 259 26 = hldM x k l 255 14
theorem hold_fin {x h y z : XH} {k : Nat} {l : Int} (hR : RRc x h) (hI : HlI x k l h y) (h14 : 0 ≤ x 255 14 ∧ x 255 14 ≤ x 255 13) (h13 : 1 ≤ x 255 13) (hO : Off (fun c => c = 273) y z) (hz : ∀ j, z 273 j = if j = 0 then l else if 0 < j ∧ j ≤ hldQ x l then y 273 (j - 1) else y 273 j) : RRc (useH x k l) z := by
  obtain ⟨r1, r2, r3, r4, r5, r6, r7, r8, r9, r10⟩ := hR
  obtain ⟨i1, i2, i3, i4, i5⟩ := hI
  have e : ∀ j, z 259 j = y 259 j := fun j => by rw [hO 259 (by decide)]
  have hz3 : y 273 = h 273 := i1 273 (by decide)
  have u : ∀ j, j ≠ 14 → j ≠ 15 → j ≠ 16 → useH x k l 255 j = x 255 j := fun j a b c => useH_255 x k l a b c
  have u2 : ∀ j, useH x k l 255 j = hldM x k l 255 j := fun j => by unfold useH; rw [rset_c (by decide)]
  have hp := fP_rg (fun j => x 258 j = l) (x 255 14).toNat 0
  refine ⟨by rw [e, i2 16 (by decide) (by decide) (by decide), r1, u 7 (by decide) (by decide) (by decide)], by rw [e, i2 18 (by decide) (by decide) (by decide), r2, u 10 (by decide) (by decide) (by decide)], by rw [e, i2 20 (by decide) (by decide) (by decide), r3, u 12 (by decide) (by decide) (by decide)], by rw [e, i2 21 (by decide) (by decide) (by decide), r4, u 8 (by decide) (by decide) (by decide)], by rw [e, i3, u2], by rw [e, i4, u2], by rw [e, i5, u2], fun j a b => ?_, fun j a b => ?_, fun j a b => ?_⟩
  · rw [hO 271 (by decide), i1 271 (by decide), r8 j a b, useH_row x k l (Or.inl rfl)]
  · rw [u 12 (by decide) (by decide) (by decide)] at b
    rw [hO 272 (by decide), i1 272 (by decide), r9 j a b, useH_row x k l (Or.inr rfl)]
  · rw [u2] at b
    have e258 : useH x k l 258 j = if j = 0 then l else if 0 < j ∧ j ≤ hldQ x l then x 258 (j - 1) else x 258 j := by unfold useH; rw [rset_s]
    rw [e258, hz j, hz3]
    by_cases j0 : j = 0
    · rw [if_pos j0, if_pos j0]
    · rw [if_neg j0, if_neg j0]
      by_cases c : 0 ≤ hldP x l
      · have hq : hldQ x l = hldP x l := by unfold hldQ; rw [pik_t c]
        have hm : hldM x k l 255 14 = x 255 14 := by unfold hldM; rw [pik_t c]
        have hlt : hldP x l < x 255 14 := by
          unfold hldP at c ⊢
          omega
        rw [hm] at b
        rw [hq]
        split
        · exact r10 _ (by omega) (by omega)
        · exact r10 _ (by omega) (by omega)
      · have hq : hldQ x l = (if x 255 13 < x 255 14 + 1 then x 255 13 else x 255 14 + 1) - 1 := by unfold hldQ; rw [pik_f c]
        have hm : hldM x k l 255 14 = (if x 255 13 < x 255 14 + 1 then x 255 13 else x 255 14 + 1) := by unfold hldM; rw [pik_f c, hset_s]
        rw [hm] at b
        rw [hq]
        rw [if_pos (by split at b <;> omega), if_pos (by split at b <;> split <;> omega)]
        exact r10 _ (by omega) (by split at b <;> omega)
set_option maxRecDepth 100000 in
set_option maxHeartbeats 4000000 in
theorem pX9_holdLine {K : XK} {n : Nat} {h : XH} (g x : XH) (k : Nat) (l : Int) (hC : CI g) (hM : MG g h) (hk : g 8 2 = (2 ^ k : Nat)) (hl : 0 ≤ l ∧ l < g 192 14) (hX : Off SRu g x) (hR : RRc x h) (h13 : x 255 13 = g 8 3) (h14 : 0 ≤ x 255 14 ∧ x 255 14 ≤ x 255 13) (h258 : ∀ j, 0 ≤ j → j < x 255 14 → xrg (x 258 j)) : MV K mX9_holdLine 3 n [vr 259, vi l] h (fun h' => RRc (useH x k l) h' ∧ Off (fun c => c = 259 ∨ c = 273) h h' ∧ ∀ j, j ≠ 22 → j ≠ 23 → j ≠ 26 → h' 259 j = h 259 j) := by
  refine xMeth FX9_holdLine (Nat.le_of_ble_eq_true rfl) ?_
  have h83 := hM.1.2.1.2.2.1
  have hh26 := hR.2.2.2.2.2.2.1
  have h14b := hC.lines
  have hline : lineC g k l 1 = lAd g k (l + 1) - lAd g k l := by unfold lineC; rw [if_pos hl, if_neg (by decide), if_pos rfl]
  have fin : ∀ (xa : Int) (y : XH), (0 ≤ xa ∧ xa < 4) → HlI x k l h y → hldQ x l = xa → WI K mX9_holdLine 3 n (qV n (fun h' => RRc (useH x k l) h' ∧ Off (fun c => c = 259 ∨ c = 273) h h' ∧ ∀ j, j ≠ 22 → j ≠ 23 → j ≠ 26 → h' 259 j = h 259 j)) 97 [(0, vr 259), (1, vi l), (2, vi xa)] [] y := by
    intro xa y ha hI hQ
    have shift : ∀ (f : Nat) (xk : Int) (xg : XH), 0 ≤ xk → xk ≤ xa → xk < (f : Int) → Off (fun c => c = 273) y xg → (∀ j, xg 273 j = if xk < j ∧ j ≤ xa then y 273 (j - 1) else y 273 j) → WI K mX9_holdLine 3 n (qV n (fun h' => RRc (useH x k l) h' ∧ Off (fun c => c = 259 ∨ c = 273) h h' ∧ ∀ j, j ≠ 22 → j ≠ 23 → j ≠ 26 → h' 259 j = h 259 j)) 99 [(0, vr 259), (1, vi l), (2, vi xa), (3, vi xk)] [] xg := by
      intro f
      induction f with
      | zero => intro xk xg a b c; exact absurd c (by omega)
      | succ f ih =>
        intro xk xg k0 k1 hf hO hz
        refine x_iload_n 100 (xd DX9_holdLine rfl) rfl rfl ?_
        refine x_if_le 103 123 (xd DX9_holdLine rfl) rfl (by omega) rfl (fun c100 => ?_) (fun c100 => ?_)
        · refine x_aload_n 124 (xd DX9_holdLine rfl) rfl rfl ?_
          refine x_gr 127 _ LX9_49 (xd DX9_holdLine rfl) rfl rfl ⟨by decide, by decide⟩ (by decide) rfl rfl ?_
          refine x_iconst 128 (xd DX9_holdLine rfl) rfl ?_
          refine x_iload_n 129 (xd DX9_holdLine rfl) rfl rfl ?_
          refine x_iastore 130 (xd DX9_holdLine rfl) rfl ⟨Or.inr ⟨rfl, by decide⟩, by decide⟩ (by decide) (by omega) (by omega) rfl ?_
          refine x_rv (xd DX9_holdLine rfl) rfl ?_
          have e0 : xk = 0 := by omega
          subst e0
          refine ⟨hold_fin hR hI h14 (by omega) (hO.tr (Off.set rfl)) (fun j => ?_), fun c hc => ?_, fun j a b c => ?_⟩
          · rw [hset_at]
            by_cases q : j = 0
            · rw [if_pos q, if_pos q]
            · rw [if_neg q, if_neg q, hz j, hQ]
          · rw [hset_c (by omega), hO c (by omega)]; exact hI.1 c (by omega)
          · rw [hset_c (by decide), hO 259 (by decide)]; exact hI.2.1 j a b c
        · refine x_aload_n 104 (xd DX9_holdLine rfl) rfl rfl ?_
          refine x_gr 107 _ LX9_49 (xd DX9_holdLine rfl) rfl rfl ⟨by decide, by decide⟩ (by decide) rfl rfl ?_
          refine x_iload_n 108 (xd DX9_holdLine rfl) rfl rfl ?_
          refine x_aload_n 109 (xd DX9_holdLine rfl) rfl rfl ?_
          refine x_gr 112 _ LX9_49 (xd DX9_holdLine rfl) rfl rfl ⟨by decide, by decide⟩ (by decide) rfl rfl ?_
          refine x_iload_n 113 (xd DX9_holdLine rfl) rfl rfl ?_
          refine x_iconst 114 (xd DX9_holdLine rfl) rfl ?_
          refine x_isub 115 (xd DX9_holdLine rfl) rfl ?_
          refine x_iaload 116 (xd DX9_holdLine rfl) rfl ⟨Or.inr ⟨rfl, by decide⟩, by decide⟩ (by decide) (by omega) (by omega) rfl ?_
          refine x_iastore 117 (xd DX9_holdLine rfl) rfl ⟨Or.inr ⟨rfl, by decide⟩, by decide⟩ (by decide) (by omega) (by omega) rfl ?_
          refine x_iinc 120 (L' := [(0, _), (1, _), (2, _), (3, _)]) (xd DX9_holdLine rfl) rfl (by decide) rfl rfl rfl ?_
          refine x_goto 99 (xd DX9_holdLine rfl) rfl ?_
          refine ih (xk - 1) _ (by omega) (by omega) (by omega) (hO.tr (Off.set rfl)) (fun j => ?_)
          rw [hset_at]
          by_cases q : j = xk
          · rw [if_pos q, hz, if_neg (by omega), if_pos (by omega), q]
          · rw [if_neg q, hz j]
            by_cases c : xk < j ∧ j ≤ xa
            · rw [if_pos c, if_pos (by omega)]
            · rw [if_neg c, if_neg (by omega)]
    refine x_iload_n 98 (xd DX9_holdLine rfl) rfl rfl ?_
    refine x_istore_n 99 (L' := [(0, _), (1, _), (2, _), (3, _)]) (xd DX9_holdLine rfl) (by decide) rfl rfl rfl ?_
    exact shift 8 xa y (by omega) (Int.le_refl _) (by omega) Off.rf (fun j => by rw [if_neg (by omega)])
  have loop : ∀ (f : Nat) (xa : Int), 0 ≤ xa → xa ≤ x 255 14 → x 255 14 - xa < (f : Int) → (∀ j, 0 ≤ j → j < xa → x 258 j ≠ l) → WI K mX9_holdLine 3 n (qV n (fun h' => RRc (useH x k l) h' ∧ Off (fun c => c = 259 ∨ c = 273) h h' ∧ ∀ j, j ≠ 22 → j ≠ 23 → j ≠ 26 → h' 259 j = h 259 j)) 2 [(0, vr 259), (1, vi l), (2, vi xa)] [] h := by
    intro f
    induction f with
    | zero => intro xa a b c; exact absurd c (by omega)
    | succ f ih =>
      intro xa a0 a1 hf hne
      refine x_iload_n 3 (xd DX9_holdLine rfl) rfl rfl ?_
      refine x_aload_n 4 (xd DX9_holdLine rfl) rfl rfl ?_
      refine x_gi 7 26 rfl LX9_232 (xd DX9_holdLine rfl) rfl ⟨Or.inr ⟨rfl, by decide⟩, by decide⟩ rfl ?_
      refine x_icmp_ge 10 26 (xd DX9_holdLine rfl) rfl (by omega) (by omega) rfl (fun c7 => ?_) (fun c7 => ?_)
      · rw [hR.2.2.2.2.2.2.1] at c7
        refine x_iload_n 27 (xd DX9_holdLine rfl) rfl rfl ?_
        refine x_aload_n 28 (xd DX9_holdLine rfl) rfl rfl ?_
        refine x_gi 31 26 rfl LX9_232 (xd DX9_holdLine rfl) rfl ⟨Or.inr ⟨rfl, by decide⟩, by decide⟩ rfl ?_
        refine x_icmp_ne 34 97 (xd DX9_holdLine rfl) rfl (by omega) (by omega) rfl (fun c31 => ?_) (fun c31 => ?_)
        · rw [hR.2.2.2.2.2.2.1] at c31
          first
            | (have h17 := c17
               have hhit : hldP x l = xa := by
                 have := fP_hit (p := fun j => x 258 j = l) (x 255 14).toNat 0 xa.toNat (by omega) (by omega) (fun j a b => hne (j : Int) (by omega) (by omega)) (by show x 258 ((xa.toNat : Nat) : Int) = l; rw [show ((xa.toNat : Nat) : Int) = xa by omega]; exact c17)
                 unfold hldP
                 rw [this]
                 omega
               have hhc : 0 ≤ hldP x l := by omega
               refine fin xa h (by omega) ⟨Off.rf, fun _ _ _ _ => rfl, ?_, ?_, ?_⟩ (by unfold hldQ; rw [pik_t hhc]; exact hhit)
               · unfold hldM; rw [pik_t hhc]; exact hR.2.2.2.2.1
               · unfold hldM; rw [pik_t hhc]; exact hR.2.2.2.2.2.1
               · unfold hldM; rw [pik_t hhc]; exact hR.2.2.2.2.2.2.1
               done)
            | (exfalso; omega)
            | (have hno : hldP x l = -4 := fP_no _ _ (fun j a b => by
                 have := hne (j : Int) (by omega) (by omega)
                 exact this)
               have hnc : ¬ 0 ≤ hldP x l := by omega
               have hQ : hldQ x l = (if x 255 13 < x 255 14 + 1 then x 255 13 else x 255 14 + 1) - 1 := by unfold hldQ; rw [pik_f hnc]
               rw [hset_s, e26, hset_i (by decide), hR.2.2.2.2.2.1, hR.2.2.2.2.1]
               refine fin _ _ (by omega) ⟨((Off.set (S := fun c => c = 259) rfl).tr (Off.set rfl)).tr (Off.set rfl), fun j a b c => ?_, ?_, ?_, ?_⟩ ?_
               · rw [hset_i c, hset_i b, hset_i a]
               · rw [hset_i (by decide), hset_i (by decide), hset_s]
                 unfold hldM; rw [pik_f hnc, hset_i (by decide), hset_i (by decide), hset_s]
               · rw [hset_i (by decide), hset_s]
                 unfold hldM; rw [pik_f hnc, hset_i (by decide), hset_s, lAd_off hX, lAd_off hX]
               · rw [hset_s]
                 unfold hldM; rw [pik_f hnc, hset_s]
                 first | rw [if_pos (by omega)] | rw [if_neg (by omega)]
                 try omega
               · rw [hQ]
                 first | rw [if_pos (by omega)] | rw [if_neg (by omega)]
                 try omega)
        · rw [hR.2.2.2.2.2.2.1] at c31
          refine x_aload_n 35 (xd DX9_holdLine rfl) rfl rfl ?_
          refine x_dupr 36 (xd DX9_holdLine rfl) rfl ?_
          refine x_gi 39 22 rfl LX9_226 (xd DX9_holdLine rfl) rfl ⟨Or.inr ⟨rfl, by decide⟩, by decide⟩ rfl ?_
          refine x_iconst 40 (xd DX9_holdLine rfl) rfl ?_
          refine x_iadd 41 (xd DX9_holdLine rfl) rfl ?_
          refine x_pi 44 22 rfl LX9_226 (xd DX9_holdLine rfl) rfl rfl ⟨Or.inr ⟨rfl, by decide⟩, by decide⟩ rfl ?_
          refine x_aload_n 45 (xd DX9_holdLine rfl) rfl rfl ?_
          refine x_dupr 46 (xd DX9_holdLine rfl) rfl ?_
          refine x_gi 49 23 rfl LX9_229 (xd DX9_holdLine rfl) rfl ⟨Or.inr ⟨rfl, by decide⟩, by decide⟩ rfl ?_
          refine x_aload_n 50 (xd DX9_holdLine rfl) rfl rfl ?_
          refine x_iload_n 51 (xd DX9_holdLine rfl) rfl rfl ?_
          refine x_iconst 52 (xd DX9_holdLine rfl) rfl ?_
          refine x_Vi 55 (pX9_line g k l 1 hC (hM.run ((Off.set (S := fun c => c = 259) rfl).mono (fun c q => Or.inl q)) (hset_i (by decide)) (hset_i (by decide))) hk (by omega) (by decide)) FX9_line VX9_line CX9_238 (xd DX9_holdLine rfl) rfl rfl rfl ⟨by decide, rfl⟩ ⟨by decide, by decide⟩ (by decide) (Nat.le_of_ble_eq_true rfl) (by decide) rfl ?_
          rintro z9 h9 ⟨q1, q2⟩
          rw [q1, q2]
          clear q1 q2 z9 h9
          rw [hline]
          refine x_iadd 56 (xd DX9_holdLine rfl) rfl ?_
          refine x_pi 59 23 rfl LX9_229 (xd DX9_holdLine rfl) rfl rfl ⟨Or.inr ⟨rfl, by decide⟩, by decide⟩ rfl ?_
          have e26 : (hset (hset h 259 22 (h 259 22 + 1)) 259 23 (hset h 259 22 (h 259 22 + 1) 259 23 + (lAd g k (l + 1) - lAd g k l))) 259 26 = x 255 14 := by rw [hset_i (by decide), hset_i (by decide)]; exact hh26
          have e81 : (hset (hset h 259 22 (h 259 22 + 1)) 259 23 (hset h 259 22 (h 259 22 + 1) 259 23 + (lAd g k (l + 1) - lAd g k l))) 266 81 = g 8 3 := by rw [hset_c (by decide), hset_c (by decide)]; exact hM.1.2.2.2.2.1.2.1
          refine x_aload_n 60 (xd DX9_holdLine rfl) rfl rfl ?_
          refine x_aload_n 61 (xd DX9_holdLine rfl) rfl rfl ?_
          refine x_gi 64 26 rfl LX9_232 (xd DX9_holdLine rfl) rfl ⟨Or.inr ⟨rfl, by decide⟩, by decide⟩ rfl ?_
          refine x_aload_n 65 (xd DX9_holdLine rfl) rfl rfl ?_
          refine x_gr 68 _ LX9_28 (xd DX9_holdLine rfl) rfl rfl ⟨by decide, by decide⟩ (by decide) rfl rfl ?_
          refine x_bipush 70 (xd DX9_holdLine rfl) rfl rfl ?_
          refine x_iaload 71 (xd DX9_holdLine rfl) rfl ⟨Or.inr ⟨rfl, by decide⟩, by decide⟩ (by decide) (by omega) (by omega) rfl ?_
          refine x_icmp_ge 74 83 (xd DX9_holdLine rfl) rfl (by first | (rw [e26]; omega) | (rw [e81]; omega)) (by first | (rw [e26]; omega) | (rw [e81]; omega)) rfl (fun c71 => ?_) (fun c71 => ?_)
          · rw [e26, e81] at c71
            refine x_aload_n 84 (xd DX9_holdLine rfl) rfl rfl ?_
            refine x_gi 87 26 rfl LX9_232 (xd DX9_holdLine rfl) rfl ⟨Or.inr ⟨rfl, by decide⟩, by decide⟩ rfl ?_
            refine x_pi 90 26 rfl LX9_232 (xd DX9_holdLine rfl) rfl rfl ⟨Or.inr ⟨rfl, by decide⟩, by decide⟩ rfl ?_
            refine x_aload_n 91 (xd DX9_holdLine rfl) rfl rfl ?_
            refine x_gi 94 26 rfl LX9_232 (xd DX9_holdLine rfl) rfl ⟨Or.inr ⟨rfl, by decide⟩, by decide⟩ rfl ?_
            refine x_iconst 95 (xd DX9_holdLine rfl) rfl ?_
            refine x_isub 96 (xd DX9_holdLine rfl) rfl ?_
            refine x_istore_n 97 (L' := [(0, _), (1, _), (2, _)]) (xd DX9_holdLine rfl) (by decide) rfl rfl rfl ?_
            first
              | (have h17 := c17
                 have hhit : hldP x l = xa := by
                   have := fP_hit (p := fun j => x 258 j = l) (x 255 14).toNat 0 xa.toNat (by omega) (by omega) (fun j a b => hne (j : Int) (by omega) (by omega)) (by show x 258 ((xa.toNat : Nat) : Int) = l; rw [show ((xa.toNat : Nat) : Int) = xa by omega]; exact c17)
                   unfold hldP
                   rw [this]
                   omega
                 have hhc : 0 ≤ hldP x l := by omega
                 refine fin xa h (by omega) ⟨Off.rf, fun _ _ _ _ => rfl, ?_, ?_, ?_⟩ (by unfold hldQ; rw [pik_t hhc]; exact hhit)
                 · unfold hldM; rw [pik_t hhc]; exact hR.2.2.2.2.1
                 · unfold hldM; rw [pik_t hhc]; exact hR.2.2.2.2.2.1
                 · unfold hldM; rw [pik_t hhc]; exact hR.2.2.2.2.2.2.1
                 done)
              | (exfalso; omega)
              | (have hno : hldP x l = -4 := fP_no _ _ (fun j a b => by
                   have := hne (j : Int) (by omega) (by omega)
                   exact this)
                 have hnc : ¬ 0 ≤ hldP x l := by omega
                 have hQ : hldQ x l = (if x 255 13 < x 255 14 + 1 then x 255 13 else x 255 14 + 1) - 1 := by unfold hldQ; rw [pik_f hnc]
                 rw [hset_s, e26, hset_i (by decide), hR.2.2.2.2.2.1, hR.2.2.2.2.1]
                 refine fin _ _ (by omega) ⟨((Off.set (S := fun c => c = 259) rfl).tr (Off.set rfl)).tr (Off.set rfl), fun j a b c => ?_, ?_, ?_, ?_⟩ ?_
                 · rw [hset_i c, hset_i b, hset_i a]
                 · rw [hset_i (by decide), hset_i (by decide), hset_s]
                   unfold hldM; rw [pik_f hnc, hset_i (by decide), hset_i (by decide), hset_s]
                 · rw [hset_i (by decide), hset_s]
                   unfold hldM; rw [pik_f hnc, hset_i (by decide), hset_s, lAd_off hX, lAd_off hX]
                 · rw [hset_s]
                   unfold hldM; rw [pik_f hnc, hset_s]
                   first | rw [if_pos (by omega)] | rw [if_neg (by omega)]
                   try omega
                 · rw [hQ]
                   first | rw [if_pos (by omega)] | rw [if_neg (by omega)]
                   try omega)
          · rw [e26, e81] at c71
            refine x_aload_n 75 (xd DX9_holdLine rfl) rfl rfl ?_
            refine x_gi 78 26 rfl LX9_232 (xd DX9_holdLine rfl) rfl ⟨Or.inr ⟨rfl, by decide⟩, by decide⟩ rfl ?_
            refine x_iconst 79 (xd DX9_holdLine rfl) rfl ?_
            refine x_iadd 80 (xd DX9_holdLine rfl) rfl ?_
            refine x_goto 87 (xd DX9_holdLine rfl) rfl ?_
            refine x_pi 90 26 rfl LX9_232 (xd DX9_holdLine rfl) rfl rfl ⟨Or.inr ⟨rfl, by decide⟩, by decide⟩ rfl ?_
            refine x_aload_n 91 (xd DX9_holdLine rfl) rfl rfl ?_
            refine x_gi 94 26 rfl LX9_232 (xd DX9_holdLine rfl) rfl ⟨Or.inr ⟨rfl, by decide⟩, by decide⟩ rfl ?_
            refine x_iconst 95 (xd DX9_holdLine rfl) rfl ?_
            refine x_isub 96 (xd DX9_holdLine rfl) rfl ?_
            refine x_istore_n 97 (L' := [(0, _), (1, _), (2, _)]) (xd DX9_holdLine rfl) (by decide) rfl rfl rfl ?_
            first
              | (have h17 := c17
                 have hhit : hldP x l = xa := by
                   have := fP_hit (p := fun j => x 258 j = l) (x 255 14).toNat 0 xa.toNat (by omega) (by omega) (fun j a b => hne (j : Int) (by omega) (by omega)) (by show x 258 ((xa.toNat : Nat) : Int) = l; rw [show ((xa.toNat : Nat) : Int) = xa by omega]; exact c17)
                   unfold hldP
                   rw [this]
                   omega
                 have hhc : 0 ≤ hldP x l := by omega
                 refine fin xa h (by omega) ⟨Off.rf, fun _ _ _ _ => rfl, ?_, ?_, ?_⟩ (by unfold hldQ; rw [pik_t hhc]; exact hhit)
                 · unfold hldM; rw [pik_t hhc]; exact hR.2.2.2.2.1
                 · unfold hldM; rw [pik_t hhc]; exact hR.2.2.2.2.2.1
                 · unfold hldM; rw [pik_t hhc]; exact hR.2.2.2.2.2.2.1
                 done)
              | (exfalso; omega)
              | (have hno : hldP x l = -4 := fP_no _ _ (fun j a b => by
                   have := hne (j : Int) (by omega) (by omega)
                   exact this)
                 have hnc : ¬ 0 ≤ hldP x l := by omega
                 have hQ : hldQ x l = (if x 255 13 < x 255 14 + 1 then x 255 13 else x 255 14 + 1) - 1 := by unfold hldQ; rw [pik_f hnc]
                 rw [hset_s, e26, hset_i (by decide), hR.2.2.2.2.2.1, hR.2.2.2.2.1]
                 refine fin _ _ (by omega) ⟨((Off.set (S := fun c => c = 259) rfl).tr (Off.set rfl)).tr (Off.set rfl), fun j a b c => ?_, ?_, ?_, ?_⟩ ?_
                 · rw [hset_i c, hset_i b, hset_i a]
                 · rw [hset_i (by decide), hset_i (by decide), hset_s]
                   unfold hldM; rw [pik_f hnc, hset_i (by decide), hset_i (by decide), hset_s]
                 · rw [hset_i (by decide), hset_s]
                   unfold hldM; rw [pik_f hnc, hset_i (by decide), hset_s, lAd_off hX, lAd_off hX]
                 · rw [hset_s]
                   unfold hldM; rw [pik_f hnc, hset_s]
                   first | rw [if_pos (by omega)] | rw [if_neg (by omega)]
                   try omega
                 · rw [hQ]
                   first | rw [if_pos (by omega)] | rw [if_neg (by omega)]
                   try omega)
      · rw [hR.2.2.2.2.2.2.1] at c7
        refine x_aload_n 11 (xd DX9_holdLine rfl) rfl rfl ?_
        refine x_gr 14 _ LX9_49 (xd DX9_holdLine rfl) rfl rfl ⟨by decide, by decide⟩ (by decide) rfl rfl ?_
        refine x_iload_n 15 (xd DX9_holdLine rfl) rfl rfl ?_
        refine x_iaload 16 (xd DX9_holdLine rfl) rfl ⟨Or.inr ⟨rfl, by decide⟩, by decide⟩ (by decide) (by omega) (by omega) rfl ?_
        refine x_iload_n 17 (xd DX9_holdLine rfl) rfl rfl ?_
        refine x_icmp_eq 20 26 (xd DX9_holdLine rfl) rfl (by first | omega | (rw [hR.2.2.2.2.2.2.2.2.2 xa (by omega) (by rw [← hR.2.2.2.2.2.2.1]; omega)]; exact h258 xa (by omega) (by rw [← hR.2.2.2.2.2.2.1]; omega))) (by first | omega | (rw [hR.2.2.2.2.2.2.2.2.2 xa (by omega) (by rw [← hR.2.2.2.2.2.2.1]; omega)]; exact h258 xa (by omega) (by rw [← hR.2.2.2.2.2.2.1]; omega))) rfl (fun c17 => ?_) (fun c17 => ?_)
        · rw [hR.2.2.2.2.2.2.2.2.2 xa (by omega) c7] at c17
          refine x_iload_n 27 (xd DX9_holdLine rfl) rfl rfl ?_
          refine x_aload_n 28 (xd DX9_holdLine rfl) rfl rfl ?_
          refine x_gi 31 26 rfl LX9_232 (xd DX9_holdLine rfl) rfl ⟨Or.inr ⟨rfl, by decide⟩, by decide⟩ rfl ?_
          refine x_icmp_ne 34 97 (xd DX9_holdLine rfl) rfl (by omega) (by omega) rfl (fun c31 => ?_) (fun c31 => ?_)
          · rw [hR.2.2.2.2.2.2.1] at c31
            first
              | (have h17 := c17
                 have hhit : hldP x l = xa := by
                   have := fP_hit (p := fun j => x 258 j = l) (x 255 14).toNat 0 xa.toNat (by omega) (by omega) (fun j a b => hne (j : Int) (by omega) (by omega)) (by show x 258 ((xa.toNat : Nat) : Int) = l; rw [show ((xa.toNat : Nat) : Int) = xa by omega]; exact c17)
                   unfold hldP
                   rw [this]
                   omega
                 have hhc : 0 ≤ hldP x l := by omega
                 refine fin xa h (by omega) ⟨Off.rf, fun _ _ _ _ => rfl, ?_, ?_, ?_⟩ (by unfold hldQ; rw [pik_t hhc]; exact hhit)
                 · unfold hldM; rw [pik_t hhc]; exact hR.2.2.2.2.1
                 · unfold hldM; rw [pik_t hhc]; exact hR.2.2.2.2.2.1
                 · unfold hldM; rw [pik_t hhc]; exact hR.2.2.2.2.2.2.1
                 done)
              | (exfalso; omega)
              | (have hno : hldP x l = -4 := fP_no _ _ (fun j a b => by
                   have := hne (j : Int) (by omega) (by omega)
                   exact this)
                 have hnc : ¬ 0 ≤ hldP x l := by omega
                 have hQ : hldQ x l = (if x 255 13 < x 255 14 + 1 then x 255 13 else x 255 14 + 1) - 1 := by unfold hldQ; rw [pik_f hnc]
                 rw [hset_s, e26, hset_i (by decide), hR.2.2.2.2.2.1, hR.2.2.2.2.1]
                 refine fin _ _ (by omega) ⟨((Off.set (S := fun c => c = 259) rfl).tr (Off.set rfl)).tr (Off.set rfl), fun j a b c => ?_, ?_, ?_, ?_⟩ ?_
                 · rw [hset_i c, hset_i b, hset_i a]
                 · rw [hset_i (by decide), hset_i (by decide), hset_s]
                   unfold hldM; rw [pik_f hnc, hset_i (by decide), hset_i (by decide), hset_s]
                 · rw [hset_i (by decide), hset_s]
                   unfold hldM; rw [pik_f hnc, hset_i (by decide), hset_s, lAd_off hX, lAd_off hX]
                 · rw [hset_s]
                   unfold hldM; rw [pik_f hnc, hset_s]
                   first | rw [if_pos (by omega)] | rw [if_neg (by omega)]
                   try omega
                 · rw [hQ]
                   first | rw [if_pos (by omega)] | rw [if_neg (by omega)]
                   try omega)
          · rw [hR.2.2.2.2.2.2.1] at c31
            refine x_aload_n 35 (xd DX9_holdLine rfl) rfl rfl ?_
            refine x_dupr 36 (xd DX9_holdLine rfl) rfl ?_
            refine x_gi 39 22 rfl LX9_226 (xd DX9_holdLine rfl) rfl ⟨Or.inr ⟨rfl, by decide⟩, by decide⟩ rfl ?_
            refine x_iconst 40 (xd DX9_holdLine rfl) rfl ?_
            refine x_iadd 41 (xd DX9_holdLine rfl) rfl ?_
            refine x_pi 44 22 rfl LX9_226 (xd DX9_holdLine rfl) rfl rfl ⟨Or.inr ⟨rfl, by decide⟩, by decide⟩ rfl ?_
            refine x_aload_n 45 (xd DX9_holdLine rfl) rfl rfl ?_
            refine x_dupr 46 (xd DX9_holdLine rfl) rfl ?_
            refine x_gi 49 23 rfl LX9_229 (xd DX9_holdLine rfl) rfl ⟨Or.inr ⟨rfl, by decide⟩, by decide⟩ rfl ?_
            refine x_aload_n 50 (xd DX9_holdLine rfl) rfl rfl ?_
            refine x_iload_n 51 (xd DX9_holdLine rfl) rfl rfl ?_
            refine x_iconst 52 (xd DX9_holdLine rfl) rfl ?_
            refine x_Vi 55 (pX9_line g k l 1 hC (hM.run ((Off.set (S := fun c => c = 259) rfl).mono (fun c q => Or.inl q)) (hset_i (by decide)) (hset_i (by decide))) hk (by omega) (by decide)) FX9_line VX9_line CX9_238 (xd DX9_holdLine rfl) rfl rfl rfl ⟨by decide, rfl⟩ ⟨by decide, by decide⟩ (by decide) (Nat.le_of_ble_eq_true rfl) (by decide) rfl ?_
            rintro z9 h9 ⟨q1, q2⟩
            rw [q1, q2]
            clear q1 q2 z9 h9
            rw [hline]
            refine x_iadd 56 (xd DX9_holdLine rfl) rfl ?_
            refine x_pi 59 23 rfl LX9_229 (xd DX9_holdLine rfl) rfl rfl ⟨Or.inr ⟨rfl, by decide⟩, by decide⟩ rfl ?_
            have e26 : (hset (hset h 259 22 (h 259 22 + 1)) 259 23 (hset h 259 22 (h 259 22 + 1) 259 23 + (lAd g k (l + 1) - lAd g k l))) 259 26 = x 255 14 := by rw [hset_i (by decide), hset_i (by decide)]; exact hh26
            have e81 : (hset (hset h 259 22 (h 259 22 + 1)) 259 23 (hset h 259 22 (h 259 22 + 1) 259 23 + (lAd g k (l + 1) - lAd g k l))) 266 81 = g 8 3 := by rw [hset_c (by decide), hset_c (by decide)]; exact hM.1.2.2.2.2.1.2.1
            refine x_aload_n 60 (xd DX9_holdLine rfl) rfl rfl ?_
            refine x_aload_n 61 (xd DX9_holdLine rfl) rfl rfl ?_
            refine x_gi 64 26 rfl LX9_232 (xd DX9_holdLine rfl) rfl ⟨Or.inr ⟨rfl, by decide⟩, by decide⟩ rfl ?_
            refine x_aload_n 65 (xd DX9_holdLine rfl) rfl rfl ?_
            refine x_gr 68 _ LX9_28 (xd DX9_holdLine rfl) rfl rfl ⟨by decide, by decide⟩ (by decide) rfl rfl ?_
            refine x_bipush 70 (xd DX9_holdLine rfl) rfl rfl ?_
            refine x_iaload 71 (xd DX9_holdLine rfl) rfl ⟨Or.inr ⟨rfl, by decide⟩, by decide⟩ (by decide) (by omega) (by omega) rfl ?_
            refine x_icmp_ge 74 83 (xd DX9_holdLine rfl) rfl (by first | (rw [e26]; omega) | (rw [e81]; omega)) (by first | (rw [e26]; omega) | (rw [e81]; omega)) rfl (fun c71 => ?_) (fun c71 => ?_)
            · rw [e26, e81] at c71
              refine x_aload_n 84 (xd DX9_holdLine rfl) rfl rfl ?_
              refine x_gi 87 26 rfl LX9_232 (xd DX9_holdLine rfl) rfl ⟨Or.inr ⟨rfl, by decide⟩, by decide⟩ rfl ?_
              refine x_pi 90 26 rfl LX9_232 (xd DX9_holdLine rfl) rfl rfl ⟨Or.inr ⟨rfl, by decide⟩, by decide⟩ rfl ?_
              refine x_aload_n 91 (xd DX9_holdLine rfl) rfl rfl ?_
              refine x_gi 94 26 rfl LX9_232 (xd DX9_holdLine rfl) rfl ⟨Or.inr ⟨rfl, by decide⟩, by decide⟩ rfl ?_
              refine x_iconst 95 (xd DX9_holdLine rfl) rfl ?_
              refine x_isub 96 (xd DX9_holdLine rfl) rfl ?_
              refine x_istore_n 97 (L' := [(0, _), (1, _), (2, _)]) (xd DX9_holdLine rfl) (by decide) rfl rfl rfl ?_
              first
                | (have h17 := c17
                   have hhit : hldP x l = xa := by
                     have := fP_hit (p := fun j => x 258 j = l) (x 255 14).toNat 0 xa.toNat (by omega) (by omega) (fun j a b => hne (j : Int) (by omega) (by omega)) (by show x 258 ((xa.toNat : Nat) : Int) = l; rw [show ((xa.toNat : Nat) : Int) = xa by omega]; exact c17)
                     unfold hldP
                     rw [this]
                     omega
                   have hhc : 0 ≤ hldP x l := by omega
                   refine fin xa h (by omega) ⟨Off.rf, fun _ _ _ _ => rfl, ?_, ?_, ?_⟩ (by unfold hldQ; rw [pik_t hhc]; exact hhit)
                   · unfold hldM; rw [pik_t hhc]; exact hR.2.2.2.2.1
                   · unfold hldM; rw [pik_t hhc]; exact hR.2.2.2.2.2.1
                   · unfold hldM; rw [pik_t hhc]; exact hR.2.2.2.2.2.2.1
                   done)
                | (exfalso; omega)
                | (have hno : hldP x l = -4 := fP_no _ _ (fun j a b => by
                     have := hne (j : Int) (by omega) (by omega)
                     exact this)
                   have hnc : ¬ 0 ≤ hldP x l := by omega
                   have hQ : hldQ x l = (if x 255 13 < x 255 14 + 1 then x 255 13 else x 255 14 + 1) - 1 := by unfold hldQ; rw [pik_f hnc]
                   rw [hset_s, e26, hset_i (by decide), hR.2.2.2.2.2.1, hR.2.2.2.2.1]
                   refine fin _ _ (by omega) ⟨((Off.set (S := fun c => c = 259) rfl).tr (Off.set rfl)).tr (Off.set rfl), fun j a b c => ?_, ?_, ?_, ?_⟩ ?_
                   · rw [hset_i c, hset_i b, hset_i a]
                   · rw [hset_i (by decide), hset_i (by decide), hset_s]
                     unfold hldM; rw [pik_f hnc, hset_i (by decide), hset_i (by decide), hset_s]
                   · rw [hset_i (by decide), hset_s]
                     unfold hldM; rw [pik_f hnc, hset_i (by decide), hset_s, lAd_off hX, lAd_off hX]
                   · rw [hset_s]
                     unfold hldM; rw [pik_f hnc, hset_s]
                     first | rw [if_pos (by omega)] | rw [if_neg (by omega)]
                     try omega
                   · rw [hQ]
                     first | rw [if_pos (by omega)] | rw [if_neg (by omega)]
                     try omega)
            · rw [e26, e81] at c71
              refine x_aload_n 75 (xd DX9_holdLine rfl) rfl rfl ?_
              refine x_gi 78 26 rfl LX9_232 (xd DX9_holdLine rfl) rfl ⟨Or.inr ⟨rfl, by decide⟩, by decide⟩ rfl ?_
              refine x_iconst 79 (xd DX9_holdLine rfl) rfl ?_
              refine x_iadd 80 (xd DX9_holdLine rfl) rfl ?_
              refine x_goto 87 (xd DX9_holdLine rfl) rfl ?_
              refine x_pi 90 26 rfl LX9_232 (xd DX9_holdLine rfl) rfl rfl ⟨Or.inr ⟨rfl, by decide⟩, by decide⟩ rfl ?_
              refine x_aload_n 91 (xd DX9_holdLine rfl) rfl rfl ?_
              refine x_gi 94 26 rfl LX9_232 (xd DX9_holdLine rfl) rfl ⟨Or.inr ⟨rfl, by decide⟩, by decide⟩ rfl ?_
              refine x_iconst 95 (xd DX9_holdLine rfl) rfl ?_
              refine x_isub 96 (xd DX9_holdLine rfl) rfl ?_
              refine x_istore_n 97 (L' := [(0, _), (1, _), (2, _)]) (xd DX9_holdLine rfl) (by decide) rfl rfl rfl ?_
              first
                | (have h17 := c17
                   have hhit : hldP x l = xa := by
                     have := fP_hit (p := fun j => x 258 j = l) (x 255 14).toNat 0 xa.toNat (by omega) (by omega) (fun j a b => hne (j : Int) (by omega) (by omega)) (by show x 258 ((xa.toNat : Nat) : Int) = l; rw [show ((xa.toNat : Nat) : Int) = xa by omega]; exact c17)
                     unfold hldP
                     rw [this]
                     omega
                   have hhc : 0 ≤ hldP x l := by omega
                   refine fin xa h (by omega) ⟨Off.rf, fun _ _ _ _ => rfl, ?_, ?_, ?_⟩ (by unfold hldQ; rw [pik_t hhc]; exact hhit)
                   · unfold hldM; rw [pik_t hhc]; exact hR.2.2.2.2.1
                   · unfold hldM; rw [pik_t hhc]; exact hR.2.2.2.2.2.1
                   · unfold hldM; rw [pik_t hhc]; exact hR.2.2.2.2.2.2.1
                   done)
                | (exfalso; omega)
                | (have hno : hldP x l = -4 := fP_no _ _ (fun j a b => by
                     have := hne (j : Int) (by omega) (by omega)
                     exact this)
                   have hnc : ¬ 0 ≤ hldP x l := by omega
                   have hQ : hldQ x l = (if x 255 13 < x 255 14 + 1 then x 255 13 else x 255 14 + 1) - 1 := by unfold hldQ; rw [pik_f hnc]
                   rw [hset_s, e26, hset_i (by decide), hR.2.2.2.2.2.1, hR.2.2.2.2.1]
                   refine fin _ _ (by omega) ⟨((Off.set (S := fun c => c = 259) rfl).tr (Off.set rfl)).tr (Off.set rfl), fun j a b c => ?_, ?_, ?_, ?_⟩ ?_
                   · rw [hset_i c, hset_i b, hset_i a]
                   · rw [hset_i (by decide), hset_i (by decide), hset_s]
                     unfold hldM; rw [pik_f hnc, hset_i (by decide), hset_i (by decide), hset_s]
                   · rw [hset_i (by decide), hset_s]
                     unfold hldM; rw [pik_f hnc, hset_i (by decide), hset_s, lAd_off hX, lAd_off hX]
                   · rw [hset_s]
                     unfold hldM; rw [pik_f hnc, hset_s]
                     first | rw [if_pos (by omega)] | rw [if_neg (by omega)]
                     try omega
                   · rw [hQ]
                     first | rw [if_pos (by omega)] | rw [if_neg (by omega)]
                     try omega)
        · rw [hR.2.2.2.2.2.2.2.2.2 xa (by omega) c7] at c17
          refine x_iinc 23 (L' := [(0, _), (1, _), (2, _)]) (xd DX9_holdLine rfl) rfl (by decide) rfl rfl rfl ?_
          refine x_goto 2 (xd DX9_holdLine rfl) rfl ?_
          exact ih (xa + 1) (by omega) (by omega) (by omega) (fun j a b => by
            by_cases e : j = xa
            · rw [e]; exact c17
            · exact hne j a (by omega))
  refine x_iconst 1 (xd DX9_holdLine rfl) rfl ?_
  refine x_istore_n 2 (L' := [(0, _), (1, _), (2, _)]) (xd DX9_holdLine rfl) (by decide) rfl rfl rfl ?_
  exact loop 8 0 (by omega) (by omega) (by omega) (fun j a b => absurd b (by omega))

