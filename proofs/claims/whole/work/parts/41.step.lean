/-! Run: lines held, a step, a run-/
def rset (h : XH) (c : Nat) (f : Int → Int) : XH := fun c' j => if c' = c then f j else h c' j
theorem rset_s {h : XH} {c : Nat} {f : Int → Int} : rset h c f c = f := by funext j; unfold rset; exact if_pos rfl
theorem rset_c {h : XH} {c d : Nat} {f : Int → Int} (e : d ≠ c) : rset h c f d = h d := by funext j; unfold rset; exact if_neg e
noncomputable def hldP (h : XH) (l : Int) : Int := fP (fun j => h 258 j = l) 0 (h 255 14).toNat
/-- the counts after a line is used -/
noncomputable def hldM (h : XH) (k : Nat) (l : Int) : XH := pik (0 ≤ hldP h l) h (hset (hset (hset h 255 15 (h 255 15 + 1)) 255 16 (h 255 16 + (lAd h k (l + 1) - lAd h k l))) 255 14 (if h 255 13 < h 255 14 + 1 then h 255 13 else h 255 14 + 1))
noncomputable def hldQ (h : XH) (l : Int) : Int := pik (0 ≤ hldP h l) (hldP h l) ((if h 255 13 < h 255 14 + 1 then h 255 13 else h 255 14 + 1) - 1)
noncomputable def useH (h : XH) (k : Nat) (l : Int) : XH := rset (hldM h k l) 258 (fun j => if j = 0 then l else if 0 < j ∧ j ≤ hldQ h l then h 258 (j - 1) else h 258 j)
/-- a run's numbers -/
def RW (h : XH) : Prop := (h 255 5 = 0 ∨ h 255 5 = 1) ∧ (h 255 6 = 0 ∨ h 255 6 = 1) ∧ (h 255 7 = 0 ∨ h 255 7 = 1) ∧ (h 255 8 = 0 ∨ h 255 8 = 1) ∧ (h 255 6 = 0 → 0 ≤ h 255 9 ∧ h 255 9 < h 4 3) ∧ xrg (h 255 10) ∧ (0 ≤ h 255 12 ∧ h 255 12 ≤ 12) ∧ (1 ≤ h 255 13 ∧ h 255 13 ≤ 4) ∧ (0 ≤ h 255 14 ∧ h 255 14 ≤ h 255 13) ∧ (∀ j, 0 ≤ j → j < 10 → xrg (h 256 j)) ∧ ∀ j, 0 ≤ j → j < h 255 14 → xrg (h 258 j)
set_option maxRecDepth 100000 in
set_option maxHeartbeats 4000000 in
theorem pX5_placeOf {K : XK} {n : Nat} {h : XH} (l : Int) (hl : xrg l) (hc : 0 ≤ h 255 14 ∧ h 255 14 ≤ 4) (hr : ∀ j, 0 ≤ j → j < h 255 14 → xrg (h 258 j)) : MI K mX5_placeOf 0 n [vr 255, vi l] h (fun z h' => z = hldP h l ∧ h' = h) := by
  refine xMeth FX5_placeOf (Nat.le_of_ble_eq_true rfl) ?_
  have loop : ∀ (m : Nat) (xi : Nat), (xi : Int) ≤ h 255 14 → h 255 14 - xi < (m : Int) → fP (fun j => h 258 j = l) xi ((h 255 14).toNat - xi) = fP (fun j => h 258 j = l) 0 (h 255 14).toNat → WI K mX5_placeOf 0 n (qI n fun z h' => z = hldP h l ∧ h' = h) 2 [(0, vr 255), (1, vi l), (2, vi (xi : Int))] [] h := by
    intro m
    induction m with
    | zero => intro xi a b; exact absurd b (by omega)
    | succ m ih =>
      intro xi h0 hm hf
      refine x_iload_n 3 (xd DX5_placeOf rfl) rfl rfl ?_
      refine x_aload_n 4 (xd DX5_placeOf rfl) rfl rfl ?_
      refine x_gi 7 14 rfl LX5_64 (xd DX5_placeOf rfl) rfl ⟨Or.inr ⟨rfl, by decide⟩, by decide⟩ rfl ?_
      refine x_icmp_ge 10 28 (xd DX5_placeOf rfl) rfl (by omega) (by omega) rfl (fun c7 => ?_) (fun c7 => ?_)
      · refine x_bipush 30 (xd DX5_placeOf rfl) rfl rfl ?_
        refine x_ri (xd DX5_placeOf rfl) rfl ?_
        refine ⟨?_, rfl⟩
        unfold hldP
        first
          | (rw [← hf, show (h 255 14).toNat - xi = ((h 255 14).toNat - xi - 1) + 1 by omega]
             unfold fP
             rw [pik_t (p := h 258 xi = l) c17])
          | (rw [← hf, show (h 255 14).toNat - xi = 0 by omega]
             rfl)
      · refine x_aload_n 11 (xd DX5_placeOf rfl) rfl rfl ?_
        refine x_gr 14 _ LX5_18 (xd DX5_placeOf rfl) rfl rfl ⟨by decide, by decide⟩ (by decide) rfl rfl ?_
        refine x_iload_n 15 (xd DX5_placeOf rfl) rfl rfl ?_
        refine x_iaload 16 (xd DX5_placeOf rfl) rfl ⟨Or.inr ⟨rfl, by decide⟩, by decide⟩ (by decide) (by omega) (by omega) rfl ?_
        refine x_iload_n 17 (xd DX5_placeOf rfl) rfl rfl ?_
        refine x_icmp_ne 20 22 (xd DX5_placeOf rfl) rfl (by first | omega | exact hr _ (by omega) (by omega)) (by first | omega | exact hr _ (by omega) (by omega)) rfl (fun c17 => ?_) (fun c17 => ?_)
        · refine x_iinc 25 (L' := [(0, _), (1, _), (2, _)]) (xd DX5_placeOf rfl) rfl (by decide) rfl rfl rfl ?_
          refine x_goto 2 (xd DX5_placeOf rfl) rfl ?_
          exact ih (xi + 1) (by omega) (by omega) (by rw [← hf, show (h 255 14).toNat - xi = ((h 255 14).toNat - (xi + 1)) + 1 by omega]; conv => rhs; unfold fP
                                                      rw [pik_f (p := h 258 xi = l) c17])
        · refine x_iload_n 21 (xd DX5_placeOf rfl) rfl rfl ?_
          refine x_ri (xd DX5_placeOf rfl) rfl ?_
          refine ⟨?_, rfl⟩
          unfold hldP
          first
            | (rw [← hf, show (h 255 14).toNat - xi = ((h 255 14).toNat - xi - 1) + 1 by omega]
               unfold fP
               rw [pik_t (p := h 258 xi = l) c17])
            | (rw [← hf, show (h 255 14).toNat - xi = 0 by omega]
               rfl)
  refine x_iconst 1 (xd DX5_placeOf rfl) rfl ?_
  refine x_istore_n 2 (L' := [(0, _), (1, _), (2, _)]) (xd DX5_placeOf rfl) (by decide) rfl rfl rfl ?_
  exact loop 100 0 (by omega) (by omega) rfl

set_option maxRecDepth 100000 in
set_option maxHeartbeats 4000000 in
theorem pX5_useLine {K : XK} {n : Nat} {h : XH} (l : Int) (k : Nat) (hP : PW h) (hR : RW h) (hl : 0 ≤ l ∧ l < 1000) (hk : h 192 15 = (k : Int)) (hk4 : k ≤ 4) : MV K mX5_useLine 3 n [vr 255, vi l] h (fun h' => h' = useH h k l) := by
  refine xMeth FX5_useLine (Nat.le_of_ble_eq_true rfl) ?_
  have hP1 := hP.1
  obtain ⟨r5, r6, r7, r8, r9, r10, r12, r13, r14, r256, r258⟩ := id hR
  have loop : ∀ (xb : XH) (pq : Int), xb = hldM h k l → pq = hldQ h l → (0 ≤ pq ∧ pq < 4) → ∀ (m : Nat) (xk : Int) (xg : XH), 0 ≤ xk → xk ≤ pq → xk < (m : Int) → (∀ c, c ≠ 258 → xg c = xb c) → (∀ j, xg 258 j = (if xk < j ∧ j ≤ pq then h 258 (j - 1) else h 258 j)) → WI K mX5_useLine 3 n (qV n fun h' => h' = useH h k l) 63 [(0, vr 255), (1, vi l), (2, vi pq), (3, vi xk)] [] xg := by
    intro xb pq hbM hpq hp4 m
    induction m with
    | zero => intro xk xg a b c; exact absurd c (by omega)
    | succ m ih =>
      intro xk xg h0 h1 hm hoth hrow
      refine x_iload_n 64 (xd DX5_useLine rfl) rfl rfl ?_
      refine x_if_le 67 87 (xd DX5_useLine rfl) rfl (by omega) rfl (fun c64 => ?_) (fun c64 => ?_)
      · refine x_aload_n 88 (xd DX5_useLine rfl) rfl rfl ?_
        refine x_gr 91 _ LX5_18 (xd DX5_useLine rfl) rfl rfl ⟨by decide, by decide⟩ (by decide) rfl rfl ?_
        refine x_iconst 92 (xd DX5_useLine rfl) rfl ?_
        refine x_iload_n 93 (xd DX5_useLine rfl) rfl rfl ?_
        refine x_iastore 94 (xd DX5_useLine rfl) rfl ⟨Or.inr ⟨rfl, by decide⟩, by decide⟩ (by decide) (by omega) (by omega) rfl ?_
        refine x_rv (xd DX5_useLine rfl) rfl ?_
        have hk0 : xk = 0 := by omega
        subst hk0
        unfold useH
        rw [← hbM, ← hpq]
        funext c j
        unfold rset
        by_cases q : c = 258
        · subst q
          rw [if_pos rfl]
          show _ = (if j = 0 then l else if 0 < j ∧ j ≤ pq then h 258 (j - 1) else h 258 j)
          by_cases q2 : j = 0
          · subst q2; rw [hset_s, if_pos rfl]
          · rw [hset_i q2, if_neg q2, hrow j]
        · rw [if_neg q, hset_c q, hoth c q]
      · refine x_aload_n 68 (xd DX5_useLine rfl) rfl rfl ?_
        refine x_gr 71 _ LX5_18 (xd DX5_useLine rfl) rfl rfl ⟨by decide, by decide⟩ (by decide) rfl rfl ?_
        refine x_iload_n 72 (xd DX5_useLine rfl) rfl rfl ?_
        refine x_aload_n 73 (xd DX5_useLine rfl) rfl rfl ?_
        refine x_gr 76 _ LX5_18 (xd DX5_useLine rfl) rfl rfl ⟨by decide, by decide⟩ (by decide) rfl rfl ?_
        refine x_iload_n 77 (xd DX5_useLine rfl) rfl rfl ?_
        refine x_iconst 78 (xd DX5_useLine rfl) rfl ?_
        refine x_isub 79 (xd DX5_useLine rfl) rfl ?_
        refine x_iaload 80 (xd DX5_useLine rfl) rfl ⟨Or.inr ⟨rfl, by decide⟩, by decide⟩ (by decide) (by omega) (by omega) rfl ?_
        refine x_iastore 81 (xd DX5_useLine rfl) rfl ⟨Or.inr ⟨rfl, by decide⟩, by decide⟩ (by decide) (by omega) (by omega) rfl ?_
        refine x_iinc 84 (L' := [(0, _), (1, _), (2, _), (3, _)]) (xd DX5_useLine rfl) rfl (by decide) rfl rfl rfl ?_
        refine x_goto 63 (xd DX5_useLine rfl) rfl ?_
        refine ih (xk + -1) _ (by omega) (by omega) (by omega) (fun c a => by rw [hset_c a]; exact hoth c a) (fun j => ?_)
        by_cases q : j = xk
        · subst q
          rw [hset_s, if_pos (by omega), hrow (j - 1), if_neg (by omega)]
        · rw [hset_i q, hrow j]
          by_cases q2 : xk < j ∧ j ≤ pq
          · rw [if_pos q2, if_pos (by omega)]
          · rw [if_neg q2, if_neg (by omega)]
  refine x_aload_n 1 (xd DX5_useLine rfl) rfl rfl ?_
  refine x_iload_n 2 (xd DX5_useLine rfl) rfl rfl ?_
  refine x_Vi 5 (pX5_placeOf l (by omega) (by have := hR.2.2.2.2.2.2.2.2.1; have := hR.2.2.2.2.2.2.2.1; omega) hR.2.2.2.2.2.2.2.2.2.2) FX5_placeOf VX5_placeOf CX5_124 (xd DX5_useLine rfl) rfl rfl rfl ⟨by decide, rfl⟩ ⟨by decide, by decide⟩ (by decide) (Nat.le_of_ble_eq_true rfl) (by decide) rfl ?_
  rintro z9 h9 ⟨q1, q2⟩
  rw [q1, q2]
  clear q1 q2 z9 h9
  refine x_istore_n 6 (L' := [(0, _), (1, _), (2, _)]) (xd DX5_useLine rfl) (by decide) rfl rfl rfl ?_
  refine x_iload_n 7 (xd DX5_useLine rfl) rfl rfl ?_
  refine x_if_ge 10 61 (xd DX5_useLine rfl) rfl (by have := fP_rg (fun j => h 258 j = l) (h 255 14).toNat 0; unfold hldP; omega) rfl (fun c7 => ?_) (fun c7 => ?_)
  · refine x_iload_n 62 (xd DX5_useLine rfl) rfl rfl ?_
    refine x_istore_n 63 (L' := [(0, _), (1, _), (2, _), (3, _)]) (xd DX5_useLine rfl) (by decide) rfl rfl rfl ?_
    first
      | exact loop h (hldP h l) (by unfold hldM; rw [pik_t c7]) (by unfold hldQ; rw [pik_t c7]) (by have := fP_rg (fun j => h 258 j = l) (h 255 14).toNat 0; unfold hldP at *; omega) 100 (hldP h l) h c7 (Int.le_refl _) (by have := fP_rg (fun j => h 258 j = l) (h 255 14).toNat 0; unfold hldP at *; omega) (fun c a => rfl) (fun j => by rw [if_neg (by omega)])
      | (rw [hset_s]
         refine loop _ _ (by unfold hldM; rw [pik_f (by omega)]) (by unfold hldQ; rw [pik_f (by omega)]) (by split <;> omega) 100 _ _ (by split <;> omega) (Int.le_refl _) (by split <;> omega) (fun c a => rfl) (fun j => ?_)
         rw [hset_c (by decide), hset_c (by decide), hset_c (by decide), if_neg (by omega)])
  · refine x_aload_n 11 (xd DX5_useLine rfl) rfl rfl ?_
    refine x_dupr 12 (xd DX5_useLine rfl) rfl ?_
    refine x_gi 15 15 rfl LX5_67 (xd DX5_useLine rfl) rfl ⟨Or.inr ⟨rfl, by decide⟩, by decide⟩ rfl ?_
    refine x_iconst 16 (xd DX5_useLine rfl) rfl ?_
    refine x_iadd 17 (xd DX5_useLine rfl) rfl ?_
    refine x_pi 20 15 rfl LX5_67 (xd DX5_useLine rfl) rfl rfl ⟨Or.inr ⟨rfl, by decide⟩, by decide⟩ rfl ?_
    refine x_aload_n 21 (xd DX5_useLine rfl) rfl rfl ?_
    refine x_dupr 22 (xd DX5_useLine rfl) rfl ?_
    refine x_gi 25 16 rfl LX5_70 (xd DX5_useLine rfl) rfl ⟨Or.inr ⟨rfl, by decide⟩, by decide⟩ rfl ?_
    refine x_aload_n 26 (xd DX5_useLine rfl) rfl rfl ?_
    refine x_gr 29 _ LX5_25 (xd DX5_useLine rfl) rfl rfl ⟨by decide, by decide⟩ (by decide) rfl rfl ?_
    refine x_iload_n 30 (xd DX5_useLine rfl) rfl rfl ?_
    refine x_Vi 33 (pX3_lineNibbles l k (hP.off (ocell (c := 255)) (by decide) (by decide) (by decide) (by decide)) (by rw [hset_c (by decide)]; exact hk) hk4 (by omega)) FX3_lineNibbles VX3_lineNibbles CX5_127 (xd DX5_useLine rfl) rfl rfl rfl ⟨by decide, rfl⟩ ⟨by decide, by decide⟩ (by decide) (Nat.le_of_ble_eq_true rfl) (by decide) rfl ?_
    rintro z9 h9 ⟨q1, q2⟩
    rw [q1, q2]
    clear q1 q2 z9 h9
    refine x_iadd 34 (xd DX5_useLine rfl) rfl ?_
    refine x_pi 37 16 rfl LX5_70 (xd DX5_useLine rfl) rfl rfl ⟨Or.inr ⟨rfl, by decide⟩, by decide⟩ rfl ?_
    have eL : ∀ x, lAd (hset h 255 15 (h 255 15 + 1)) k x = lAd h k x := fun x => by unfold lAd; rw [hset_c (d := 4) (by decide), hset_c (d := 251) (by decide), hset_c (d := 192) (by decide)]
    rw [eL, eL, hset_i (h := h) (c := 255) (k := 15) (j := 16) (by decide)]
    have e13 : hset (hset h 255 15 (h 255 15 + 1)) 255 16 (h 255 16 + (lAd h k (l + 1) - lAd h k l)) 255 13 = h 255 13 := by rw [hset_i (by decide), hset_i (by decide)]
    have e14 : hset (hset h 255 15 (h 255 15 + 1)) 255 16 (h 255 16 + (lAd h k (l + 1) - lAd h k l)) 255 14 = h 255 14 := by rw [hset_i (by decide), hset_i (by decide)]
    refine x_aload_n 38 (xd DX5_useLine rfl) rfl rfl ?_
    refine x_aload_n 39 (xd DX5_useLine rfl) rfl rfl ?_
    refine x_gi 42 14 rfl LX5_64 (xd DX5_useLine rfl) rfl ⟨Or.inr ⟨rfl, by decide⟩, by decide⟩ rfl ?_
    refine x_iconst 43 (xd DX5_useLine rfl) rfl ?_
    refine x_iadd 44 (xd DX5_useLine rfl) rfl ?_
    refine x_aload_n 45 (xd DX5_useLine rfl) rfl rfl ?_
    refine x_gi 48 13 rfl LX5_61 (xd DX5_useLine rfl) rfl ⟨Or.inr ⟨rfl, by decide⟩, by decide⟩ rfl ?_
    refine x_min 51 mmLX5_55 mmS mmI mmC (xd DX5_useLine rfl) ⟨by decide, Nat.le_refl _, Nat.le_refl _⟩ (Nat.le_of_ble_eq_true rfl) (by rw [e14]; omega) (by rw [e13]; omega) rfl ?_
    rw [e13, e14]
    refine x_pi 54 14 rfl LX5_64 (xd DX5_useLine rfl) rfl rfl ⟨Or.inr ⟨rfl, by decide⟩, by decide⟩ rfl ?_
    refine x_aload_n 55 (xd DX5_useLine rfl) rfl rfl ?_
    refine x_gi 58 14 rfl LX5_64 (xd DX5_useLine rfl) rfl ⟨Or.inr ⟨rfl, by decide⟩, by decide⟩ rfl ?_
    refine x_iconst 59 (xd DX5_useLine rfl) rfl ?_
    refine x_isub 60 (xd DX5_useLine rfl) rfl ?_
    refine x_istore_n 61 (L' := [(0, _), (1, _), (2, _)]) (xd DX5_useLine rfl) (by decide) rfl rfl rfl ?_
    refine x_iload_n 62 (xd DX5_useLine rfl) rfl rfl ?_
    refine x_istore_n 63 (L' := [(0, _), (1, _), (2, _), (3, _)]) (xd DX5_useLine rfl) (by decide) rfl rfl rfl ?_
    first
      | exact loop h (hldP h l) (by unfold hldM; rw [pik_t c7]) (by unfold hldQ; rw [pik_t c7]) (by have := fP_rg (fun j => h 258 j = l) (h 255 14).toNat 0; unfold hldP at *; omega) 100 (hldP h l) h c7 (Int.le_refl _) (by have := fP_rg (fun j => h 258 j = l) (h 255 14).toNat 0; unfold hldP at *; omega) (fun c a => rfl) (fun j => by rw [if_neg (by omega)])
      | (rw [hset_s]
         refine loop _ _ (by unfold hldM; rw [pik_f (by omega)]) (by unfold hldQ; rw [pik_f (by omega)]) (by split <;> omega) 100 _ _ (by split <;> omega) (Int.le_refl _) (by split <;> omega) (fun c a => rfl) (fun j => ?_)
         rw [hset_c (by decide), hset_c (by decide), hset_c (by decide), if_neg (by omega)])

set_option maxRecDepth 100000 in
set_option maxHeartbeats 4000000 in
theorem pX4_targetCount {K : XK} {n : Nat} {h : XH} (hP : PW h) : MI K mX4_targetCount 0 n [vr 4] h (fun z h' => z = cntR (fun j => h 7 j = 1) 0 (h 4 3).toNat ∧ h' = h) := by
  refine xMeth FX4_targetCount (Nat.le_of_ble_eq_true rfl) ?_
  have hP1 := hP.1
  have loop : ∀ (m : Nat) (xi : Nat) (xz : Int), (xi : Int) ≤ h 4 3 → h 4 3 - xi < (m : Int) → xz = cntR (fun j => h 7 j = 1) 0 xi → WI K mX4_targetCount 0 n (qI n fun z h' => z = cntR (fun j => h 7 j = 1) 0 (h 4 3).toNat ∧ h' = h) 4 [(0, vr 4), (1, vi xz), (2, vi (xi : Int))] [] h := by
    intro m
    induction m with
    | zero => intro xi xz a b; exact absurd b (by omega)
    | succ m ih =>
      intro xi xz h0 hm hz
      refine x_iload_n 5 (xd DX4_targetCount rfl) rfl rfl ?_
      refine x_aload_n 6 (xd DX4_targetCount rfl) rfl rfl ?_
      refine x_gi 9 3 rfl LX4_28 (xd DX4_targetCount rfl) rfl ⟨Or.inr ⟨rfl, by decide⟩, by decide⟩ rfl ?_
      refine x_icmp_ge 12 30 (xd DX4_targetCount rfl) rfl (by omega) (by omega) rfl (fun c9 => ?_) (fun c9 => ?_)
      · refine x_iload_n 31 (xd DX4_targetCount rfl) rfl rfl ?_
        refine x_ri (xd DX4_targetCount rfl) rfl ?_
        refine ⟨?_, rfl⟩
        rw [hz, show (h 4 3).toNat = xi by omega]
      · refine x_aload_n 13 (xd DX4_targetCount rfl) rfl rfl ?_
        refine x_gr 16 _ LX4_18 (xd DX4_targetCount rfl) rfl rfl ⟨by decide, by decide⟩ (by decide) rfl rfl ?_
        refine x_iload_n 17 (xd DX4_targetCount rfl) rfl rfl ?_
        refine x_baload 18 (xd DX4_targetCount rfl) rfl ⟨Or.inr ⟨rfl, by decide⟩, by decide⟩ (by decide) (by omega) (by omega) rfl ?_
        refine x_if_eq 21 24 (xd DX4_targetCount rfl) rfl (by have := (hP.2 (xi : Int) (by omega) (by omega)).2.2.2.2; omega) rfl (fun c18 => ?_) (fun c18 => ?_)
        · refine x_iinc 27 (L' := [(0, _), (1, _), (2, _)]) (xd DX4_targetCount rfl) rfl (by decide) rfl rfl rfl ?_
          refine x_goto 4 (xd DX4_targetCount rfl) rfl ?_
          have h79 := (hP.2 (xi : Int) (by omega) (by omega)).2.2.2.2
          first
            | exact ih (xi + 1) _ (by omega) (by omega) (by unfold cntR; rw [Nat.zero_add, ← xp_f (p := h 7 xi = 1) (by omega), hz, Int.add_zero])
            | exact ih (xi + 1) _ (by omega) (by omega) (by unfold cntR; rw [Nat.zero_add, ← xp_t (p := h 7 xi = 1) (by omega), hz])
        · refine x_iinc 24 (L' := [(0, _), (1, _), (2, _)]) (xd DX4_targetCount rfl) rfl (by decide) rfl rfl rfl ?_
          refine x_iinc 27 (L' := [(0, _), (1, _), (2, _)]) (xd DX4_targetCount rfl) rfl (by decide) rfl rfl rfl ?_
          refine x_goto 4 (xd DX4_targetCount rfl) rfl ?_
          have h79 := (hP.2 (xi : Int) (by omega) (by omega)).2.2.2.2
          first
            | exact ih (xi + 1) _ (by omega) (by omega) (by unfold cntR; rw [Nat.zero_add, ← xp_f (p := h 7 xi = 1) (by omega), hz, Int.add_zero])
            | exact ih (xi + 1) _ (by omega) (by omega) (by unfold cntR; rw [Nat.zero_add, ← xp_t (p := h 7 xi = 1) (by omega), hz])
  refine x_iconst 1 (xd DX4_targetCount rfl) rfl ?_
  refine x_istore_n 2 (L' := [(0, _), (1, _)]) (xd DX4_targetCount rfl) (by decide) rfl rfl rfl ?_
  refine x_iconst 3 (xd DX4_targetCount rfl) rfl ?_
  refine x_istore_n 4 (L' := [(0, _), (1, _), (2, _)]) (xd DX4_targetCount rfl) (by decide) rfl rfl rfl ?_
  exact loop 100 0 0 (by omega) (by omega) rfl

def plN (h : XH) : Nat → Int
  | 0 => 0
  | i + 1 => plN h i + kOwn (h 5 i)
set_option maxRecDepth 100000 in
set_option maxHeartbeats 4000000 in
theorem pX4_plainNibbles {K : XK} {n : Nat} {h : XH} (hP : PW h) : MI K mX4_plainNibbles 2 n [vr 4] h (fun z h' => z = plN h (h 4 3).toNat ∧ h' = h) := by
  refine xMeth FX4_plainNibbles (Nat.le_of_ble_eq_true rfl) ?_
  have hP1 := hP.1
  have loop : ∀ (m : Nat) (xi : Nat) (xz : Int), (xi : Int) ≤ h 4 3 → h 4 3 - xi < (m : Int) → xz = plN h xi → WI K mX4_plainNibbles 2 n (qI n fun z h' => z = plN h (h 4 3).toNat ∧ h' = h) 4 [(0, vr 4), (1, vi xz), (2, vi (xi : Int))] [] h := by
    intro m
    induction m with
    | zero => intro xi xz a b; exact absurd b (by omega)
    | succ m ih =>
      intro xi xz h0 hm hz
      refine x_iload_n 5 (xd DX4_plainNibbles rfl) rfl rfl ?_
      refine x_aload_n 6 (xd DX4_plainNibbles rfl) rfl rfl ?_
      refine x_gi 9 3 rfl LX4_28 (xd DX4_plainNibbles rfl) rfl ⟨Or.inr ⟨rfl, by decide⟩, by decide⟩ rfl ?_
      refine x_icmp_ge 12 30 (xd DX4_plainNibbles rfl) rfl (by omega) (by omega) rfl (fun c9 => ?_) (fun c9 => ?_)
      · refine x_iload_n 31 (xd DX4_plainNibbles rfl) rfl rfl ?_
        refine x_ri (xd DX4_plainNibbles rfl) rfl ?_
        refine ⟨?_, rfl⟩
        rw [hz, show (h 4 3).toNat = xi by omega]
      · refine x_iload_n 13 (xd DX4_plainNibbles rfl) rfl rfl ?_
        refine x_aload_n 14 (xd DX4_plainNibbles rfl) rfl rfl ?_
        refine x_gr 17 _ LX4_9 (xd DX4_plainNibbles rfl) rfl rfl ⟨by decide, by decide⟩ (by decide) rfl rfl ?_
        refine x_iload_n 18 (xd DX4_plainNibbles rfl) rfl rfl ?_
        refine x_iaload 19 (xd DX4_plainNibbles rfl) rfl ⟨Or.inr ⟨rfl, by decide⟩, by decide⟩ (by decide) (by omega) (by omega) rfl ?_
        refine x_Si 22 (pX8_nibblesOf _ (by have := hP.v (i := (xi : Int)) (by omega) (by omega); omega)) FX8_nibblesOf VX8_nibblesOf CX4_45 (xd DX4_plainNibbles rfl) rfl rfl (by decide) (Nat.le_of_ble_eq_true rfl) (by decide) rfl ?_
        rintro z9 h9 ⟨q1, q2⟩
        rw [q1, q2]
        clear q1 q2 z9 h9
        refine x_iadd 23 (xd DX4_plainNibbles rfl) rfl ?_
        refine x_istore_n 24 (L' := [(0, _), (1, _), (2, _)]) (xd DX4_plainNibbles rfl) (by decide) rfl rfl rfl ?_
        refine x_iinc 27 (L' := [(0, _), (1, _), (2, _)]) (xd DX4_plainNibbles rfl) rfl (by decide) rfl rfl rfl ?_
        refine x_goto 4 (xd DX4_plainNibbles rfl) rfl ?_
        exact ih (xi + 1) _ (by omega) (by omega) (by rw [hz]; rfl)
  refine x_iconst 1 (xd DX4_plainNibbles rfl) rfl ?_
  refine x_istore_n 2 (L' := [(0, _), (1, _)]) (xd DX4_plainNibbles rfl) (by decide) rfl rfl rfl ?_
  refine x_iconst 3 (xd DX4_plainNibbles rfl) rfl ?_
  refine x_istore_n 4 (L' := [(0, _), (1, _), (2, _)]) (xd DX4_plainNibbles rfl) (by decide) rfl rfl rfl ?_
  exact loop 100 0 0 (by omega) (by omega) rfl

