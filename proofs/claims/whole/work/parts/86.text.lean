/-! a text, and what it tells -/
def dgt (f : Int → Int) (N k : Int) : Prop := k < N ∧ 48 ≤ f k ∧ f k ≤ 57
noncomputable def wdt (f : Int → Int) (N p : Int) : Int := if kix (f p) < 0 then 0 else if 6 < kix (f p) ∧ kix (f p) ≤ 9 then pik (dgt f N (p + 1) ∧ dgt f N (p + 2)) 3 0 else if kix (f p) ≤ 6 then pik (dgt f N (p + 1)) 2 0 else 1
def vlF (f : Int → Int) (p : Int) : Int := if 0 ≤ kix (f p) ∧ kix (f p) ≤ 6 then f (p + 1) - 48 else if 6 < kix (f p) ∧ kix (f p) ≤ 9 then 10 * (f (p + 1) - 48) + f (p + 2) - 48 else -4
noncomputable def stN (f : Int → Int) (N : Int) : Nat → Int
  | 0 => 0
  | k + 1 => stN f N k + wdt f N (stN f N k)
theorem stN_s (f : Int → Int) (N : Int) (k : Nat) : stN f N (k + 1) = stN f N k + wdt f N (stN f N k) := rfl
theorem wdt_rg (f : Int → Int) (N p : Int) : 0 ≤ wdt f N p ∧ wdt f N p ≤ 3 := by
  unfold wdt
  split
  · decide
  · split
    · by_cases q : dgt f N (p + 1) ∧ dgt f N (p + 2)
      · rw [pik_t q]; decide
      · rw [pik_f q]; decide
    · split
      · by_cases q : dgt f N (p + 1)
        · rw [pik_t q]; decide
        · rw [pik_f q]; decide
      · decide
/-- n instructions stand one behind the other, the next would begin at p -/
def Prs (f : Int → Int) (N : Int) (n : Nat) (p : Int) : Prop := p = stN f N n ∧ n ≤ 48 ∧ ∀ k : Nat, k < n → stN f N k < N ∧ 0 < wdt f N (stN f N k)
def PrE (f : Int → Int) (N : Int) (n : Nat) (p : Int) : Prop := N ≤ p ∨ n = 48 ∨ wdt f N p = 0
theorem Prs.lt {f : Int → Int} {N : Int} {n n' : Nat} {p p' : Int} (h : Prs f N n p) (e : PrE f N n p) (h' : Prs f N n' p') : n' ≤ n := by
  refine Classical.byContradiction (fun q => ?_)
  have := h'.2.2 n (by omega)
  rw [← h.1] at this
  have := h'.2.1
  rcases e with e | e | e <;> omega
theorem Prs.one {f : Int → Int} {N : Int} {n n' : Nat} {p p' : Int} (h : Prs f N n p) (e : PrE f N n p) (h' : Prs f N n' p') (e' : PrE f N n' p') : n = n' ∧ p = p' := by
  have a := h.lt e h'
  have b := h'.lt e' h
  have c : n = n' := by omega
  subst c
  exact ⟨rfl, h.1.trans h'.1.symm⟩
theorem Prs.nn {f : Int → Int} {N : Int} : ∀ n : Nat, 0 ≤ stN f N n
  | 0 => Int.le_refl 0
  | n + 1 => by
    have := Prs.nn (f := f) (N := N) n
    have := wdt_rg f N (stN f N n)
    rw [stN_s]
    omega
theorem Prs.step {f : Int → Int} {N : Int} {n : Nat} {p : Int} (h : Prs f N n p) (hp : p < N) (hn : n < 48) (hw : 0 < wdt f N p) : Prs f N (n + 1) (p + wdt f N p) := by
  refine ⟨by rw [stN_s, ← h.1], by omega, fun k hk => ?_⟩
  by_cases e : k = n
  · rw [e, ← h.1]; exact ⟨hp, hw⟩
  · exact h.2.2 k (by omega)
theorem wdt_in {f : Int → Int} {N p : Int} (hp : p < N) (hw : 0 < wdt f N p) : 0 ≤ kix (f p) ∧ kix (f p) ≤ 11 ∧ ltr (kix (f p)) = f p ∧ p + wdt f N p ≤ N ∧ (kTgt (kix (f p)) → wdt f N p = 3 ∧ dgt f N (p + 1) ∧ dgt f N (p + 2)) ∧ (kSim (kix (f p)) → wdt f N p = 2 ∧ dgt f N (p + 1)) ∧ (¬ kTgt (kix (f p)) → ¬ kSim (kix (f p)) → wdt f N p = 1) := by
  have hc := kix_cs (f p)
  have h0 : 0 ≤ kix (f p) := by
    refine Classical.byContradiction (fun q => ?_)
    unfold wdt at hw
    rw [if_pos (by omega)] at hw
    omega
  have hc2 := hc.resolve_left (by omega)
  unfold wdt at hw ⊢
  rw [if_neg (by omega)] at hw ⊢
  unfold kTgt kSim
  by_cases q1 : 6 < kix (f p) ∧ kix (f p) ≤ 9
  · rw [if_pos q1] at hw ⊢
    by_cases q : dgt f N (p + 1) ∧ dgt f N (p + 2)
    · rw [pik_t q]
      exact ⟨h0, hc2.2.1, hc2.2.2, by have := q.2.1; omega, fun _ => ⟨rfl, q⟩, fun w => by omega, fun w => absurd q1 w⟩
    · rw [pik_f q] at hw; omega
  · rw [if_neg q1] at hw ⊢
    by_cases q2 : kix (f p) ≤ 6
    · rw [if_pos q2] at hw ⊢
      by_cases q : dgt f N (p + 1)
      · rw [pik_t q]
        exact ⟨h0, hc2.2.1, hc2.2.2, by have := q.1; omega, fun w => absurd w q1, fun _ => ⟨rfl, q⟩, fun _ w => absurd ⟨h0, q2⟩ w⟩
      · rw [pik_f q] at hw; omega
    · rw [if_neg q2]
      exact ⟨h0, hc2.2.1, hc2.2.2, by omega, fun w => absurd w q1, fun w => absurd w.2 q2, fun _ _ => rfl⟩
/-- an instruction of which the place is none -/
def Lost (f : Int → Int) (N : Int) (n k : Nat) : Prop := kTgt (kix (f (stN f N k))) ∧ (n : Int) ≤ vlF f (stN f N k)
def LostR (f : Int → Int) (N : Int) (n : Nat) (z : Int) : Prop := (∃ k : Nat, k < n ∧ Lost f N n k ∧ (∀ j : Nat, j < k → ¬ Lost f N n j) ∧ z = stN f N k) ∨ ((∀ j : Nat, j < n → ¬ Lost f N n j) ∧ z = -4)
theorem LostR.one {f : Int → Int} {N : Int} {n : Nat} {z z' : Int} (h : LostR f N n z) (h' : LostR f N n z') : z = z' := by
  rcases h with ⟨k, k1, k2, k3, k4⟩ | ⟨k1, k2⟩ <;> rcases h' with ⟨j, j1, j2, j3, j4⟩ | ⟨j1, j2⟩
  · have : k = j := by
      rcases Nat.lt_trichotomy k j with q | q | q
      · exact absurd k2 (j3 k q)
      · exact q
      · exact absurd j2 (k3 j q)
    rw [k4, j4, this]
  · exact absurd k2 (j1 k k1)
  · exact absurd j2 (k1 j j1)
  · rw [k2, j2]
/-- the fault, n instructions read -/
def FltR (f : Int → Int) (N : Int) (n : Nat) (z : Int) : Prop := ∃ p, Prs f N n p ∧ PrE f N n p ∧ ((p < N ∧ z = p) ∨ (N ≤ p ∧ LostR f N n z))
theorem FltR.one {f : Int → Int} {N : Int} {n n' : Nat} {z z' : Int} (h : FltR f N n z) (h' : FltR f N n' z') : n = n' ∧ z = z' := by
  obtain ⟨p, p1, p2, p3⟩ := h
  obtain ⟨p', p1', p2', p3'⟩ := h'
  obtain ⟨e1, e2⟩ := p1.one p2 p1' p2'
  subst e1; subst e2
  refine ⟨rfl, ?_⟩
  rcases p3 with ⟨a, b⟩ | ⟨a, b⟩ <;> rcases p3' with ⟨a', b'⟩ | ⟨a', b'⟩
  · rw [b, b']
  · omega
  · omega
  · exact b.one b'
/-- the letters -/
def TxI (h : XH) : Prop := (0 ≤ h 1 2 ∧ h 1 2 ≤ 200) ∧ ∀ j, 0 ≤ j → j < h 1 2 → 32 ≤ h 2 j ∧ h 2 j ≤ 126
/-- what stands of the starts -/
def StI (h : XH) (n : Nat) : Prop := ∀ k : Nat, k < n → h 3 k = stN (h 2) (h 1 2) k
set_option maxRecDepth 100000 in
set_option maxHeartbeats 4000000 in
theorem pX7_append {K : XK} {n : Nat} {h : XH} (c : Int) (hc : 0 ≤ c ∧ c < 65536) (hT : TxI h) : MI K mX7_append 0 n [vr 1, vi c] h (fun zr h' => (200 ≤ h 1 2 → zr = -3 ∧ h' = h) ∧ (h 1 2 < 200 → zr = h 1 2 + 1 ∧ h' = hset (hset h 2 (h 1 2) c) 1 2 (h 1 2 + 1))) := by
  refine xMeth FX7_append (Nat.le_of_ble_eq_true rfl) ?_
  have hT1 := hT.1
  refine x_aload_n 1 (xd DX7_append rfl) rfl rfl ?_
  refine x_gi 4 2 rfl LX7_19 (xd DX7_append rfl) rfl ⟨Or.inr ⟨rfl, by decide⟩, by decide⟩ rfl ?_
  refine x_sipush 7 (xd DX7_append rfl) rfl rfl ?_
  refine x_icmp_lt 10 13 (xd DX7_append rfl) rfl (by omega) (by omega) rfl (fun c7 => ?_) (fun c7 => ?_)
  · refine x_aload_n 14 (xd DX7_append rfl) rfl rfl ?_
    refine x_gr 17 _ LX7_9 (xd DX7_append rfl) rfl rfl ⟨by decide, by decide⟩ (by decide) rfl rfl ?_
    refine x_aload_n 18 (xd DX7_append rfl) rfl rfl ?_
    refine x_gi 21 2 rfl LX7_19 (xd DX7_append rfl) rfl ⟨Or.inr ⟨rfl, by decide⟩, by decide⟩ rfl ?_
    refine x_iload_n 22 (xd DX7_append rfl) rfl rfl ?_
    refine x_castore 23 (xd DX7_append rfl) rfl ⟨Or.inr ⟨rfl, by decide⟩, by decide⟩ (by decide) (by omega) (by omega) (by omega) rfl ?_
    refine x_aload_n 24 (xd DX7_append rfl) rfl rfl ?_
    refine x_dupr 25 (xd DX7_append rfl) rfl ?_
    refine x_gi 28 2 rfl LX7_19 (xd DX7_append rfl) rfl ⟨Or.inr ⟨rfl, by decide⟩, by decide⟩ rfl ?_
    refine x_iconst 29 (xd DX7_append rfl) rfl ?_
    refine x_iadd 30 (xd DX7_append rfl) rfl ?_
    refine x_pi 33 2 rfl LX7_19 (xd DX7_append rfl) rfl rfl ⟨Or.inr ⟨rfl, by decide⟩, by decide⟩ rfl ?_
    refine x_aload_n 34 (xd DX7_append rfl) rfl rfl ?_
    refine x_gi 37 2 rfl LX7_19 (xd DX7_append rfl) rfl ⟨Or.inr ⟨rfl, by decide⟩, by decide⟩ rfl ?_
    refine x_ri (xd DX7_append rfl) rfl ?_
    rw [hset_s, hset_c (by decide)]
    exact ⟨fun q => absurd q (by omega), fun _ => ⟨rfl, rfl⟩⟩
  · refine x_bipush 12 (xd DX7_append rfl) rfl rfl ?_
    refine x_ri (xd DX7_append rfl) rfl ?_
    exact ⟨fun _ => ⟨rfl, rfl⟩, fun q => absurd q (by omega)⟩

set_option maxRecDepth 100000 in
set_option maxHeartbeats 4000000 in
theorem pX7_empty {K : XK} {n : Nat} {h : XH}  : MI K mX7_empty 0 n [vr 1] h (fun zr h' => zr = h 1 2 ∧ h' = hset h 1 2 0) := by
  refine xMeth FX7_empty (Nat.le_of_ble_eq_true rfl) ?_
  refine x_aload_n 1 (xd DX7_empty rfl) rfl rfl ?_
  refine x_gi 4 2 rfl LX7_19 (xd DX7_empty rfl) rfl ⟨Or.inr ⟨rfl, by decide⟩, by decide⟩ rfl ?_
  refine x_istore_n 5 (L' := [(0, _), (1, _)]) (xd DX7_empty rfl) (by decide) rfl rfl rfl ?_
  refine x_aload_n 6 (xd DX7_empty rfl) rfl rfl ?_
  refine x_iconst 7 (xd DX7_empty rfl) rfl ?_
  refine x_pi 10 2 rfl LX7_19 (xd DX7_empty rfl) rfl rfl ⟨Or.inr ⟨rfl, by decide⟩, by decide⟩ rfl ?_
  refine x_iload_n 11 (xd DX7_empty rfl) rfl rfl ?_
  refine x_ri (xd DX7_empty rfl) rfl ?_
  exact ⟨rfl, rfl⟩

set_option maxRecDepth 100000 in
set_option maxHeartbeats 4000000 in
theorem pX7_kindOf {K : XK} {n : Nat} {h : XH} (i : Int) (hi : 0 ≤ i ∧ i < 48) (hp : 0 ≤ h 3 i ∧ h 3 i < 200) (hl : 0 ≤ h 2 (h 3 i) ∧ h 2 (h 3 i) < 128) : MI K mX7_kindOf 4 n [vr 1, vi i] h (fun zr h' => zr = kix (h 2 (h 3 i)) ∧ h' = h) := by
  refine xMeth FX7_kindOf (Nat.le_of_ble_eq_true rfl) ?_
  refine x_ldcS 2 1 (fun U q => q.2.2.2.2.2.2.2.1) (xd DX7_kindOf rfl) rfl ?_
  refine x_aload_n 3 (xd DX7_kindOf rfl) rfl rfl ?_
  refine x_gr 6 _ LX7_9 (xd DX7_kindOf rfl) rfl rfl ⟨by decide, by decide⟩ (by decide) rfl rfl ?_
  refine x_aload_n 7 (xd DX7_kindOf rfl) rfl rfl ?_
  refine x_gr 10 _ LX7_15 (xd DX7_kindOf rfl) rfl rfl ⟨by decide, by decide⟩ (by decide) rfl rfl ?_
  refine x_iload_n 11 (xd DX7_kindOf rfl) rfl rfl ?_
  refine x_iaload 12 (xd DX7_kindOf rfl) rfl ⟨Or.inr ⟨rfl, by decide⟩, by decide⟩ (by decide) (by omega) (by omega) rfl ?_
  refine x_caload 13 (xd DX7_kindOf rfl) rfl ⟨Or.inr ⟨rfl, by decide⟩, by decide⟩ (by decide) (by omega) (by omega) rfl ?_
  refine x_Vs 16 (by omega) (pJ0_indexOf (h 2 (h 3 i)) hl) FJ0_indexOf_0f7a4 VJ0_indexOf_0f7a4 MX7_46 (xd DX7_kindOf rfl) rfl rfl rfl (by decide) (Nat.le_of_ble_eq_true rfl) (by decide) rfl ?_
  rintro z9 h9 ⟨q1, q2⟩
  rw [q1, q2]
  clear q1 q2 z9 h9
  refine x_ri (xd DX7_kindOf rfl) rfl ?_
  exact ⟨rfl, rfl⟩

set_option maxRecDepth 100000 in
set_option maxHeartbeats 4000000 in
theorem pX7_valueOf {K : XK} {n : Nat} {h : XH} (i : Int) (hi : 0 ≤ i ∧ i < 48) (hp : 0 ≤ h 3 i ∧ h 3 i < 200) (hl : 0 ≤ h 2 (h 3 i) ∧ h 2 (h 3 i) < 128) (hw : (kSim (kix (h 2 (h 3 i))) → h 3 i + 1 < 200) ∧ (kTgt (kix (h 2 (h 3 i))) → h 3 i + 2 < 200)) : MI K mX7_valueOf 5 n [vr 1, vi i] h (fun zr h' => zr = vlF (h 2) (h 3 i) ∧ h' = h) := by
  refine xMeth FX7_valueOf (Nat.le_of_ble_eq_true rfl) ?_
  have hk := kix_cs (h 2 (h 3 i))
  refine x_aload_n 1 (xd DX7_valueOf rfl) rfl rfl ?_
  refine x_iload_n 2 (xd DX7_valueOf rfl) rfl rfl ?_
  refine x_Vi 5 (pX7_kindOf i hi hp hl) FX7_kindOf VX7_kindOf CX7_34 (xd DX7_valueOf rfl) rfl rfl rfl ⟨by decide, rfl⟩ ⟨by decide, by decide⟩ (by decide) (Nat.le_of_ble_eq_true rfl) (by decide) rfl ?_
  rintro z9 h9 ⟨q1, q2⟩
  rw [q1, q2]
  clear q1 q2 z9 h9
  refine x_istore_n 6 (L' := [(0, _), (1, _), (2, _)]) (xd DX7_valueOf rfl) (by decide) rfl rfl rfl ?_
  refine x_aload_n 7 (xd DX7_valueOf rfl) rfl rfl ?_
  refine x_gr 10 _ LX7_15 (xd DX7_valueOf rfl) rfl rfl ⟨by decide, by decide⟩ (by decide) rfl rfl ?_
  refine x_iload_n 11 (xd DX7_valueOf rfl) rfl rfl ?_
  refine x_iaload 12 (xd DX7_valueOf rfl) rfl ⟨Or.inr ⟨rfl, by decide⟩, by decide⟩ (by decide) (by omega) (by omega) rfl ?_
  refine x_istore_n 13 (L' := [(0, _), (1, _), (2, _), (3, _)]) (xd DX7_valueOf rfl) (by decide) rfl rfl rfl ?_
  refine x_iload_n 14 (xd DX7_valueOf rfl) rfl rfl ?_
  refine x_Si 17 (pX8_isSimple (kix (h 2 (h 3 i))) (by omega)) FX8_isSimple VX8_isSimple CX7_51 (xd DX7_valueOf rfl) rfl rfl (by decide) (Nat.le_of_ble_eq_true rfl) (by decide) rfl ?_
  rintro z9 h9 ⟨q1, q2⟩
  rw [q1, q2]
  clear q1 q2 z9 h9
  refine x_ifp_eq 20 32 (xd DX7_valueOf rfl) rfl rfl (fun c17 => ?_) (fun c17 => ?_)
  · have hs2 : ¬ (0 ≤ kix (h 2 (h 3 i)) ∧ kix (h 2 (h 3 i)) ≤ 6) := c17
    refine x_iload_n 33 (xd DX7_valueOf rfl) rfl rfl ?_
    refine x_Si 36 (pX8_hasTarget (kix (h 2 (h 3 i))) (by omega)) FX8_hasTarget VX8_hasTarget CX7_37 (xd DX7_valueOf rfl) rfl rfl (by decide) (Nat.le_of_ble_eq_true rfl) (by decide) rfl ?_
    rintro z9 h9 ⟨q1, q2⟩
    rw [q1, q2]
    clear q1 q2 z9 h9
    refine x_ifp_eq 39 66 (xd DX7_valueOf rfl) rfl rfl (fun c36 => ?_) (fun c36 => ?_)
    · have ht2 : ¬ (6 < kix (h 2 (h 3 i)) ∧ kix (h 2 (h 3 i)) ≤ 9) := c36
      refine x_bipush 68 (xd DX7_valueOf rfl) rfl rfl ?_
      refine x_ri (xd DX7_valueOf rfl) rfl ?_
      refine ⟨?_, rfl⟩
      unfold vlF
      first
        | (rw [if_pos hs2]; done)
        | (rw [if_neg hs2, if_pos ht2]; done)
        | rw [if_neg hs2, if_neg ht2]
    · have ht2 : 6 < kix (h 2 (h 3 i)) ∧ kix (h 2 (h 3 i)) ≤ 9 := c36
      have hw3 := hw.2 c36
      refine x_bipush 41 (xd DX7_valueOf rfl) rfl rfl ?_
      refine x_aload_n 42 (xd DX7_valueOf rfl) rfl rfl ?_
      refine x_gr 45 _ LX7_9 (xd DX7_valueOf rfl) rfl rfl ⟨by decide, by decide⟩ (by decide) rfl rfl ?_
      refine x_iload_n 46 (xd DX7_valueOf rfl) rfl rfl ?_
      refine x_iconst 47 (xd DX7_valueOf rfl) rfl ?_
      refine x_iadd 48 (xd DX7_valueOf rfl) rfl ?_
      refine x_caload 49 (xd DX7_valueOf rfl) rfl ⟨Or.inr ⟨rfl, by decide⟩, by decide⟩ (by decide) (by omega) (by omega) rfl ?_
      refine x_bipush 51 (xd DX7_valueOf rfl) rfl rfl ?_
      refine x_isub 52 (xd DX7_valueOf rfl) rfl ?_
      refine x_imul 53 (xd DX7_valueOf rfl) rfl ?_
      refine x_aload_n 54 (xd DX7_valueOf rfl) rfl rfl ?_
      refine x_gr 57 _ LX7_9 (xd DX7_valueOf rfl) rfl rfl ⟨by decide, by decide⟩ (by decide) rfl rfl ?_
      refine x_iload_n 58 (xd DX7_valueOf rfl) rfl rfl ?_
      refine x_iconst 59 (xd DX7_valueOf rfl) rfl ?_
      refine x_iadd 60 (xd DX7_valueOf rfl) rfl ?_
      refine x_caload 61 (xd DX7_valueOf rfl) rfl ⟨Or.inr ⟨rfl, by decide⟩, by decide⟩ (by decide) (by omega) (by omega) rfl ?_
      refine x_iadd 62 (xd DX7_valueOf rfl) rfl ?_
      refine x_bipush 64 (xd DX7_valueOf rfl) rfl rfl ?_
      refine x_isub 65 (xd DX7_valueOf rfl) rfl ?_
      refine x_ri (xd DX7_valueOf rfl) rfl ?_
      refine ⟨?_, rfl⟩
      unfold vlF
      first
        | (rw [if_pos hs2]; done)
        | (rw [if_neg hs2, if_pos ht2]; done)
        | rw [if_neg hs2, if_neg ht2]
  · have hs2 : 0 ≤ kix (h 2 (h 3 i)) ∧ kix (h 2 (h 3 i)) ≤ 6 := c17
    have hw2 := hw.1 c17
    refine x_aload_n 21 (xd DX7_valueOf rfl) rfl rfl ?_
    refine x_gr 24 _ LX7_9 (xd DX7_valueOf rfl) rfl rfl ⟨by decide, by decide⟩ (by decide) rfl rfl ?_
    refine x_iload_n 25 (xd DX7_valueOf rfl) rfl rfl ?_
    refine x_iconst 26 (xd DX7_valueOf rfl) rfl ?_
    refine x_iadd 27 (xd DX7_valueOf rfl) rfl ?_
    refine x_caload 28 (xd DX7_valueOf rfl) rfl ⟨Or.inr ⟨rfl, by decide⟩, by decide⟩ (by decide) (by omega) (by omega) rfl ?_
    refine x_bipush 30 (xd DX7_valueOf rfl) rfl rfl ?_
    refine x_isub 31 (xd DX7_valueOf rfl) rfl ?_
    refine x_ri (xd DX7_valueOf rfl) rfl ?_
    refine ⟨?_, rfl⟩
    unfold vlF
    first
      | (rw [if_pos hs2]; done)
      | (rw [if_neg hs2, if_pos ht2]; done)
      | rw [if_neg hs2, if_neg ht2]

set_option maxRecDepth 100000 in
set_option maxHeartbeats 4000000 in
theorem pX7_widthAt {K : XK} {n : Nat} {h : XH} (p : Int) (hT : TxI h) (hp : 0 ≤ p ∧ p < h 1 2) : MI K mX7_widthAt 4 n [vr 1, vi p] h (fun zr h' => zr = wdt (h 2) (h 1 2) p ∧ h' = h) := by
  refine xMeth FX7_widthAt (Nat.le_of_ble_eq_true rfl) ?_
  have hT1 := hT.1
  have hk := kix_cs (h 2 p)
  have rest : ∀ (xf : Int), 0 ≤ kix (h 2 p) → xf = (if 6 < kix (h 2 p) ∧ kix (h 2 p) ≤ 9 then 2 else if 0 ≤ kix (h 2 p) ∧ kix (h 2 p) ≤ 6 then 1 else 0) → WI K mX7_widthAt 4 n (qI n (fun zr h' => zr = wdt (h 2) (h 1 2) p ∧ h' = h)) 41 [(0, vr 1), (1, vi p), (2, vi (kix (h 2 p)))] [vi xf] h := by
    intro xf hk0 hfg
    have hf3 : 0 ≤ xf ∧ xf ≤ 2 := by
      rw [hfg]
      (repeat' split) <;> decide
    have loop : p + xf < h 1 2 → ∀ (f : Nat) (xk : Int), 1 ≤ xk → xk ≤ xf + 1 → xf + 1 - xk < (f : Int) → (∀ j, 1 ≤ j → j < xk → dgt (h 2) (h 1 2) (p + j)) → WI K mX7_widthAt 4 n (qI n (fun zr h' => zr = wdt (h 2) (h 1 2) p ∧ h' = h)) 57 [(0, vr 1), (1, vi p), (2, vi (kix (h 2 p))), (3, vi xf), (4, vi xk)] [] h := by
      intro hpf f
      induction f with
      | zero => intro xk a b c; exact absurd c (by omega)
      | succ f ih =>
        intro xk k0 k1 hf hdg
        refine x_iload 59 (xd DX7_widthAt rfl) rfl rfl ?_
        refine x_iload_n 60 (xd DX7_widthAt rfl) rfl rfl ?_
        refine x_icmp_gt 63 96 (xd DX7_widthAt rfl) rfl (by omega) (by omega) rfl (fun c60 => ?_) (fun c60 => ?_)
        · refine x_iconst 97 (xd DX7_widthAt rfl) rfl ?_
          refine x_iload_n 98 (xd DX7_widthAt rfl) rfl rfl ?_
          refine x_iadd 99 (xd DX7_widthAt rfl) rfl ?_
          refine x_ri (xd DX7_widthAt rfl) rfl ?_
          refine ⟨?_, rfl⟩
          unfold wdt
          rw [if_neg (by omega)]
          by_cases q1 : 6 < kix (h 2 p) ∧ kix (h 2 p) ≤ 9
          · rw [if_pos q1] at hfg ⊢
            rw [pik_t ⟨hdg 1 (by omega) (by omega), hdg 2 (by omega) (by omega)⟩, hfg]
            rfl
          · rw [if_neg q1] at hfg ⊢
            by_cases q2 : kix (h 2 p) ≤ 6
            · rw [if_pos ⟨by omega, q2⟩] at hfg
              rw [if_pos q2, pik_t (hdg 1 (by omega) (by omega)), hfg]
              rfl
            · rw [if_neg (fun q => q2 q.2)] at hfg
              rw [if_neg q2, hfg]
              rfl
        · refine x_aload_n 64 (xd DX7_widthAt rfl) rfl rfl ?_
          refine x_gr 67 _ LX7_9 (xd DX7_widthAt rfl) rfl rfl ⟨by decide, by decide⟩ (by decide) rfl rfl ?_
          refine x_iload_n 68 (xd DX7_widthAt rfl) rfl rfl ?_
          refine x_iload 70 (xd DX7_widthAt rfl) rfl rfl ?_
          refine x_iadd 71 (xd DX7_widthAt rfl) rfl ?_
          refine x_caload 72 (xd DX7_widthAt rfl) rfl ⟨Or.inr ⟨rfl, by decide⟩, by decide⟩ (by decide) (by omega) (by omega) rfl ?_
          refine x_istore 74 (L' := [(0, _), (1, _), (2, _), (3, _), (4, _), (5, _)]) (xd DX7_widthAt rfl) (by decide) rfl rfl rfl ?_
          refine x_iload 76 (xd DX7_widthAt rfl) rfl rfl ?_
          refine x_bipush 78 (xd DX7_widthAt rfl) rfl rfl ?_
          refine x_icmp_lt 81 88 (xd DX7_widthAt rfl) rfl (by have := hT.2 (p + xk) (by omega) (by omega); omega) (by have := hT.2 (p + xk) (by omega) (by omega); omega) rfl (fun c78 => ?_) (fun c78 => ?_)
          · have hno : ¬ dgt (h 2) (h 1 2) (p + xk) := fun q => by have := q.2; omega
            refine x_iconst 89 (xd DX7_widthAt rfl) rfl ?_
            refine x_ri (xd DX7_widthAt rfl) rfl ?_
            refine ⟨?_, rfl⟩
            unfold wdt
            rw [if_neg (by omega)]
            by_cases q1 : 6 < kix (h 2 p) ∧ kix (h 2 p) ≤ 9
            · rw [if_pos q1] at hfg ⊢
              have hk2 : xk = 1 ∨ xk = 2 := by omega
              rw [pik_f (fun q => by
                rcases hk2 with e | e
                · rw [e] at hno; exact hno q.1
                · rw [e] at hno; exact hno q.2)]
            · rw [if_neg q1] at hfg ⊢
              by_cases q2 : kix (h 2 p) ≤ 6
              · rw [if_pos ⟨by omega, q2⟩] at hfg
                have hk2 : xk = 1 := by omega
                rw [hk2] at hno
                rw [if_pos q2, pik_f hno]
              · rw [if_neg (fun q => q2 q.2)] at hfg
                exfalso
                omega
          · refine x_iload 83 (xd DX7_widthAt rfl) rfl rfl ?_
            refine x_bipush 85 (xd DX7_widthAt rfl) rfl rfl ?_
            refine x_icmp_le 88 90 (xd DX7_widthAt rfl) rfl (by have := hT.2 (p + xk) (by omega) (by omega); omega) (by have := hT.2 (p + xk) (by omega) (by omega); omega) rfl (fun c85 => ?_) (fun c85 => ?_)
            · have hyes : dgt (h 2) (h 1 2) (p + xk) := ⟨by omega, by omega, c85⟩
              refine x_iinc 93 (L' := [(0, _), (1, _), (2, _), (3, _), (4, _), (5, _)]) (xd DX7_widthAt rfl) rfl (by decide) rfl rfl rfl ?_
              refine x_goto 57 (xd DX7_widthAt rfl) rfl ?_
              refine WX.locals (L' := [(0, _), (1, _), (2, _), (3, _), (4, _)]) (fun q hq => List.mem_append_left _ hq) ?_
              exact ih (xk + 1) (by omega) (by omega) (by omega) (fun j a b => by
                by_cases e : j = xk
                · rw [e]; exact hyes
                · exact hdg j a (by omega))
            · have hno : ¬ dgt (h 2) (h 1 2) (p + xk) := fun q => by have := q.2; omega
              refine x_iconst 89 (xd DX7_widthAt rfl) rfl ?_
              refine x_ri (xd DX7_widthAt rfl) rfl ?_
              refine ⟨?_, rfl⟩
              unfold wdt
              rw [if_neg (by omega)]
              by_cases q1 : 6 < kix (h 2 p) ∧ kix (h 2 p) ≤ 9
              · rw [if_pos q1] at hfg ⊢
                have hk2 : xk = 1 ∨ xk = 2 := by omega
                rw [pik_f (fun q => by
                  rcases hk2 with e | e
                  · rw [e] at hno; exact hno q.1
                  · rw [e] at hno; exact hno q.2)]
              · rw [if_neg q1] at hfg ⊢
                by_cases q2 : kix (h 2 p) ≤ 6
                · rw [if_pos ⟨by omega, q2⟩] at hfg
                  have hk2 : xk = 1 := by omega
                  rw [hk2] at hno
                  rw [if_pos q2, pik_f hno]
                · rw [if_neg (fun q => q2 q.2)] at hfg
                  exfalso
                  omega
    refine x_istore_n 42 (L' := [(0, _), (1, _), (2, _), (3, _)]) (xd DX7_widthAt rfl) (by decide) rfl rfl rfl ?_
    refine x_iload_n 43 (xd DX7_widthAt rfl) rfl rfl ?_
    refine x_iload_n 44 (xd DX7_widthAt rfl) rfl rfl ?_
    refine x_iadd 45 (xd DX7_widthAt rfl) rfl ?_
    refine x_aload_n 46 (xd DX7_widthAt rfl) rfl rfl ?_
    refine x_gi 49 2 rfl LX7_19 (xd DX7_widthAt rfl) rfl ⟨Or.inr ⟨rfl, by decide⟩, by decide⟩ rfl ?_
    refine x_icmp_lt 52 54 (xd DX7_widthAt rfl) rfl (by omega) (by omega) rfl (fun c49 => ?_) (fun c49 => ?_)
    · refine x_iconst 55 (xd DX7_widthAt rfl) rfl ?_
      refine x_istore 57 (L' := [(0, _), (1, _), (2, _), (3, _), (4, _)]) (xd DX7_widthAt rfl) (by decide) rfl rfl rfl ?_
      exact loop (by omega) 4 1 (by omega) (by omega) (by omega) (fun j a b => absurd b (by omega))
    · refine x_iconst 53 (xd DX7_widthAt rfl) rfl ?_
      refine x_ri (xd DX7_widthAt rfl) rfl ?_
      refine ⟨?_, rfl⟩
      unfold wdt
      rw [if_neg (by omega)]
      by_cases q1 : 6 < kix (h 2 p) ∧ kix (h 2 p) ≤ 9
      · rw [if_pos q1] at hfg ⊢
        rw [pik_f (fun q => by have := q.2.1; omega)]
      · rw [if_neg q1] at hfg ⊢
        by_cases q2 : kix (h 2 p) ≤ 6
        · rw [if_pos ⟨by omega, q2⟩] at hfg
          rw [if_pos q2, pik_f (fun q => by have := q.1; omega)]
        · rw [if_neg (fun q => q2 q.2)] at hfg
          exfalso
          omega
  refine x_ldcS 2 1 (fun U q => q.2.2.2.2.2.2.2.1) (xd DX7_widthAt rfl) rfl ?_
  refine x_aload_n 3 (xd DX7_widthAt rfl) rfl rfl ?_
  refine x_gr 6 _ LX7_9 (xd DX7_widthAt rfl) rfl rfl ⟨by decide, by decide⟩ (by decide) rfl rfl ?_
  refine x_iload_n 7 (xd DX7_widthAt rfl) rfl rfl ?_
  refine x_caload 8 (xd DX7_widthAt rfl) rfl ⟨Or.inr ⟨rfl, by decide⟩, by decide⟩ (by decide) (by omega) (by omega) rfl ?_
  refine x_Vs 11 (by omega) (pJ0_indexOf (h 2 p) (by have := hT.2 p hp.1 hp.2; omega)) FJ0_indexOf_0f7a4 VJ0_indexOf_0f7a4 MX7_46 (xd DX7_widthAt rfl) rfl rfl rfl (by decide) (Nat.le_of_ble_eq_true rfl) (by decide) rfl ?_
  rintro z9 h9 ⟨q1, q2⟩
  rw [q1, q2]
  clear q1 q2 z9 h9
  refine x_istore_n 12 (L' := [(0, _), (1, _), (2, _)]) (xd DX7_widthAt rfl) (by decide) rfl rfl rfl ?_
  refine x_iload_n 13 (xd DX7_widthAt rfl) rfl rfl ?_
  refine x_if_ge 16 18 (xd DX7_widthAt rfl) rfl (by omega) rfl (fun c13 => ?_) (fun c13 => ?_)
  · refine x_iload_n 19 (xd DX7_widthAt rfl) rfl rfl ?_
    refine x_Si 22 (pX8_hasTarget (kix (h 2 p)) (by omega)) FX8_hasTarget VX8_hasTarget CX7_37 (xd DX7_widthAt rfl) rfl rfl (by decide) (Nat.le_of_ble_eq_true rfl) (by decide) rfl ?_
    rintro z9 h9 ⟨q1, q2⟩
    rw [q1, q2]
    clear q1 q2 z9 h9
    refine x_ifp_eq 25 29 (xd DX7_widthAt rfl) rfl rfl (fun c22 => ?_) (fun c22 => ?_)
    · refine x_iload_n 30 (xd DX7_widthAt rfl) rfl rfl ?_
      refine x_Si 33 (pX8_isSimple (kix (h 2 p)) (by omega)) FX8_isSimple VX8_isSimple CX7_51 (xd DX7_widthAt rfl) rfl rfl (by decide) (Nat.le_of_ble_eq_true rfl) (by decide) rfl ?_
      rintro z9 h9 ⟨q1, q2⟩
      rw [q1, q2]
      clear q1 q2 z9 h9
      refine x_ifp_eq 36 40 (xd DX7_widthAt rfl) rfl rfl (fun c33 => ?_) (fun c33 => ?_)
      · refine x_iconst 41 (xd DX7_widthAt rfl) rfl ?_
        try unfold kTgt at *
        try unfold kSim at *
        first
          | exact rest _ (by omega) (by rw [if_pos c22])
          | exact rest _ (by omega) (by rw [if_neg c22, if_pos c33])
          | exact rest _ (by omega) (by rw [if_neg c22, if_neg c33])
      · refine x_iconst 37 (xd DX7_widthAt rfl) rfl ?_
        refine x_goto 41 (xd DX7_widthAt rfl) rfl ?_
        try unfold kTgt at *
        try unfold kSim at *
        first
          | exact rest _ (by omega) (by rw [if_pos c22])
          | exact rest _ (by omega) (by rw [if_neg c22, if_pos c33])
          | exact rest _ (by omega) (by rw [if_neg c22, if_neg c33])
    · refine x_iconst 26 (xd DX7_widthAt rfl) rfl ?_
      refine x_goto 41 (xd DX7_widthAt rfl) rfl ?_
      try unfold kTgt at *
      try unfold kSim at *
      first
        | exact rest _ (by omega) (by rw [if_pos c22])
        | exact rest _ (by omega) (by rw [if_neg c22, if_pos c33])
        | exact rest _ (by omega) (by rw [if_neg c22, if_neg c33])
  · refine x_iconst 17 (xd DX7_widthAt rfl) rfl ?_
    refine x_ri (xd DX7_widthAt rfl) rfl ?_
    refine ⟨?_, rfl⟩
    unfold wdt
    rw [if_pos c13]

