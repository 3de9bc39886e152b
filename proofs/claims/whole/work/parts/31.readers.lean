/-! Layout: readers -/
noncomputable def cntR (p : Nat → Prop) (a : Nat) : Nat → Int
  | 0 => 0
  | d + 1 => cntR p a d + xp (p (a + d))
/-- the first place below N that holds v -/
def FirstAt (f : Int → Int) (N v z : Int) : Prop := (∃ i : Nat, (i : Int) < N ∧ f i = v ∧ (∀ j : Nat, j < i → f j ≠ v) ∧ z = (i : Int)) ∨ ((∀ j : Nat, (j : Int) < N → f j ≠ v) ∧ z = -4)
theorem FirstAt.one {f f' : Int → Int} {N v z z' : Int} (hf : ∀ j : Nat, (j : Int) < N → f j = f' j) (h1 : FirstAt f N v z) (h2 : FirstAt f' N v z') : z = z' := by
  rcases h1 with ⟨i, a1, a2, a3, a4⟩ | ⟨a1, a2⟩ <;> rcases h2 with ⟨j, b1, b2, b3, b4⟩ | ⟨b1, b2⟩
  · have : ¬ i < j := fun q => b3 i q (by rw [← hf i a1]; exact a2)
    have : ¬ j < i := fun q => a3 j q (by rw [hf j b1]; exact b2)
    omega
  · exact absurd (by rw [← hf i a1]; exact a2) (b1 i a1)
  · exact absurd (by rw [hf j b1]; exact b2) (a1 j b1)
  · omega
noncomputable def lAd (h : XH) (k : Nat) (l : Int) : Int := pik (0 ≤ l * (2 ^ k : Nat) ∧ l * (2 ^ k : Nat) < h 4 3) (h 251 (l * (2 ^ k : Nat))) (h 192 13)
set_option maxRecDepth 100000 in
set_option maxHeartbeats 4000000 in
theorem pX3_isSequence {K : XK} {n : Nat} {h : XH} (i m : Int) (hP : PW h) (hi : xrg i) (hm : xrg m) (hr : ∀ j, 0 ≤ j → j < h 4 3 → 0 ≤ h 193 j ∧ h 193 j ≤ 4) : MI K mX3_isSequence 1 n [vr 192, vi i, vi m] h (fun z h' => z = xp ((0 ≤ i ∧ i < h 4 3) ∧ 2 ≤ m ∧ m ≤ h 193 i) ∧ h' = h) := by
  refine xMeth FX3_isSequence (Nat.le_of_ble_eq_true rfl) ?_
  have hP1 := hP.1
  refine x_aload_n 1 (xd DX3_isSequence rfl) rfl rfl ?_
  refine x_gr 4 _ LX3_51 (xd DX3_isSequence rfl) rfl rfl ⟨by decide, by decide⟩ (by decide) rfl rfl ?_
  refine x_iload_n 5 (xd DX3_isSequence rfl) rfl rfl ?_
  refine x_Vi 8 (pX4_has i hi (by omega)) FX4_has VX4_has CX3_104 (xd DX3_isSequence rfl) rfl rfl rfl ⟨by decide, rfl⟩ ⟨by decide, by decide⟩ (by decide) (Nat.le_of_ble_eq_true rfl) (by decide) rfl ?_
  rintro z9 h9 ⟨q1, q2⟩
  rw [q1, q2]
  clear q1 q2 z9 h9
  refine x_ifp_eq 11 30 (xd DX3_isSequence rfl) rfl rfl (fun c8 => ?_) (fun c8 => ?_)
  · refine x_iconst 31 (xd DX3_isSequence rfl) rfl ?_
    refine x_rz (xd DX3_isSequence rfl) rfl (by omega) ?_
    first | exact ⟨xp_t ⟨c8, by omega, by omega⟩, rfl⟩ | exact ⟨xp_f (fun q => by have := q.2; omega), rfl⟩ | exact ⟨xp_f (fun q => c8 q.1), rfl⟩
  · refine x_iload_n 12 (xd DX3_isSequence rfl) rfl rfl ?_
    refine x_iconst 13 (xd DX3_isSequence rfl) rfl ?_
    refine x_icmp_lt 16 30 (xd DX3_isSequence rfl) rfl (by omega) (by omega) rfl (fun c13 => ?_) (fun c13 => ?_)
    · refine x_iconst 31 (xd DX3_isSequence rfl) rfl ?_
      refine x_rz (xd DX3_isSequence rfl) rfl (by omega) ?_
      first | exact ⟨xp_t ⟨c8, by omega, by omega⟩, rfl⟩ | exact ⟨xp_f (fun q => by have := q.2; omega), rfl⟩ | exact ⟨xp_f (fun q => c8 q.1), rfl⟩
    · refine x_iload_n 17 (xd DX3_isSequence rfl) rfl rfl ?_
      refine x_aload_n 18 (xd DX3_isSequence rfl) rfl rfl ?_
      refine x_gr 21 _ LX3_9 (xd DX3_isSequence rfl) rfl rfl ⟨by decide, by decide⟩ (by decide) rfl rfl ?_
      refine x_iload_n 22 (xd DX3_isSequence rfl) rfl rfl ?_
      refine x_iaload 23 (xd DX3_isSequence rfl) rfl ⟨Or.inr ⟨rfl, by decide⟩, by decide⟩ (by decide) (by omega) (by omega) rfl ?_
      refine x_icmp_gt 26 30 (xd DX3_isSequence rfl) rfl (by have := hr i c8.1 c8.2; omega) (by have := hr i c8.1 c8.2; omega) rfl (fun c23 => ?_) (fun c23 => ?_)
      · refine x_iconst 31 (xd DX3_isSequence rfl) rfl ?_
        refine x_rz (xd DX3_isSequence rfl) rfl (by omega) ?_
        first | exact ⟨xp_t ⟨c8, by omega, by omega⟩, rfl⟩ | exact ⟨xp_f (fun q => by have := q.2; omega), rfl⟩ | exact ⟨xp_f (fun q => c8 q.1), rfl⟩
      · refine x_iconst 27 (xd DX3_isSequence rfl) rfl ?_
        refine x_goto 31 (xd DX3_isSequence rfl) rfl ?_
        refine x_rz (xd DX3_isSequence rfl) rfl (by omega) ?_
        first | exact ⟨xp_t ⟨c8, by omega, by omega⟩, rfl⟩ | exact ⟨xp_f (fun q => by have := q.2; omega), rfl⟩ | exact ⟨xp_f (fun q => c8 q.1), rfl⟩

set_option maxRecDepth 100000 in
set_option maxHeartbeats 4000000 in
theorem pX3_firstOf {K : XK} {n : Nat} {h : XH} (l : Int) (k : Nat) (hk : h 192 15 = (k : Int)) (hk2 : k < 32) : MI K mX3_firstOf 0 n [vr 192, vi l] h (fun z h' => z = l * (2 ^ k : Nat) ∧ h' = h) := by
  refine xMeth FX3_firstOf (Nat.le_of_ble_eq_true rfl) ?_
  refine x_iload_n 1 (xd DX3_firstOf rfl) rfl rfl ?_
  refine x_aload_n 2 (xd DX3_firstOf rfl) rfl rfl ?_
  refine x_gi 5 15 rfl LX3_65 (xd DX3_firstOf rfl) rfl ⟨Or.inr ⟨rfl, by decide⟩, by decide⟩ rfl ?_
  rw [hk]
  refine x_ishl 6 (k := k) (by omega) (xd DX3_firstOf rfl) rfl ?_
  refine x_ri (xd DX3_firstOf rfl) rfl ?_
  exact ⟨rfl, rfl⟩

set_option maxRecDepth 100000 in
set_option maxHeartbeats 4000000 in
theorem pX3_lineAddress {K : XK} {n : Nat} {h : XH} (l : Int) (k : Nat) (hP : PW h) (hk : h 192 15 = (k : Int)) (hk2 : k ≤ 4) (hl : 0 ≤ l ∧ l ≤ 1000) : MI K mX3_lineAddress 1 n [vr 192, vi l] h (fun z h' => z = lAd h k l ∧ h' = h) := by
  refine xMeth FX3_lineAddress (Nat.le_of_ble_eq_true rfl) ?_
  have hP1 := hP.1
  have hb : 0 ≤ l * (2 ^ k : Nat) ∧ l * (2 ^ k : Nat) ≤ 100000 := by
    have : k = 0 ∨ k = 1 ∨ k = 2 ∨ k = 3 ∨ k = 4 := by omega
    rcases this with e | e | e | e | e <;> subst e <;> simp <;> omega
  refine x_aload_n 1 (xd DX3_lineAddress rfl) rfl rfl ?_
  refine x_iload_n 2 (xd DX3_lineAddress rfl) rfl rfl ?_
  refine x_Vi 5 (pX3_firstOf l k hk (by omega)) FX3_firstOf VX3_firstOf CX3_175 (xd DX3_lineAddress rfl) rfl rfl rfl ⟨by decide, rfl⟩ ⟨by decide, by decide⟩ (by decide) (Nat.le_of_ble_eq_true rfl) (by decide) rfl ?_
  rintro z9 h9 ⟨q1, q2⟩
  rw [q1, q2]
  clear q1 q2 z9 h9
  refine x_istore_n 6 (L' := [(0, _), (1, _), (2, _)]) (xd DX3_lineAddress rfl) (by decide) rfl rfl rfl ?_
  refine x_aload_n 7 (xd DX3_lineAddress rfl) rfl rfl ?_
  refine x_gr 10 _ LX3_51 (xd DX3_lineAddress rfl) rfl rfl ⟨by decide, by decide⟩ (by decide) rfl rfl ?_
  refine x_iload_n 11 (xd DX3_lineAddress rfl) rfl rfl ?_
  refine x_Vi 14 (pX4_has _ (by omega) (by omega)) FX4_has VX4_has CX3_104 (xd DX3_lineAddress rfl) rfl rfl rfl ⟨by decide, rfl⟩ ⟨by decide, by decide⟩ (by decide) (Nat.le_of_ble_eq_true rfl) (by decide) rfl ?_
  rintro z9 h9 ⟨q1, q2⟩
  rw [q1, q2]
  clear q1 q2 z9 h9
  refine x_ifp_eq 17 26 (xd DX3_lineAddress rfl) rfl rfl (fun c14 => ?_) (fun c14 => ?_)
  · refine x_aload_n 27 (xd DX3_lineAddress rfl) rfl rfl ?_
    refine x_gi 30 13 rfl LX3_142 (xd DX3_lineAddress rfl) rfl ⟨Or.inr ⟨rfl, by decide⟩, by decide⟩ rfl ?_
    refine x_ri (xd DX3_lineAddress rfl) rfl ?_
    first | exact ⟨(pik_t c14 _ _).symm, rfl⟩ | exact ⟨(pik_f c14 _ _).symm, rfl⟩
  · refine x_aload_n 18 (xd DX3_lineAddress rfl) rfl rfl ?_
    refine x_gr 21 _ LX3_42 (xd DX3_lineAddress rfl) rfl rfl ⟨by decide, by decide⟩ (by decide) rfl rfl ?_
    refine x_iload_n 22 (xd DX3_lineAddress rfl) rfl rfl ?_
    refine x_iaload 23 (xd DX3_lineAddress rfl) rfl ⟨Or.inr ⟨rfl, by decide⟩, by decide⟩ (by decide) (by omega) (by omega) rfl ?_
    refine x_goto 30 (xd DX3_lineAddress rfl) rfl ?_
    refine x_ri (xd DX3_lineAddress rfl) rfl ?_
    first | exact ⟨(pik_t c14 _ _).symm, rfl⟩ | exact ⟨(pik_f c14 _ _).symm, rfl⟩

set_option maxRecDepth 100000 in
set_option maxHeartbeats 4000000 in
theorem pX3_lineNibbles {K : XK} {n : Nat} {h : XH} (l : Int) (k : Nat) (hP : PW h) (hk : h 192 15 = (k : Int)) (hk2 : k ≤ 4) (hl : 0 ≤ l ∧ l < 1000) : MI K mX3_lineNibbles 2 n [vr 192, vi l] h (fun z h' => z = lAd h k (l + 1) - lAd h k l ∧ h' = h) := by
  refine xMeth FX3_lineNibbles (Nat.le_of_ble_eq_true rfl) ?_
  refine x_aload_n 1 (xd DX3_lineNibbles rfl) rfl rfl ?_
  refine x_iload_n 2 (xd DX3_lineNibbles rfl) rfl rfl ?_
  refine x_iconst 3 (xd DX3_lineNibbles rfl) rfl ?_
  refine x_iadd 4 (xd DX3_lineNibbles rfl) rfl ?_
  refine x_Vi 7 (pX3_lineAddress (l + 1) k hP hk hk2 (by omega)) FX3_lineAddress VX3_lineAddress CX3_178 (xd DX3_lineNibbles rfl) rfl rfl rfl ⟨by decide, rfl⟩ ⟨by decide, by decide⟩ (by decide) (Nat.le_of_ble_eq_true rfl) (by decide) rfl ?_
  rintro z9 h9 ⟨q1, q2⟩
  rw [q1, q2]
  clear q1 q2 z9 h9
  refine x_aload_n 8 (xd DX3_lineNibbles rfl) rfl rfl ?_
  refine x_iload_n 9 (xd DX3_lineNibbles rfl) rfl rfl ?_
  refine x_Vi 12 (pX3_lineAddress l k hP hk hk2 (by omega)) FX3_lineAddress VX3_lineAddress CX3_178 (xd DX3_lineNibbles rfl) rfl rfl rfl ⟨by decide, rfl⟩ ⟨by decide, by decide⟩ (by decide) (Nat.le_of_ble_eq_true rfl) (by decide) rfl ?_
  rintro z9 h9 ⟨q1, q2⟩
  rw [q1, q2]
  clear q1 q2 z9 h9
  refine x_isub 13 (xd DX3_lineNibbles rfl) rfl ?_
  refine x_ri (xd DX3_lineNibbles rfl) rfl ?_
  exact ⟨rfl, rfl⟩

set_option maxRecDepth 100000 in
set_option maxHeartbeats 4000000 in
theorem pX3_instructionOf {K : XK} {n : Nat} {h : XH} (v : Int) (hP : PW h) (hv : xrg v) (hr : ∀ j, 0 ≤ j → j < h 4 3 → xrg (h 251 j)) : MI K mX3_instructionOf 0 n [vr 192, vi v] h (fun z h' => FirstAt (h 251) (h 4 3) v z ∧ h' = h) := by
  refine xMeth FX3_instructionOf (Nat.le_of_ble_eq_true rfl) ?_
  have hP1 := hP.1
  have loop : ∀ (m : Nat) (xi : Nat), (xi : Int) ≤ h 4 3 → h 4 3 - xi < (m : Int) → (∀ j : Nat, j < xi → h 251 j ≠ v) → WI K mX3_instructionOf 0 n (qI n fun z h' => FirstAt (h 251) (h 4 3) v z ∧ h' = h) 2 [(0, vr 192), (1, vi v), (2, vi (xi : Int))] [] h := by
    intro m
    induction m with
    | zero => intro xi a b; exact absurd b (by omega)
    | succ m ih =>
      intro xi h0 hm hn
      refine x_iload_n 3 (xd DX3_instructionOf rfl) rfl rfl ?_
      refine x_aload_n 4 (xd DX3_instructionOf rfl) rfl rfl ?_
      refine x_gr 7 _ LX3_51 (xd DX3_instructionOf rfl) rfl rfl ⟨by decide, by decide⟩ (by decide) rfl rfl ?_
      refine x_gi 10 3 rfl LX3_68 (xd DX3_instructionOf rfl) rfl ⟨Or.inr ⟨rfl, by decide⟩, by decide⟩ rfl ?_
      refine x_icmp_ge 13 31 (xd DX3_instructionOf rfl) rfl (by omega) (by omega) rfl (fun c10 => ?_) (fun c10 => ?_)
      · refine x_bipush 33 (xd DX3_instructionOf rfl) rfl rfl ?_
        refine x_ri (xd DX3_instructionOf rfl) rfl ?_
        first | exact ⟨Or.inl ⟨xi, by omega, c20, hn, rfl⟩, rfl⟩ | exact ⟨Or.inr ⟨fun j q => hn j (by omega), rfl⟩, rfl⟩
      · refine x_aload_n 14 (xd DX3_instructionOf rfl) rfl rfl ?_
        refine x_gr 17 _ LX3_42 (xd DX3_instructionOf rfl) rfl rfl ⟨by decide, by decide⟩ (by decide) rfl rfl ?_
        refine x_iload_n 18 (xd DX3_instructionOf rfl) rfl rfl ?_
        refine x_iaload 19 (xd DX3_instructionOf rfl) rfl ⟨Or.inr ⟨rfl, by decide⟩, by decide⟩ (by decide) (by omega) (by omega) rfl ?_
        refine x_iload_n 20 (xd DX3_instructionOf rfl) rfl rfl ?_
        refine x_icmp_ne 23 25 (xd DX3_instructionOf rfl) rfl (by first | omega | exact hr _ (by omega) (by omega)) (by first | omega | exact hr _ (by omega) (by omega)) rfl (fun c20 => ?_) (fun c20 => ?_)
        · refine x_iinc 28 (L' := [(0, _), (1, _), (2, _)]) (xd DX3_instructionOf rfl) rfl (by decide) rfl rfl rfl ?_
          refine x_goto 2 (xd DX3_instructionOf rfl) rfl ?_
          exact ih (xi + 1) (by omega) (by omega) (fun j q => by
            by_cases e : j = xi
            · subst e; exact c20
            · exact hn j (by omega))
        · refine x_iload_n 24 (xd DX3_instructionOf rfl) rfl rfl ?_
          refine x_ri (xd DX3_instructionOf rfl) rfl ?_
          first | exact ⟨Or.inl ⟨xi, by omega, c20, hn, rfl⟩, rfl⟩ | exact ⟨Or.inr ⟨fun j q => hn j (by omega), rfl⟩, rfl⟩
  refine x_iconst 1 (xd DX3_instructionOf rfl) rfl ?_
  refine x_istore_n 2 (L' := [(0, _), (1, _), (2, _)]) (xd DX3_instructionOf rfl) (by decide) rfl rfl rfl ?_
  exact loop 100 0 (by omega) (by omega) (fun j q => absurd q (by omega))

set_option maxRecDepth 100000 in
set_option maxHeartbeats 4000000 in
theorem pX3_references {K : XK} {n : Nat} {h : XH} (a b : Nat) (hP : PW h) (ha : a ≤ min b (h 4 3).toNat ∨ min b (h 4 3).toNat ≤ a) (hab : a < 1000 ∧ b < 1000) (hr : ∀ j, 0 ≤ j → j < h 4 3 → xrg (h 250 j)) : MI K mX3_references 0 n [vr 192, vi (a : Int), vi (b : Int)] h (fun z h' => z = cntR (fun j => h 250 j = 0) a ((min b (h 4 3).toNat) - a) ∧ h' = h) := by
  refine xMeth FX3_references (Nat.le_of_ble_eq_true rfl) ?_
  have hP1 := hP.1
  have loop : ∀ (m : Nat) (xi : Nat) (xz : Int), a ≤ xi → (xi ≤ b ∧ xi ≤ (h 4 3).toNat ∨ xi = a) → 1000 - xi < m → xz = cntR (fun j => h 250 j = 0) a (xi - a) → WI K mX3_references 0 n (qI n fun z h' => z = cntR (fun j => h 250 j = 0) a ((min b (h 4 3).toNat) - a) ∧ h' = h) 5 [(0, vr 192), (1, vi (a : Int)), (2, vi (b : Int)), (3, vi xz), (4, vi (xi : Int))] [] h := by
    intro m
    induction m with
    | zero => intro xi xz a1 a2 b1; exact absurd b1 (by omega)
    | succ m ih =>
      intro xi xz h0 h1 hm hz
      refine x_iload 7 (xd DX3_references rfl) rfl rfl ?_
      refine x_iload_n 8 (xd DX3_references rfl) rfl rfl ?_
      refine x_icmp_ge 11 42 (xd DX3_references rfl) rfl (by omega) (by omega) rfl (fun c8 => ?_) (fun c8 => ?_)
      · refine x_iload_n 43 (xd DX3_references rfl) rfl rfl ?_
        refine x_ri (xd DX3_references rfl) rfl ?_
        refine ⟨?_, rfl⟩
        rw [hz]
        congr 1
        omega
      · refine x_iload 13 (xd DX3_references rfl) rfl rfl ?_
        refine x_aload_n 14 (xd DX3_references rfl) rfl rfl ?_
        refine x_gr 17 _ LX3_51 (xd DX3_references rfl) rfl rfl ⟨by decide, by decide⟩ (by decide) rfl rfl ?_
        refine x_gi 20 3 rfl LX3_68 (xd DX3_references rfl) rfl ⟨Or.inr ⟨rfl, by decide⟩, by decide⟩ rfl ?_
        refine x_icmp_ge 23 42 (xd DX3_references rfl) rfl (by omega) (by omega) rfl (fun c20 => ?_) (fun c20 => ?_)
        · refine x_iload_n 43 (xd DX3_references rfl) rfl rfl ?_
          refine x_ri (xd DX3_references rfl) rfl ?_
          refine ⟨?_, rfl⟩
          rw [hz]
          congr 1
          omega
        · refine x_aload_n 24 (xd DX3_references rfl) rfl rfl ?_
          refine x_gr 27 _ LX3_39 (xd DX3_references rfl) rfl rfl ⟨by decide, by decide⟩ (by decide) rfl rfl ?_
          refine x_iload 29 (xd DX3_references rfl) rfl rfl ?_
          refine x_iaload 30 (xd DX3_references rfl) rfl ⟨Or.inr ⟨rfl, by decide⟩, by decide⟩ (by decide) (by omega) (by omega) rfl ?_
          refine x_if_ne 33 36 (xd DX3_references rfl) rfl (by have := hr (xi : Int) (by omega) (by omega); omega) rfl (fun c30 => ?_) (fun c30 => ?_)
          · refine x_iinc 39 (L' := [(0, _), (1, _), (2, _), (3, _), (4, _)]) (xd DX3_references rfl) rfl (by decide) rfl rfl rfl ?_
            refine x_goto 5 (xd DX3_references rfl) rfl ?_
            first
              | exact ih (xi + 1) _ (by omega) (by omega) (by omega) (by rw [show xi + 1 - a = (xi - a) + 1 by omega]; unfold cntR; rw [show a + (xi - a) = xi by omega, ← xp_t c30, hz])
              | exact ih (xi + 1) _ (by omega) (by omega) (by omega) (by rw [show xi + 1 - a = (xi - a) + 1 by omega]; unfold cntR; rw [show a + (xi - a) = xi by omega, ← xp_f c30, hz, Int.add_zero])
          · refine x_iinc 36 (L' := [(0, _), (1, _), (2, _), (3, _), (4, _)]) (xd DX3_references rfl) rfl (by decide) rfl rfl rfl ?_
            refine x_iinc 39 (L' := [(0, _), (1, _), (2, _), (3, _), (4, _)]) (xd DX3_references rfl) rfl (by decide) rfl rfl rfl ?_
            refine x_goto 5 (xd DX3_references rfl) rfl ?_
            first
              | exact ih (xi + 1) _ (by omega) (by omega) (by omega) (by rw [show xi + 1 - a = (xi - a) + 1 by omega]; unfold cntR; rw [show a + (xi - a) = xi by omega, ← xp_t c30, hz])
              | exact ih (xi + 1) _ (by omega) (by omega) (by omega) (by rw [show xi + 1 - a = (xi - a) + 1 by omega]; unfold cntR; rw [show a + (xi - a) = xi by omega, ← xp_f c30, hz, Int.add_zero])
  refine x_iconst 1 (xd DX3_references rfl) rfl ?_
  refine x_istore_n 2 (L' := [(0, _), (1, _), (2, _), (3, _)]) (xd DX3_references rfl) (by decide) rfl rfl rfl ?_
  refine x_iload_n 3 (xd DX3_references rfl) rfl rfl ?_
  refine x_istore 5 (L' := [(0, _), (1, _), (2, _), (3, _), (4, _)]) (xd DX3_references rfl) (by decide) rfl rfl rfl ?_
  exact loop 100000 a 0 (by omega) (by omega) (by omega) (by rw [Nat.sub_self]; rfl)

set_option maxRecDepth 100000 in
set_option maxHeartbeats 4000000 in
theorem pX3_referencesTo {K : XK} {n : Nat} {h : XH} (v : Int) (hP : PW h) (hv : xrg v) (hr : ∀ j, 0 ≤ j → j < h 4 3 → xrg (h 249 j) ∧ xrg (h 250 j)) : MI K mX3_referencesTo 0 n [vr 192, vi v] h (fun z h' => z = cntR (fun j => h 249 j = v ∧ h 250 j = 0) 0 (h 4 3).toNat ∧ h' = h) := by
  refine xMeth FX3_referencesTo (Nat.le_of_ble_eq_true rfl) ?_
  have hP1 := hP.1
  have loop : ∀ (m : Nat) (xi : Nat) (xz : Int), (xi : Int) ≤ h 4 3 → h 4 3 - xi < (m : Int) → xz = cntR (fun j => h 249 j = v ∧ h 250 j = 0) 0 xi → WI K mX3_referencesTo 0 n (qI n fun z h' => z = cntR (fun j => h 249 j = v ∧ h 250 j = 0) 0 (h 4 3).toNat ∧ h' = h) 4 [(0, vr 192), (1, vi v), (2, vi xz), (3, vi (xi : Int))] [] h := by
    intro m
    induction m with
    | zero => intro xi xz a b; exact absurd b (by omega)
    | succ m ih =>
      intro xi xz h0 hm hz
      refine x_iload_n 5 (xd DX3_referencesTo rfl) rfl rfl ?_
      refine x_aload_n 6 (xd DX3_referencesTo rfl) rfl rfl ?_
      refine x_gr 9 _ LX3_51 (xd DX3_referencesTo rfl) rfl rfl ⟨by decide, by decide⟩ (by decide) rfl rfl ?_
      refine x_gi 12 3 rfl LX3_68 (xd DX3_referencesTo rfl) rfl ⟨Or.inr ⟨rfl, by decide⟩, by decide⟩ rfl ?_
      refine x_icmp_ge 15 43 (xd DX3_referencesTo rfl) rfl (by omega) (by omega) rfl (fun c12 => ?_) (fun c12 => ?_)
      · refine x_iload_n 44 (xd DX3_referencesTo rfl) rfl rfl ?_
        refine x_ri (xd DX3_referencesTo rfl) rfl ?_
        refine ⟨?_, rfl⟩
        rw [hz, show (h 4 3).toNat = xi by omega]
      · refine x_aload_n 16 (xd DX3_referencesTo rfl) rfl rfl ?_
        refine x_gr 19 _ LX3_36 (xd DX3_referencesTo rfl) rfl rfl ⟨by decide, by decide⟩ (by decide) rfl rfl ?_
        refine x_iload_n 20 (xd DX3_referencesTo rfl) rfl rfl ?_
        refine x_iaload 21 (xd DX3_referencesTo rfl) rfl ⟨Or.inr ⟨rfl, by decide⟩, by decide⟩ (by decide) (by omega) (by omega) rfl ?_
        refine x_iload_n 22 (xd DX3_referencesTo rfl) rfl rfl ?_
        refine x_icmp_ne 25 37 (xd DX3_referencesTo rfl) rfl (by first | omega | (have := hr (xi : Int) (by omega) (by omega); omega)) (by first | omega | (have := hr (xi : Int) (by omega) (by omega); omega)) rfl (fun c22 => ?_) (fun c22 => ?_)
        · refine x_iinc 40 (L' := [(0, _), (1, _), (2, _), (3, _)]) (xd DX3_referencesTo rfl) rfl (by decide) rfl rfl rfl ?_
          refine x_goto 4 (xd DX3_referencesTo rfl) rfl ?_
          first
            | exact ih (xi + 1) _ (by omega) (by omega) (by unfold cntR; rw [Nat.zero_add, ← xp_t (p := h 249 xi = v ∧ h 250 xi = 0) ⟨c22, c31⟩, hz])
            | exact ih (xi + 1) _ (by omega) (by omega) (by unfold cntR; rw [Nat.zero_add, ← xp_f (p := h 249 xi = v ∧ h 250 xi = 0) (fun q => c31 q.2), hz, Int.add_zero])
            | exact ih (xi + 1) _ (by omega) (by omega) (by unfold cntR; rw [Nat.zero_add, ← xp_f (p := h 249 xi = v ∧ h 250 xi = 0) (fun q => c22 q.1), hz, Int.add_zero])
        · refine x_aload_n 26 (xd DX3_referencesTo rfl) rfl rfl ?_
          refine x_gr 29 _ LX3_39 (xd DX3_referencesTo rfl) rfl rfl ⟨by decide, by decide⟩ (by decide) rfl rfl ?_
          refine x_iload_n 30 (xd DX3_referencesTo rfl) rfl rfl ?_
          refine x_iaload 31 (xd DX3_referencesTo rfl) rfl ⟨Or.inr ⟨rfl, by decide⟩, by decide⟩ (by decide) (by omega) (by omega) rfl ?_
          refine x_if_ne 34 37 (xd DX3_referencesTo rfl) rfl (by have := hr (xi : Int) (by omega) (by omega); omega) rfl (fun c31 => ?_) (fun c31 => ?_)
          · refine x_iinc 40 (L' := [(0, _), (1, _), (2, _), (3, _)]) (xd DX3_referencesTo rfl) rfl (by decide) rfl rfl rfl ?_
            refine x_goto 4 (xd DX3_referencesTo rfl) rfl ?_
            first
              | exact ih (xi + 1) _ (by omega) (by omega) (by unfold cntR; rw [Nat.zero_add, ← xp_t (p := h 249 xi = v ∧ h 250 xi = 0) ⟨c22, c31⟩, hz])
              | exact ih (xi + 1) _ (by omega) (by omega) (by unfold cntR; rw [Nat.zero_add, ← xp_f (p := h 249 xi = v ∧ h 250 xi = 0) (fun q => c31 q.2), hz, Int.add_zero])
              | exact ih (xi + 1) _ (by omega) (by omega) (by unfold cntR; rw [Nat.zero_add, ← xp_f (p := h 249 xi = v ∧ h 250 xi = 0) (fun q => c22 q.1), hz, Int.add_zero])
          · refine x_iinc 37 (L' := [(0, _), (1, _), (2, _), (3, _)]) (xd DX3_referencesTo rfl) rfl (by decide) rfl rfl rfl ?_
            refine x_iinc 40 (L' := [(0, _), (1, _), (2, _), (3, _)]) (xd DX3_referencesTo rfl) rfl (by decide) rfl rfl rfl ?_
            refine x_goto 4 (xd DX3_referencesTo rfl) rfl ?_
            first
              | exact ih (xi + 1) _ (by omega) (by omega) (by unfold cntR; rw [Nat.zero_add, ← xp_t (p := h 249 xi = v ∧ h 250 xi = 0) ⟨c22, c31⟩, hz])
              | exact ih (xi + 1) _ (by omega) (by omega) (by unfold cntR; rw [Nat.zero_add, ← xp_f (p := h 249 xi = v ∧ h 250 xi = 0) (fun q => c31 q.2), hz, Int.add_zero])
              | exact ih (xi + 1) _ (by omega) (by omega) (by unfold cntR; rw [Nat.zero_add, ← xp_f (p := h 249 xi = v ∧ h 250 xi = 0) (fun q => c22 q.1), hz, Int.add_zero])
  refine x_iconst 1 (xd DX3_referencesTo rfl) rfl ?_
  refine x_istore_n 2 (L' := [(0, _), (1, _), (2, _)]) (xd DX3_referencesTo rfl) (by decide) rfl rfl rfl ?_
  refine x_iconst 3 (xd DX3_referencesTo rfl) rfl ?_
  refine x_istore_n 4 (L' := [(0, _), (1, _), (2, _), (3, _)]) (xd DX3_referencesTo rfl) (by decide) rfl rfl rfl ?_
  exact loop 100 0 0 (by omega) (by omega) rfl

set_option maxRecDepth 100000 in
set_option maxHeartbeats 4000000 in
theorem pX3_matchesOf {K : XK} {n : Nat} {h : XH} (c : Nat) (hE : xEnt c) (hw : EW h c) (hP : PW h) (hr : ∀ j, 0 ≤ j → j < h 4 3 → 0 ≤ h 193 j ∧ h 193 j ≤ 4) : MI K mX3_matchesOf 2 n [vr 192, vr c] h (fun z h' => z = cntR (fun j => Mt h c j) 0 (h 4 3).toNat ∧ h' = h) := by
  refine xMeth FX3_matchesOf (Nat.le_of_ble_eq_true rfl) ?_
  have hP1 := hP.1
  have loop : ∀ (m : Nat) (xi : Nat) (xz : Int), (xi : Int) ≤ h 4 3 → h 4 3 - xi < (m : Int) → xz = cntR (fun j => Mt h c j) 0 xi → WI K mX3_matchesOf 2 n (qI n fun z h' => z = cntR (fun j => Mt h c j) 0 (h 4 3).toNat ∧ h' = h) 4 [(0, vr 192), (1, vr c), (2, vi xz), (3, vi (xi : Int))] [] h := by
    intro m
    induction m with
    | zero => intro xi xz a b; exact absurd b (by omega)
    | succ m ih =>
      intro xi xz h0 hm hz
      refine x_iload_n 5 (xd DX3_matchesOf rfl) rfl rfl ?_
      refine x_aload_n 6 (xd DX3_matchesOf rfl) rfl rfl ?_
      refine x_gr 9 _ LX3_51 (xd DX3_matchesOf rfl) rfl rfl ⟨by decide, by decide⟩ (by decide) rfl rfl ?_
      refine x_gi 12 3 rfl LX3_68 (xd DX3_matchesOf rfl) rfl ⟨Or.inr ⟨rfl, by decide⟩, by decide⟩ rfl ?_
      refine x_icmp_ge 15 33 (xd DX3_matchesOf rfl) rfl (by omega) (by omega) rfl (fun c12 => ?_) (fun c12 => ?_)
      · refine x_iload_n 34 (xd DX3_matchesOf rfl) rfl rfl ?_
        refine x_ri (xd DX3_matchesOf rfl) rfl ?_
        refine ⟨?_, rfl⟩
        rw [hz, show (h 4 3).toNat = xi by omega]
      · refine x_aload_n 16 (xd DX3_matchesOf rfl) rfl rfl ?_
        refine x_aload_n 17 (xd DX3_matchesOf rfl) rfl rfl ?_
        refine x_iload_n 18 (xd DX3_matchesOf rfl) rfl rfl ?_
        refine x_Vi 21 (pX3_matches c (xi : Int) hE hw hP (by omega) (by have := hr (xi : Int) (by omega) (by omega); omega)) FX3_matches VX3_matches CX3_129 (xd DX3_matchesOf rfl) rfl rfl rfl ⟨by decide, rfl⟩ ⟨by decide, by decide⟩ (by decide) (Nat.le_of_ble_eq_true rfl) (by decide) rfl ?_
        rintro z9 h9 ⟨q1, q2⟩
        rw [q1, q2]
        clear q1 q2 z9 h9
        refine x_ifp_eq 24 27 (xd DX3_matchesOf rfl) rfl rfl (fun c21 => ?_) (fun c21 => ?_)
        · refine x_iinc 30 (L' := [(0, _), (1, _), (2, _), (3, _)]) (xd DX3_matchesOf rfl) rfl (by decide) rfl rfl rfl ?_
          refine x_goto 4 (xd DX3_matchesOf rfl) rfl ?_
          first
            | exact ih (xi + 1) _ (by omega) (by omega) (by unfold cntR; rw [Nat.zero_add, ← xp_t c21, hz])
            | exact ih (xi + 1) _ (by omega) (by omega) (by unfold cntR; rw [Nat.zero_add, ← xp_f c21, hz, Int.add_zero])
        · refine x_iinc 27 (L' := [(0, _), (1, _), (2, _), (3, _)]) (xd DX3_matchesOf rfl) rfl (by decide) rfl rfl rfl ?_
          refine x_iinc 30 (L' := [(0, _), (1, _), (2, _), (3, _)]) (xd DX3_matchesOf rfl) rfl (by decide) rfl rfl rfl ?_
          refine x_goto 4 (xd DX3_matchesOf rfl) rfl ?_
          first
            | exact ih (xi + 1) _ (by omega) (by omega) (by unfold cntR; rw [Nat.zero_add, ← xp_t c21, hz])
            | exact ih (xi + 1) _ (by omega) (by omega) (by unfold cntR; rw [Nat.zero_add, ← xp_f c21, hz, Int.add_zero])
  refine x_iconst 1 (xd DX3_matchesOf rfl) rfl ?_
  refine x_istore_n 2 (L' := [(0, _), (1, _), (2, _)]) (xd DX3_matchesOf rfl) (by decide) rfl rfl rfl ?_
  refine x_iconst 3 (xd DX3_matchesOf rfl) rfl ?_
  refine x_istore_n 4 (L' := [(0, _), (1, _), (2, _), (3, _)]) (xd DX3_matchesOf rfl) (by decide) rfl rfl rfl ?_
  exact loop 100 0 0 (by omega) (by omega) rfl

