/-! the class's pictures: the program (cells 4 to 7), an entry, a setup; what fits -/
def PW (h : XH) : Prop := (1 ≤ h 4 3 ∧ h 4 3 ≤ 48) ∧ ∀ i, 0 ≤ i → i < h 4 3 → (0 ≤ h 5 i ∧ h 5 i ≤ 11) ∧ (h 5 i ≤ 6 → 0 ≤ h 6 i ∧ h 6 i ≤ 9) ∧ (6 < h 5 i → h 5 i ≤ 9 → 0 ≤ h 6 i ∧ h 6 i < h 4 3) ∧ (9 < h 5 i → h 6 i = -4) ∧ (h 7 i = 0 ∨ h 7 i = 1)
theorem PW.v {h : XH} (hp : PW h) {i : Int} (h0 : 0 ≤ i) (h1 : i < h 4 3) : (0 ≤ h 5 i ∧ h 5 i ≤ 11) ∧ (-4 ≤ h 6 i ∧ h 6 i ≤ 48) := by
  obtain ⟨⟨a1, a2⟩, a3⟩ := hp
  obtain ⟨b1, b2, b3, b4, -⟩ := a3 i h0 h1
  refine ⟨b1, ?_⟩
  by_cases q : h 5 i ≤ 6
  · have := b2 q; omega
  · by_cases q2 : h 5 i ≤ 9
    · have := b3 (by omega) q2; omega
    · have := b4 (by omega); omega
def EW (h : XH) (c : Nat) : Prop := (2 ≤ h c 2 ∧ h c 2 ≤ 4) ∧ (h c 3 = -4 ∨ (0 ≤ h c 3 ∧ h c 3 < h c 2)) ∧ ∀ j, 0 ≤ j → j < h c 2 → (0 ≤ h (c + 1) j ∧ h (c + 1) j ≤ 6) ∧ (0 ≤ h (c + 2) j ∧ h (c + 2) j ≤ 9)
def SW (h : XH) (s : Nat) : Prop := (0 ≤ h s 1 ∧ h s 1 ≤ 8) ∧ (h s 2 = 4 ∨ h s 2 = 8 ∨ h s 2 = 16) ∧ (1 ≤ h s 3 ∧ h s 3 ≤ 4) ∧ ∀ e : Nat, (e : Int) < h s 1 → EW h (s + 2 + 3 * e)
def xEnt (c : Nat) : Prop := xTY c = (1, 4) ∧ xTY (c + 1) = (11, 4) ∧ xTY (c + 2) = (11, 4) ∧ xRF c 0 = c + 1 + 1 ∧ xRF c 1 = c + 2 + 1 ∧ xRF c 2 = 0 ∧ xRF c 3 = 0 ∧ c + 2 < 259
theorem xEnt_10 : ∀ e : Fin 8, xEnt (10 + 3 * e.val) := by unfold xEnt; decide
theorem xEnt_36 : ∀ k : Fin 6, ∀ e : Fin 8, xEnt (38 + 26 * k.val + 3 * e.val) := by unfold xEnt; decide +kernel
theorem xEnt_246 : xEnt 246 := by unfold xEnt; decide
def Fits (h : XH) (c : Nat) (i : Int) : Prop := 0 ≤ i ∧ i ≤ h 4 3 - h c 2 ∧ ∀ j, 0 ≤ j → j < h c 2 → h (c + 1) j = h 5 (i + j) ∧ (j = h c 3 ∨ h (c + 2) j = h 6 (i + j))
set_option maxRecDepth 100000 in
set_option maxHeartbeats 4000000 in
theorem pX4_has {K : XK} {n : Nat} {h : XH} (i : Int) (hi : xrg i) (hN : xrg (h 4 3)) : MI K mX4_has 0 n [vr 4, vi i] h (fun z h' => z = xp (0 ≤ i ∧ i < h 4 3) ∧ h' = h) := by
  refine xMeth FX4_has (Nat.le_of_ble_eq_true rfl) ?_
  refine x_iload_n 1 (xd DX4_has rfl) rfl rfl ?_
  refine x_if_lt 4 16 (xd DX4_has rfl) rfl (by omega) rfl (fun c1 => ?_) (fun c1 => ?_)
  · refine x_iconst 17 (xd DX4_has rfl) rfl ?_
    refine x_rz (xd DX4_has rfl) rfl (by omega) ?_
    first | exact ⟨xp_t (by omega), rfl⟩ | exact ⟨xp_f (by omega), rfl⟩
  · refine x_iload_n 5 (xd DX4_has rfl) rfl rfl ?_
    refine x_aload_n 6 (xd DX4_has rfl) rfl rfl ?_
    refine x_gi 9 3 rfl LX4_28 (xd DX4_has rfl) rfl ⟨Or.inr ⟨rfl, by decide⟩, by decide⟩ rfl ?_
    refine x_icmp_ge 12 16 (xd DX4_has rfl) rfl (by omega) (by omega) rfl (fun c9 => ?_) (fun c9 => ?_)
    · refine x_iconst 17 (xd DX4_has rfl) rfl ?_
      refine x_rz (xd DX4_has rfl) rfl (by omega) ?_
      first | exact ⟨xp_t (by omega), rfl⟩ | exact ⟨xp_f (by omega), rfl⟩
    · refine x_iconst 13 (xd DX4_has rfl) rfl ?_
      refine x_goto 17 (xd DX4_has rfl) rfl ?_
      refine x_rz (xd DX4_has rfl) rfl (by omega) ?_
      first | exact ⟨xp_t (by omega), rfl⟩ | exact ⟨xp_f (by omega), rfl⟩

set_option maxRecDepth 100000 in
set_option maxHeartbeats 4000000 in
theorem pX3_lineOf {K : XK} {n : Nat} {h : XH} (i : Int) (k : Nat) (hi : xrg i) (hk : h 192 15 = (k : Int)) (hk2 : k < 32) : MI K mX3_lineOf 0 n [vr 192, vi i] h (fun z h' => z = i / (2 ^ k : Nat) ∧ h' = h) := by
  refine xMeth FX3_lineOf (Nat.le_of_ble_eq_true rfl) ?_
  refine x_iload_n 1 (xd DX3_lineOf rfl) rfl rfl ?_
  refine x_aload_n 2 (xd DX3_lineOf rfl) rfl rfl ?_
  refine x_gi 5 15 rfl LX3_65 (xd DX3_lineOf rfl) rfl ⟨Or.inr ⟨rfl, by decide⟩, by decide⟩ rfl ?_
  rw [hk]
  refine x_ishr 6 (k := k) (by omega) (by omega) (xd DX3_lineOf rfl) rfl ?_
  refine x_ri (xd DX3_lineOf rfl) rfl ?_
  exact ⟨rfl, rfl⟩

set_option maxRecDepth 100000 in
set_option maxHeartbeats 4000000 in
theorem pX1_fits {K : XK} {n : Nat} {h : XH} (c : Nat) (i : Int) (hE : xEnt c) (hw : EW h c) (hP : PW h) (hi : xrg i) : MI K mX1_fits 0 n [vr c, vr 4, vi i] h (fun z h' => z = xp (Fits h c i) ∧ h' = h) := by
  refine xMeth FX1_fits (Nat.le_of_ble_eq_true rfl) ?_
  obtain ⟨e1, e2, e3, e4, e5, e6, e7, e8⟩ := hE
  obtain ⟨hw1, hw2, hw3⟩ := hw
  have hP1 := hP.1
  have loop : 0 ≤ i → i ≤ h 4 3 - h c 2 → ∀ (m : Nat) (k : Int), 0 ≤ k → k ≤ h c 2 → h c 2 - k < (m : Int) → (∀ j, 0 ≤ j → j < k → h (c + 1) j = h 5 (i + j) ∧ (j = h c 3 ∨ h (c + 2) j = h 6 (i + j))) → WI K mX1_fits 0 n (qI n fun z h' => z = xp (Fits h c i) ∧ h' = h) 21 [(0, vr c), (1, vr 4), (2, vi i), (3, vi k)] [] h := by
    intro c1 c14 m
    induction m with
    | zero => intro k h0 h1 hm; exact absurd hm (by omega)
    | succ m ih =>
      intro k h0 h1 hm hk
      refine x_iload_n 22 (xd DX1_fits rfl) rfl rfl ?_
      refine x_aload_n 23 (xd DX1_fits rfl) rfl rfl ?_
      refine x_gi 26 2 rfl LX1_18 (xd DX1_fits rfl) e1 ⟨Or.inr ⟨rfl, by show c < 259; omega⟩, by omega⟩ rfl ?_
      refine x_icmp_ge 29 81 (xd DX1_fits rfl) rfl (by omega) (by omega) rfl (fun c26 => ?_) (fun c26 => ?_)
      · refine x_iconst 82 (xd DX1_fits rfl) rfl ?_
        refine x_rz (xd DX1_fits rfl) rfl (by omega) ?_
        exact ⟨xp_t ⟨by omega, by omega, fun j a b => hk j a (by omega)⟩, rfl⟩
      · refine x_aload_n 30 (xd DX1_fits rfl) rfl rfl ?_
        refine x_gr 33 (c + 1) LX1_9 (xd DX1_fits rfl) e1 e4 ⟨by show c < 259; omega, by omega⟩ (by omega) rfl rfl ?_
        refine x_iload_n 34 (xd DX1_fits rfl) rfl rfl ?_
        refine x_iaload 35 (xd DX1_fits rfl) e2 ⟨Or.inr ⟨rfl, by show c + 1 < 259; omega⟩, by omega⟩ (by decide) (by omega) (by omega) rfl ?_
        refine x_aload_n 36 (xd DX1_fits rfl) rfl rfl ?_
        refine x_gr 39 _ LX1_25 (xd DX1_fits rfl) rfl rfl ⟨by decide, by decide⟩ (by decide) rfl rfl ?_
        refine x_iload_n 40 (xd DX1_fits rfl) rfl rfl ?_
        refine x_iload_n 41 (xd DX1_fits rfl) rfl rfl ?_
        refine x_iadd 42 (xd DX1_fits rfl) rfl ?_
        refine x_iaload 43 (xd DX1_fits rfl) rfl ⟨Or.inr ⟨rfl, by decide⟩, by decide⟩ (by decide) (by omega) (by omega) rfl ?_
        refine x_icmp_eq 46 48 (xd DX1_fits rfl) rfl (by have q1 := hw3 k h0 c26; have q2 := hP.v (i := i + k) (by omega) (by omega); omega) (by have q1 := hw3 k h0 c26; have q2 := hP.v (i := i + k) (by omega) (by omega); omega) rfl (fun c43 => ?_) (fun c43 => ?_)
        · refine x_iload_n 49 (xd DX1_fits rfl) rfl rfl ?_
          refine x_aload_n 50 (xd DX1_fits rfl) rfl rfl ?_
          refine x_gi 53 3 rfl LX1_22 (xd DX1_fits rfl) e1 ⟨Or.inr ⟨rfl, by show c < 259; omega⟩, by omega⟩ rfl ?_
          refine x_icmp_eq 56 75 (xd DX1_fits rfl) rfl (by omega) (by omega) rfl (fun c53 => ?_) (fun c53 => ?_)
          · refine x_iinc 78 (L' := [(0, _), (1, _), (2, _), (3, _)]) (xd DX1_fits rfl) rfl (by decide) rfl rfl rfl ?_
            refine x_goto 21 (xd DX1_fits rfl) rfl ?_
            exact ih (k + 1) (by omega) (by omega) (by omega) (fun j a b => by
              by_cases e : j = k
              · subst e; exact ⟨c43, by first | exact Or.inl c53 | exact Or.inr c70⟩
              · exact hk j a (by omega))
          · refine x_aload_n 57 (xd DX1_fits rfl) rfl rfl ?_
            refine x_gr 60 (c + 2) LX1_15 (xd DX1_fits rfl) e1 e5 ⟨by show c < 259; omega, by omega⟩ (by omega) rfl rfl ?_
            refine x_iload_n 61 (xd DX1_fits rfl) rfl rfl ?_
            refine x_iaload 62 (xd DX1_fits rfl) e3 ⟨Or.inr ⟨rfl, by show c + 2 < 259; omega⟩, by omega⟩ (by decide) (by omega) (by omega) rfl ?_
            refine x_aload_n 63 (xd DX1_fits rfl) rfl rfl ?_
            refine x_gr 66 _ LX1_28 (xd DX1_fits rfl) rfl rfl ⟨by decide, by decide⟩ (by decide) rfl rfl ?_
            refine x_iload_n 67 (xd DX1_fits rfl) rfl rfl ?_
            refine x_iload_n 68 (xd DX1_fits rfl) rfl rfl ?_
            refine x_iadd 69 (xd DX1_fits rfl) rfl ?_
            refine x_iaload 70 (xd DX1_fits rfl) rfl ⟨Or.inr ⟨rfl, by decide⟩, by decide⟩ (by decide) (by omega) (by omega) rfl ?_
            refine x_icmp_eq 73 75 (xd DX1_fits rfl) rfl (by have q1 := hw3 k h0 c26; have q2 := hP.v (i := i + k) (by omega) (by omega); omega) (by have q1 := hw3 k h0 c26; have q2 := hP.v (i := i + k) (by omega) (by omega); omega) rfl (fun c70 => ?_) (fun c70 => ?_)
            · refine x_iinc 78 (L' := [(0, _), (1, _), (2, _), (3, _)]) (xd DX1_fits rfl) rfl (by decide) rfl rfl rfl ?_
              refine x_goto 21 (xd DX1_fits rfl) rfl ?_
              exact ih (k + 1) (by omega) (by omega) (by omega) (fun j a b => by
                by_cases e : j = k
                · subst e; exact ⟨c43, by first | exact Or.inl c53 | exact Or.inr c70⟩
                · exact hk j a (by omega))
            · refine x_iconst 74 (xd DX1_fits rfl) rfl ?_
              refine x_rz (xd DX1_fits rfl) rfl (by omega) ?_
              exact ⟨xp_f (fun q => (q.2.2 k h0 c26).2.elim c53 c70), rfl⟩
        · refine x_iconst 47 (xd DX1_fits rfl) rfl ?_
          refine x_rz (xd DX1_fits rfl) rfl (by omega) ?_
          exact ⟨xp_f (fun q => c43 (q.2.2 k h0 c26).1), rfl⟩
  refine x_iload_n 1 (xd DX1_fits rfl) rfl rfl ?_
  refine x_if_lt 4 17 (xd DX1_fits rfl) rfl (by omega) rfl (fun c1 => ?_) (fun c1 => ?_)
  · refine x_iconst 18 (xd DX1_fits rfl) rfl ?_
    refine x_rz (xd DX1_fits rfl) rfl (by omega) ?_
    exact ⟨xp_f (by rintro ⟨a, b, -⟩; omega), rfl⟩
  · refine x_iload_n 5 (xd DX1_fits rfl) rfl rfl ?_
    refine x_aload_n 6 (xd DX1_fits rfl) rfl rfl ?_
    refine x_gi 9 3 rfl LX1_29 (xd DX1_fits rfl) rfl ⟨Or.inr ⟨rfl, by decide⟩, by decide⟩ rfl ?_
    refine x_aload_n 10 (xd DX1_fits rfl) rfl rfl ?_
    refine x_gi 13 2 rfl LX1_18 (xd DX1_fits rfl) e1 ⟨Or.inr ⟨rfl, by show c < 259; omega⟩, by omega⟩ rfl ?_
    refine x_isub 14 (xd DX1_fits rfl) rfl ?_
    refine x_icmp_le 17 19 (xd DX1_fits rfl) rfl (by omega) (by omega) rfl (fun c14 => ?_) (fun c14 => ?_)
    · refine x_iconst 20 (xd DX1_fits rfl) rfl ?_
      refine x_istore_n 21 (L' := [(0, _), (1, _), (2, _), (3, _)]) (xd DX1_fits rfl) (by decide) rfl rfl rfl ?_
      exact loop (by omega) (by omega) 100 0 (by omega) (by omega) (by omega) (fun j a b => by omega)
    · refine x_iconst 18 (xd DX1_fits rfl) rfl ?_
      refine x_rz (xd DX1_fits rfl) rfl (by omega) ?_
      exact ⟨xp_f (by rintro ⟨a, b, -⟩; omega), rfl⟩

