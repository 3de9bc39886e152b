/-! constructors: setup, history, text, program, choice, run -/
def SetAt (s : Nat) : Prop := xTY s = (6, 4) ∧ xTY (s + 1) = (13, 8) ∧ xRF s 0 = s + 2 ∧ xRF s 1 = 0 ∧ xRF s 2 = 0 ∧ xRF s 3 = 0 ∧ s < 900 ∧ ∀ e : Nat, e < 8 → xTY (s + 2 + 3 * e) = (1, 4) ∧ xTY (s + 2 + 3 * e + 1) = (11, 4) ∧ xTY (s + 2 + 3 * e + 2) = (11, 4) ∧ xRF (s + 2 + 3 * e) 0 = s + 2 + 3 * e + 2 ∧ xRF (s + 2 + 3 * e) 1 = s + 2 + 3 * e + 3 ∧ xRF (s + 2 + 3 * e) 2 = 0 ∧ xRF (s + 2 + 3 * e) 3 = 0 ∧ xRF (s + 1) e = s + 2 + 3 * e + 1
theorem SetAt.ent {s e : Nat} (h : SetAt s) (he : e < 8) : EntAt (s + 2 + 3 * e) := by
  obtain ⟨a, b, c, d, f, g, i, j⟩ := h
  obtain ⟨k1, k2, k3, k4, k5, k6, k7, k8⟩ := j e he
  exact ⟨k1, k2, k3, k4, k5, k6, k7, by omega⟩
theorem SetAt_8 : SetAt 8 := by unfold SetAt; decide +kernel
theorem SetAt_h : ∀ k : Nat, k < 6 → SetAt (36 + 26 * k) := by unfold SetAt; decide +kernel
set_option maxRecDepth 100000 in
set_option maxHeartbeats 4000000 in
theorem pX6_init {K : XK} {h : XH} (s : Nat) (hE : SetAt s) (h0 : h s = fun _ => 0) : MX K mX6_init (false, 2, 25, 104) (s + 1) [vr s] h (qC s (s + 26) h) := by
  have hs9 := hE.2.2.2.2.2.2.1
  refine xMeth FX6_init (Nat.le_of_ble_eq_true rfl) ?_
  have loop : ∀ (f e : Nat) (x : XH) (zi : Int) (n cs ss : Nat), zi = (e : Int) → n = s + 2 + 3 * e → cs = 1 + 3 * e → ss = 8 + 12 * e → e ≤ 8 → 8 - e < f → (∀ c, c < s → x c = h c) → (∀ j : Nat, j < 4 → x s j = ini s j) → (∀ j : Nat, j < e → x (s + 1) j = ini (s + 1) j) → Mk (s + 2) (s + 2 + 3 * e) x → WX K mX6_init (false, 2, 25, 104) (qC s (s + 26) h) (n, cs, ss) 26 [(0, vr s), (1, vi zi)] [] x := by
    intro f
    induction f with
    | zero => intro e x zi n cs ss a b c d a1 a2; exact absurd a2 (by omega)
    | succ f ih =>
      intro e x zi n cs ss ez en ec es he hf x1 x2 x3 x4
      subst ez
      refine x_iload_n 27 (xd DX6_init rfl) rfl rfl ?_
      refine x_bipush 29 (xd DX6_init rfl) rfl rfl ?_
      refine x_icmp_ge 32 51 (xd DX6_init rfl) rfl (by omega) (by omega) rfl (fun kc => ?_) (fun kc => ?_)
      · have e8 : e = 8 := by omega
        subst e8; subst en; subst ec; subst es
        refine x_return (xd DX6_init rfl) rfl rfl ⟨rfl, rfl, x1, ?_⟩
        intro c p q j hj
        have : c = s ∨ c = s + 1 ∨ s + 2 ≤ c := by omega
        rcases this with w | w | w
        · subst w
          rw [hE.1] at hj
          exact x2 j hj
        · subst w
          rw [hE.2.1] at hj
          exact x3 j hj
        · exact x4 c w (by omega) j hj
      · have he8 : e < 8 := by omega
        have hEn := hE.ent he8
        subst en
        refine x_aload_n 33 (xd DX6_init rfl) rfl rfl ?_
        refine x_gr0 36 (s + 1) LX6_11 (xd DX6_init rfl) hE.1 ?_ ⟨by dsimp only; omega, by omega⟩ (by omega) rfl ?_
        · have q := x2 0 (by decide)
          unfold ini at q
          rw [if_neg (by omega), if_neg (by omega), hE.2.2.1] at q
          rw [q]
          push_cast
          omega
        refine x_iload_n 37 (xd DX6_init rfl) rfl rfl ?_
        refine x_newc 40 (ci := 1) (xd DX6_init rfl) rfl hEn.1 clX1 rfl KX6_9 NX1 IX1 okX1 (by dsimp only; omega) (by dsimp only; omega) (by dsimp only; omega) rfl ?_
        refine x_dupr 41 (xd DX6_init rfl) rfl ?_
        refine x_ctor 44 (pX1_init (s + 2 + 3 * e) hEn rset_s) FX1_init VX1_init rfl CX6_24 (xd DX6_init rfl) rfl rfl (by omega) (by decide) (by subst ec; dsimp only; omega) (by subst es; dsimp only; omega) (Nat.le_of_ble_eq_true rfl) rfl rfl ?_
        intro y hy1 hy2
        have hyk : ∀ c, c < s + 2 + 3 * e → y c = x c := fun c hc => by rw [hy1 c hc, rset_c (by omega)]
        refine x_aast 45 (xd DX6_init rfl) rfl hE.2.1 (Or.inl ⟨rfl, rfl⟩) (by rw [hEn.1]) ⟨by dsimp only; omega, by omega⟩ ⟨by dsimp only; omega, by omega⟩ (by decide) rfl he8 rfl ?_
        refine x_iinc (L' := [(0, _), (1, _)]) 48 (xd DX6_init rfl) rfl (by decide) rfl rfl rfl ?_
        refine x_goto 26 (xd DX6_init rfl) rfl ?_
        refine ih (e + 1) _ _ _ _ _ (by push_cast; rfl) (by omega) (by dsimp only; omega) (by dsimp only; omega) (by omega) (by omega) ?_ ?_ ?_ ?_
        · intro c hc
          rw [hset_c (by omega), hyk c (by omega), x1 c hc]
        · intro j hj
          rw [hset_c (by omega), hyk s (by omega), x2 j hj]
        · intro j hj
          by_cases w : j = e
          · subst w
            rw [hset_s, ini_rf (by rw [hE.2.1]; decide), (hE.2.2.2.2.2.2.2 j he8).2.2.2.2.2.2.2]
            push_cast
            omega
          · rw [hset_i (by omega), hyk (s + 1) (by omega), x3 j (by omega)]
        · refine Mk.keep (h := y) ?_ (fun c p q => hset_c (by omega))
          exact Mk.app (b := s + 2 + 3 * e) (x4.keep (fun c p q => hyk c (by omega))) hy2
  refine x_aload_n 1 (xd DX6_init rfl) rfl rfl ?_
  refine x_obj 4 (xd DX6_init rfl) OX6 (by decide) (by decide) rfl ?_
  refine x_aload_n 5 (xd DX6_init rfl) rfl rfl ?_
  refine x_bipush 7 (xd DX6_init rfl) rfl rfl ?_
  refine x_newq 10 (a := 13) (xd DX6_init rfl) rfl hE.2.1 (Or.inl ⟨rfl, rfl⟩) KX6_9 rfl (by decide) (by dsimp only; omega) (Nat.le_of_ble_eq_true rfl) (Nat.le_of_ble_eq_true rfl) rfl ?_
  refine x_pr 13 LX6_11 (xd DX6_init rfl) rfl PX6_11 rfl rfl rfl hE.1 ⟨(by first | decide | omega | (dsimp only; omega)), (by first | decide | omega | (dsimp only; omega))⟩ (by first | decide | omega | (dsimp only; omega)) rfl ?_
  refine x_aload_n 14 (xd DX6_init rfl) rfl rfl ?_
  refine x_bipush 16 (xd DX6_init rfl) rfl rfl ?_
  refine x_pi 19 2 rfl LX6_17 (xd DX6_init rfl) hE.1 (by first | exact hE.2.2.2.2.1 | exact hE.2.2.2.2.2.1) ⟨Or.inl (by first | decide | omega | (dsimp only; omega)), (by first | decide | omega | (dsimp only; omega))⟩ rfl ?_
  refine x_aload_n 20 (xd DX6_init rfl) rfl rfl ?_
  refine x_iconst 21 (xd DX6_init rfl) rfl ?_
  refine x_pi 24 3 rfl LX6_21 (xd DX6_init rfl) hE.1 (by first | exact hE.2.2.2.2.1 | exact hE.2.2.2.2.2.1) ⟨Or.inl (by first | decide | omega | (dsimp only; omega)), (by first | decide | omega | (dsimp only; omega))⟩ rfl ?_
  refine x_iconst 25 (xd DX6_init rfl) rfl ?_
  refine x_istore_n 26 (L' := [(0, _), (1, _)]) (xd DX6_init rfl) (by decide) rfl rfl rfl ?_
  refine loop 9 0 _ _ _ _ _ rfl rfl rfl rfl (by omega) (by omega) ?_ ?_ ?_ ?_
  · intro c hc
    rw [hset_c (by omega), hset_c (by omega), hset_c (by omega), rset_c (by omega)]
  · intro j hj
    have : j = 0 ∨ j = 1 ∨ j = 2 ∨ j = 3 := by omega
    rcases this with w | w | w | w <;> subst w
    · rw [hset_i (by decide), hset_i (by decide)]
      show hset _ s ((0 : Nat) : Int) _ s ((0 : Nat) : Int) = _
      unfold ini
      rw [hset_s, if_neg (by omega), if_neg (by omega), hE.2.2.1]
      push_cast
      omega
    · rw [hset_i (by decide), hset_i (by decide), hset_i (by decide), rset_c (by omega), h0]
      unfold ini
      rw [if_neg (by omega), if_neg (by omega), hE.2.2.2.1]
      rfl
    · rw [hset_i (by decide)]
      unfold ini
      rw [if_pos ⟨by rw [hE.1], rfl⟩]
      exact hset_s
    · unfold ini
      rw [if_neg (by omega), if_pos ⟨by rw [hE.1], rfl⟩]
      exact hset_s
  · intro j hj
    omega
  · intro c p q
    omega
set_option maxRecDepth 100000 in
set_option maxHeartbeats 4000000 in
theorem pX2_init {K : XK} {h : XH} (h0 : h 34 = fun _ => 0) : MX K mX2_init (false, 3, 157, 654) 35 [vr 34] h (qC 34 192 h) := by
  refine xMeth FX2_init (Nat.le_of_ble_eq_true rfl) ?_
  have r35 : ∀ k : Nat, k < 6 → xRF 35 k = 36 + 26 * k + 1 := by decide
  have loop : ∀ (f e : Nat) (x : XH) (zi : Int) (n cs ss : Nat), zi = (e : Int) → n = 36 + 26 * e → cs = 1 + 26 * e → ss = 6 + 108 * e → e ≤ 6 → 6 - e < f → (∀ c, c < 34 → x c = h c) → (∀ j : Nat, j < 2 → x 34 j = ini 34 j) → (∀ j : Nat, j < e → x 35 j = ini 35 j) → Mk 36 (36 + 26 * e) x → WX K mX2_init (false, 3, 157, 654) (qC 34 192 h) (n, cs, ss) 15 [(0, vr 34), (1, vi zi)] [] x := by
    intro f
    induction f with
    | zero => intro e x zi n cs ss a b c d a1 a2; exact absurd a2 (by omega)
    | succ f ih =>
      intro e x zi n cs ss ez en ec es he hf x1 x2 x3 x4
      subst ez
      refine x_iload_n 16 (xd DX2_init rfl) rfl rfl ?_
      refine x_bipush 18 (xd DX2_init rfl) rfl rfl ?_
      refine x_icmp_ge 21 40 (xd DX2_init rfl) rfl (by omega) (by omega) rfl (fun kc => ?_) (fun kc => ?_)
      · have e8 : e = 6 := by omega
        subst e8; subst en; subst ec; subst es
        refine x_return (xd DX2_init rfl) rfl rfl ⟨rfl, rfl, x1, ?_⟩
        intro c p q j hj
        have : c = 34 ∨ c = 35 ∨ 36 ≤ c := by omega
        rcases this with w | w | w
        · subst w
          exact x2 j hj
        · subst w
          exact x3 j hj
        · exact x4 c w (by omega) j hj
      · have he8 : e < 6 := by omega
        have hEn := SetAt_h e he8
        subst en
        refine x_aload_n 22 (xd DX2_init rfl) rfl rfl ?_
        refine x_gr0 25 35 LX2_11 (xd DX2_init rfl) rfl (x2 0 (by decide)) ⟨by dsimp only; omega, by decide⟩ (by decide) rfl ?_
        refine x_iload_n 26 (xd DX2_init rfl) rfl rfl ?_
        refine x_newc 29 (ci := 6) (xd DX2_init rfl) rfl hEn.1 clX6 rfl KX2_9 NX6 IX6 okX6 (by dsimp only; omega) (by dsimp only; omega) (by dsimp only; omega) rfl ?_
        refine x_dupr 30 (xd DX2_init rfl) rfl ?_
        refine x_ctor 33 (pX6_init (36 + 26 * e) hEn rset_s) FX6_init VX6_init rfl CX2_17 (xd DX2_init rfl) rfl rfl (by omega) (by decide) (by subst ec; dsimp only; omega) (by subst es; dsimp only; omega) (Nat.le_of_ble_eq_true rfl) rfl rfl ?_
        intro y hy1 hy2
        have hyk : ∀ c, c < 36 + 26 * e → y c = x c := fun c hc => by rw [hy1 c hc, rset_c (by omega)]
        refine x_aast 34 (xd DX2_init rfl) rfl rfl (Or.inr ⟨rfl, rfl⟩) (by rw [hEn.1]) ⟨by dsimp only; omega, by decide⟩ ⟨by dsimp only; omega, by omega⟩ (by decide) rfl he8 rfl ?_
        refine x_iinc (L' := [(0, _), (1, _)]) 37 (xd DX2_init rfl) rfl (by decide) rfl rfl rfl ?_
        refine x_goto 15 (xd DX2_init rfl) rfl ?_
        refine ih (e + 1) _ _ _ _ _ (by push_cast; rfl) (by omega) (by dsimp only; omega) (by dsimp only; omega) (by omega) (by omega) ?_ ?_ ?_ ?_
        · intro c hc
          rw [hset_c (by omega), hyk c (by omega), x1 c hc]
        · intro j hj
          rw [hset_c (by omega), hyk 34 (by omega), x2 j hj]
        · intro j hj
          by_cases w : j = e
          · subst w
            rw [hset_s, ini_rf (by decide), r35 j he8]
            push_cast
            omega
          · rw [hset_i (by omega), hyk 35 (by omega), x3 j (by omega)]
        · refine Mk.keep (h := y) ?_ (fun c p q => hset_c (by omega))
          exact Mk.app (b := 36 + 26 * e) (x4.keep (fun c p q => hyk c (by omega))) hy2
  refine x_aload_n 1 (xd DX2_init rfl) rfl rfl ?_
  refine x_obj 4 (xd DX2_init rfl) OX2 (by decide) (by decide) rfl ?_
  refine x_aload_n 5 (xd DX2_init rfl) rfl rfl ?_
  refine x_bipush 7 (xd DX2_init rfl) rfl rfl ?_
  refine x_newq 10 (a := 14) (xd DX2_init rfl) rfl rfl (Or.inr ⟨rfl, rfl⟩) KX2_9 rfl (by decide) (by decide) (by decide) (by decide) rfl ?_
  refine x_pr 13 LX2_11 (xd DX2_init rfl) rfl PX2_11 rfl rfl rfl rfl ⟨(by first | decide | omega | (dsimp only; omega)), (by first | decide | omega | (dsimp only; omega))⟩ (by first | decide | omega | (dsimp only; omega)) rfl ?_
  refine x_iconst 14 (xd DX2_init rfl) rfl ?_
  refine x_istore_n 15 (L' := [(0, _), (1, _)]) (xd DX2_init rfl) (by decide) rfl rfl rfl ?_
  refine loop 7 0 _ _ _ _ _ rfl rfl rfl rfl (by omega) (by omega) ?_ ?_ ?_ ?_
  · intro c hc
    rw [hset_c (by omega), rset_c (by omega)]
  · intro j hj
    have : j = 0 ∨ j = 1 := by omega
    rcases this with w | w <;> subst w
    · rfl
    · rw [hset_i (by decide), rset_c (by decide), h0]
      rfl
  · intro j hj
    omega
  · intro c p q
    omega
set_option maxRecDepth 100000 in
set_option maxHeartbeats 4000000 in
theorem pX7_init {K : XK} {h : XH} (h0 : h 1 = fun _ => 0) : MX K mX7_init (false, 1, 2, 248) 2 [vr 1] h (qC 1 4 h) := by
  refine xMeth FX7_init (Nat.le_of_ble_eq_true rfl) ?_
  refine x_aload_n 1 (xd DX7_init rfl) rfl rfl ?_
  refine x_obj 4 (xd DX7_init rfl) OX7 (by decide) (by decide) rfl ?_
  refine x_aload_n 5 (xd DX7_init rfl) rfl rfl ?_
  refine x_sipush 8 (xd DX7_init rfl) rfl rfl ?_
  refine x_newa 10 (a := 10) (xd DX7_init rfl) rfl rfl (by unfold xAty; decide) TA_char rfl (by decide) (by first | decide | omega | (dsimp only; omega)) (by first | decide | omega | (dsimp only; omega)) (by first | decide | omega | (dsimp only; omega)) rfl ?_
  refine x_pr 13 LX7_9 (xd DX7_init rfl) rfl PX7_9 rfl rfl rfl rfl ⟨(by first | decide | omega | (dsimp only; omega)), (by first | decide | omega | (dsimp only; omega))⟩ (by first | decide | omega | (dsimp only; omega)) rfl ?_
  refine x_aload_n 14 (xd DX7_init rfl) rfl rfl ?_
  refine x_bipush 16 (xd DX7_init rfl) rfl rfl ?_
  refine x_newa 18 (a := 11) (xd DX7_init rfl) rfl rfl (by unfold xAty; decide) TA_int rfl (by decide) (by first | decide | omega | (dsimp only; omega)) (by first | decide | omega | (dsimp only; omega)) (by first | decide | omega | (dsimp only; omega)) rfl ?_
  refine x_pr 21 LX7_15 (xd DX7_init rfl) rfl PX7_15 rfl rfl rfl rfl ⟨(by first | decide | omega | (dsimp only; omega)), (by first | decide | omega | (dsimp only; omega))⟩ (by first | decide | omega | (dsimp only; omega)) rfl ?_
  refine x_return (xd DX7_init rfl) rfl rfl ⟨rfl, rfl, ?_, ?_⟩
  · intro c hc
    rw [hset_c (by omega), rset_c (by omega), hset_c (by omega), rset_c (by omega)]
  · intro c p q j hj
    have : c = 1 ∨ c = 2 ∨ c = 3 := by omega
    rcases this with w | w | w
    · subst w
      have hj : j < 4 := hj
      have : j = 0 ∨ j = 1 ∨ j = 2 ∨ j = 3 := by omega
      rcases this with w | w | w | w <;> subst w
      · rw [hset_i (by decide), rset_c (by decide)]; rfl
      · rfl
      · rw [hset_i (by decide), rset_c (by decide), hset_i (by decide), rset_c (by decide), h0]; rfl
      · rw [hset_i (by decide), rset_c (by decide), hset_i (by decide), rset_c (by decide), h0]; rfl
    · subst w
      rw [hset_c (by decide), rset_c (by decide), hset_c (by decide), rset_s]; exact (ini_arr (c := 2) rfl (by decide) j).symm
    · subst w
      rw [hset_c (by decide), rset_s]; exact (ini_arr (c := 3) rfl (by decide) j).symm
set_option maxRecDepth 100000 in
set_option maxHeartbeats 4000000 in
theorem pX4_init {K : XK} {h : XH} (h0 : h 4 = fun _ => 0) : MX K mX4_init (false, 1, 3, 144) 5 [vr 4] h (qC 4 8 h) := by
  refine xMeth FX4_init (Nat.le_of_ble_eq_true rfl) ?_
  refine x_aload_n 1 (xd DX4_init rfl) rfl rfl ?_
  refine x_obj 4 (xd DX4_init rfl) OX4 (by decide) (by decide) rfl ?_
  refine x_aload_n 5 (xd DX4_init rfl) rfl rfl ?_
  refine x_bipush 7 (xd DX4_init rfl) rfl rfl ?_
  refine x_newa 9 (a := 11) (xd DX4_init rfl) rfl rfl (by unfold xAty; decide) TA_int rfl (by decide) (by first | decide | omega | (dsimp only; omega)) (by first | decide | omega | (dsimp only; omega)) (by first | decide | omega | (dsimp only; omega)) rfl ?_
  refine x_pr 12 LX4_9 (xd DX4_init rfl) rfl PX4_9 rfl rfl rfl rfl ⟨(by first | decide | omega | (dsimp only; omega)), (by first | decide | omega | (dsimp only; omega))⟩ (by first | decide | omega | (dsimp only; omega)) rfl ?_
  refine x_aload_n 13 (xd DX4_init rfl) rfl rfl ?_
  refine x_bipush 15 (xd DX4_init rfl) rfl rfl ?_
  refine x_newa 17 (a := 11) (xd DX4_init rfl) rfl rfl (by unfold xAty; decide) TA_int rfl (by decide) (by first | decide | omega | (dsimp only; omega)) (by first | decide | omega | (dsimp only; omega)) (by first | decide | omega | (dsimp only; omega)) rfl ?_
  refine x_pr 20 LX4_15 (xd DX4_init rfl) rfl PX4_15 rfl rfl rfl rfl ⟨(by first | decide | omega | (dsimp only; omega)), (by first | decide | omega | (dsimp only; omega))⟩ (by first | decide | omega | (dsimp only; omega)) rfl ?_
  refine x_aload_n 21 (xd DX4_init rfl) rfl rfl ?_
  refine x_bipush 23 (xd DX4_init rfl) rfl rfl ?_
  refine x_newa 25 (a := 12) (xd DX4_init rfl) rfl rfl (by unfold xAty; decide) TA_boolean rfl (by decide) (by first | decide | omega | (dsimp only; omega)) (by first | decide | omega | (dsimp only; omega)) (by first | decide | omega | (dsimp only; omega)) rfl ?_
  refine x_pr 28 LX4_18 (xd DX4_init rfl) rfl PX4_18 rfl rfl rfl rfl ⟨(by first | decide | omega | (dsimp only; omega)), (by first | decide | omega | (dsimp only; omega))⟩ (by first | decide | omega | (dsimp only; omega)) rfl ?_
  refine x_return (xd DX4_init rfl) rfl rfl ⟨rfl, rfl, ?_, ?_⟩
  · intro c hc
    rw [hset_c (by omega), rset_c (by omega), hset_c (by omega), rset_c (by omega), hset_c (by omega), rset_c (by omega)]
  · intro c p q j hj
    have : c = 4 ∨ c = 5 ∨ c = 6 ∨ c = 7 := by omega
    rcases this with w | w | w | w
    · subst w
      have hj : j < 4 := hj
      have : j = 0 ∨ j = 1 ∨ j = 2 ∨ j = 3 := by omega
      rcases this with w | w | w | w <;> subst w
      · rw [hset_i (by decide), rset_c (by decide), hset_i (by decide), rset_c (by decide)]; rfl
      · rw [hset_i (by decide), rset_c (by decide)]; rfl
      · rfl
      · rw [hset_i (by decide), rset_c (by decide), hset_i (by decide), rset_c (by decide), hset_i (by decide), rset_c (by decide), h0]; rfl
    · subst w
      rw [hset_c (by decide), rset_c (by decide), hset_c (by decide), rset_c (by decide), hset_c (by decide), rset_s]; exact (ini_arr (c := 5) rfl (by decide) j).symm
    · subst w
      rw [hset_c (by decide), rset_c (by decide), hset_c (by decide), rset_s]; exact (ini_arr (c := 6) rfl (by decide) j).symm
    · subst w
      rw [hset_c (by decide), rset_s]; exact (ini_arr (c := 7) rfl (by decide) j).symm
set_option maxRecDepth 100000 in
set_option maxHeartbeats 4000000 in
theorem pX0_init {K : XK} {h : XH} (h0 : h 254 = fun _ => 0) : MX K mX0_init (false, 1, 0, 0) 255 [vr 254, vr 192, vr 8] h (qC 254 255 h) := by
  refine xMeth FX0_init (Nat.le_of_ble_eq_true rfl) ?_
  refine x_aload_n 1 (xd DX0_init rfl) rfl rfl ?_
  refine x_obj 4 (xd DX0_init rfl) OX0 (by decide) (by decide) rfl ?_
  refine x_aload_n 5 (xd DX0_init rfl) rfl rfl ?_
  refine x_aload_n 6 (xd DX0_init rfl) rfl rfl ?_
  refine x_pr 9 LX0_9 (xd DX0_init rfl) rfl PX0_9 rfl rfl rfl rfl ⟨(by first | decide | omega | (dsimp only; omega)), (by first | decide | omega | (dsimp only; omega))⟩ (by first | decide | omega | (dsimp only; omega)) rfl ?_
  refine x_aload_n 10 (xd DX0_init rfl) rfl rfl ?_
  refine x_aload_n 11 (xd DX0_init rfl) rfl rfl ?_
  refine x_pr 14 LX0_15 (xd DX0_init rfl) rfl PX0_15 rfl rfl rfl rfl ⟨(by first | decide | omega | (dsimp only; omega)), (by first | decide | omega | (dsimp only; omega))⟩ (by first | decide | omega | (dsimp only; omega)) rfl ?_
  refine x_return (xd DX0_init rfl) rfl rfl ⟨rfl, rfl, ?_, ?_⟩
  · intro c hc
    rw [hset_c (by omega), hset_c (by omega)]
  · intro c p q j hj
    have w : c = 254 := by omega
    · subst w
      have hj : j < 6 := hj
      have : j = 0 ∨ j = 1 ∨ j = 2 ∨ j = 3 ∨ j = 4 ∨ j = 5 := by omega
      rcases this with w | w | w | w | w | w <;> subst w
      · rw [hset_i (by decide)]; rfl
      · rfl
      · rw [hset_i (by decide), hset_i (by decide), h0]; rfl
      · rw [hset_i (by decide), hset_i (by decide), h0]; rfl
      · rw [hset_i (by decide), hset_i (by decide), h0]; rfl
      · rw [hset_i (by decide), hset_i (by decide), h0]; rfl
set_option maxRecDepth 100000 in
set_option maxHeartbeats 4000000 in
theorem pX5_init {K : XK} {h : XH} (h0 : h 255 = fun _ => 0) : MX K mX5_init (false, 1, 3, 26) 256 [vr 255, vr 4, vr 192] h (qC 255 259 h) := by
  refine xMeth FX5_init (Nat.le_of_ble_eq_true rfl) ?_
  refine x_aload_n 1 (xd DX5_init rfl) rfl rfl ?_
  refine x_obj 4 (xd DX5_init rfl) OX5 (by decide) (by decide) rfl ?_
  refine x_aload_n 5 (xd DX5_init rfl) rfl rfl ?_
  refine x_bipush 7 (xd DX5_init rfl) rfl rfl ?_
  refine x_newa 9 (a := 11) (xd DX5_init rfl) rfl rfl (by unfold xAty; decide) TA_int rfl (by decide) (by first | decide | omega | (dsimp only; omega)) (by first | decide | omega | (dsimp only; omega)) (by first | decide | omega | (dsimp only; omega)) rfl ?_
  refine x_pr 12 LX5_9 (xd DX5_init rfl) rfl PX5_9 rfl rfl rfl rfl ⟨(by first | decide | omega | (dsimp only; omega)), (by first | decide | omega | (dsimp only; omega))⟩ (by first | decide | omega | (dsimp only; omega)) rfl ?_
  refine x_aload_n 13 (xd DX5_init rfl) rfl rfl ?_
  refine x_bipush 15 (xd DX5_init rfl) rfl rfl ?_
  refine x_newa 17 (a := 11) (xd DX5_init rfl) rfl rfl (by unfold xAty; decide) TA_int rfl (by decide) (by first | decide | omega | (dsimp only; omega)) (by first | decide | omega | (dsimp only; omega)) (by first | decide | omega | (dsimp only; omega)) rfl ?_
  refine x_pr 20 LX5_15 (xd DX5_init rfl) rfl PX5_15 rfl rfl rfl rfl ⟨(by first | decide | omega | (dsimp only; omega)), (by first | decide | omega | (dsimp only; omega))⟩ (by first | decide | omega | (dsimp only; omega)) rfl ?_
  refine x_aload_n 21 (xd DX5_init rfl) rfl rfl ?_
  refine x_iconst 22 (xd DX5_init rfl) rfl ?_
  refine x_newa 24 (a := 11) (xd DX5_init rfl) rfl rfl (by unfold xAty; decide) TA_int rfl (by decide) (by first | decide | omega | (dsimp only; omega)) (by first | decide | omega | (dsimp only; omega)) (by first | decide | omega | (dsimp only; omega)) rfl ?_
  refine x_pr 27 LX5_18 (xd DX5_init rfl) rfl PX5_18 rfl rfl rfl rfl ⟨(by first | decide | omega | (dsimp only; omega)), (by first | decide | omega | (dsimp only; omega))⟩ (by first | decide | omega | (dsimp only; omega)) rfl ?_
  refine x_aload_n 28 (xd DX5_init rfl) rfl rfl ?_
  refine x_aload_n 29 (xd DX5_init rfl) rfl rfl ?_
  refine x_pr 32 LX5_21 (xd DX5_init rfl) rfl PX5_21 rfl rfl rfl rfl ⟨(by first | decide | omega | (dsimp only; omega)), (by first | decide | omega | (dsimp only; omega))⟩ (by first | decide | omega | (dsimp only; omega)) rfl ?_
  refine x_aload_n 33 (xd DX5_init rfl) rfl rfl ?_
  refine x_aload_n 34 (xd DX5_init rfl) rfl rfl ?_
  refine x_pr 37 LX5_25 (xd DX5_init rfl) rfl PX5_25 rfl rfl rfl rfl ⟨(by first | decide | omega | (dsimp only; omega)), (by first | decide | omega | (dsimp only; omega))⟩ (by first | decide | omega | (dsimp only; omega)) rfl ?_
  refine x_return (xd DX5_init rfl) rfl rfl ⟨rfl, rfl, ?_, ?_⟩
  · intro c hc
    rw [hset_c (by omega), hset_c (by omega), hset_c (by omega), rset_c (by omega), hset_c (by omega), rset_c (by omega), hset_c (by omega), rset_c (by omega)]
  · intro c p q j hj
    have : c = 255 ∨ c = 256 ∨ c = 257 ∨ c = 258 := by omega
    rcases this with w | w | w | w
    · subst w
      have hj : j < 17 := hj
      have : j = 0 ∨ j = 1 ∨ j = 2 ∨ j = 3 ∨ j = 4 ∨ j = 5 ∨ j = 6 ∨ j = 7 ∨ j = 8 ∨ j = 9 ∨ j = 10 ∨ j = 11 ∨ j = 12 ∨ j = 13 ∨ j = 14 ∨ j = 15 ∨ j = 16 := by omega
      rcases this with w | w | w | w | w | w | w | w | w | w | w | w | w | w | w | w | w <;> subst w
      · rw [hset_i (by decide)]; rfl
      · rfl
      · rw [hset_i (by decide), hset_i (by decide), hset_i (by decide), rset_c (by decide), hset_i (by decide), rset_c (by decide)]; rfl
      · rw [hset_i (by decide), hset_i (by decide), hset_i (by decide), rset_c (by decide)]; rfl
      · rw [hset_i (by decide), hset_i (by decide)]; rfl
      · rw [hset_i (by decide), hset_i (by decide), hset_i (by decide), rset_c (by decide), hset_i (by decide), rset_c (by decide), hset_i (by decide), rset_c (by decide), h0]; rfl
      · rw [hset_i (by decide), hset_i (by decide), hset_i (by decide), rset_c (by decide), hset_i (by decide), rset_c (by decide), hset_i (by decide), rset_c (by decide), h0]; rfl
      · rw [hset_i (by decide), hset_i (by decide), hset_i (by decide), rset_c (by decide), hset_i (by decide), rset_c (by decide), hset_i (by decide), rset_c (by decide), h0]; rfl
      · rw [hset_i (by decide), hset_i (by decide), hset_i (by decide), rset_c (by decide), hset_i (by decide), rset_c (by decide), hset_i (by decide), rset_c (by decide), h0]; rfl
      · rw [hset_i (by decide), hset_i (by decide), hset_i (by decide), rset_c (by decide), hset_i (by decide), rset_c (by decide), hset_i (by decide), rset_c (by decide), h0]; rfl
      · rw [hset_i (by decide), hset_i (by decide), hset_i (by decide), rset_c (by decide), hset_i (by decide), rset_c (by decide), hset_i (by decide), rset_c (by decide), h0]; rfl
      · rw [hset_i (by decide), hset_i (by decide), hset_i (by decide), rset_c (by decide), hset_i (by decide), rset_c (by decide), hset_i (by decide), rset_c (by decide), h0]; rfl
      · rw [hset_i (by decide), hset_i (by decide), hset_i (by decide), rset_c (by decide), hset_i (by decide), rset_c (by decide), hset_i (by decide), rset_c (by decide), h0]; rfl
      · rw [hset_i (by decide), hset_i (by decide), hset_i (by decide), rset_c (by decide), hset_i (by decide), rset_c (by decide), hset_i (by decide), rset_c (by decide), h0]; rfl
      · rw [hset_i (by decide), hset_i (by decide), hset_i (by decide), rset_c (by decide), hset_i (by decide), rset_c (by decide), hset_i (by decide), rset_c (by decide), h0]; rfl
      · rw [hset_i (by decide), hset_i (by decide), hset_i (by decide), rset_c (by decide), hset_i (by decide), rset_c (by decide), hset_i (by decide), rset_c (by decide), h0]; rfl
      · rw [hset_i (by decide), hset_i (by decide), hset_i (by decide), rset_c (by decide), hset_i (by decide), rset_c (by decide), hset_i (by decide), rset_c (by decide), h0]; rfl
    · subst w
      rw [hset_c (by decide), hset_c (by decide), hset_c (by decide), rset_c (by decide), hset_c (by decide), rset_c (by decide), hset_c (by decide), rset_s]; exact (ini_arr (c := 256) rfl (by decide) j).symm
    · subst w
      rw [hset_c (by decide), hset_c (by decide), hset_c (by decide), rset_c (by decide), hset_c (by decide), rset_s]; exact (ini_arr (c := 257) rfl (by decide) j).symm
    · subst w
      rw [hset_c (by decide), hset_c (by decide), hset_c (by decide), rset_s]; exact (ini_arr (c := 258) rfl (by decide) j).symm
