/-! SqueezedCodeModel: fault, begin, lay -/
def FdI (g h x : XH) (n : Nat) : Prop := Off (fun c => c = 259 ∨ c = 261 ∨ c = 262) h x ∧ (∀ j, j ≠ 2 → x 259 j = h 259 j) ∧ x 259 2 = (n : Int) ∧ ∀ k : Nat, k < n → x 261 k = g 2 (stN (g 2) (g 1 2) k) ∧ x 262 k = vlF (g 2) (stN (g 2) (g 1 2) k)
theorem FdI.rx {g h x : XH} {n : Nat} (hI : FdI g h x n) (hX : RX g h) : RX g x := by
  refine ⟨by rw [hI.2.1 0 (by decide)]; exact hX.1, ?_⟩
  rw [hI.1 260 (by decide)]
  exact hX.2
theorem FdI.one {g h x : XH} {n : Nat} {p : Int} (hI : FdI g h x n) (hp : p = stN (g 2) (g 1 2) n) : FdI g h (oneH x (g 2 p) (vlF (g 2) p)) (n + 1) := by
  obtain ⟨i1, i2, i3, i4⟩ := hI
  unfold oneH
  rw [i3]
  refine ⟨((i1.tr (Off.set (by omega))).tr (Off.set (by omega))).tr (Off.set (by omega)), fun j hj => ?_, by rw [hset_s]; rfl, fun k hk => ?_⟩
  · rw [hset_i hj, hset_c (by decide), hset_c (by decide)]; exact i2 j hj
  · rw [hset_c (c := 259) (d := 261) (by decide), hset_c (c := 262) (d := 261) (by decide), hset_c (c := 259) (d := 262) (by decide), hset_at, hset_at]
    by_cases e : k = n
    · subst e
      rw [if_pos rfl, if_pos rfl, hp]
      exact ⟨rfl, rfl⟩
    · have e' : ¬ (k : Int) = (n : Int) := by omega
      rw [if_neg e', if_neg e', hset_c (c := 261) (d := 262) (by decide)]
      exact i4 k (by omega)
set_option maxRecDepth 100000 in
set_option maxHeartbeats 4000000 in
theorem pX9_fault {K : XK} {n : Nat} {h : XH} (g : XH) (hT : TxI g) (hX : RX g h) : MI K mX9_fault 3 n [vr 259] h (fun zr h' => ∃ n1 : Nat, FltR (g 2) (g 1 2) n1 zr ∧ FdI g h h' n1) := by
  refine xMeth FX9_fault (Nat.le_of_ble_eq_true rfl) ?_
  have hT1 := hT.1
  have part2 : ∀ (xn : Nat) (xp1 : Int) (xg : XH), Prs (g 2) (g 1 2) xn xp1 → g 1 2 ≤ xp1 → FdI g h xg xn → WI K mX9_fault 3 n (qI n (fun zr h' => ∃ n1 : Nat, FltR (g 2) (g 1 2) n1 zr ∧ FdI g h h' n1)) 36 [(0, vr 259), (1, vi xp1)] [] xg := by
    intro xn xp1 xg hPr hNp hI
    have hn48 := hPr.2.1
    have loop2 : ∀ (f : Nat) (xi : Nat), xi ≤ xn → xn - xi < f → (∀ j : Nat, j < xi → ¬ Lost (g 2) (g 1 2) xn j) → WI K mX9_fault 3 n (qI n (fun zr h' => ∃ n1 : Nat, FltR (g 2) (g 1 2) n1 zr ∧ FdI g h h' n1)) 40 [(0, vr 259), (1, vi (stN (g 2) (g 1 2) xi)), (2, vi (xi : Int))] [] xg := by
      intro f
      induction f with
      | zero => intro xi a b; exact absurd b (by omega)
      | succ f ih2 =>
        intro xi i0 i1 hne
        refine x_iload_n 41 (xd DX9_fault rfl) rfl rfl ?_
        refine x_aload_n 42 (xd DX9_fault rfl) rfl rfl ?_
        refine x_gi 45 2 rfl LX9_52 (xd DX9_fault rfl) rfl ⟨Or.inr ⟨rfl, by decide⟩, by decide⟩ rfl ?_
        refine x_icmp_ge 48 93 (xd DX9_fault rfl) rfl (by first | omega | (rw [hI.2.2.1]; omega)) (by first | omega | (rw [hI.2.2.1]; omega)) rfl (fun kc45 => ?_) (fun kc45 => ?_)
        · rw [hI.2.2.1] at kc45
          refine x_bipush 95 (xd DX9_fault rfl) rfl rfl ?_
          refine x_ri (xd DX9_fault rfl) rfl ?_
          exact ⟨xn, ⟨xp1, hPr, Or.inl hNp, Or.inr ⟨hNp, Or.inr ⟨fun j hj => hne j (by omega), rfl⟩⟩⟩, hI⟩
        · rw [hI.2.2.1] at kc45
          have hxi : xi < xn := by omega
          have hk4 := hI.2.2.2 xi hxi
          have hst := hPr.2.2 xi hxi
          have hnn := Prs.nn (f := g 2) (N := g 1 2) xi
          have hlt := hT.2 _ hnn hst.1
          have hvr : mPl (g 2 (stN (g 2) (g 1 2) xi)) → xrg (vlF (g 2) (stN (g 2) (g 1 2) xi)) := fun q => by
            have hw := wdt_in hst.1 hst.2
            have q2 := (kix_pl _).mp q
            have hd := hw.2.2.2.2.1 q2
            unfold dgt at hd
            unfold kTgt at q2
            unfold vlF
            rw [if_neg (by omega), if_pos q2]
            omega
          refine x_aload_n 49 (xd DX9_fault rfl) rfl rfl ?_
          refine x_gr 52 _ LX9_13 (xd DX9_fault rfl) rfl rfl ⟨by decide, by decide⟩ (by decide) rfl rfl ?_
          refine x_iload_n 53 (xd DX9_fault rfl) rfl rfl ?_
          refine x_iaload 54 (xd DX9_fault rfl) rfl ⟨Or.inr ⟨rfl, by decide⟩, by decide⟩ (by decide) (by omega) (by omega) rfl ?_
          refine x_Si 57 (pX9_hasPlace (xg 261 (xi : Int)) (by rw [hk4.1]; omega)) FX9_hasPlace VX9_hasPlace CX9_90 (xd DX9_fault rfl) rfl rfl (by decide) (Nat.le_of_ble_eq_true rfl) (by decide) rfl ?_
          rintro z9 h9 ⟨q1, q2⟩
          rw [q1, q2]
          clear q1 q2 z9 h9
          rw [hk4.1]
          refine x_ifp_eq 60 75 (xd DX9_fault rfl) rfl rfl (fun kc57 => ?_) (fun kc57 => ?_)
          · have hno : ¬ Lost (g 2) (g 1 2) xn xi := fun q => kc57 ((kix_pl _).mpr q.1)
            refine x_iload_n 76 (xd DX9_fault rfl) rfl rfl ?_
            refine x_aload_n 77 (xd DX9_fault rfl) rfl rfl ?_
            refine x_gr 80 _ LX9_13 (xd DX9_fault rfl) rfl rfl ⟨by decide, by decide⟩ (by decide) rfl rfl ?_
            refine x_iload_n 81 (xd DX9_fault rfl) rfl rfl ?_
            refine x_iaload 82 (xd DX9_fault rfl) rfl ⟨Or.inr ⟨rfl, by decide⟩, by decide⟩ (by decide) (by omega) (by omega) rfl ?_
            refine x_Si 85 (pX9_lettersOf (xg 261 (xi : Int)) (by rw [hk4.1]; omega)) FX9_lettersOf VX9_lettersOf CX9_96 (xd DX9_fault rfl) rfl rfl (by decide) (Nat.le_of_ble_eq_true rfl) (by decide) rfl ?_
            rintro z9 h9 ⟨q1, q2⟩
            rw [q1, q2]
            clear q1 q2 z9 h9
            rw [hk4.1]
            refine x_iadd 86 (xd DX9_fault rfl) rfl ?_
            refine x_istore_n 87 (L' := [(0, _), (1, _), (2, _)]) (xd DX9_fault rfl) (by decide) rfl rfl rfl ?_
            refine x_iinc 90 (L' := [(0, _), (1, _), (2, _)]) (xd DX9_fault rfl) rfl (by decide) rfl rfl rfl ?_
            refine x_goto 40 (xd DX9_fault rfl) rfl ?_
            rw [mLet_w hst.1 hst.2, ← stN_s]
            refine ih2 (xi + 1) (by omega) (by omega) (fun j hj => ?_)
            by_cases e : j = xi
            · rw [e]; exact hno
            · exact hne j (by omega)
          · refine x_aload_n 61 (xd DX9_fault rfl) rfl rfl ?_
            refine x_gr 64 _ LX9_16 (xd DX9_fault rfl) rfl rfl ⟨by decide, by decide⟩ (by decide) rfl rfl ?_
            refine x_iload_n 65 (xd DX9_fault rfl) rfl rfl ?_
            refine x_iaload 66 (xd DX9_fault rfl) rfl ⟨Or.inr ⟨rfl, by decide⟩, by decide⟩ (by decide) (by omega) (by omega) rfl ?_
            refine x_aload_n 67 (xd DX9_fault rfl) rfl rfl ?_
            refine x_gi 70 2 rfl LX9_52 (xd DX9_fault rfl) rfl ⟨Or.inr ⟨rfl, by decide⟩, by decide⟩ rfl ?_
            refine x_icmp_lt 73 75 (xd DX9_fault rfl) rfl (by first | (rw [hI.2.2.1]; omega) | (rw [hk4.2]; exact hvr kc57)) (by first | (rw [hI.2.2.1]; omega) | (rw [hk4.2]; exact hvr kc57)) rfl (fun kc70 => ?_) (fun kc70 => ?_)
            · have hno : ¬ Lost (g 2) (g 1 2) xn xi := fun q => by have := q.2; rw [hk4.2, hI.2.2.1] at kc70; omega
              refine x_iload_n 76 (xd DX9_fault rfl) rfl rfl ?_
              refine x_aload_n 77 (xd DX9_fault rfl) rfl rfl ?_
              refine x_gr 80 _ LX9_13 (xd DX9_fault rfl) rfl rfl ⟨by decide, by decide⟩ (by decide) rfl rfl ?_
              refine x_iload_n 81 (xd DX9_fault rfl) rfl rfl ?_
              refine x_iaload 82 (xd DX9_fault rfl) rfl ⟨Or.inr ⟨rfl, by decide⟩, by decide⟩ (by decide) (by omega) (by omega) rfl ?_
              refine x_Si 85 (pX9_lettersOf (xg 261 (xi : Int)) (by rw [hk4.1]; omega)) FX9_lettersOf VX9_lettersOf CX9_96 (xd DX9_fault rfl) rfl rfl (by decide) (Nat.le_of_ble_eq_true rfl) (by decide) rfl ?_
              rintro z9 h9 ⟨q1, q2⟩
              rw [q1, q2]
              clear q1 q2 z9 h9
              rw [hk4.1]
              refine x_iadd 86 (xd DX9_fault rfl) rfl ?_
              refine x_istore_n 87 (L' := [(0, _), (1, _), (2, _)]) (xd DX9_fault rfl) (by decide) rfl rfl rfl ?_
              refine x_iinc 90 (L' := [(0, _), (1, _), (2, _)]) (xd DX9_fault rfl) rfl (by decide) rfl rfl rfl ?_
              refine x_goto 40 (xd DX9_fault rfl) rfl ?_
              rw [mLet_w hst.1 hst.2, ← stN_s]
              refine ih2 (xi + 1) (by omega) (by omega) (fun j hj => ?_)
              by_cases e : j = xi
              · rw [e]; exact hno
              · exact hne j (by omega)
            · have hyes : Lost (g 2) (g 1 2) xn xi := ⟨(kix_pl _).mp kc57, by rw [hk4.2, hI.2.2.1] at kc70; exact kc70⟩
              refine x_iload_n 74 (xd DX9_fault rfl) rfl rfl ?_
              refine x_ri (xd DX9_fault rfl) rfl ?_
              exact ⟨xn, ⟨xp1, hPr, Or.inl hNp, Or.inr ⟨hNp, Or.inl ⟨xi, hxi, hyes, hne, rfl⟩⟩⟩, hI⟩
    refine x_iconst 37 (xd DX9_fault rfl) rfl ?_
    refine x_istore_n 38 (L' := [(0, _), (1, _)]) (xd DX9_fault rfl) (by decide) rfl rfl rfl ?_
    refine x_iconst 39 (xd DX9_fault rfl) rfl ?_
    refine x_istore_n 40 (L' := [(0, _), (1, _), (2, _)]) (xd DX9_fault rfl) (by decide) rfl rfl rfl ?_
    exact loop2 60 0 (by omega) (by omega) (fun j hj => absurd hj (by omega))
  have loop : ∀ (f : Nat) (xk : Nat) (xp1 : Int) (xg : XH), 49 - xk < f → Prs (g 2) (g 1 2) xk xp1 → FdI g h xg xk → WI K mX9_fault 3 n (qI n (fun zr h' => ∃ n1 : Nat, FltR (g 2) (g 1 2) n1 zr ∧ FdI g h h' n1)) 7 [(0, vr 259), (1, vi xp1)] [] xg := by
    intro f
    induction f with
    | zero => intro xk xp1 xg a; exact absurd a (by omega)
    | succ f ih =>
      intro xk xp1 xg hf hPr hI
      have hk48 := hPr.2.1
      have hple := hPr.le hT1.1
      have hp0 : 0 ≤ xp1 := by rw [hPr.1]; exact Prs.nn xk
      refine x_iload_n 8 (xd DX9_fault rfl) rfl rfl ?_
      refine x_aload_n 9 (xd DX9_fault rfl) rfl rfl ?_
      refine x_gi 12 0 rfl LX9_75 (xd DX9_fault rfl) rfl ⟨Or.inr ⟨rfl, by decide⟩, by decide⟩ rfl ?_
      refine x_icmp_ge 15 36 (xd DX9_fault rfl) rfl (by first | omega | (rw [hI.2.1 0 (by decide), hX.1]; omega)) (by first | omega | (rw [hI.2.1 0 (by decide), hX.1]; omega)) rfl (fun kc12 => ?_) (fun kc12 => ?_)
      · rw [hI.2.1 0 (by decide), hX.1] at kc12
        exact part2 xk xp1 xg hPr kc12 hI
      · rw [hI.2.1 0 (by decide), hX.1] at kc12
        refine x_aload_n 16 (xd DX9_fault rfl) rfl rfl ?_
        refine x_iload_n 17 (xd DX9_fault rfl) rfl rfl ?_
        refine x_Vi 20 (pX9_readOne g xp1 hT (hI.rx hX) (by omega) (by rw [hI.2.2.1]; omega)) FX9_readOne VX9_readOne CX9_93 (xd DX9_fault rfl) rfl rfl rfl ⟨by decide, rfl⟩ ⟨by decide, by decide⟩ (by decide) (Nat.le_of_ble_eq_true rfl) (by decide) rfl ?_
        rintro z9 y ⟨hA, hB⟩
        have hwr := wdt_rg (g 2) (g 1 2) xp1
        by_cases hq : xk = 48 ∨ wdt (g 2) (g 1 2) xp1 = 0
        · obtain ⟨a1, a2⟩ := hA (by rw [hI.2.2.1]; omega)
          rw [a1, a2]
          clear a1 a2 hA hB
          refine x_istore_n 21 (L' := [(0, _), (1, _), (2, _)]) (xd DX9_fault rfl) (by decide) rfl rfl rfl ?_
          refine x_iload_n 22 (xd DX9_fault rfl) rfl rfl ?_
          refine x_bipush 24 (xd DX9_fault rfl) rfl rfl ?_
          refine x_icmp_ne 27 29 (xd DX9_fault rfl) rfl (by decide) (by decide) rfl (fun kc24 => absurd kc24 (by decide)) (fun _ => ?_)
          refine x_iload_n 28 (xd DX9_fault rfl) rfl rfl ?_
          refine x_ri (xd DX9_fault rfl) rfl ?_
          exact ⟨xk, ⟨xp1, hPr, Or.inr hq, Or.inl ⟨by omega, rfl⟩⟩, hI⟩
        · obtain ⟨a1, a2⟩ := hB (by rw [hI.2.2.1]; omega) (by omega)
          rw [a1, a2]
          clear a1 a2 hA hB
          refine x_istore_n 21 (L' := [(0, _), (1, _), (2, _)]) (xd DX9_fault rfl) (by decide) rfl rfl rfl ?_
          refine x_iload_n 22 (xd DX9_fault rfl) rfl rfl ?_
          refine x_bipush 24 (xd DX9_fault rfl) rfl rfl ?_
          refine x_icmp_ne 27 29 (xd DX9_fault rfl) rfl (by omega) (by omega) rfl (fun _ => ?_) (fun kc24 => absurd kc24 (by omega))
          refine x_iload_n 30 (xd DX9_fault rfl) rfl rfl ?_
          refine x_iload_n 31 (xd DX9_fault rfl) rfl rfl ?_
          refine x_iadd 32 (xd DX9_fault rfl) rfl ?_
          refine x_istore_n 33 (L' := [(0, _), (1, _), (2, _)]) (xd DX9_fault rfl) (by decide) rfl rfl rfl ?_
          refine x_goto 7 (xd DX9_fault rfl) rfl ?_
          refine WX.locals (L' := [(0, _), (1, _)]) (fun q hq => List.mem_append_left _ hq) ?_
          exact ih (xk + 1) _ _ (by omega) (hPr.step (by omega) (by omega) (by omega)) (hI.one hPr.1)
  refine x_aload_n 1 (xd DX9_fault rfl) rfl rfl ?_
  refine x_iconst 2 (xd DX9_fault rfl) rfl ?_
  refine x_pi 5 2 rfl LX9_52 (xd DX9_fault rfl) rfl rfl ⟨Or.inr ⟨rfl, by decide⟩, by decide⟩ rfl ?_
  refine x_iconst 6 (xd DX9_fault rfl) rfl ?_
  refine x_istore_n 7 (L' := [(0, _), (1, _)]) (xd DX9_fault rfl) (by decide) rfl rfl rfl ?_
  exact loop 60 0 0 _ (by omega) ⟨rfl, by omega, fun k hk => absurd hk (by omega)⟩ ⟨Off.set (Or.inl rfl), fun j hj => hset_i hj, hset_s, fun k hk => absurd hk (by omega)⟩

/-- which instructions are targets -/
def TgE (g : XH) : Prop := ∀ k : Nat, (k : Int) < g 4 3 → g 7 k = xp (∃ j : Nat, (j : Int) < g 4 3 ∧ kTgt (g 5 j) ∧ g 6 j = k)
def SBn (c : Nat) : Prop := c = 259 ∨ (263 ≤ c ∧ c ≤ 266) ∨ (268 ≤ c ∧ c ≤ 270)
def BgE (g : XH) (m : Nat) (k : Int) : Prop := ∃ j : Nat, j < m ∧ kTgt (g 5 j) ∧ g 6 j = k
theorem BgE_s {g : XH} {m : Nat} {k : Int} : BgE g (m + 1) k ↔ (BgE g m k ∨ (kTgt (g 5 m) ∧ g 6 m = k)) := by
  constructor
  · rintro ⟨j, a, b, c⟩
    by_cases e : j = m
    · subst e; exact Or.inr ⟨b, c⟩
    · exact Or.inl ⟨j, by omega, b, c⟩
  · rintro (⟨j, a, b, c⟩ | ⟨b, c⟩)
    · exact ⟨j, by omega, b, c⟩
    · exact ⟨m, by omega, b, c⟩
set_option maxRecDepth 100000 in
set_option maxHeartbeats 4000000 in
theorem pX9_begin {K : XK} {n : Nat} {h : XH} (g : XH) (hC : CI g) (hTe : TgE g) (hn2 : h 259 2 = g 4 3) (hrd : ∀ k : Nat, (k : Int) < g 4 3 → h 261 k = ltr (g 5 k) ∧ h 262 k = g 6 k) (hg81 : g 8 1 = 0) (hg34 : g 34 1 = 0) (hw : h 266 80 = g 8 2) (hcc : h 266 81 = g 8 3) (hTR : TRg h) (hB : BRg h) : MV K mX9_begin 5 n [vr 259] h (fun h' => MG g h' ∧ h' 259 15 = 0 ∧ Off SBn h h' ∧ ∀ j, j ≠ 5 → j ≠ 11 → j ≠ 15 → h' 259 j = h 259 j) := by
  refine xMeth FX9_begin (Nat.le_of_ble_eq_true rfl) ?_
  have hP1 := hC.1.1
  have main : ∀ (hb : XH), (∀ c, c ≠ 259 → hb c = h c) → (∀ j, j ≠ 5 → hb 259 j = h 259 j) → hb 259 5 = g 4 3 → WI K mX9_begin 5 n (qV n (fun h' => MG g h' ∧ h' 259 15 = 0 ∧ Off SBn h h' ∧ ∀ j, j ≠ 5 → j ≠ 11 → j ≠ 15 → h' 259 j = h 259 j)) 10 [(0, vr 259), (1, vi 0)] [] hb := by
    intro hb hb0 hb1 hb5
    have loop2 : ∀ (f : Nat) (xi : Nat) (xg : XH), (xi : Int) ≤ g 4 3 → g 4 3 - xi < (f : Int) → Off (fun c => 263 ≤ c ∧ c ≤ 265) hb xg → (∀ k : Nat, (k : Int) < g 4 3 → xg 263 k = ltr (g 5 k) ∧ xg 264 k = g 6 k ∧ xg 265 k = xp (BgE g xi k)) → WI K mX9_begin 5 n (qV n (fun h' => MG g h' ∧ h' 259 15 = 0 ∧ Off SBn h h' ∧ ∀ j, j ≠ 5 → j ≠ 11 → j ≠ 15 → h' 259 j = h 259 j)) 57 [(0, vr 259), (1, vi (xi : Int))] [] xg := by
      intro f
      induction f with
      | zero => intro xi xg a b; exact absurd b (by omega)
      | succ f ih2 =>
        intro xi xg i0 i1 hO hI
        have h95 : xg 259 5 = g 4 3 := by rw [hO 259 (by omega)]; exact hb5
        refine x_iload_n 58 (xd DX9_begin rfl) rfl rfl ?_
        refine x_aload_n 59 (xd DX9_begin rfl) rfl rfl ?_
        refine x_gi 62 5 rfl LX9_103 (xd DX9_begin rfl) rfl ⟨Or.inr ⟨rfl, by decide⟩, by decide⟩ rfl ?_
        refine x_icmp_ge 65 95 (xd DX9_begin rfl) rfl (by omega) (by omega) rfl (fun kc62 => ?_) (fun kc62 => ?_)
        · refine x_aload_n 96 (xd DX9_begin rfl) rfl rfl ?_
          refine x_gr 99 _ LX9_28 (xd DX9_begin rfl) rfl rfl ⟨by decide, by decide⟩ (by decide) rfl rfl ?_
          refine x_bipush 101 (xd DX9_begin rfl) rfl rfl ?_
          refine x_iconst 102 (xd DX9_begin rfl) rfl ?_
          refine x_iastore 103 (xd DX9_begin rfl) rfl ⟨Or.inr ⟨rfl, by decide⟩, by decide⟩ (by decide) (by omega) (by omega) rfl ?_
          refine x_aload_n 104 (xd DX9_begin rfl) rfl rfl ?_
          refine x_iconst 105 (xd DX9_begin rfl) rfl ?_
          refine x_pi 108 11 rfl LX9_106 (xd DX9_begin rfl) rfl rfl ⟨Or.inr ⟨rfl, by decide⟩, by decide⟩ rfl ?_
          refine x_aload_n 109 (xd DX9_begin rfl) rfl rfl ?_
          refine x_iconst 110 (xd DX9_begin rfl) rfl ?_
          refine x_pz 113 15 rfl LX9_109 (xd DX9_begin rfl) rfl rfl ⟨Or.inr ⟨rfl, by decide⟩, by decide⟩ (by omega) rfl ?_
          have hend : (xi : Int) = g 4 3 := by omega
          have hG : GH g (hset (hset (hset xg 266 82 0) 259 11 0) 259 15 0) := by
            refine ⟨hC.1, hC.2.1, hC.2.2.2.1, ⟨?_, fun j a b => ?_⟩, ⟨?_, ?_, ?_, fun e he => absurd he (by omega)⟩, fun j a b => ?_⟩
            · rw [hset_i (by decide), hset_i (by decide), hset_c (by decide)]; exact h95
            · have q := hI j.toNat (by omega)
              have r := hTe j.toNat (by omega)
              rw [show ((j.toNat : Nat) : Int) = j by omega] at q r
              rw [hset_c (c := 259) (d := 263) (by decide), hset_c (c := 259) (d := 263) (by decide), hset_c (c := 266) (d := 263) (by decide), hset_c (c := 259) (d := 264) (by decide), hset_c (c := 259) (d := 264) (by decide), hset_c (c := 266) (d := 264) (by decide), hset_c (c := 259) (d := 265) (by decide), hset_c (c := 259) (d := 265) (by decide), hset_c (c := 266) (d := 265) (by decide)]
              refine ⟨q.1, q.2.1, ?_⟩
              rw [q.2.2, r]
              exact xp_c ⟨fun ⟨y, u1, u2, u3⟩ => ⟨y, by omega, u2, u3⟩, fun ⟨y, u1, u2, u3⟩ => ⟨y, by omega, u2, u3⟩⟩
            · rw [hset_c (by decide), hset_c (by decide), hset_i (by decide), hO 266 (by omega), hb0 266 (by decide)]; exact hw
            · rw [hset_c (by decide), hset_c (by decide), hset_i (by decide), hO 266 (by omega), hb0 266 (by decide)]; exact hcc
            · rw [hset_c (by decide), hset_c (by decide), hset_s, hg81]
            · rw [hset_c (by decide), hset_c (by decide), hset_at]
              split
              · decide
              · rw [hO 266 (by omega), hb0 266 (by decide)]; exact hTR j a b
          refine x_aload_n 114 (xd DX9_begin rfl) rfl rfl ?_
          refine x_Vv 117 (pX9_cover g hG) FX9_cover VX9_cover CX9_113 (xd DX9_begin rfl) rfl rfl rfl ⟨by decide, rfl⟩ ⟨by decide, by decide⟩ (by decide) (Nat.le_of_ble_eq_true rfl) (by decide) rfl ?_
          intro h3 ⟨hO3, hR3⟩
          refine x_rv (xd DX9_begin rfl) rfl ?_
          have e9 : ∀ j, j ≠ 11 → j ≠ 15 → h3 259 j = hb 259 j := fun j a b => by rw [hO3 259 (by unfold S890; omega), hset_i b, hset_i a, hset_c (by decide), hO 259 (by omega)]
          refine ⟨⟨hG.off hO3 (by unfold S890; omega) (by unfold S890; omega) (by unfold S890; omega) (by unfold S890; omega) (by unfold S890; omega), hR3, hC.2.2.1, ⟨?_, fun k hk => absurd hk (by omega)⟩, ?_⟩, ?_, fun c hc => ?_, fun j a b d => ?_⟩
          · rw [hO3 259 (by unfold S890; omega), hset_i (by decide), hset_s, hg34]
          · refine hB.mv ?_
            rw [hO3 267 (by unfold S890; omega), hset_c (by decide), hset_c (by decide), hset_c (by decide), hO 267 (by omega), hb0 267 (by decide)]
          · rw [hO3 259 (by unfold S890; omega), hset_s]
          · unfold SBn at hc
            rw [hO3 c (by unfold S890; omega), hset_c (by omega), hset_c (by omega), hset_c (by omega), hO c (by omega), hb0 c (by omega)]
          · rw [e9 j b d, hb1 j a]
        · have hxi : (xi : Int) < g 4 3 := by omega
          have hrx := hI xi hxi
          have hvx := hC.1.v (i := (xi : Int)) (by omega) hxi
          refine x_aload_n 66 (xd DX9_begin rfl) rfl rfl ?_
          refine x_gr 69 _ LX9_19 (xd DX9_begin rfl) rfl rfl ⟨by decide, by decide⟩ (by decide) rfl rfl ?_
          refine x_iload_n 70 (xd DX9_begin rfl) rfl rfl ?_
          refine x_iaload 71 (xd DX9_begin rfl) rfl ⟨Or.inr ⟨rfl, by decide⟩, by decide⟩ (by decide) (by omega) (by omega) rfl ?_
          refine x_Si 74 (pX9_hasPlace (xg 263 (xi : Int)) (by rw [hrx.1]; have := ltr_rg (g 5 (xi : Int)); omega)) FX9_hasPlace VX9_hasPlace CX9_90 (xd DX9_begin rfl) rfl rfl (by decide) (Nat.le_of_ble_eq_true rfl) (by decide) rfl ?_
          rintro z9 h9 ⟨q1, q2⟩
          rw [q1, q2]
          clear q1 q2 z9 h9
          rw [hrx.1]
          refine x_ifp_eq 77 89 (xd DX9_begin rfl) rfl rfl (fun kc74 => ?_) (fun kc74 => ?_)
          · have xqno : ¬ kTgt (g 5 (xi : Int)) := fun q => kc74 ((ltr_pl hvx.1).mpr q)
            refine x_iinc 92 (L' := [(0, _), (1, _)]) (xd DX9_begin rfl) rfl (by decide) rfl rfl rfl ?_
            refine x_goto 57 (xd DX9_begin rfl) rfl ?_
            first
              | (refine ih2 (xi + 1) _ (by omega) (by omega) hO (fun k hk => ?_)
                 have q := hI k hk
                 refine ⟨q.1, q.2.1, ?_⟩
                 rw [q.2.2]
                 exact xp_c ⟨fun y => BgE_s.mpr (Or.inl y), fun y => (BgE_s.mp y).elim id (fun z => absurd z.1 xqno)⟩
                 done)
              | (refine ih2 (xi + 1) _ (by omega) (by omega) (hO.tr (Off.set (by omega))) (fun k hk => ?_)
                 have q := hI k hk
                 have q2 := hrx.2.1
                 refine ⟨by rw [hset_c (by decide)]; exact q.1, by rw [hset_c (by decide)]; exact q.2.1, ?_⟩
                 rw [hset_at, q2]
                 by_cases e : (k : Int) = g 6 (xi : Int)
                 · rw [if_pos e]
                   exact xp_t (BgE_s.mpr (Or.inr ⟨xqyes, e.symm⟩))
                 · rw [if_neg e, q.2.2]
                   exact xp_c ⟨fun y => BgE_s.mpr (Or.inl y), fun y => (BgE_s.mp y).elim id (fun z => absurd z.2.symm e)⟩)
          · have xqyes := (ltr_pl hvx.1).mp kc74
            have hvt := (hC.1.2 (xi : Int) (by omega) hxi).2.2.1 xqyes.1 xqyes.2
            refine x_aload_n 78 (xd DX9_begin rfl) rfl rfl ?_
            refine x_gr 81 _ LX9_25 (xd DX9_begin rfl) rfl rfl ⟨by decide, by decide⟩ (by decide) rfl rfl ?_
            refine x_aload_n 82 (xd DX9_begin rfl) rfl rfl ?_
            refine x_gr 85 _ LX9_22 (xd DX9_begin rfl) rfl rfl ⟨by decide, by decide⟩ (by decide) rfl rfl ?_
            refine x_iload_n 86 (xd DX9_begin rfl) rfl rfl ?_
            refine x_iaload 87 (xd DX9_begin rfl) rfl ⟨Or.inr ⟨rfl, by decide⟩, by decide⟩ (by decide) (by omega) (by omega) rfl ?_
            refine x_iconst 88 (xd DX9_begin rfl) rfl ?_
            refine x_iastore 89 (xd DX9_begin rfl) rfl ⟨Or.inr ⟨rfl, by decide⟩, by decide⟩ (by decide) (by first | omega | (rw [hrx.2.1]; omega)) (by first | omega | (rw [hrx.2.1]; omega)) rfl ?_
            refine x_iinc 92 (L' := [(0, _), (1, _)]) (xd DX9_begin rfl) rfl (by decide) rfl rfl rfl ?_
            refine x_goto 57 (xd DX9_begin rfl) rfl ?_
            first
              | (refine ih2 (xi + 1) _ (by omega) (by omega) hO (fun k hk => ?_)
                 have q := hI k hk
                 refine ⟨q.1, q.2.1, ?_⟩
                 rw [q.2.2]
                 exact xp_c ⟨fun y => BgE_s.mpr (Or.inl y), fun y => (BgE_s.mp y).elim id (fun z => absurd z.1 xqno)⟩
                 done)
              | (refine ih2 (xi + 1) _ (by omega) (by omega) (hO.tr (Off.set (by omega))) (fun k hk => ?_)
                 have q := hI k hk
                 have q2 := hrx.2.1
                 refine ⟨by rw [hset_c (by decide)]; exact q.1, by rw [hset_c (by decide)]; exact q.2.1, ?_⟩
                 rw [hset_at, q2]
                 by_cases e : (k : Int) = g 6 (xi : Int)
                 · rw [if_pos e]
                   exact xp_t (BgE_s.mpr (Or.inr ⟨xqyes, e.symm⟩))
                 · rw [if_neg e, q.2.2]
                   exact xp_c ⟨fun y => BgE_s.mpr (Or.inl y), fun y => (BgE_s.mp y).elim id (fun z => absurd z.2.symm e)⟩)
    have part2 : ∀ (f : Nat) (xi : Nat) (xg : XH), xi = 0 → 0 < f → Off (fun c => 263 ≤ c ∧ c ≤ 265) hb xg → (∀ k : Nat, (k : Int) < g 4 3 → xg 263 k = ltr (g 5 k) ∧ xg 264 k = g 6 k ∧ xg 265 k = xp (BgE g 0 k)) → ∀ yi : Int, WI K mX9_begin 5 n (qV n (fun h' => MG g h' ∧ h' 259 15 = 0 ∧ Off SBn h h' ∧ ∀ j, j ≠ 5 → j ≠ 11 → j ≠ 15 → h' 259 j = h 259 j)) 55 [(0, vr 259), (1, vi yi)] [] xg := by
      intro f xi xg e1 e2 hO hI0 yi
      refine x_iconst 56 (xd DX9_begin rfl) rfl ?_
      refine x_istore_n 57 (L' := [(0, _), (1, _)]) (xd DX9_begin rfl) (by decide) rfl rfl rfl ?_
      exact loop2 60 0 xg (by omega) (by omega) hO hI0
    have loop1 : ∀ (f : Nat) (xi : Nat) (xg : XH), (xi : Int) ≤ g 4 3 → g 4 3 - xi < (f : Int) → Off (fun c => 263 ≤ c ∧ c ≤ 265) hb xg → (∀ k : Nat, k < xi → xg 263 k = ltr (g 5 k) ∧ xg 264 k = g 6 k ∧ xg 265 k = 0) → WI K mX9_begin 5 n (qV n (fun h' => MG g h' ∧ h' 259 15 = 0 ∧ Off SBn h h' ∧ ∀ j, j ≠ 5 → j ≠ 11 → j ≠ 15 → h' 259 j = h 259 j)) 10 [(0, vr 259), (1, vi (xi : Int))] [] xg := by
      intro f
      induction f with
      | zero => intro xi xg a b; exact absurd b (by omega)
      | succ f ih =>
        intro xi xg i0 i1 hO hI
        have h95 : xg 259 5 = g 4 3 := by rw [hO 259 (by omega)]; exact hb5
        refine x_iload_n 11 (xd DX9_begin rfl) rfl rfl ?_
        refine x_aload_n 12 (xd DX9_begin rfl) rfl rfl ?_
        refine x_gi 15 5 rfl LX9_103 (xd DX9_begin rfl) rfl ⟨Or.inr ⟨rfl, by decide⟩, by decide⟩ rfl ?_
        refine x_icmp_ge 18 55 (xd DX9_begin rfl) rfl (by omega) (by omega) rfl (fun kc15 => ?_) (fun kc15 => ?_)
        · exact part2 60 0 _ rfl (by omega) hO (fun k hk => by
            have q := hI k (by omega)
            exact ⟨q.1, q.2.1, by rw [q.2.2]; exact (xp_0.mpr (fun ⟨j, a, _⟩ => absurd a (by omega))).symm⟩) _
        · have hxi : (xi : Int) < g 4 3 := by omega
          have hrx := hrd xi hxi
          refine x_aload_n 19 (xd DX9_begin rfl) rfl rfl ?_
          refine x_gr 22 _ LX9_19 (xd DX9_begin rfl) rfl rfl ⟨by decide, by decide⟩ (by decide) rfl rfl ?_
          refine x_iload_n 23 (xd DX9_begin rfl) rfl rfl ?_
          refine x_aload_n 24 (xd DX9_begin rfl) rfl rfl ?_
          refine x_gr 27 _ LX9_13 (xd DX9_begin rfl) rfl rfl ⟨by decide, by decide⟩ (by decide) rfl rfl ?_
          refine x_iload_n 28 (xd DX9_begin rfl) rfl rfl ?_
          refine x_iaload 29 (xd DX9_begin rfl) rfl ⟨Or.inr ⟨rfl, by decide⟩, by decide⟩ (by decide) (by omega) (by omega) rfl ?_
          refine x_iastore 30 (xd DX9_begin rfl) rfl ⟨Or.inr ⟨rfl, by decide⟩, by decide⟩ (by decide) (by omega) (by omega) rfl ?_
          refine x_aload_n 31 (xd DX9_begin rfl) rfl rfl ?_
          refine x_gr 34 _ LX9_22 (xd DX9_begin rfl) rfl rfl ⟨by decide, by decide⟩ (by decide) rfl rfl ?_
          refine x_iload_n 35 (xd DX9_begin rfl) rfl rfl ?_
          refine x_aload_n 36 (xd DX9_begin rfl) rfl rfl ?_
          refine x_gr 39 _ LX9_16 (xd DX9_begin rfl) rfl rfl ⟨by decide, by decide⟩ (by decide) rfl rfl ?_
          refine x_iload_n 40 (xd DX9_begin rfl) rfl rfl ?_
          refine x_iaload 41 (xd DX9_begin rfl) rfl ⟨Or.inr ⟨rfl, by decide⟩, by decide⟩ (by decide) (by omega) (by omega) rfl ?_
          refine x_iastore 42 (xd DX9_begin rfl) rfl ⟨Or.inr ⟨rfl, by decide⟩, by decide⟩ (by decide) (by omega) (by omega) rfl ?_
          refine x_aload_n 43 (xd DX9_begin rfl) rfl rfl ?_
          refine x_gr 46 _ LX9_25 (xd DX9_begin rfl) rfl rfl ⟨by decide, by decide⟩ (by decide) rfl rfl ?_
          refine x_iload_n 47 (xd DX9_begin rfl) rfl rfl ?_
          refine x_iconst 48 (xd DX9_begin rfl) rfl ?_
          refine x_iastore 49 (xd DX9_begin rfl) rfl ⟨Or.inr ⟨rfl, by decide⟩, by decide⟩ (by decide) (by omega) (by omega) rfl ?_
          refine x_iinc 52 (L' := [(0, _), (1, _)]) (xd DX9_begin rfl) rfl (by decide) rfl rfl rfl ?_
          refine x_goto 10 (xd DX9_begin rfl) rfl ?_
          rw [hO 261 (by omega), hset_c (c := 263) (d := 262) (by decide), hO 262 (by omega), hb0 261 (by decide), hb0 262 (by decide), hrx.1, hrx.2]
          refine ih (xi + 1) _ (by omega) (by omega) (((hO.tr (Off.set (by omega))).tr (Off.set (by omega))).tr (Off.set (by omega))) (fun k hk => ?_)
          rw [hset_c (c := 265) (d := 263) (by decide), hset_c (c := 264) (d := 263) (by decide), hset_c (c := 265) (d := 264) (by decide), hset_at, hset_at, hset_at]
          by_cases e : k = xi
          · subst e
            rw [if_pos rfl, if_pos rfl, if_pos rfl]
            exact ⟨rfl, rfl, rfl⟩
          · have e' : ¬ (k : Int) = (xi : Int) := by omega
            rw [if_neg e', if_neg e', if_neg e', hset_c (c := 263) (d := 264) (by decide), hset_c (c := 264) (d := 265) (by decide), hset_c (c := 263) (d := 265) (by decide)]
            exact hI k (by omega)
    exact loop1 60 0 hb (by omega) (by omega) Off.rf (fun k hk => absurd hk (by omega))
  refine x_aload_n 1 (xd DX9_begin rfl) rfl rfl ?_
  refine x_aload_n 2 (xd DX9_begin rfl) rfl rfl ?_
  refine x_gi 5 2 rfl LX9_52 (xd DX9_begin rfl) rfl ⟨Or.inr ⟨rfl, by decide⟩, by decide⟩ rfl ?_
  refine x_pi 8 5 rfl LX9_103 (xd DX9_begin rfl) rfl rfl ⟨Or.inr ⟨rfl, by decide⟩, by decide⟩ rfl ?_
  refine x_iconst 9 (xd DX9_begin rfl) rfl ?_
  refine x_istore_n 10 (L' := [(0, _), (1, _)]) (xd DX9_begin rfl) (by decide) rfl rfl rfl ?_
  exact main _ (fun c hc => hset_c hc) (fun j hj => hset_i hj) (by rw [hset_s]; exact hn2)

