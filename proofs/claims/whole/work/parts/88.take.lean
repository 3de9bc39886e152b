/-! Program.take; SqueezedCode: write, wipe, fault, lay, code, part -/
def TkE (h : XH) (m : Nat) (k : Int) : Prop := ∃ j : Nat, j < m ∧ kTgt (kix (h 2 (h 3 j))) ∧ vlF (h 2) (h 3 j) = k
def S47 (c : Nat) : Prop := 4 ≤ c ∧ c ≤ 7
def TkR (h h' : XH) (n : Nat) : Prop := Off S47 h h' ∧ h' 4 3 = (n : Int) ∧ ∀ i : Nat, i < n → h' 5 i = kix (h 2 (h 3 i)) ∧ h' 6 i = vlF (h 2) (h 3 i) ∧ h' 7 i = xp (TkE h n i)
theorem TkE_s {h : XH} {m : Nat} {k : Int} : TkE h (m + 1) k ↔ (TkE h m k ∨ (kTgt (kix (h 2 (h 3 m))) ∧ vlF (h 2) (h 3 m) = k)) := by
  constructor
  · rintro ⟨j, a, b, c⟩
    by_cases e : j = m
    · subst e; exact Or.inr ⟨b, c⟩
    · exact Or.inl ⟨j, by omega, b, c⟩
  · rintro (⟨j, a, b, c⟩ | ⟨b, c⟩)
    · exact ⟨j, by omega, b, c⟩
    · exact ⟨m, by omega, b, c⟩
theorem vl_rg {h : XH} {n : Nat} {p : Int} (hT : TxI h) (hP : Prs (h 2) (h 1 2) n p) (hS : StI h n) {k : Nat} (hk : k < n) : (kSim (kix (h 2 (h 3 k))) → 0 ≤ vlF (h 2) (h 3 k) ∧ vlF (h 2) (h 3 k) ≤ 9) ∧ (kTgt (kix (h 2 (h 3 k))) → 0 ≤ vlF (h 2) (h 3 k) ∧ vlF (h 2) (h 3 k) ≤ 99) ∧ (¬ kSim (kix (h 2 (h 3 k))) → ¬ kTgt (kix (h 2 (h 3 k))) → vlF (h 2) (h 3 k) = -4) ∧ (0 ≤ kix (h 2 (h 3 k)) ∧ kix (h 2 (h 3 k)) ≤ 11) := by
  have hw := wdt_in (hP.2.2 k hk).1 (hP.2.2 k hk).2
  rw [← hS k hk] at hw
  refine ⟨fun q => ?_, fun q => ?_, fun q1 q2 => ?_, hw.1, hw.2.1⟩
  · have hd := hw.2.2.2.2.2.1 q
    unfold dgt at hd
    unfold kSim at q
    unfold vlF
    rw [if_pos q]
    omega
  · have hd := hw.2.2.2.2.1 q
    unfold dgt at hd
    unfold kTgt at q
    unfold vlF
    rw [if_neg (by omega), if_pos q]
    omega
  · unfold kSim at q1
    unfold kTgt at q2
    unfold vlF
    rw [if_neg q1, if_neg q2]
set_option maxRecDepth 100000 in
set_option maxHeartbeats 4000000 in
theorem pX4_take {K : XK} {n : Nat} {h : XH} (n1 : Nat) (p : Int) (hT : TxI h) (hPr : Prs (h 2) (h 1 2) n1 p) (hSt : StI h n1) (hn : h 1 3 = (n1 : Int)) : MV K mX4_take 6 n [vr 4, vr 1] h (fun h' => TkR h h' n1) := by
  refine xMeth FX4_take (Nat.le_of_ble_eq_true rfl) ?_
  have hn48 := hPr.2.1
  have part2 : ∀ (f : Nat) (xi : Nat) (xg : XH), xi ≤ n1 → n1 - xi < f → Off S47 h xg → xg 4 3 = (n1 : Int) → (∀ k : Nat, k < n1 → xg 5 k = kix (h 2 (h 3 k)) ∧ xg 6 k = vlF (h 2) (h 3 k) ∧ xg 7 k = xp (TkE h xi k)) → WI K mX4_take 6 n (qV n (fun h' => TkR h h' n1)) 55 [(0, vr 4), (1, vr 1), (2, vi (xi : Int))] [] xg := by
    intro f
    induction f with
    | zero => intro xi xg a b; exact absurd b (by omega)
    | succ f ih =>
      intro xi xg i0 i1 hO h43 hI
      refine x_iload_n 56 (xd DX4_take rfl) rfl rfl ?_
      refine x_aload_n 57 (xd DX4_take rfl) rfl rfl ?_
      refine x_gi 60 3 rfl LX4_28 (xd DX4_take rfl) rfl ⟨Or.inr ⟨rfl, by decide⟩, by decide⟩ rfl ?_
      refine x_icmp_ge 63 106 (xd DX4_take rfl) rfl (by omega) (by omega) rfl (fun c60 => ?_) (fun c60 => ?_)
      · refine x_rv (xd DX4_take rfl) rfl ?_
        have en : xi = n1 := by omega
        subst en
        exact ⟨hO, h43, hI⟩
      · have hxi : xi < n1 := by omega
        have hvl := vl_rg hT hPr hSt hxi
        refine x_aload_n 64 (xd DX4_take rfl) rfl rfl ?_
        refine x_gr 67 _ LX4_9 (xd DX4_take rfl) rfl rfl ⟨by decide, by decide⟩ (by decide) rfl rfl ?_
        refine x_iload_n 68 (xd DX4_take rfl) rfl rfl ?_
        refine x_iaload 69 (xd DX4_take rfl) rfl ⟨Or.inr ⟨rfl, by decide⟩, by decide⟩ (by decide) (by omega) (by omega) rfl ?_
        refine x_Si 72 (pX8_hasTarget (xg 5 (xi : Int)) (by rw [(hI xi hxi).1]; omega)) FX8_hasTarget VX8_hasTarget CX4_38 (xd DX4_take rfl) rfl rfl (by decide) (Nat.le_of_ble_eq_true rfl) (by decide) rfl ?_
        rintro z9 h9 ⟨q1, q2⟩
        rw [q1, q2]
        clear q1 q2 z9 h9
        refine x_ifp_eq 75 100 (xd DX4_take rfl) rfl rfl (fun c72 => ?_) (fun c72 => ?_)
        · have hnk : ¬ kTgt (kix (h 2 (h 3 (xi : Int)))) := by rw [← (hI xi hxi).1]; exact c72
          refine x_iinc 103 (L' := [(0, _), (1, _), (2, _)]) (xd DX4_take rfl) rfl (by decide) rfl rfl rfl ?_
          refine x_goto 55 (xd DX4_take rfl) rfl ?_
          first
            | (refine ih (xi + 1) _ (by omega) (by omega) hO h43 (fun k hk => ?_)
               have q := hI k hk
               refine ⟨q.1, q.2.1, ?_⟩
               rw [q.2.2]
               refine xp_c ⟨fun y => TkE_s.mpr (Or.inl y), fun y => (TkE_s.mp y).elim id (fun z => ?_)⟩
               first
                 | exact absurd z.1 hnk
                 | (exfalso; rw [(hI xi hxi).2.1, h43] at c85; omega)
               done)
            | (refine ih (xi + 1) _ (by omega) (by omega) (hO.tr (Off.set (by unfold S47; omega))) (by rw [hset_c (by decide)]; exact h43) (fun k hk => ?_)
               have q := hI k hk
               have q2 := (hI xi hxi).2.1
               refine ⟨by rw [hset_c (by decide)]; exact q.1, by rw [hset_c (by decide)]; exact q.2.1, ?_⟩
               rw [hset_at, q2]
               by_cases e : (k : Int) = vlF (h 2) (h 3 (xi : Int))
               · rw [if_pos e]
                 exact xp_t (TkE_s.mpr (Or.inr ⟨hkt, e.symm⟩))
               · rw [if_neg e, q.2.2]
                 exact xp_c ⟨fun y => TkE_s.mpr (Or.inl y), fun y => (TkE_s.mp y).elim id (fun z => absurd z.2.symm e)⟩)
        · have hkt : kTgt (kix (h 2 (h 3 (xi : Int)))) := by rw [← (hI xi hxi).1]; exact c72
          have hv := hvl.2.1 hkt
          refine x_aload_n 76 (xd DX4_take rfl) rfl rfl ?_
          refine x_aload_n 77 (xd DX4_take rfl) rfl rfl ?_
          refine x_gr 80 _ LX4_15 (xd DX4_take rfl) rfl rfl ⟨by decide, by decide⟩ (by decide) rfl rfl ?_
          refine x_iload_n 81 (xd DX4_take rfl) rfl rfl ?_
          refine x_iaload 82 (xd DX4_take rfl) rfl ⟨Or.inr ⟨rfl, by decide⟩, by decide⟩ (by decide) (by omega) (by omega) rfl ?_
          refine x_Vi 85 (pX4_has (xg 6 (xi : Int)) (by rw [(hI xi hxi).2.1]; omega) (by omega)) FX4_has VX4_has CX4_42 (xd DX4_take rfl) rfl rfl rfl ⟨by decide, rfl⟩ ⟨by decide, by decide⟩ (by decide) (Nat.le_of_ble_eq_true rfl) (by decide) rfl ?_
          rintro z9 h9 ⟨q1, q2⟩
          rw [q1, q2]
          clear q1 q2 z9 h9
          refine x_ifp_eq 88 100 (xd DX4_take rfl) rfl rfl (fun c85 => ?_) (fun c85 => ?_)
          · refine x_iinc 103 (L' := [(0, _), (1, _), (2, _)]) (xd DX4_take rfl) rfl (by decide) rfl rfl rfl ?_
            refine x_goto 55 (xd DX4_take rfl) rfl ?_
            first
              | (refine ih (xi + 1) _ (by omega) (by omega) hO h43 (fun k hk => ?_)
                 have q := hI k hk
                 refine ⟨q.1, q.2.1, ?_⟩
                 rw [q.2.2]
                 refine xp_c ⟨fun y => TkE_s.mpr (Or.inl y), fun y => (TkE_s.mp y).elim id (fun z => ?_)⟩
                 first
                   | exact absurd z.1 hnk
                   | (exfalso; rw [(hI xi hxi).2.1, h43] at c85; omega)
                 done)
              | (refine ih (xi + 1) _ (by omega) (by omega) (hO.tr (Off.set (by unfold S47; omega))) (by rw [hset_c (by decide)]; exact h43) (fun k hk => ?_)
                 have q := hI k hk
                 have q2 := (hI xi hxi).2.1
                 refine ⟨by rw [hset_c (by decide)]; exact q.1, by rw [hset_c (by decide)]; exact q.2.1, ?_⟩
                 rw [hset_at, q2]
                 by_cases e : (k : Int) = vlF (h 2) (h 3 (xi : Int))
                 · rw [if_pos e]
                   exact xp_t (TkE_s.mpr (Or.inr ⟨hkt, e.symm⟩))
                 · rw [if_neg e, q.2.2]
                   exact xp_c ⟨fun y => TkE_s.mpr (Or.inl y), fun y => (TkE_s.mp y).elim id (fun z => absurd z.2.symm e)⟩)
          · refine x_aload_n 89 (xd DX4_take rfl) rfl rfl ?_
            refine x_gr 92 _ LX4_18 (xd DX4_take rfl) rfl rfl ⟨by decide, by decide⟩ (by decide) rfl rfl ?_
            refine x_aload_n 93 (xd DX4_take rfl) rfl rfl ?_
            refine x_gr 96 _ LX4_15 (xd DX4_take rfl) rfl rfl ⟨by decide, by decide⟩ (by decide) rfl rfl ?_
            refine x_iload_n 97 (xd DX4_take rfl) rfl rfl ?_
            refine x_iaload 98 (xd DX4_take rfl) rfl ⟨Or.inr ⟨rfl, by decide⟩, by decide⟩ (by decide) (by omega) (by omega) rfl ?_
            refine x_iconst 99 (xd DX4_take rfl) rfl ?_
            refine x_bastore 100 (xd DX4_take rfl) rfl ⟨Or.inr ⟨rfl, by decide⟩, by decide⟩ (by decide) (by first | omega | exact Or.inr rfl | (rw [(hI xi hxi).2.1] at *; omega)) (by first | omega | exact Or.inr rfl | (rw [(hI xi hxi).2.1] at *; omega)) (by first | omega | exact Or.inr rfl | (rw [(hI xi hxi).2.1] at *; omega)) rfl ?_
            refine x_iinc 103 (L' := [(0, _), (1, _), (2, _)]) (xd DX4_take rfl) rfl (by decide) rfl rfl rfl ?_
            refine x_goto 55 (xd DX4_take rfl) rfl ?_
            first
              | (refine ih (xi + 1) _ (by omega) (by omega) hO h43 (fun k hk => ?_)
                 have q := hI k hk
                 refine ⟨q.1, q.2.1, ?_⟩
                 rw [q.2.2]
                 refine xp_c ⟨fun y => TkE_s.mpr (Or.inl y), fun y => (TkE_s.mp y).elim id (fun z => ?_)⟩
                 first
                   | exact absurd z.1 hnk
                   | (exfalso; rw [(hI xi hxi).2.1, h43] at c85; omega)
                 done)
              | (refine ih (xi + 1) _ (by omega) (by omega) (hO.tr (Off.set (by unfold S47; omega))) (by rw [hset_c (by decide)]; exact h43) (fun k hk => ?_)
                 have q := hI k hk
                 have q2 := (hI xi hxi).2.1
                 refine ⟨by rw [hset_c (by decide)]; exact q.1, by rw [hset_c (by decide)]; exact q.2.1, ?_⟩
                 rw [hset_at, q2]
                 by_cases e : (k : Int) = vlF (h 2) (h 3 (xi : Int))
                 · rw [if_pos e]
                   exact xp_t (TkE_s.mpr (Or.inr ⟨hkt, e.symm⟩))
                 · rw [if_neg e, q.2.2]
                   exact xp_c ⟨fun y => TkE_s.mpr (Or.inl y), fun y => (TkE_s.mp y).elim id (fun z => absurd z.2.symm e)⟩)
  have loop1 : ∀ (f : Nat) (xi : Nat) (xg : XH), xi ≤ n1 → n1 - xi < f → Off S47 h xg → xg 4 3 = (n1 : Int) → (∀ k : Nat, k < xi → xg 5 k = kix (h 2 (h 3 k)) ∧ xg 6 k = vlF (h 2) (h 3 k) ∧ xg 7 k = 0) → WI K mX4_take 6 n (qV n (fun h' => TkR h h' n1)) 10 [(0, vr 4), (1, vr 1), (2, vi (xi : Int))] [] xg := by
    intro f
    induction f with
    | zero => intro xi xg a b; exact absurd b (by omega)
    | succ f ih =>
      intro xi xg i0 i1 hO h43 hI
      have e2 : xg 2 = h 2 := hO 2 (by unfold S47; omega)
      have e3 : xg 3 = h 3 := hO 3 (by unfold S47; omega)
      have e1 : xg 1 = h 1 := hO 1 (by unfold S47; omega)
      have hTx : TxI xg := by unfold TxI; rw [e2, e1]; exact hT
      have hPx : Prs (xg 2) (xg 1 2) n1 p := by rw [e2, e1]; exact hPr
      have hSx : StI xg n1 := hSt.of e2 (by rw [e1]) (fun k _ => by rw [e3])
      refine x_iload_n 11 (xd DX4_take rfl) rfl rfl ?_
      refine x_aload_n 12 (xd DX4_take rfl) rfl rfl ?_
      refine x_gi 15 3 rfl LX4_28 (xd DX4_take rfl) rfl ⟨Or.inr ⟨rfl, by decide⟩, by decide⟩ rfl ?_
      refine x_icmp_ge 18 53 (xd DX4_take rfl) rfl (by omega) (by omega) rfl (fun c15 => ?_) (fun c15 => ?_)
      · refine x_iconst 54 (xd DX4_take rfl) rfl ?_
        refine x_istore_n 55 (L' := [(0, _), (1, _), (2, _)]) (xd DX4_take rfl) (by decide) rfl rfl rfl ?_
        refine part2 60 0 _ (by omega) (by omega) hO h43 (fun k hk => ?_)
        have := hI k (by omega)
        refine ⟨this.1, this.2.1, ?_⟩
        rw [this.2.2]
        exact (xp_0.mpr (fun ⟨j, a, _⟩ => absurd a (by omega))).symm
      · have hxi : xi < n1 := by omega
        have hat := StI.at hTx hPx hSx hxi
        have hat2 := hat
        rw [← (hset_c (h := xg) (c := 5) (d := 3) (k := (xi : Int)) (z := kix (h 2 (h 3 (xi : Int)))) (by decide)), ← (hset_c (h := xg) (c := 5) (d := 2) (k := (xi : Int)) (z := kix (h 2 (h 3 (xi : Int)))) (by decide))] at hat2
        refine x_aload_n 19 (xd DX4_take rfl) rfl rfl ?_
        refine x_gr 22 _ LX4_9 (xd DX4_take rfl) rfl rfl ⟨by decide, by decide⟩ (by decide) rfl rfl ?_
        refine x_iload_n 23 (xd DX4_take rfl) rfl rfl ?_
        refine x_aload_n 24 (xd DX4_take rfl) rfl rfl ?_
        refine x_iload_n 25 (xd DX4_take rfl) rfl rfl ?_
        refine x_Vi 28 (pX7_kindOf (xi : Int) (by omega) hat.1 hat.2.1) FX7_kindOf VX7_kindOf CX4_31 (xd DX4_take rfl) rfl rfl rfl ⟨by decide, rfl⟩ ⟨by decide, by decide⟩ (by decide) (Nat.le_of_ble_eq_true rfl) (by decide) rfl ?_
        rintro z9 h9 ⟨q1, q2⟩
        rw [q1, q2, e2, e3]
        clear q1 q2 z9 h9
        refine x_iastore 29 (xd DX4_take rfl) rfl ⟨Or.inr ⟨rfl, by decide⟩, by decide⟩ (by decide) (by omega) (by omega) rfl ?_
        refine x_aload_n 30 (xd DX4_take rfl) rfl rfl ?_
        refine x_gr 33 _ LX4_15 (xd DX4_take rfl) rfl rfl ⟨by decide, by decide⟩ (by decide) rfl rfl ?_
        refine x_iload_n 34 (xd DX4_take rfl) rfl rfl ?_
        refine x_aload_n 35 (xd DX4_take rfl) rfl rfl ?_
        refine x_iload_n 36 (xd DX4_take rfl) rfl rfl ?_
        refine x_Vi 39 (pX7_valueOf (xi : Int) (by omega) hat2.1 hat2.2.1 hat2.2.2) FX7_valueOf VX7_valueOf CX4_35 (xd DX4_take rfl) rfl rfl rfl ⟨by decide, rfl⟩ ⟨by decide, by decide⟩ (by decide) (Nat.le_of_ble_eq_true rfl) (by decide) rfl ?_
        rintro z9 h9 ⟨q1, q2⟩
        rw [q1, q2, hset_c (c := 5) (d := 2) (by decide), hset_c (c := 5) (d := 3) (by decide), e2, e3]
        clear q1 q2 z9 h9
        refine x_iastore 40 (xd DX4_take rfl) rfl ⟨Or.inr ⟨rfl, by decide⟩, by decide⟩ (by decide) (by omega) (by omega) rfl ?_
        refine x_aload_n 41 (xd DX4_take rfl) rfl rfl ?_
        refine x_gr 44 _ LX4_18 (xd DX4_take rfl) rfl rfl ⟨by decide, by decide⟩ (by decide) rfl rfl ?_
        refine x_iload_n 45 (xd DX4_take rfl) rfl rfl ?_
        refine x_iconst 46 (xd DX4_take rfl) rfl ?_
        refine x_bastore 47 (xd DX4_take rfl) rfl ⟨Or.inr ⟨rfl, by decide⟩, by decide⟩ (by decide) (by first | omega | exact Or.inl rfl) (by first | omega | exact Or.inl rfl) (by first | omega | exact Or.inl rfl) rfl ?_
        refine x_iinc 50 (L' := [(0, _), (1, _), (2, _)]) (xd DX4_take rfl) rfl (by decide) rfl rfl rfl ?_
        refine x_goto 10 (xd DX4_take rfl) rfl ?_
        refine ih (xi + 1) _ (by omega) (by omega) (((hO.tr (Off.set (by unfold S47; omega))).tr (Off.set (by unfold S47; omega))).tr (Off.set (by unfold S47; omega))) (by rw [hset_c (by decide), hset_c (by decide), hset_c (by decide)]; exact h43) (fun k hk => ?_)
        rw [hset_c (c := 7) (d := 5) (by decide), hset_c (c := 6) (d := 5) (by decide), hset_c (c := 7) (d := 6) (by decide), hset_at, hset_at, hset_at]
        by_cases e : k = xi
        · subst e
          rw [if_pos rfl, if_pos rfl, if_pos rfl]
          exact ⟨rfl, rfl, rfl⟩
        · have e' : ¬ (k : Int) = (xi : Int) := by omega
          rw [if_neg e', if_neg e', if_neg e', hset_c (c := 5) (d := 6) (by decide), hset_c (c := 6) (d := 7) (by decide), hset_c (c := 5) (d := 7) (by decide)]
          exact hI k (by omega)
  refine x_aload_n 1 (xd DX4_take rfl) rfl rfl ?_
  refine x_aload_n 2 (xd DX4_take rfl) rfl rfl ?_
  refine x_gi 5 3 rfl LX4_22 (xd DX4_take rfl) rfl ⟨Or.inr ⟨rfl, by decide⟩, by decide⟩ rfl ?_
  refine x_pi 8 3 rfl LX4_28 (xd DX4_take rfl) rfl rfl ⟨Or.inr ⟨rfl, by decide⟩, by decide⟩ rfl ?_
  refine x_iconst 9 (xd DX4_take rfl) rfl ?_
  refine x_istore_n 10 (L' := [(0, _), (1, _), (2, _)]) (xd DX4_take rfl) (by decide) rfl rfl rfl ?_
  exact loop1 60 0 _ (by omega) (by omega) (Off.set (by unfold S47; omega)) (by rw [hset_s]; exact hn) (fun k hk => absurd hk (by omega))

