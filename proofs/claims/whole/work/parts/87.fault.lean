/-! Text.findFault, Program.take -/
theorem Prs.le {f : Int → Int} {N : Int} {n : Nat} {p : Int} (h : Prs f N n p) (hN : 0 ≤ N) : p ≤ N := by
  obtain ⟨a, -, b⟩ := h
  cases n with
  | zero => rw [a]; exact hN
  | succ n =>
    have q := b n (by omega)
    have w := wdt_in q.1 q.2
    rw [a, stN_s]
    exact w.2.2.2.1
/-- of an instruction that is read: its place, its letters -/
theorem StI.at {h : XH} {n : Nat} {p : Int} (hT : TxI h) (hP : Prs (h 2) (h 1 2) n p) (hS : StI h n) {k : Nat} (hk : k < n) : (0 ≤ h 3 k ∧ h 3 k < 200) ∧ (0 ≤ h 2 (h 3 k) ∧ h 2 (h 3 k) < 128) ∧ ((kSim (kix (h 2 (h 3 k))) → h 3 k + 1 < 200) ∧ (kTgt (kix (h 2 (h 3 k))) → h 3 k + 2 < 200)) := by
  have h1 := hT.1
  have e := hS k hk
  have q := hP.2.2 k hk
  have nn := Prs.nn (f := h 2) (N := h 1 2) k
  rw [← e] at q nn
  have w := wdt_in q.1 q.2
  have hl := hT.2 (h 3 k) nn q.1
  exact ⟨⟨nn, by omega⟩, by omega, fun y => by have := (w.2.2.2.2.2.1 y).1; omega, fun y => by have := (w.2.2.2.2.1 y).1; omega⟩
theorem StI.of {h h' : XH} {n : Nat} (hS : StI h n) (h2 : h' 2 = h 2) (h1 : h' 1 2 = h 1 2) (h3 : ∀ k : Nat, k < n → h' 3 k = h 3 k) : StI h' n := fun k hk => by rw [h2, h1, h3 k hk]; exact hS k hk
set_option maxRecDepth 100000 in
set_option maxHeartbeats 4000000 in
theorem pX7_findLostTarget {K : XK} {n : Nat} {h : XH} (n1 : Nat) (p : Int) (hT : TxI h) (hPr : Prs (h 2) (h 1 2) n1 p) (hSt : StI h n1) (hn : h 1 3 = (n1 : Int)) : MI K mX7_findLostTarget 6 n [vr 1] h (fun zr h' => LostR (h 2) (h 1 2) n1 zr ∧ h' = h) := by
  refine xMeth FX7_findLostTarget (Nat.le_of_ble_eq_true rfl) ?_
  have hn48 := hPr.2.1
  have loop : ∀ (f : Nat) (xi : Nat), xi ≤ n1 → n1 - xi < f → (∀ j : Nat, j < xi → ¬ Lost (h 2) (h 1 2) n1 j) → WI K mX7_findLostTarget 6 n (qI n (fun zr h' => LostR (h 2) (h 1 2) n1 zr ∧ h' = h)) 2 [(0, vr 1), (1, vi (xi : Int))] [] h := by
    intro f
    induction f with
    | zero => intro xi a b; exact absurd b (by omega)
    | succ f ih =>
      intro xi i0 i1 hne
      refine x_iload_n 3 (xd DX7_findLostTarget rfl) rfl rfl ?_
      refine x_aload_n 4 (xd DX7_findLostTarget rfl) rfl rfl ?_
      refine x_gi 7 3 rfl LX7_23 (xd DX7_findLostTarget rfl) rfl ⟨Or.inr ⟨rfl, by decide⟩, by decide⟩ rfl ?_
      refine x_icmp_ge 10 46 (xd DX7_findLostTarget rfl) rfl (by omega) (by omega) rfl (fun c7 => ?_) (fun c7 => ?_)
      · refine x_bipush 48 (xd DX7_findLostTarget rfl) rfl rfl ?_
        refine x_ri (xd DX7_findLostTarget rfl) rfl ?_
        exact ⟨Or.inr ⟨fun j hj => hne j (by omega), rfl⟩, rfl⟩
      · have hxi : xi < n1 := by omega
        have hat := StI.at hT hPr hSt hxi
        have hst := hSt xi hxi
        have hkc := kix_cs (h 2 (h 3 (xi : Int)))
        have hvr : kTgt (kix (h 2 (h 3 (xi : Int)))) → xrg (vlF (h 2) (h 3 (xi : Int))) := fun q => by
          have hw := wdt_in (hPr.2.2 xi hxi).1 (hPr.2.2 xi hxi).2
          rw [← hst] at hw
          have hd := hw.2.2.2.2.1 q
          unfold dgt at hd
          unfold kTgt at q
          unfold vlF
          rw [if_neg (by omega), if_pos q]
          omega
        refine x_aload_n 11 (xd DX7_findLostTarget rfl) rfl rfl ?_
        refine x_iload_n 12 (xd DX7_findLostTarget rfl) rfl rfl ?_
        refine x_Vi 15 (pX7_kindOf (xi : Int) (by omega) hat.1 hat.2.1) FX7_kindOf VX7_kindOf CX7_34 (xd DX7_findLostTarget rfl) rfl rfl rfl ⟨by decide, rfl⟩ ⟨by decide, by decide⟩ (by decide) (Nat.le_of_ble_eq_true rfl) (by decide) rfl ?_
        rintro z9 h9 ⟨q1, q2⟩
        rw [q1, q2]
        clear q1 q2 z9 h9
        refine x_Si 18 (pX8_hasTarget (kix (h 2 (h 3 (xi : Int)))) (by omega)) FX8_hasTarget VX8_hasTarget CX7_37 (xd DX7_findLostTarget rfl) rfl rfl (by decide) (Nat.le_of_ble_eq_true rfl) (by decide) rfl ?_
        rintro z9 h9 ⟨q1, q2⟩
        rw [q1, q2]
        clear q1 q2 z9 h9
        refine x_ifp_eq 21 40 (xd DX7_findLostTarget rfl) rfl rfl (fun c18 => ?_) (fun c18 => ?_)
        · have hno : ¬ Lost (h 2) (h 1 2) n1 xi := fun q => c18 (by rw [hst]; exact q.1)
          refine x_iinc 43 (L' := [(0, _), (1, _)]) (xd DX7_findLostTarget rfl) rfl (by decide) rfl rfl rfl ?_
          refine x_goto 2 (xd DX7_findLostTarget rfl) rfl ?_
          refine ih (xi + 1) (by omega) (by omega) (fun j hj => ?_)
          by_cases e : j = xi
          · rw [e]; exact hno
          · exact hne j (by omega)
        · refine x_aload_n 22 (xd DX7_findLostTarget rfl) rfl rfl ?_
          refine x_iload_n 23 (xd DX7_findLostTarget rfl) rfl rfl ?_
          refine x_Vi 26 (pX7_valueOf (xi : Int) (by omega) hat.1 hat.2.1 hat.2.2) FX7_valueOf VX7_valueOf CX7_41 (xd DX7_findLostTarget rfl) rfl rfl rfl ⟨by decide, rfl⟩ ⟨by decide, by decide⟩ (by decide) (Nat.le_of_ble_eq_true rfl) (by decide) rfl ?_
          rintro z9 h9 ⟨q1, q2⟩
          rw [q1, q2]
          clear q1 q2 z9 h9
          refine x_aload_n 27 (xd DX7_findLostTarget rfl) rfl rfl ?_
          refine x_gi 30 3 rfl LX7_23 (xd DX7_findLostTarget rfl) rfl ⟨Or.inr ⟨rfl, by decide⟩, by decide⟩ rfl ?_
          refine x_icmp_lt 33 40 (xd DX7_findLostTarget rfl) rfl (by first | omega | exact hvr c18) (by first | omega | exact hvr c18) rfl (fun c30 => ?_) (fun c30 => ?_)
          · have hno : ¬ Lost (h 2) (h 1 2) n1 xi := fun q => by have := q.2; rw [← hst] at this; omega
            refine x_iinc 43 (L' := [(0, _), (1, _)]) (xd DX7_findLostTarget rfl) rfl (by decide) rfl rfl rfl ?_
            refine x_goto 2 (xd DX7_findLostTarget rfl) rfl ?_
            refine ih (xi + 1) (by omega) (by omega) (fun j hj => ?_)
            by_cases e : j = xi
            · rw [e]; exact hno
            · exact hne j (by omega)
          · have hyes : Lost (h 2) (h 1 2) n1 xi := ⟨by rw [← hst]; exact c18, by rw [← hst]; omega⟩
            refine x_aload_n 34 (xd DX7_findLostTarget rfl) rfl rfl ?_
            refine x_gr 37 _ LX7_15 (xd DX7_findLostTarget rfl) rfl rfl ⟨by decide, by decide⟩ (by decide) rfl rfl ?_
            refine x_iload_n 38 (xd DX7_findLostTarget rfl) rfl rfl ?_
            refine x_iaload 39 (xd DX7_findLostTarget rfl) rfl ⟨Or.inr ⟨rfl, by decide⟩, by decide⟩ (by decide) (by omega) (by omega) rfl ?_
            refine x_ri (xd DX7_findLostTarget rfl) rfl ?_
            exact ⟨Or.inl ⟨xi, hxi, hyes, hne, hst⟩, rfl⟩
  refine x_iconst 1 (xd DX7_findLostTarget rfl) rfl ?_
  refine x_istore_n 2 (L' := [(0, _), (1, _)]) (xd DX7_findLostTarget rfl) (by decide) rfl rfl rfl ?_
  exact loop 60 0 (by omega) (by omega) (fun j hj => absurd hj (by omega))

def STx (c : Nat) : Prop := c = 1 ∨ c = 3
def FFR (h h' : XH) (n : Nat) (z : Int) : Prop := FltR (h 2) (h 1 2) n z ∧ Off STx h h' ∧ (∀ j, j ≠ 3 → h' 1 j = h 1 j) ∧ h' 1 3 = (n : Int) ∧ StI h' n
set_option maxRecDepth 100000 in
set_option maxHeartbeats 4000000 in
theorem pX7_findFault {K : XK} {n : Nat} {h : XH} (hT : TxI h) : MI K mX7_findFault 7 n [vr 1] h (fun zr h' => ∃ n1 : Nat, FFR h h' n1 zr) := by
  refine xMeth FX7_findFault (Nat.le_of_ble_eq_true rfl) ?_
  have hT1 := hT.1
  have loop : ∀ (f : Nat) (xk : Nat) (xp1 : Int) (xg : XH), 49 - xk < f → Prs (h 2) (h 1 2) xk xp1 → Off STx h xg → (∀ j, j ≠ 3 → xg 1 j = h 1 j) → xg 1 3 = (xk : Int) → StI xg xk → WI K mX7_findFault 7 n (qI n (fun zr h' => ∃ n1 : Nat, FFR h h' n1 zr)) 9 [(0, vr 1), (1, vi xp1), (2, vi (xk : Int))] [] xg := by
    intro f
    induction f with
    | zero => intro xk xp1 xg a; exact absurd a (by omega)
    | succ f ih =>
      intro xk xp1 xg hf hPr hO hx1 hn3 hSt
      have e2 : xg 2 = h 2 := hO 2 (by unfold STx; omega)
      have e12 : xg 1 2 = h 1 2 := hx1 2 (by decide)
      have hTx : TxI xg := by unfold TxI; rw [e2, e12]; exact hT
      have hk48 := hPr.2.1
      have hple := hPr.le hT1.1
      have hp0 : 0 ≤ xp1 := by rw [hPr.1]; exact Prs.nn xk
      refine x_iload_n 10 (xd DX7_findFault rfl) rfl rfl ?_
      refine x_sipush 13 (xd DX7_findFault rfl) rfl rfl ?_
      refine x_icmp_ge 16 70 (xd DX7_findFault rfl) rfl (by omega) (by omega) rfl (fun c13 => ?_) (fun c13 => ?_)
      · exfalso; omega
      · refine x_iload_n 17 (xd DX7_findFault rfl) rfl rfl ?_
        refine x_aload_n 18 (xd DX7_findFault rfl) rfl rfl ?_
        refine x_gi 21 2 rfl LX7_19 (xd DX7_findFault rfl) rfl ⟨Or.inr ⟨rfl, by decide⟩, by decide⟩ rfl ?_
        refine x_icmp_ge 24 70 (xd DX7_findFault rfl) rfl (by omega) (by omega) rfl (fun c21 => ?_) (fun c21 => ?_)
        · rw [e12] at c21
          refine x_aload_n 71 (xd DX7_findFault rfl) rfl rfl ?_
          refine x_Vi 74 (pX7_findLostTarget xk xp1 hTx (by rw [e2, e12]; exact hPr) hSt hn3) FX7_findLostTarget VX7_findLostTarget CX7_30 (xd DX7_findFault rfl) rfl rfl rfl ⟨by decide, rfl⟩ ⟨by decide, by decide⟩ (by decide) (Nat.le_of_ble_eq_true rfl) (by decide) rfl ?_
          rintro z9 h9 ⟨q1, q2⟩
          rw [q2]
          clear q2 h9
          refine x_ri (xd DX7_findFault rfl) rfl ?_
          exact ⟨xk, ⟨xp1, hPr, Or.inl c21, Or.inr ⟨c21, by rw [e2, e12] at q1; exact q1⟩⟩, hO, hx1, hn3, hSt⟩
        · rw [e12] at c21
          refine x_iload_n 25 (xd DX7_findFault rfl) rfl rfl ?_
          refine x_bipush 27 (xd DX7_findFault rfl) rfl rfl ?_
          refine x_icmp_ge 30 38 (xd DX7_findFault rfl) rfl (by omega) (by omega) rfl (fun c27 => ?_) (fun c27 => ?_)
          · refine x_iconst 39 (xd DX7_findFault rfl) rfl ?_
            refine x_istore_n 40 (L' := [(0, _), (1, _), (2, _), (3, _)]) (xd DX7_findFault rfl) (by decide) rfl rfl rfl ?_
            refine x_iload_n 41 (xd DX7_findFault rfl) rfl rfl ?_
            refine x_if_ne 44 46 (xd DX7_findFault rfl) rfl (by have := wdt_rg (h 2) (h 1 2) xp1; omega) rfl (fun c41 => absurd c41 (by decide)) (fun _ => ?_)
            refine x_iload_n 45 (xd DX7_findFault rfl) rfl rfl ?_
            refine x_ri (xd DX7_findFault rfl) rfl ?_
            exact ⟨xk, ⟨xp1, hPr, (by first | exact Or.inr (Or.inl (by omega)) | exact Or.inr (Or.inr c41)), Or.inl ⟨c21, rfl⟩⟩, hO, hx1, hn3, hSt⟩
          · refine x_aload_n 31 (xd DX7_findFault rfl) rfl rfl ?_
            refine x_iload_n 32 (xd DX7_findFault rfl) rfl rfl ?_
            refine x_Vi 35 (pX7_widthAt xp1 hTx (by omega)) FX7_widthAt VX7_widthAt CX7_26 (xd DX7_findFault rfl) rfl rfl rfl ⟨by decide, rfl⟩ ⟨by decide, by decide⟩ (by decide) (Nat.le_of_ble_eq_true rfl) (by decide) rfl ?_
            rintro z9 h9 ⟨q1, q2⟩
            rw [q1, q2]
            clear q1 q2 z9 h9
            rw [e2, e12]
            refine x_goto 39 (xd DX7_findFault rfl) rfl ?_
            refine x_istore_n 40 (L' := [(0, _), (1, _), (2, _), (3, _)]) (xd DX7_findFault rfl) (by decide) rfl rfl rfl ?_
            refine x_iload_n 41 (xd DX7_findFault rfl) rfl rfl ?_
            refine x_if_ne 44 46 (xd DX7_findFault rfl) rfl (by have := wdt_rg (h 2) (h 1 2) xp1; omega) rfl (fun c41 => ?_) (fun c41 => ?_)
            · refine x_aload_n 47 (xd DX7_findFault rfl) rfl rfl ?_
              refine x_gr 50 _ LX7_15 (xd DX7_findFault rfl) rfl rfl ⟨by decide, by decide⟩ (by decide) rfl rfl ?_
              refine x_iload_n 51 (xd DX7_findFault rfl) rfl rfl ?_
              refine x_iload_n 52 (xd DX7_findFault rfl) rfl rfl ?_
              refine x_iastore 53 (xd DX7_findFault rfl) rfl ⟨Or.inr ⟨rfl, by decide⟩, by decide⟩ (by decide) (by omega) (by omega) rfl ?_
              refine x_aload_n 54 (xd DX7_findFault rfl) rfl rfl ?_
              refine x_iload_n 55 (xd DX7_findFault rfl) rfl rfl ?_
              refine x_iconst 56 (xd DX7_findFault rfl) rfl ?_
              refine x_iadd 57 (xd DX7_findFault rfl) rfl ?_
              refine x_pi 60 3 rfl LX7_23 (xd DX7_findFault rfl) rfl rfl ⟨Or.inr ⟨rfl, by decide⟩, by decide⟩ rfl ?_
              refine x_iload_n 61 (xd DX7_findFault rfl) rfl rfl ?_
              refine x_iload_n 62 (xd DX7_findFault rfl) rfl rfl ?_
              refine x_iadd 63 (xd DX7_findFault rfl) rfl ?_
              refine x_istore_n 64 (L' := [(0, _), (1, _), (2, _), (3, _)]) (xd DX7_findFault rfl) (by decide) rfl rfl rfl ?_
              refine x_iinc 67 (L' := [(0, _), (1, _), (2, _), (3, _)]) (xd DX7_findFault rfl) rfl (by decide) rfl rfl rfl ?_
              refine x_goto 9 (xd DX7_findFault rfl) rfl ?_
              refine WX.locals (L' := [(0, _), (1, _), (2, _)]) (fun q hq => List.mem_append_left _ hq) ?_
              have hwp := wdt_rg (h 2) (h 1 2) xp1
              have hw1 : 0 < wdt (h 2) (h 1 2) xp1 := by omega
              have hstep := hPr.step c21 (by omega) hw1
              refine ih (xk + 1) _ _ (by omega) hstep ?_ ?_ ?_ ?_
              · exact (hO.tr (Off.set (Or.inr rfl))).tr (Off.set (Or.inl rfl))
              · exact fun j hj => by rw [hset_i hj, hset_c (by decide)]; exact hx1 j hj
              · rw [hset_s]; rfl
              · intro k hk
                rw [hset_c (c := 1) (d := 3) (by decide), hset_c (c := 1) (d := 2) (by decide), hset_c (c := 3) (d := 2) (by decide), e2, hset_i (k := 3) (j := 2) (by decide), hset_c (c := 3) (d := 1) (by decide), e12, hset_at]
                split
                · rename_i y
                  rw [show k = xk by omega]; exact hPr.1
                · have := hSt k (by omega)
                  rw [e2, e12] at this
                  exact this
            · refine x_iload_n 45 (xd DX7_findFault rfl) rfl rfl ?_
              refine x_ri (xd DX7_findFault rfl) rfl ?_
              exact ⟨xk, ⟨xp1, hPr, (by first | exact Or.inr (Or.inl (by omega)) | exact Or.inr (Or.inr c41)), Or.inl ⟨c21, rfl⟩⟩, hO, hx1, hn3, hSt⟩
  refine x_aload_n 1 (xd DX7_findFault rfl) rfl rfl ?_
  refine x_iconst 2 (xd DX7_findFault rfl) rfl ?_
  refine x_pi 5 3 rfl LX7_23 (xd DX7_findFault rfl) rfl rfl ⟨Or.inr ⟨rfl, by decide⟩, by decide⟩ rfl ?_
  refine x_iconst 6 (xd DX7_findFault rfl) rfl ?_
  refine x_istore_n 7 (L' := [(0, _), (1, _)]) (xd DX7_findFault rfl) (by decide) rfl rfl rfl ?_
  refine x_iconst 8 (xd DX7_findFault rfl) rfl ?_
  refine x_istore_n 9 (L' := [(0, _), (1, _), (2, _)]) (xd DX7_findFault rfl) (by decide) rfl rfl rfl ?_
  refine loop 60 0 0 _ (by omega) ⟨rfl, by omega, fun k hk => absurd hk (by omega)⟩ (Off.set (Or.inl rfl)) (fun j hj => hset_i hj) hset_s (fun k hk => absurd hk (by omega))

