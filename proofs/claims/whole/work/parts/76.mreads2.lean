/-! SqueezedCodeModel: entry, part, code, address, at -/
theorem cntR_cg {p q : Nat → Prop} {a : Nat} : ∀ d : Nat, (∀ j, a ≤ j → j < a + d → (p j ↔ q j)) → cntR p a d = cntR q a d
  | 0, _ => rfl
  | d + 1, h => by
    rw [cntR_s, cntR_s, cntR_cg d (fun j x y => h j x (by omega)), xp_c (h (a + d) (by omega) (by omega))]
theorem csN_inv (g : XH) : ∀ i : Nat, (csN g i).2.2.1 ≠ 0 → 0 ≤ (csN g i).1 ∧ 1 ≤ (csN g i).2.1 := by
  intro i
  induction i with
  | zero => intro q; exact absurd rfl q
  | succ i ih =>
    intro q
    rw [csN_s] at q ⊢
    by_cases h0 : (csN g i).2.2.1 = 0
    · rw [if_pos h0] at q ⊢
      by_cases h1 : g 244 i < 0
      · rw [if_pos h1] at q; exact absurd rfl q
      · rw [if_neg h1]
        exact ⟨by show 0 ≤ g 244 i; omega, Int.le_refl _⟩
    · rw [if_neg h0] at q ⊢
      have := ih h0
      exact ⟨this.1, by show 1 ≤ (csN g i).2.1 + 1; omega⟩
/-- of an instruction: whether it is a head, and which one of its reference -/
theorem rowF {g : XH} (hC : CI g) {j : Nat} (hj : (j : Int) < g 4 3) : (g 249 j = -4 ∨ 0 ≤ g 249 j) ∧ (g 251 j = -4 ∨ 0 ≤ g 251 j) ∧ (g 249 j = -4 → g 250 j = -4 ∧ 0 ≤ g 251 j) ∧ (0 ≤ g 249 j → 0 ≤ g 250 j ∧ (g 250 j = 0 ↔ 0 ≤ g 251 j)) ∧ (0 ≤ g 250 j → 0 < g 250 j → 0 < j ∧ g 249 (j - 1 : Nat) = g 249 j ∧ g 250 (j - 1 : Nat) = g 250 j - 1) ∧ (0 ≤ g 251 j ↔ (csN g j).2.2.1 = 0) ∧ (0 ≤ g 251 j → g 251 j = (csN g j).2.2.2) := by
  have hL := hC.2.2.2.1
  have hPK := (FB_PK hC.2.1.1 hL.2.2.2.2.1).1
  obtain ⟨p1, p2, p3, p4⟩ := hL.2.2.2.2.2.2.2.1 j hj
  have hr := csN_rg hC.1 hC.2.1 hPK j (by omega)
  have hr1 := csN_rg hC.1 hC.2.1 hPK (j + 1) (by omega)
  have e1 : (csN g (j + 1)) = if (csN g j).2.2.1 = 0 then (if g 244 j < 0 then (g 244 j, 1, 0, (csN g j).2.2.2 + kOwn (g 5 j)) else (g 244 j, 1, g (10 + 3 * (g 244 j).toNat) 2 - 1, (csN g j).2.2.2 + kRef (g (10 + 3 * (g 244 j).toNat) 3))) else ((csN g j).1, (csN g j).2.1 + 1, (csN g j).2.2.1 - 1, (csN g j).2.2.2) := csN_s g j
  by_cases h0 : (csN g j).2.2.1 = 0
  · rw [if_pos h0] at e1 p3
    have e21 : (csN g (j + 1)).2.1 = 1 := by rw [e1]; split <;> rfl
    rw [e21] at p2
    rw [p1, p2, p3]
    refine ⟨by omega, Or.inr hr.2.2.2.1, fun q => ⟨by rw [if_pos (by omega)], hr.2.2.2.1⟩, fun q => ⟨by rw [if_neg (by omega)]; decide, ⟨fun _ => hr.2.2.2.1, fun _ => by rw [if_neg (by omega)]; rfl⟩⟩, fun q1 q2 => ?_, ⟨fun _ => h0, fun _ => hr.2.2.2.1⟩, fun _ => rfl⟩
    exfalso
    split at q2 <;> omega
  · rw [if_neg h0] at e1 p3
    have hi := csN_inv g j h0
    rw [e1] at p1 p2
    have p1' : g 249 j = (csN g j).1 := p1
    have p2' : g 250 j = (if (csN g j).1 < 0 then -4 else (csN g j).2.1 + 1 - 1) := p2
    rw [if_neg (by omega)] at p2'
    refine ⟨by omega, Or.inl p3, fun q => by omega, fun q => ⟨by omega, by omega⟩, fun q1 q2 => ?_, ⟨fun q => by omega, fun q => absurd q h0⟩, fun q => by omega⟩
    have j0 : 0 < j := by
      rcases Nat.eq_zero_or_pos j with y | y
      · rw [y] at h0; exact absurd rfl h0
      · exact y
    refine ⟨j0, ?_⟩
    obtain ⟨r1, r2, -⟩ := hL.2.2.2.2.2.2.2.1 (j - 1) (by omega)
    rw [show j - 1 + 1 = j by omega] at r1 r2
    rw [if_neg (by omega)] at r2
    exact ⟨by rw [r1, p1'], by rw [r2, p2']; omega⟩
theorem RC.pk {g h : XH} (hR : RC g h) {j : Nat} (hj : (j : Int) < g 4 3) : h 269 j = g 249 j ∧ h 270 j = g 251 j := ⟨(hR.1 j hj).2, (hR.1 j hj).1⟩
theorem refs_one {g h : XH} (hC : CI g) (hR : RC g h) {j : Nat} (hj : (j : Int) < g 4 3) : (h 269 j ≠ -4 ∧ h 270 j ≠ -4) ↔ g 250 j = 0 := by
  rw [(hR.pk hj).1, (hR.pk hj).2]
  obtain ⟨r1, r2, r3, r4, -⟩ := rowF hC hj
  constructor
  · rintro ⟨a, b⟩
    exact ((r4 (by omega)).2).mpr (by omega)
  · intro q
    have : g 249 j ≠ -4 := fun w => by have := (r3 w).1; omega
    exact ⟨this, by have := ((r4 (by omega)).2).mp q; omega⟩
set_option maxRecDepth 100000 in
set_option maxHeartbeats 4000000 in
theorem pX9_entry {K : XK} {n : Nat} {h : XH} (g : XH) (e w : Int) (hC : CI g) (hM : MG g h) (he : xrg e) (hw : xrg w) : MI K mX9_entry 3 n [vr 259, vi e, vi w] h (fun zr h' => zr = entC g e w ∧ h' = h) := by
  refine xMeth FX9_entry (Nat.le_of_ble_eq_true rfl) ?_
  have hP1 := hM.1.1.1
  have h81 := hM.1.2.1.1
  have hrw : ∀ {j : Nat}, (j : Int) < g 4 3 → (-4 ≤ g 249 j ∧ g 249 j < 8) ∧ (-4 ≤ g 251 j ∧ g 251 j ≤ 192) := fun {j} hj => ⟨(hC.rows (by omega) hj).1, (hC.rows (by omega) hj).2.2.1⟩
  have hent : (0 ≤ e ∧ e < g 8 1) → ME g (10 + 3 * e.toNat) (h 266) (10 * e) ∧ EW g (10 + 3 * e.toNat) ∧ mEnt e = 10 * e := fun q => by
    have a := hM.1.2.2.2.2.1.2.2.2 e.toNat (by omega)
    rw [show ((e.toNat : Nat) : Int) = e by omega] at a
    exact ⟨a, hM.1.2.1.ew (by omega), by unfold mEnt; rw [if_pos (by omega)]⟩
  have loop : (0 ≤ e ∧ e < g 8 1) → (2 ≤ w ∧ w ≤ 3) → ME g (10 + 3 * e.toNat) (h 266) (10 * e) → EW g (10 + 3 * e.toNat) → mEnt e = 10 * e → ∀ (f : Nat) (xi : Nat) (xa xb : Int), (xi : Int) ≤ g 4 3 → g 4 3 - xi < (f : Int) → xa = cntR (fun j => g 249 j = e ∧ g 250 j = 0) 0 xi → xb = cntR (fun j => Mt g (10 + 3 * e.toNat) j) 0 xi → WI K mX9_entry 3 n (qI n (fun zr h' => zr = entC g e w ∧ h' = h)) 47 [(0, vr 259), (1, vi e), (2, vi w), (3, vi xa), (4, vi xb), (5, vi (xi : Int))] [] h := by
    intro hr0 hw2 hMe hEw eb f
    induction f with
    | zero => intro xi xa xb a b; exact absurd b (by omega)
    | succ f ih =>
      intro xi xa xb i0 i1 h1 h2
      refine x_iload 49 (xd DX9_entry rfl) rfl rfl ?_
      refine x_aload_n 50 (xd DX9_entry rfl) rfl rfl ?_
      refine x_gi 53 5 rfl LX9_103 (xd DX9_entry rfl) rfl ⟨Or.inr ⟨rfl, by decide⟩, by decide⟩ rfl ?_
      refine x_icmp_ge 56 113 (xd DX9_entry rfl) rfl (by first | omega | (rw [hM.1.n]; omega)) (by first | omega | (rw [hM.1.n]; omega)) rfl (fun c53 => ?_) (fun c53 => ?_)
      · rw [hM.1.n] at c53
        refine x_iload_n 114 (xd DX9_entry rfl) rfl rfl ?_
        refine x_iconst 115 (xd DX9_entry rfl) rfl ?_
        refine x_icmp_ne 118 122 (xd DX9_entry rfl) rfl (by omega) (by omega) rfl (fun c115 => ?_) (fun c115 => ?_)
        · refine x_iload 124 (xd DX9_entry rfl) rfl rfl ?_
          refine x_ri (xd DX9_entry rfl) rfl ?_
          refine ⟨?_, rfl⟩
          have ei : xi = (g 4 3).toNat := by omega
          unfold entC
          rw [if_pos (by omega), if_neg (by omega), if_neg (by omega)]
          first
            | rw [if_pos (by omega), h1, ei]
            | rw [if_neg (by omega), if_pos (by omega), h2, ei]
        · refine x_iload_n 119 (xd DX9_entry rfl) rfl rfl ?_
          refine x_goto 124 (xd DX9_entry rfl) rfl ?_
          refine x_ri (xd DX9_entry rfl) rfl ?_
          refine ⟨?_, rfl⟩
          have ei : xi = (g 4 3).toNat := by omega
          unfold entC
          rw [if_pos (by omega), if_neg (by omega), if_neg (by omega)]
          first
            | rw [if_pos (by omega), h1, ei]
            | rw [if_neg (by omega), if_pos (by omega), h2, ei]
      · rw [hM.1.n] at c53
        have hlt : (xi : Int) < g 4 3 := c53
        have hpk := hM.2.1.pk hlt
        have hrf := rowF hC hlt
        refine x_iload_n 57 (xd DX9_entry rfl) rfl rfl ?_
        refine x_aload_n 58 (xd DX9_entry rfl) rfl rfl ?_
        refine x_gr 61 _ LX9_37 (xd DX9_entry rfl) rfl rfl ⟨by decide, by decide⟩ (by decide) rfl rfl ?_
        refine x_iload 63 (xd DX9_entry rfl) rfl rfl ?_
        refine x_iaload 64 (xd DX9_entry rfl) rfl ⟨Or.inr ⟨rfl, by decide⟩, by decide⟩ (by decide) (by omega) (by omega) rfl ?_
        refine x_iload_n 65 (xd DX9_entry rfl) rfl rfl ?_
        refine x_icmp_ne 68 84 (xd DX9_entry rfl) rfl (by first | omega | (rw [hpk.1]; have := hrw hlt; omega)) (by first | omega | (rw [hpk.1]; have := hrw hlt; omega)) rfl (fun c65 => ?_) (fun c65 => ?_)
        · have hx1 : ¬ (g 249 (xi : Int) = e ∧ g 250 (xi : Int) = 0) := fun q => c65 (by rw [hpk.1]; exact q.1)
          refine x_iconst 85 (xd DX9_entry rfl) rfl ?_
          refine x_iadd 86 (xd DX9_entry rfl) rfl ?_
          refine x_istore_n 87 (L' := [(0, _), (1, _), (2, _), (3, _), (4, _), (5, _)]) (xd DX9_entry rfl) (by decide) rfl rfl rfl ?_
          refine x_iload 89 (xd DX9_entry rfl) rfl rfl ?_
          refine x_aload_n 90 (xd DX9_entry rfl) rfl rfl ?_
          refine x_iload 92 (xd DX9_entry rfl) rfl rfl ?_
          refine x_iload_n 93 (xd DX9_entry rfl) rfl rfl ?_
          refine x_Vi 96 (pX9_matches (xi : Int) e (by omega) (by omega) hM.1.m.1 hM.1.m.2 (by rw [eb, hMe.1]; have := hEw.1; omega)) FX9_matches VX9_matches CX9_130 (xd DX9_entry rfl) rfl rfl rfl ⟨by decide, rfl⟩ ⟨by decide, by decide⟩ (by decide) (Nat.le_of_ble_eq_true rfl) (by decide) rfl ?_
          rintro z9 h9 ⟨q1, q2⟩
          rw [q1, q2]
          clear q1 q2 z9 h9
          refine x_ifp_eq 99 103 (xd DX9_entry rfl) rfl rfl (fun c96 => ?_) (fun c96 => ?_)
          · have hmt : ¬ Mt g (10 + 3 * e.toNat) (xi : Int) := fun q => c96 (by rw [eb]; exact (MMt_Mt hM.1.1 hM.1.2.2.1 hM.1.2.2.2.1 hM.1.2.2.2.2.1.1 hEw hMe ⟨by omega, hlt⟩).mpr q)
            refine x_iconst 104 (xd DX9_entry rfl) rfl ?_
            refine x_iadd 105 (xd DX9_entry rfl) rfl ?_
            refine x_istore 107 (L' := [(0, _), (1, _), (2, _), (3, _), (4, _), (5, _)]) (xd DX9_entry rfl) (by decide) rfl rfl rfl ?_
            refine x_iinc 110 (L' := [(0, _), (1, _), (2, _), (3, _), (4, _), (5, _)]) (xd DX9_entry rfl) rfl (by decide) rfl rfl rfl ?_
            refine x_goto 47 (xd DX9_entry rfl) rfl ?_
            refine ih (xi + 1) _ _ (by omega) (by omega) ?_ ?_
            · rw [cntR_s, ← h1, Nat.zero_add]
              first | rw [xp_1.mpr hx1] | (rw [xp_0.mpr hx1]; done)
            · rw [cntR_s, ← h2, Nat.zero_add]
              first | rw [xp_1.mpr hmt] | (rw [xp_0.mpr hmt]; done)
          · have hmt : Mt g (10 + 3 * e.toNat) (xi : Int) := (MMt_Mt hM.1.1 hM.1.2.2.1 hM.1.2.2.2.1 hM.1.2.2.2.2.1.1 hEw hMe ⟨by omega, hlt⟩).mp (by rw [eb] at c96; exact c96)
            refine x_iconst 100 (xd DX9_entry rfl) rfl ?_
            refine x_goto 104 (xd DX9_entry rfl) rfl ?_
            refine x_iadd 105 (xd DX9_entry rfl) rfl ?_
            refine x_istore 107 (L' := [(0, _), (1, _), (2, _), (3, _), (4, _), (5, _)]) (xd DX9_entry rfl) (by decide) rfl rfl rfl ?_
            refine x_iinc 110 (L' := [(0, _), (1, _), (2, _), (3, _), (4, _), (5, _)]) (xd DX9_entry rfl) rfl (by decide) rfl rfl rfl ?_
            refine x_goto 47 (xd DX9_entry rfl) rfl ?_
            refine ih (xi + 1) _ _ (by omega) (by omega) ?_ ?_
            · rw [cntR_s, ← h1, Nat.zero_add]
              first | rw [xp_1.mpr hx1] | (rw [xp_0.mpr hx1]; done)
            · rw [cntR_s, ← h2, Nat.zero_add]
              first | rw [xp_1.mpr hmt] | (rw [xp_0.mpr hmt]; done)
        · rw [hpk.1] at c65
          refine x_aload_n 69 (xd DX9_entry rfl) rfl rfl ?_
          refine x_gr 72 _ LX9_40 (xd DX9_entry rfl) rfl rfl ⟨by decide, by decide⟩ (by decide) rfl rfl ?_
          refine x_iload 74 (xd DX9_entry rfl) rfl rfl ?_
          refine x_iaload 75 (xd DX9_entry rfl) rfl ⟨Or.inr ⟨rfl, by decide⟩, by decide⟩ (by decide) (by omega) (by omega) rfl ?_
          refine x_bipush 77 (xd DX9_entry rfl) rfl rfl ?_
          refine x_icmp_eq 80 84 (xd DX9_entry rfl) rfl (by first | omega | (rw [hpk.2]; have := hrw hlt; omega)) (by first | omega | (rw [hpk.2]; have := hrw hlt; omega)) rfl (fun c77 => ?_) (fun c77 => ?_)
          · have hx1 : ¬ (g 249 (xi : Int) = e ∧ g 250 (xi : Int) = 0) := fun q => by have := (hrf.2.2.2.1 (by omega)).2.mp q.2; rw [hpk.2] at c77; omega
            refine x_iconst 85 (xd DX9_entry rfl) rfl ?_
            refine x_iadd 86 (xd DX9_entry rfl) rfl ?_
            refine x_istore_n 87 (L' := [(0, _), (1, _), (2, _), (3, _), (4, _), (5, _)]) (xd DX9_entry rfl) (by decide) rfl rfl rfl ?_
            refine x_iload 89 (xd DX9_entry rfl) rfl rfl ?_
            refine x_aload_n 90 (xd DX9_entry rfl) rfl rfl ?_
            refine x_iload 92 (xd DX9_entry rfl) rfl rfl ?_
            refine x_iload_n 93 (xd DX9_entry rfl) rfl rfl ?_
            refine x_Vi 96 (pX9_matches (xi : Int) e (by omega) (by omega) hM.1.m.1 hM.1.m.2 (by rw [eb, hMe.1]; have := hEw.1; omega)) FX9_matches VX9_matches CX9_130 (xd DX9_entry rfl) rfl rfl rfl ⟨by decide, rfl⟩ ⟨by decide, by decide⟩ (by decide) (Nat.le_of_ble_eq_true rfl) (by decide) rfl ?_
            rintro z9 h9 ⟨q1, q2⟩
            rw [q1, q2]
            clear q1 q2 z9 h9
            refine x_ifp_eq 99 103 (xd DX9_entry rfl) rfl rfl (fun c96 => ?_) (fun c96 => ?_)
            · have hmt : ¬ Mt g (10 + 3 * e.toNat) (xi : Int) := fun q => c96 (by rw [eb]; exact (MMt_Mt hM.1.1 hM.1.2.2.1 hM.1.2.2.2.1 hM.1.2.2.2.2.1.1 hEw hMe ⟨by omega, hlt⟩).mpr q)
              refine x_iconst 104 (xd DX9_entry rfl) rfl ?_
              refine x_iadd 105 (xd DX9_entry rfl) rfl ?_
              refine x_istore 107 (L' := [(0, _), (1, _), (2, _), (3, _), (4, _), (5, _)]) (xd DX9_entry rfl) (by decide) rfl rfl rfl ?_
              refine x_iinc 110 (L' := [(0, _), (1, _), (2, _), (3, _), (4, _), (5, _)]) (xd DX9_entry rfl) rfl (by decide) rfl rfl rfl ?_
              refine x_goto 47 (xd DX9_entry rfl) rfl ?_
              refine ih (xi + 1) _ _ (by omega) (by omega) ?_ ?_
              · rw [cntR_s, ← h1, Nat.zero_add]
                first | rw [xp_1.mpr hx1] | (rw [xp_0.mpr hx1]; done)
              · rw [cntR_s, ← h2, Nat.zero_add]
                first | rw [xp_1.mpr hmt] | (rw [xp_0.mpr hmt]; done)
            · have hmt : Mt g (10 + 3 * e.toNat) (xi : Int) := (MMt_Mt hM.1.1 hM.1.2.2.1 hM.1.2.2.2.1 hM.1.2.2.2.2.1.1 hEw hMe ⟨by omega, hlt⟩).mp (by rw [eb] at c96; exact c96)
              refine x_iconst 100 (xd DX9_entry rfl) rfl ?_
              refine x_goto 104 (xd DX9_entry rfl) rfl ?_
              refine x_iadd 105 (xd DX9_entry rfl) rfl ?_
              refine x_istore 107 (L' := [(0, _), (1, _), (2, _), (3, _), (4, _), (5, _)]) (xd DX9_entry rfl) (by decide) rfl rfl rfl ?_
              refine x_iinc 110 (L' := [(0, _), (1, _), (2, _), (3, _), (4, _), (5, _)]) (xd DX9_entry rfl) rfl (by decide) rfl rfl rfl ?_
              refine x_goto 47 (xd DX9_entry rfl) rfl ?_
              refine ih (xi + 1) _ _ (by omega) (by omega) ?_ ?_
              · rw [cntR_s, ← h1, Nat.zero_add]
                first | rw [xp_1.mpr hx1] | (rw [xp_0.mpr hx1]; done)
              · rw [cntR_s, ← h2, Nat.zero_add]
                first | rw [xp_1.mpr hmt] | (rw [xp_0.mpr hmt]; done)
          · have hx1 : g 249 (xi : Int) = e ∧ g 250 (xi : Int) = 0 := ⟨c65, (hrf.2.2.2.1 (by omega)).2.mpr (by rw [hpk.2] at c77; have := hrf.2.1; omega)⟩
            refine x_iconst 81 (xd DX9_entry rfl) rfl ?_
            refine x_goto 85 (xd DX9_entry rfl) rfl ?_
            refine x_iadd 86 (xd DX9_entry rfl) rfl ?_
            refine x_istore_n 87 (L' := [(0, _), (1, _), (2, _), (3, _), (4, _), (5, _)]) (xd DX9_entry rfl) (by decide) rfl rfl rfl ?_
            refine x_iload 89 (xd DX9_entry rfl) rfl rfl ?_
            refine x_aload_n 90 (xd DX9_entry rfl) rfl rfl ?_
            refine x_iload 92 (xd DX9_entry rfl) rfl rfl ?_
            refine x_iload_n 93 (xd DX9_entry rfl) rfl rfl ?_
            refine x_Vi 96 (pX9_matches (xi : Int) e (by omega) (by omega) hM.1.m.1 hM.1.m.2 (by rw [eb, hMe.1]; have := hEw.1; omega)) FX9_matches VX9_matches CX9_130 (xd DX9_entry rfl) rfl rfl rfl ⟨by decide, rfl⟩ ⟨by decide, by decide⟩ (by decide) (Nat.le_of_ble_eq_true rfl) (by decide) rfl ?_
            rintro z9 h9 ⟨q1, q2⟩
            rw [q1, q2]
            clear q1 q2 z9 h9
            refine x_ifp_eq 99 103 (xd DX9_entry rfl) rfl rfl (fun c96 => ?_) (fun c96 => ?_)
            · have hmt : ¬ Mt g (10 + 3 * e.toNat) (xi : Int) := fun q => c96 (by rw [eb]; exact (MMt_Mt hM.1.1 hM.1.2.2.1 hM.1.2.2.2.1 hM.1.2.2.2.2.1.1 hEw hMe ⟨by omega, hlt⟩).mpr q)
              refine x_iconst 104 (xd DX9_entry rfl) rfl ?_
              refine x_iadd 105 (xd DX9_entry rfl) rfl ?_
              refine x_istore 107 (L' := [(0, _), (1, _), (2, _), (3, _), (4, _), (5, _)]) (xd DX9_entry rfl) (by decide) rfl rfl rfl ?_
              refine x_iinc 110 (L' := [(0, _), (1, _), (2, _), (3, _), (4, _), (5, _)]) (xd DX9_entry rfl) rfl (by decide) rfl rfl rfl ?_
              refine x_goto 47 (xd DX9_entry rfl) rfl ?_
              refine ih (xi + 1) _ _ (by omega) (by omega) ?_ ?_
              · rw [cntR_s, ← h1, Nat.zero_add]
                first | rw [xp_1.mpr hx1] | (rw [xp_0.mpr hx1]; done)
              · rw [cntR_s, ← h2, Nat.zero_add]
                first | rw [xp_1.mpr hmt] | (rw [xp_0.mpr hmt]; done)
            · have hmt : Mt g (10 + 3 * e.toNat) (xi : Int) := (MMt_Mt hM.1.1 hM.1.2.2.1 hM.1.2.2.2.1 hM.1.2.2.2.2.1.1 hEw hMe ⟨by omega, hlt⟩).mp (by rw [eb] at c96; exact c96)
              refine x_iconst 100 (xd DX9_entry rfl) rfl ?_
              refine x_goto 104 (xd DX9_entry rfl) rfl ?_
              refine x_iadd 105 (xd DX9_entry rfl) rfl ?_
              refine x_istore 107 (L' := [(0, _), (1, _), (2, _), (3, _), (4, _), (5, _)]) (xd DX9_entry rfl) (by decide) rfl rfl rfl ?_
              refine x_iinc 110 (L' := [(0, _), (1, _), (2, _), (3, _), (4, _), (5, _)]) (xd DX9_entry rfl) rfl (by decide) rfl rfl rfl ?_
              refine x_goto 47 (xd DX9_entry rfl) rfl ?_
              refine ih (xi + 1) _ _ (by omega) (by omega) ?_ ?_
              · rw [cntR_s, ← h1, Nat.zero_add]
                first | rw [xp_1.mpr hx1] | (rw [xp_0.mpr hx1]; done)
              · rw [cntR_s, ← h2, Nat.zero_add]
                first | rw [xp_1.mpr hmt] | (rw [xp_0.mpr hmt]; done)
  refine x_aload_n 1 (xd DX9_entry rfl) rfl rfl ?_
  refine x_iload_n 2 (xd DX9_entry rfl) rfl rfl ?_
  refine x_Vi 5 (pX9_isEntry e he (by rw [hM.1.e]; exact hM.1.2.1.1)) FX9_isEntry VX9_isEntry CX9_160 (xd DX9_entry rfl) rfl rfl rfl ⟨by decide, rfl⟩ ⟨by decide, by decide⟩ (by decide) (Nat.le_of_ble_eq_true rfl) (by decide) rfl ?_
  rintro z9 h9 ⟨q1, q2⟩
  rw [q1, q2]
  clear q1 q2 z9 h9
  rw [hM.1.e]
  refine x_ifp_eq 8 20 (xd DX9_entry rfl) rfl rfl (fun c5 => ?_) (fun c5 => ?_)
  · refine x_iconst 21 (xd DX9_entry rfl) rfl ?_
    refine x_ri (xd DX9_entry rfl) rfl ?_
    refine ⟨?_, rfl⟩
    unfold entC
    first
      | rw [if_neg (by omega)]
      | (rw [if_pos (by omega), if_neg (by omega), if_neg (by omega), if_neg (by omega), if_neg (by omega)])
  · refine x_iload_n 9 (xd DX9_entry rfl) rfl rfl ?_
    refine x_i2l 10 (by omega) (xd DX9_entry rfl) rfl ?_
    refine x_lconst 11 (xd DX9_entry rfl) (z := 0) rfl rfl ?_
    refine x_ldc2 14 (xd DX9_entry rfl) KX9_182 rfl ?_
    refine x_Si 17 (pX9_in w 0 3 (by omega) (by omega) (by omega)) FX9_in VX9_in CX9_71 (xd DX9_entry rfl) rfl rfl (by decide) (Nat.le_of_ble_eq_true rfl) (by decide) rfl ?_
    rintro z9 h9 ⟨q1, q2⟩
    rw [q1, q2]
    clear q1 q2 z9 h9
    refine x_ifp_ne 20 22 (xd DX9_entry rfl) rfl rfl (fun c17 => ?_) (fun c17 => ?_)
    · refine x_iload_n 23 (xd DX9_entry rfl) rfl rfl ?_
      refine x_iconst 24 (xd DX9_entry rfl) rfl ?_
      refine x_icmp_ge 27 39 (xd DX9_entry rfl) rfl (by omega) (by omega) rfl (fun c24 => ?_) (fun c24 => ?_)
      · refine x_iconst 40 (xd DX9_entry rfl) rfl ?_
        refine x_istore_n 41 (L' := [(0, _), (1, _), (2, _), (3, _)]) (xd DX9_entry rfl) (by decide) rfl rfl rfl ?_
        refine x_iconst 42 (xd DX9_entry rfl) rfl ?_
        refine x_istore 44 (L' := [(0, _), (1, _), (2, _), (3, _), (4, _)]) (xd DX9_entry rfl) (by decide) rfl rfl rfl ?_
        refine x_iconst 45 (xd DX9_entry rfl) rfl ?_
        refine x_istore 47 (L' := [(0, _), (1, _), (2, _), (3, _), (4, _), (5, _)]) (xd DX9_entry rfl) (by decide) rfl rfl rfl ?_
        have hr0 : 0 ≤ e ∧ e < g 8 1 := by omega
        obtain ⟨hMe, hEw, eb⟩ := hent hr0
        exact loop hr0 (by omega) hMe hEw eb 60 0 0 0 (by omega) (by omega) rfl rfl
      · refine x_aload_n 28 (xd DX9_entry rfl) rfl rfl ?_
        refine x_gr 31 _ LX9_28 (xd DX9_entry rfl) rfl rfl ⟨by decide, by decide⟩ (by decide) rfl rfl ?_
        refine x_bipush 33 (xd DX9_entry rfl) rfl rfl ?_
        refine x_iload_n 34 (xd DX9_entry rfl) rfl rfl ?_
        refine x_imul 35 (xd DX9_entry rfl) rfl ?_
        refine x_iload_n 36 (xd DX9_entry rfl) rfl rfl ?_
        refine x_iadd 37 (xd DX9_entry rfl) rfl ?_
        refine x_iaload 38 (xd DX9_entry rfl) rfl ⟨Or.inr ⟨rfl, by decide⟩, by decide⟩ (by decide) (by omega) (by omega) rfl ?_
        refine x_ri (xd DX9_entry rfl) rfl ?_
        refine ⟨?_, rfl⟩
        obtain ⟨hMe, hEw, eb⟩ := hent (by omega)
        unfold entC
        rw [if_pos (by omega)]
        by_cases y : w = 0
        · subst y
          rw [if_pos rfl, ← hMe.1, Int.add_zero]
        · have y1 : w = 1 := by omega
          subst y1
          rw [if_neg (by decide), if_pos rfl, ← hMe.2.1]
    · refine x_iconst 21 (xd DX9_entry rfl) rfl ?_
      refine x_ri (xd DX9_entry rfl) rfl ?_
      refine ⟨?_, rfl⟩
      unfold entC
      first
        | rw [if_neg (by omega)]
        | (rw [if_pos (by omega), if_neg (by omega), if_neg (by omega), if_neg (by omega), if_neg (by omega)])

def prtC (g : XH) (e i w : Int) : Int := if (0 ≤ e ∧ e < g 8 1) ∧ 0 ≤ i ∧ 0 ≤ w ∧ w ≤ 1 then (if g (10 + 3 * e.toNat) 2 ≤ i then -4 else if w = 0 then ltr (g (10 + 3 * e.toNat + 1) i) else if i = g (10 + 3 * e.toNat) 3 then -4 else g (10 + 3 * e.toNat + 2) i) else -1
set_option maxRecDepth 100000 in
set_option maxHeartbeats 4000000 in
theorem pX9_part {K : XK} {n : Nat} {h : XH} (g : XH) (e i w : Int) (hM : MG g h) (he : xrg e) (hi : xrg i) (hw : xrg w) : MI K mX9_part 2 n [vr 259, vi e, vi i, vi w] h (fun zr h' => zr = prtC g e i w ∧ h' = h) := by
  refine xMeth FX9_part (Nat.le_of_ble_eq_true rfl) ?_
  have h81 := hM.1.2.1.1
  have hent : (0 ≤ e ∧ e < g 8 1) → ME g (10 + 3 * e.toNat) (h 266) (10 * e) ∧ EW g (10 + 3 * e.toNat) ∧ mEnt e = 10 * e := fun q => by
    have a := hM.1.2.2.2.2.1.2.2.2 e.toNat (by omega)
    rw [show ((e.toNat : Nat) : Int) = e by omega] at a
    exact ⟨a, hM.1.2.1.ew (by omega), by unfold mEnt; rw [if_pos (by omega)]⟩
  refine x_aload_n 1 (xd DX9_part rfl) rfl rfl ?_
  refine x_iload_n 2 (xd DX9_part rfl) rfl rfl ?_
  refine x_Vi 5 (pX9_isEntry e he (by rw [hM.1.e]; exact hM.1.2.1.1)) FX9_isEntry VX9_isEntry CX9_160 (xd DX9_part rfl) rfl rfl rfl ⟨by decide, rfl⟩ ⟨by decide, by decide⟩ (by decide) (Nat.le_of_ble_eq_true rfl) (by decide) rfl ?_
  rintro z9 h9 ⟨q1, q2⟩
  rw [q1, q2]
  clear q1 q2 z9 h9
  rw [hM.1.e]
  refine x_ifp_eq 8 22 (xd DX9_part rfl) rfl rfl (fun c5 => ?_) (fun c5 => ?_)
  · refine x_iconst 23 (xd DX9_part rfl) rfl ?_
    refine x_ri (xd DX9_part rfl) rfl ?_
    refine ⟨?_, rfl⟩
    unfold prtC
    rw [if_neg (by omega)]
  · refine x_iload_n 9 (xd DX9_part rfl) rfl rfl ?_
    refine x_if_lt 12 22 (xd DX9_part rfl) rfl (by omega) rfl (fun c9 => ?_) (fun c9 => ?_)
    · refine x_iconst 23 (xd DX9_part rfl) rfl ?_
      refine x_ri (xd DX9_part rfl) rfl ?_
      refine ⟨?_, rfl⟩
      unfold prtC
      rw [if_neg (by omega)]
    · refine x_iload_n 13 (xd DX9_part rfl) rfl rfl ?_
      refine x_i2l 14 (by omega) (xd DX9_part rfl) rfl ?_
      refine x_lconst 15 (xd DX9_part rfl) (z := 0) rfl rfl ?_
      refine x_lconst 16 (xd DX9_part rfl) (z := 1) rfl rfl ?_
      refine x_Si 19 (pX9_in w 0 1 (by omega) (by omega) (by omega)) FX9_in VX9_in CX9_71 (xd DX9_part rfl) rfl rfl (by decide) (Nat.le_of_ble_eq_true rfl) (by decide) rfl ?_
      rintro z9 h9 ⟨q1, q2⟩
      rw [q1, q2]
      clear q1 q2 z9 h9
      refine x_ifp_ne 22 24 (xd DX9_part rfl) rfl rfl (fun c19 => ?_) (fun c19 => ?_)
      · have hr0 : 0 ≤ e ∧ e < g 8 1 := by omega
        obtain ⟨hMe, hEw, eb⟩ := hent hr0
        have hE1 := hEw.1
        refine x_iload_n 25 (xd DX9_part rfl) rfl rfl ?_
        refine x_aload_n 26 (xd DX9_part rfl) rfl rfl ?_
        refine x_gr 29 _ LX9_28 (xd DX9_part rfl) rfl rfl ⟨by decide, by decide⟩ (by decide) rfl rfl ?_
        refine x_bipush 31 (xd DX9_part rfl) rfl rfl ?_
        refine x_iload_n 32 (xd DX9_part rfl) rfl rfl ?_
        refine x_imul 33 (xd DX9_part rfl) rfl ?_
        refine x_iaload 34 (xd DX9_part rfl) rfl ⟨Or.inr ⟨rfl, by decide⟩, by decide⟩ (by decide) (by omega) (by omega) rfl ?_
        refine x_icmp_lt 37 42 (xd DX9_part rfl) rfl (by first | omega | (rw [hMe.1]; omega)) (by first | omega | (rw [hMe.1]; omega)) rfl (fun c34 => ?_) (fun c34 => ?_)
        · refine x_aload_n 43 (xd DX9_part rfl) rfl rfl ?_
          refine x_gr 46 _ LX9_28 (xd DX9_part rfl) rfl rfl ⟨by decide, by decide⟩ (by decide) rfl rfl ?_
          refine x_bipush 48 (xd DX9_part rfl) rfl rfl ?_
          refine x_iload_n 49 (xd DX9_part rfl) rfl rfl ?_
          refine x_imul 50 (xd DX9_part rfl) rfl ?_
          refine x_iload_n 51 (xd DX9_part rfl) rfl rfl ?_
          refine x_if_ne 54 58 (xd DX9_part rfl) rfl (by omega) rfl (fun c51 => ?_) (fun c51 => ?_)
          · refine x_bipush 60 (xd DX9_part rfl) rfl rfl ?_
            refine x_iadd 61 (xd DX9_part rfl) rfl ?_
            refine x_iload_n 62 (xd DX9_part rfl) rfl rfl ?_
            refine x_iadd 63 (xd DX9_part rfl) rfl ?_
            refine x_iaload 64 (xd DX9_part rfl) rfl ⟨Or.inr ⟨rfl, by decide⟩, by decide⟩ (by decide) (by first | omega | (rw [hMe.1] at c34; omega)) (by first | omega | (rw [hMe.1] at c34; omega)) rfl ?_
            refine x_ri (xd DX9_part rfl) rfl ?_
            refine ⟨?_, rfl⟩
            rw [hMe.1] at c34
            unfold prtC
            rw [if_pos ⟨hr0, by omega, by omega, by omega⟩]
            first
              | (rw [if_pos c34]; done)
              | (have v := hMe.2.2 i (by omega) (by omega)
                 rw [if_neg (by omega), if_pos (by omega), v.1, if_pos c34]
                 done)
              | (have v := hMe.2.2 i (by omega) (by omega)
                 rw [if_neg (by omega), if_neg (by omega), v.2]
                 by_cases y : i = g (10 + 3 * e.toNat) 3
                 · rw [if_pos y, if_neg (fun q => q.2 y)]
                 · rw [if_neg y, if_pos ⟨c34, y⟩])
          · refine x_iconst 55 (xd DX9_part rfl) rfl ?_
            refine x_goto 60 (xd DX9_part rfl) rfl ?_
            refine x_iadd 61 (xd DX9_part rfl) rfl ?_
            refine x_iload_n 62 (xd DX9_part rfl) rfl rfl ?_
            refine x_iadd 63 (xd DX9_part rfl) rfl ?_
            refine x_iaload 64 (xd DX9_part rfl) rfl ⟨Or.inr ⟨rfl, by decide⟩, by decide⟩ (by decide) (by first | omega | (rw [hMe.1] at c34; omega)) (by first | omega | (rw [hMe.1] at c34; omega)) rfl ?_
            refine x_ri (xd DX9_part rfl) rfl ?_
            refine ⟨?_, rfl⟩
            rw [hMe.1] at c34
            unfold prtC
            rw [if_pos ⟨hr0, by omega, by omega, by omega⟩]
            first
              | (rw [if_pos c34]; done)
              | (have v := hMe.2.2 i (by omega) (by omega)
                 rw [if_neg (by omega), if_pos (by omega), v.1, if_pos c34]
                 done)
              | (have v := hMe.2.2 i (by omega) (by omega)
                 rw [if_neg (by omega), if_neg (by omega), v.2]
                 by_cases y : i = g (10 + 3 * e.toNat) 3
                 · rw [if_pos y, if_neg (fun q => q.2 y)]
                 · rw [if_neg y, if_pos ⟨c34, y⟩])
        · refine x_bipush 39 (xd DX9_part rfl) rfl rfl ?_
          refine x_goto 64 (xd DX9_part rfl) rfl ?_
          refine x_ri (xd DX9_part rfl) rfl ?_
          refine ⟨?_, rfl⟩
          rw [hMe.1] at c34
          unfold prtC
          rw [if_pos ⟨hr0, by omega, by omega, by omega⟩]
          first
            | (rw [if_pos c34]; done)
            | (have v := hMe.2.2 i (by omega) (by omega)
               rw [if_neg (by omega), if_pos (by omega), v.1, if_pos c34]
               done)
            | (have v := hMe.2.2 i (by omega) (by omega)
               rw [if_neg (by omega), if_neg (by omega), v.2]
               by_cases y : i = g (10 + 3 * e.toNat) 3
               · rw [if_pos y, if_neg (fun q => q.2 y)]
               · rw [if_neg y, if_pos ⟨c34, y⟩])
      · refine x_iconst 23 (xd DX9_part rfl) rfl ?_
        refine x_ri (xd DX9_part rfl) rfl ?_
        refine ⟨?_, rfl⟩
        unfold prtC
        rw [if_neg (by omega)]

