/-! SqueezedCodeModel: hasLike, refusal -/
def RowE (h : XH) (a d : Int) : Prop := ∀ x, 0 ≤ x → x < d → h 266 (a + x) = h 266 (83 + x)
theorem RowE_s {h : XH} {a d : Int} (hd : 0 ≤ d) : RowE h a (d + 1) ↔ (RowE h a d ∧ h 266 (a + d) = h 266 (83 + d)) := by
  constructor
  · intro q
    exact ⟨fun x a b => q x a (by omega), q d hd (by omega)⟩
  · intro q x a b
    by_cases e : x = d
    · rw [e]; exact q.2
    · exact q.1 x a (by omega)
theorem like_row {g h h1 : XH} {i m z : Int} {e : Nat} (hP : PW g) (hS : SW g 8) (hR : RP g h) (hT : RT g h) (hl : Lays h 83 i m z h1) (hi : 0 ≤ i) (hm : 2 ≤ m ∧ m ≤ 4) (him : i + m ≤ g 4 3) (hz : -1 ≤ z) (he : (e : Int) < g 8 1) : RowE h1 (10 * e) 10 ↔ (g (10 + 3 * e) 2 = m ∧ g (10 + 3 * e) 3 = (if z < 0 then -4 else z) ∧ Fits g (10 + 3 * e) i) := by
  have h8 := hS.1
  have hE := hS.ew he
  have hM : ME g (10 + 3 * e) (h1 266) (10 * e) := (hT.2.2.2 e he).mv (fun x a b => hl.2.1 _ (Or.inl (by omega)))
  obtain ⟨-, -, l3, l4, l5⟩ := hl
  obtain ⟨m1, m2, m3⟩ := hM
  constructor
  · intro q
    have q0 := q 0 (by omega) (by omega)
    rw [Int.add_zero, Int.add_zero, m1, l3] at q0
    have q1 := q 1 (by omega) (by omega)
    rw [m2, show (83 : Int) + 1 = 83 + 1 from rfl, l4] at q1
    refine ⟨q0, q1, hi, by rw [q0]; omega, fun k k0 k1 => ?_⟩
    have k4 : k < 4 := by omega
    have km : k < m := by omega
    obtain ⟨r1, r2, -⟩ := hR.2 (i + k) (by omega) (by omega)
    have q2 := q (2 + k) (by omega) (by omega)
    rw [show (10 * (e : Int) + (2 + k)) = 10 * e + 2 + k by omega, show (83 : Int) + (2 + k) = 83 + 2 + k by omega, (m3 k k0 k4).1, (l5 k k0 k4).1, if_pos k1, if_pos km, r1, ltr_inj (by have := (hE.2.2 k k0 k1).1; omega) (hP.v (by omega) (by omega)).1] at q2
    refine ⟨q2, ?_⟩
    by_cases y : k = g (10 + 3 * e) 3
    · exact Or.inl y
    · have q6 := q (6 + k) (by omega) (by omega)
      rw [show (10 * (e : Int) + (6 + k)) = 10 * e + 6 + k by omega, show (83 : Int) + (6 + k) = 83 + 6 + k by omega, (m3 k k0 k4).2, (l5 k k0 k4).2, if_pos ⟨k1, y⟩, if_pos ⟨km, fun w => y (by rw [q1, if_neg (by omega)]; exact w)⟩, r2] at q6
      exact Or.inr q6
  · rintro ⟨q0, q1, -, -, qf⟩ x a b
    by_cases x0 : x = 0
    · rw [x0, Int.add_zero, Int.add_zero, m1, l3, q0]
    · by_cases x1 : x = 1
      · rw [x1, m2, l4, q1]
      · by_cases x6 : x < 6
        · have y1 := m3 (x - 2) (by omega) (by omega)
          have y2 := l5 (x - 2) (by omega) (by omega)
          rw [show (10 * (e : Int) + 2 + (x - 2)) = 10 * e + x by omega] at y1
          rw [show (83 : Int) + 2 + (x - 2) = 83 + x by omega] at y2
          rw [y1.1, y2.1, q0]
          by_cases y : x - 2 < m
          · rw [if_pos y, if_pos y, (hR.2 (i + (x - 2)) (by omega) (by omega)).1, (qf (x - 2) (by omega) (by omega)).1]
          · rw [if_neg y, if_neg y]
        · have y1 := m3 (x - 6) (by omega) (by omega)
          have y2 := l5 (x - 6) (by omega) (by omega)
          rw [show (10 * (e : Int) + 6 + (x - 6)) = 10 * e + x by omega] at y1
          rw [show (83 : Int) + 6 + (x - 6) = 83 + x by omega] at y2
          rw [y1.2, y2.2, q0, q1]
          by_cases y : x - 6 < m
          · by_cases w : x - 6 = z
            · rw [if_neg (fun q => q.2 (by rw [if_neg (by omega)]; exact w)), if_neg (fun q => q.2 w)]
            · rw [if_pos ⟨y, by split <;> omega⟩, if_pos ⟨y, w⟩, (hR.2 (i + (x - 6)) (by omega) (by omega)).2.1]
              have := (qf (x - 6) (by omega) (by omega)).2
              rw [q1] at this
              exact this.resolve_left (by split <;> omega)
          · rw [if_neg (fun q => y q.1), if_neg (fun q => y q.1)]
theorem RP.sq {g h : XH} (hR : RP g h) (hP : PW g) {i m : Int} (hi : 0 ≤ i) (him : i + m ≤ g 4 3) : ∀ x, 0 ≤ x → x < m → xrg (h 263 (i + x)) ∧ xrg (h 264 (i + x)) := fun x a b => by
  have := (hR.mpw hP).2 (i + x) (by omega) (by rw [hR.1]; omega)
  exact ⟨this.1, this.2.1⟩
set_option maxRecDepth 100000 in
set_option maxHeartbeats 4000000 in
theorem pX9_hasLike {K : XK} {n : Nat} {h : XH} (g : XH) (i m z : Int) (hP : PW g) (hS : SW g 8) (hR : RP g h) (hT : RT g h) (hTR : TRg h) (hi : 0 ≤ i) (hm : 2 ≤ m ∧ m ≤ 4) (him : i + m ≤ g 4 3) (hz : -1 ≤ z ∧ z < m) : MI K mX9_hasLike 2 n [vr 259, vi i, vi m, vi z] h (fun zr h' => zr = xp (Alike g i m (if z < 0 then -4 else z)) ∧ Lays h 83 i m z h') := by
  refine xMeth FX9_hasLike (Nat.le_of_ble_eq_true rfl) ?_
  refine x_aload_n 1 (xd DX9_hasLike rfl) rfl rfl ?_
  refine x_bipush 3 (xd DX9_hasLike rfl) rfl rfl ?_
  refine x_iload_n 4 (xd DX9_hasLike rfl) rfl rfl ?_
  refine x_iload_n 5 (xd DX9_hasLike rfl) rfl rfl ?_
  refine x_iload_n 6 (xd DX9_hasLike rfl) rfl rfl ?_
  refine x_Vv 9 (pX9_lays 8 i m z (by omega) hi hm (by have := hP.1; omega) hz) FX9_lays VX9_lays CX9_123 (xd DX9_hasLike rfl) rfl rfl rfl ⟨by decide, rfl⟩ ⟨by decide, by decide⟩ (by decide) (Nat.le_of_ble_eq_true rfl) (by decide) rfl ?_
  intro h1 hl
  rw [show mEnt 8 = 83 from rfl] at hl
  have hT1 : TRg h1 := hl.rg hTR hm hz (hR.sq hP hi him)
  have h82 : h1 266 82 = g 8 1 := (hl.2.1 82 (by omega)).trans hT.2.2.1
  have h8 := hS.1
  have loop : ∀ (f : Nat) (xe1 xis : Int), 0 ≤ xe1 → xe1 ≤ g 8 1 → g 8 1 - xe1 < (f : Int) → xis = xp (∃ x : Nat, (x : Int) < xe1 ∧ RowE h1 (10 * x) 10) → WI K mX9_hasLike 2 n (qI n (fun zr h' => zr = xp (Alike g i m (if z < 0 then -4 else z)) ∧ Lays h 83 i m z h')) 15 [(0, vr 259), (1, vi i), (2, vi m), (3, vi z), (4, vi xis), (5, vi xe1)] [] h1 := by
    intro f
    induction f with
    | zero => intro xe1 xis a b c; exact absurd c (by omega)
    | succ f ih =>
      intro xe1 xis h0 h1e hmm hz1
      have inner : xe1 < g 8 1 → ∀ (fk : Nat) (xk xlk : Int), 0 ≤ xk → xk ≤ 10 → 10 - xk < (fk : Int) → xlk = xp (RowE h1 (10 * xe1) xk) → WI K mX9_hasLike 2 n (qI n (fun zr h' => zr = xp (Alike g i m (if z < 0 then -4 else z)) ∧ Lays h 83 i m z h')) 33 [(0, vr 259), (1, vi i), (2, vi m), (3, vi z), (4, vi xis), (5, vi xe1), (6, vi xlk), (7, vi xk)] [] h1 := by
        intro hlt fk
        have done : ∀ xlk : Int, xlk = xp (RowE h1 (10 * xe1) 10) → WI K mX9_hasLike 2 n (qI n (fun zr h' => zr = xp (Alike g i m (if z < 0 then -4 else z)) ∧ Lays h 83 i m z h')) 84 [(0, vr 259), (1, vi i), (2, vi m), (3, vi z), (4, vi xis), (5, vi xe1), (6, vi xlk), (7, vi 10)] [] h1 := by
          intro xlk hz2
          refine x_iload 86 (xd DX9_hasLike rfl) rfl rfl ?_
          refine x_if_ne 89 94 (xd DX9_hasLike rfl) rfl (by have := xp01 (∃ x : Nat, (x : Int) < xe1 ∧ RowE h1 (10 * x) 10); omega) rfl (fun c86 => ?_) (fun c86 => ?_)
          · have hyes : ∃ x : Nat, (x : Int) < xe1 + 1 ∧ RowE h1 (10 * x) 10 := by
              obtain ⟨x, a, b⟩ := (xp_1.mp (by have := xp01 (∃ x : Nat, (x : Int) < xe1 ∧ RowE h1 (10 * x) 10); omega) : ∃ x : Nat, (x : Int) < xe1 ∧ RowE h1 (10 * x) 10)
              exact ⟨x, by omega, b⟩
            refine x_iconst 95 (xd DX9_hasLike rfl) rfl ?_
            refine x_goto 99 (xd DX9_hasLike rfl) rfl ?_
            refine x_istore 101 (L' := [(0, _), (1, _), (2, _), (3, _), (4, _), (5, _), (6, _), (7, _)]) (xd DX9_hasLike rfl) (by decide) rfl rfl rfl ?_
            refine x_iinc 104 (L' := [(0, _), (1, _), (2, _), (3, _), (4, _), (5, _), (6, _), (7, _)]) (xd DX9_hasLike rfl) rfl (by decide) rfl rfl rfl ?_
            refine x_goto 15 (xd DX9_hasLike rfl) rfl ?_
            refine WX.locals (L' := [(0, _), (1, _), (2, _), (3, _), (4, _), (5, _)]) (fun q hq => List.mem_append_left _ hq) ?_
            refine ih (xe1 + 1) _ (by omega) (by omega) (by omega) ?_
            first | exact xp_t hyes | exact xp_f hno
          · refine x_iload 91 (xd DX9_hasLike rfl) rfl rfl ?_
            refine x_if_eq 94 98 (xd DX9_hasLike rfl) rfl (by have := xp01 (RowE h1 (10 * xe1) 10); omega) rfl (fun c91 => ?_) (fun c91 => ?_)
            · have hno : ¬ ∃ x : Nat, (x : Int) < xe1 + 1 ∧ RowE h1 (10 * x) 10 := by
                rintro ⟨x, a, b⟩
                by_cases y : (x : Int) = xe1
                · rw [y] at b
                  exact xp_0.mp (hz2.symm.trans c91) b
                · exact xp_0.mp (hz1.symm.trans c86) ⟨x, by omega, b⟩
              refine x_iconst 99 (xd DX9_hasLike rfl) rfl ?_
              refine x_istore 101 (L' := [(0, _), (1, _), (2, _), (3, _), (4, _), (5, _), (6, _), (7, _)]) (xd DX9_hasLike rfl) (by decide) rfl rfl rfl ?_
              refine x_iinc 104 (L' := [(0, _), (1, _), (2, _), (3, _), (4, _), (5, _), (6, _), (7, _)]) (xd DX9_hasLike rfl) rfl (by decide) rfl rfl rfl ?_
              refine x_goto 15 (xd DX9_hasLike rfl) rfl ?_
              refine WX.locals (L' := [(0, _), (1, _), (2, _), (3, _), (4, _), (5, _)]) (fun q hq => List.mem_append_left _ hq) ?_
              refine ih (xe1 + 1) _ (by omega) (by omega) (by omega) ?_
              first | exact xp_t hyes | exact xp_f hno
            · have hyes : ∃ x : Nat, (x : Int) < xe1 + 1 ∧ RowE h1 (10 * x) 10 := ⟨xe1.toNat, by omega, by
                have := xp01 (RowE h1 (10 * xe1) 10)
                rw [show ((xe1.toNat : Nat) : Int) = xe1 by omega]
                exact xp_1.mp (by omega)⟩
              refine x_iconst 95 (xd DX9_hasLike rfl) rfl ?_
              refine x_goto 99 (xd DX9_hasLike rfl) rfl ?_
              refine x_istore 101 (L' := [(0, _), (1, _), (2, _), (3, _), (4, _), (5, _), (6, _), (7, _)]) (xd DX9_hasLike rfl) (by decide) rfl rfl rfl ?_
              refine x_iinc 104 (L' := [(0, _), (1, _), (2, _), (3, _), (4, _), (5, _), (6, _), (7, _)]) (xd DX9_hasLike rfl) rfl (by decide) rfl rfl rfl ?_
              refine x_goto 15 (xd DX9_hasLike rfl) rfl ?_
              refine WX.locals (L' := [(0, _), (1, _), (2, _), (3, _), (4, _), (5, _)]) (fun q hq => List.mem_append_left _ hq) ?_
              refine ih (xe1 + 1) _ (by omega) (by omega) (by omega) ?_
              first | exact xp_t hyes | exact xp_f hno
        induction fk with
        | zero => intro xk xlk a b c; exact absurd c (by omega)
        | succ fk ihk =>
          intro xk xlk h0 h1k hmmk hz2
          refine x_iload 35 (xd DX9_hasLike rfl) rfl rfl ?_
          refine x_bipush 37 (xd DX9_hasLike rfl) rfl rfl ?_
          refine x_icmp_ge 40 84 (xd DX9_hasLike rfl) rfl (by omega) (by omega) rfl (fun c37 => ?_) (fun c37 => ?_)
          · have hk10 : xk = 10 := by omega
            subst hk10
            exact done xlk hz2
          · refine x_iload 42 (xd DX9_hasLike rfl) rfl rfl ?_
            refine x_if_eq 45 75 (xd DX9_hasLike rfl) rfl (by have := xp01 (RowE h1 (10 * xe1) xk); omega) rfl (fun c42 => ?_) (fun c42 => ?_)
            · have hno : ¬ (RowE h1 (10 * xe1) xk ∧ h1 266 (10 * xe1 + xk) = h1 266 (83 + xk)) := fun q => xp_0.mp (hz2.symm.trans c42) q.1
              refine x_iconst 76 (xd DX9_hasLike rfl) rfl ?_
              refine x_istore 78 (L' := [(0, _), (1, _), (2, _), (3, _), (4, _), (5, _), (6, _), (7, _)]) (xd DX9_hasLike rfl) (by decide) rfl rfl rfl ?_
              refine x_iinc 81 (L' := [(0, _), (1, _), (2, _), (3, _), (4, _), (5, _), (6, _), (7, _)]) (xd DX9_hasLike rfl) rfl (by decide) rfl rfl rfl ?_
              refine x_goto 33 (xd DX9_hasLike rfl) rfl ?_
              refine ihk (xk + 1) _ (by omega) (by omega) (by omega) ?_
              rw [xp_c (RowE_s (h := h1) (a := 10 * xe1) (d := xk) h0)]
              first | exact xp_t hyes | exact xp_f hno
            · have hy1 : RowE h1 (10 * xe1) xk := xp_1.mp (by have := xp01 (RowE h1 (10 * xe1) xk); omega)
              refine x_aload_n 46 (xd DX9_hasLike rfl) rfl rfl ?_
              refine x_gr 49 _ LX9_28 (xd DX9_hasLike rfl) rfl rfl ⟨by decide, by decide⟩ (by decide) rfl rfl ?_
              refine x_bipush 51 (xd DX9_hasLike rfl) rfl rfl ?_
              refine x_iload 53 (xd DX9_hasLike rfl) rfl rfl ?_
              refine x_imul 54 (xd DX9_hasLike rfl) rfl ?_
              refine x_iload 56 (xd DX9_hasLike rfl) rfl rfl ?_
              refine x_iadd 57 (xd DX9_hasLike rfl) rfl ?_
              refine x_iaload 58 (xd DX9_hasLike rfl) rfl ⟨Or.inr ⟨rfl, by decide⟩, by decide⟩ (by decide) (by omega) (by omega) rfl ?_
              refine x_aload_n 59 (xd DX9_hasLike rfl) rfl rfl ?_
              refine x_gr 62 _ LX9_28 (xd DX9_hasLike rfl) rfl rfl ⟨by decide, by decide⟩ (by decide) rfl rfl ?_
              refine x_bipush 64 (xd DX9_hasLike rfl) rfl rfl ?_
              refine x_iload 66 (xd DX9_hasLike rfl) rfl rfl ?_
              refine x_iadd 67 (xd DX9_hasLike rfl) rfl ?_
              refine x_iaload 68 (xd DX9_hasLike rfl) rfl ⟨Or.inr ⟨rfl, by decide⟩, by decide⟩ (by decide) (by omega) (by omega) rfl ?_
              refine x_icmp_ne 71 75 (xd DX9_hasLike rfl) rfl (by first | exact hT1 _ (by omega) (by omega) | omega) (by first | exact hT1 _ (by omega) (by omega) | omega) rfl (fun c68 => ?_) (fun c68 => ?_)
              · have hno : ¬ (RowE h1 (10 * xe1) xk ∧ h1 266 (10 * xe1 + xk) = h1 266 (83 + xk)) := fun q => c68 q.2
                refine x_iconst 76 (xd DX9_hasLike rfl) rfl ?_
                refine x_istore 78 (L' := [(0, _), (1, _), (2, _), (3, _), (4, _), (5, _), (6, _), (7, _)]) (xd DX9_hasLike rfl) (by decide) rfl rfl rfl ?_
                refine x_iinc 81 (L' := [(0, _), (1, _), (2, _), (3, _), (4, _), (5, _), (6, _), (7, _)]) (xd DX9_hasLike rfl) rfl (by decide) rfl rfl rfl ?_
                refine x_goto 33 (xd DX9_hasLike rfl) rfl ?_
                refine ihk (xk + 1) _ (by omega) (by omega) (by omega) ?_
                rw [xp_c (RowE_s (h := h1) (a := 10 * xe1) (d := xk) h0)]
                first | exact xp_t hyes | exact xp_f hno
              · have hyes : RowE h1 (10 * xe1) xk ∧ h1 266 (10 * xe1 + xk) = h1 266 (83 + xk) := ⟨hy1, c68⟩
                refine x_iconst 72 (xd DX9_hasLike rfl) rfl ?_
                refine x_goto 76 (xd DX9_hasLike rfl) rfl ?_
                refine x_istore 78 (L' := [(0, _), (1, _), (2, _), (3, _), (4, _), (5, _), (6, _), (7, _)]) (xd DX9_hasLike rfl) (by decide) rfl rfl rfl ?_
                refine x_iinc 81 (L' := [(0, _), (1, _), (2, _), (3, _), (4, _), (5, _), (6, _), (7, _)]) (xd DX9_hasLike rfl) rfl (by decide) rfl rfl rfl ?_
                refine x_goto 33 (xd DX9_hasLike rfl) rfl ?_
                refine ihk (xk + 1) _ (by omega) (by omega) (by omega) ?_
                rw [xp_c (RowE_s (h := h1) (a := 10 * xe1) (d := xk) h0)]
                first | exact xp_t hyes | exact xp_f hno
      refine x_iload 17 (xd DX9_hasLike rfl) rfl rfl ?_
      refine x_aload_n 18 (xd DX9_hasLike rfl) rfl rfl ?_
      refine x_gr 21 _ LX9_28 (xd DX9_hasLike rfl) rfl rfl ⟨by decide, by decide⟩ (by decide) rfl rfl ?_
      refine x_bipush 23 (xd DX9_hasLike rfl) rfl rfl ?_
      refine x_iaload 24 (xd DX9_hasLike rfl) rfl ⟨Or.inr ⟨rfl, by decide⟩, by decide⟩ (by decide) (by omega) (by omega) rfl ?_
      refine x_icmp_ge 27 107 (xd DX9_hasLike rfl) rfl (by omega) (by omega) rfl (fun c24 => ?_) (fun c24 => ?_)
      · refine x_iload 109 (xd DX9_hasLike rfl) rfl rfl ?_
        refine x_rz (xd DX9_hasLike rfl) rfl (by have := xp01 (∃ x : Nat, (x : Int) < xe1 ∧ RowE h1 (10 * x) 10); omega) ?_
        refine ⟨?_, hl⟩
        rw [hz1]
        exact xp_c ⟨fun ⟨x, a, b⟩ => ⟨x, by omega, (like_row hP hS hR hT hl hi hm him hz.1 (by omega)).mp b⟩, fun ⟨x, a, b⟩ => ⟨x, by omega, (like_row hP hS hR hT hl hi hm him hz.1 a).mpr b⟩⟩
      · refine x_iconst 28 (xd DX9_hasLike rfl) rfl ?_
        refine x_istore 30 (L' := [(0, _), (1, _), (2, _), (3, _), (4, _), (5, _), (6, _)]) (xd DX9_hasLike rfl) (by decide) rfl rfl rfl ?_
        refine x_iconst 31 (xd DX9_hasLike rfl) rfl ?_
        refine x_istore 33 (L' := [(0, _), (1, _), (2, _), (3, _), (4, _), (5, _), (6, _), (7, _)]) (xd DX9_hasLike rfl) (by decide) rfl rfl rfl ?_
        exact inner (by omega) 11 0 1 (by omega) (by omega) (by omega) (xp_t (fun x a b => absurd b (by omega)))
  refine x_iconst 10 (xd DX9_hasLike rfl) rfl ?_
  refine x_istore 12 (L' := [(0, _), (1, _), (2, _), (3, _), (4, _)]) (xd DX9_hasLike rfl) (by decide) rfl rfl rfl ?_
  refine x_iconst 13 (xd DX9_hasLike rfl) rfl ?_
  refine x_istore 15 (L' := [(0, _), (1, _), (2, _), (3, _), (4, _), (5, _)]) (xd DX9_hasLike rfl) (by decide) rfl rfl rfl ?_
  exact loop 20 0 0 (by omega) (by omega) (by omega) (xp_f (fun ⟨x, a, b⟩ => absurd a (by omega)))

set_option maxRecDepth 100000 in
set_option maxHeartbeats 4000000 in
theorem pX9_refusal {K : XK} {n : Nat} {h : XH} (g : XH) (i m z : Int) (hP : PW g) (hS : SW g 8) (hL : LY g) (hR : RP g h) (hT : RT g h) (hTR : TRg h) (hi : xrg i) (hm : xrg m) (hz : xrg z) : MI K mX9_refusal 3 n [vr 259, vi i, vi m, vi z] h (fun zr h' => zr = hindC g i m z ∧ Off (fun c => c = 266) h h' ∧ (∀ j, j < 83 → h' 266 j = h 266 j) ∧ TRg h') := by
  refine xMeth FX9_refusal (Nat.le_of_ble_eq_true rfl) ?_
  refine x_aload_n 1 (xd DX9_refusal rfl) rfl rfl ?_
  refine x_iload_n 2 (xd DX9_refusal rfl) rfl rfl ?_
  refine x_Vi 5 (pX9_isCode i hi (hR.mpw hP).1) FX9_isCode VX9_isCode CX9_140 (xd DX9_refusal rfl) rfl rfl rfl ⟨by decide, rfl⟩ ⟨by decide, by decide⟩ (by decide) (Nat.le_of_ble_eq_true rfl) (by decide) rfl ?_
  rintro z9 h9 ⟨q1, q2⟩
  rw [q1, q2]
  clear q1 q2 z9 h9
  refine x_ifp_eq 8 37 (xd DX9_refusal rfl) rfl rfl (fun c5 => ?_) (fun c5 => ?_)
  · refine x_iconst 38 (xd DX9_refusal rfl) rfl ?_
    refine x_ri (xd DX9_refusal rfl) rfl ?_
    rw [hR.1] at *
    unfold hindC SqR
    first
      | (refine ⟨(pik_f (fun q => by omega) _ _).symm, Off.rf, fun _ _ => rfl, hTR⟩; done)
      | (refine ⟨?_, Off.rf, fun _ _ => rfl, hTR⟩
         rw [pik_t ⟨by omega, by omega, by omega, by omega, by omega⟩, pik_f (fun q => c45 ((MSq_Sq hP hL hR hT.1 (by omega) (by omega)).mpr q.1.2.2))]
         done)
      | (refine ⟨?_, hl.1, fun j a => hl.2.1 j (Or.inl a), hl.rg hTR (by omega) (by omega) (hR.sq hP (by omega) (by have := hL.hrl i (by omega) (by omega); omega))⟩
         rw [pik_t ⟨by omega, by omega, by omega, by omega, by omega⟩, pik_f (fun q => q.2 c55)]
         done)
      | (refine ⟨?_, hl.1, fun j a => hl.2.1 j (Or.inl a), hl.rg hTR (by omega) (by omega) (hR.sq hP (by omega) (by have := hL.hrl i (by omega) (by omega); omega))⟩
         rw [hl.2.1 82 (by omega), hT.2.2.1] at c70
         rw [pik_t ⟨by omega, by omega, by omega, by omega, by omega⟩, pik_t ⟨⟨by omega, by omega, hsq⟩, c55⟩]
         have := hS.1
         first | rw [if_neg (by omega)] | rw [if_pos (by omega)])
  · refine x_iload_n 9 (xd DX9_refusal rfl) rfl rfl ?_
    refine x_i2l 10 (by omega) (xd DX9_refusal rfl) rfl ?_
    refine x_ldc2 13 (xd DX9_refusal rfl) KX9_143 rfl ?_
    refine x_ldc2 16 (xd DX9_refusal rfl) KX9_145 rfl ?_
    refine x_Si 19 (pX9_in m 2 4 (by omega) (by omega) (by omega)) FX9_in VX9_in CX9_71 (xd DX9_refusal rfl) rfl rfl (by decide) (Nat.le_of_ble_eq_true rfl) (by decide) rfl ?_
    rintro z9 h9 ⟨q1, q2⟩
    rw [q1, q2]
    clear q1 q2 z9 h9
    refine x_ifp_eq 22 37 (xd DX9_refusal rfl) rfl rfl (fun c19 => ?_) (fun c19 => ?_)
    · refine x_iconst 38 (xd DX9_refusal rfl) rfl ?_
      refine x_ri (xd DX9_refusal rfl) rfl ?_
      rw [hR.1] at *
      unfold hindC SqR
      first
        | (refine ⟨(pik_f (fun q => by omega) _ _).symm, Off.rf, fun _ _ => rfl, hTR⟩; done)
        | (refine ⟨?_, Off.rf, fun _ _ => rfl, hTR⟩
           rw [pik_t ⟨by omega, by omega, by omega, by omega, by omega⟩, pik_f (fun q => c45 ((MSq_Sq hP hL hR hT.1 (by omega) (by omega)).mpr q.1.2.2))]
           done)
        | (refine ⟨?_, hl.1, fun j a => hl.2.1 j (Or.inl a), hl.rg hTR (by omega) (by omega) (hR.sq hP (by omega) (by have := hL.hrl i (by omega) (by omega); omega))⟩
           rw [pik_t ⟨by omega, by omega, by omega, by omega, by omega⟩, pik_f (fun q => q.2 c55)]
           done)
        | (refine ⟨?_, hl.1, fun j a => hl.2.1 j (Or.inl a), hl.rg hTR (by omega) (by omega) (hR.sq hP (by omega) (by have := hL.hrl i (by omega) (by omega); omega))⟩
           rw [hl.2.1 82 (by omega), hT.2.2.1] at c70
           rw [pik_t ⟨by omega, by omega, by omega, by omega, by omega⟩, pik_t ⟨⟨by omega, by omega, hsq⟩, c55⟩]
           have := hS.1
           first | rw [if_neg (by omega)] | rw [if_pos (by omega)])
    · refine x_iload_n 23 (xd DX9_refusal rfl) rfl rfl ?_
      refine x_i2l 24 (by omega) (xd DX9_refusal rfl) rfl ?_
      refine x_ldc2 27 (xd DX9_refusal rfl) KX9_147 rfl ?_
      refine x_iload_n 28 (xd DX9_refusal rfl) rfl rfl ?_
      refine x_iconst 29 (xd DX9_refusal rfl) rfl ?_
      refine x_isub 30 (xd DX9_refusal rfl) rfl ?_
      refine x_i2l 31 (by omega) (xd DX9_refusal rfl) rfl ?_
      refine x_Si 34 (pX9_in z (-1) (m - 1) (by omega) (by omega) (by omega)) FX9_in VX9_in CX9_71 (xd DX9_refusal rfl) rfl rfl (by decide) (Nat.le_of_ble_eq_true rfl) (by decide) rfl ?_
      rintro z9 h9 ⟨q1, q2⟩
      rw [q1, q2]
      clear q1 q2 z9 h9
      refine x_ifp_ne 37 39 (xd DX9_refusal rfl) rfl rfl (fun c34 => ?_) (fun c34 => ?_)
      · refine x_aload_n 40 (xd DX9_refusal rfl) rfl rfl ?_
        refine x_iload_n 41 (xd DX9_refusal rfl) rfl rfl ?_
        refine x_iload_n 42 (xd DX9_refusal rfl) rfl rfl ?_
        refine x_Vi 45 (pX9_isSequence i m (by have := hP.1; rw [hR.1] at c5; omega) (by omega) (hR.mpw hP).1 (hT.mtw hS hTR).1 (fun j a b => ⟨((hR.mpw hP).2 j a b).1, ((hR.mpw hP).2 j a b).2.2⟩)) FX9_isSequence VX9_isSequence CX9_119 (xd DX9_refusal rfl) rfl rfl rfl ⟨by decide, rfl⟩ ⟨by decide, by decide⟩ (by decide) (Nat.le_of_ble_eq_true rfl) (by decide) rfl ?_
        rintro z9 h9 ⟨q1, q2⟩
        rw [q1, q2]
        clear q1 q2 z9 h9
        refine x_ifp_eq 48 58 (xd DX9_refusal rfl) rfl rfl (fun c45 => ?_) (fun c45 => ?_)
        · refine x_bipush 60 (xd DX9_refusal rfl) rfl rfl ?_
          refine x_ri (xd DX9_refusal rfl) rfl ?_
          rw [hR.1] at *
          unfold hindC SqR
          first
            | (refine ⟨(pik_f (fun q => by omega) _ _).symm, Off.rf, fun _ _ => rfl, hTR⟩; done)
            | (refine ⟨?_, Off.rf, fun _ _ => rfl, hTR⟩
               rw [pik_t ⟨by omega, by omega, by omega, by omega, by omega⟩, pik_f (fun q => c45 ((MSq_Sq hP hL hR hT.1 (by omega) (by omega)).mpr q.1.2.2))]
               done)
            | (refine ⟨?_, hl.1, fun j a => hl.2.1 j (Or.inl a), hl.rg hTR (by omega) (by omega) (hR.sq hP (by omega) (by have := hL.hrl i (by omega) (by omega); omega))⟩
               rw [pik_t ⟨by omega, by omega, by omega, by omega, by omega⟩, pik_f (fun q => q.2 c55)]
               done)
            | (refine ⟨?_, hl.1, fun j a => hl.2.1 j (Or.inl a), hl.rg hTR (by omega) (by omega) (hR.sq hP (by omega) (by have := hL.hrl i (by omega) (by omega); omega))⟩
               rw [hl.2.1 82 (by omega), hT.2.2.1] at c70
               rw [pik_t ⟨by omega, by omega, by omega, by omega, by omega⟩, pik_t ⟨⟨by omega, by omega, hsq⟩, c55⟩]
               have := hS.1
               first | rw [if_neg (by omega)] | rw [if_pos (by omega)])
        · have hsq : m ≤ g 193 i := (MSq_Sq hP hL hR hT.1 (by rw [hR.1] at c5; omega) (by omega)).mp c45
          refine x_aload_n 49 (xd DX9_refusal rfl) rfl rfl ?_
          refine x_iload_n 50 (xd DX9_refusal rfl) rfl rfl ?_
          refine x_iload_n 51 (xd DX9_refusal rfl) rfl rfl ?_
          refine x_iload_n 52 (xd DX9_refusal rfl) rfl rfl ?_
          refine x_Vi 55 (pX9_hasLike g i m z hP hS hR hT hTR (by omega) (by omega) (by have e9 := hR.1; have := hL.hrl i (by omega) (by omega); omega) (by omega)) FX9_hasLike VX9_hasLike CX9_149 (xd DX9_refusal rfl) rfl rfl rfl ⟨by decide, rfl⟩ ⟨by decide, by decide⟩ (by decide) (Nat.le_of_ble_eq_true rfl) (by decide) rfl ?_
          rintro z9 xg ⟨q1, hl⟩
          rw [q1]
          clear q1 z9
          refine x_ifp_eq 58 61 (xd DX9_refusal rfl) rfl rfl (fun c55 => ?_) (fun c55 => ?_)
          · refine x_aload_n 62 (xd DX9_refusal rfl) rfl rfl ?_
            refine x_gr 65 _ LX9_28 (xd DX9_refusal rfl) rfl rfl ⟨by decide, by decide⟩ (by decide) rfl rfl ?_
            refine x_bipush 67 (xd DX9_refusal rfl) rfl rfl ?_
            refine x_iaload 68 (xd DX9_refusal rfl) rfl ⟨Or.inr ⟨rfl, by decide⟩, by decide⟩ (by decide) (by omega) (by omega) rfl ?_
            refine x_bipush 70 (xd DX9_refusal rfl) rfl rfl ?_
            refine x_icmp_ne 73 78 (xd DX9_refusal rfl) rfl (by first | decide | (rw [hl.2.1 82 (by omega), hT.2.2.1]; have := hS.1; omega)) (by first | decide | (rw [hl.2.1 82 (by omega), hT.2.2.1]; have := hS.1; omega)) rfl (fun c70 => ?_) (fun c70 => ?_)
            · refine x_iconst 79 (xd DX9_refusal rfl) rfl ?_
              refine x_ri (xd DX9_refusal rfl) rfl ?_
              rw [hR.1] at *
              unfold hindC SqR
              first
                | (refine ⟨(pik_f (fun q => by omega) _ _).symm, Off.rf, fun _ _ => rfl, hTR⟩; done)
                | (refine ⟨?_, Off.rf, fun _ _ => rfl, hTR⟩
                   rw [pik_t ⟨by omega, by omega, by omega, by omega, by omega⟩, pik_f (fun q => c45 ((MSq_Sq hP hL hR hT.1 (by omega) (by omega)).mpr q.1.2.2))]
                   done)
                | (refine ⟨?_, hl.1, fun j a => hl.2.1 j (Or.inl a), hl.rg hTR (by omega) (by omega) (hR.sq hP (by omega) (by have := hL.hrl i (by omega) (by omega); omega))⟩
                   rw [pik_t ⟨by omega, by omega, by omega, by omega, by omega⟩, pik_f (fun q => q.2 c55)]
                   done)
                | (refine ⟨?_, hl.1, fun j a => hl.2.1 j (Or.inl a), hl.rg hTR (by omega) (by omega) (hR.sq hP (by omega) (by have := hL.hrl i (by omega) (by omega); omega))⟩
                   rw [hl.2.1 82 (by omega), hT.2.2.1] at c70
                   rw [pik_t ⟨by omega, by omega, by omega, by omega, by omega⟩, pik_t ⟨⟨by omega, by omega, hsq⟩, c55⟩]
                   have := hS.1
                   first | rw [if_neg (by omega)] | rw [if_pos (by omega)])
            · refine x_bipush 75 (xd DX9_refusal rfl) rfl rfl ?_
              refine x_goto 79 (xd DX9_refusal rfl) rfl ?_
              refine x_ri (xd DX9_refusal rfl) rfl ?_
              rw [hR.1] at *
              unfold hindC SqR
              first
                | (refine ⟨(pik_f (fun q => by omega) _ _).symm, Off.rf, fun _ _ => rfl, hTR⟩; done)
                | (refine ⟨?_, Off.rf, fun _ _ => rfl, hTR⟩
                   rw [pik_t ⟨by omega, by omega, by omega, by omega, by omega⟩, pik_f (fun q => c45 ((MSq_Sq hP hL hR hT.1 (by omega) (by omega)).mpr q.1.2.2))]
                   done)
                | (refine ⟨?_, hl.1, fun j a => hl.2.1 j (Or.inl a), hl.rg hTR (by omega) (by omega) (hR.sq hP (by omega) (by have := hL.hrl i (by omega) (by omega); omega))⟩
                   rw [pik_t ⟨by omega, by omega, by omega, by omega, by omega⟩, pik_f (fun q => q.2 c55)]
                   done)
                | (refine ⟨?_, hl.1, fun j a => hl.2.1 j (Or.inl a), hl.rg hTR (by omega) (by omega) (hR.sq hP (by omega) (by have := hL.hrl i (by omega) (by omega); omega))⟩
                   rw [hl.2.1 82 (by omega), hT.2.2.1] at c70
                   rw [pik_t ⟨by omega, by omega, by omega, by omega, by omega⟩, pik_t ⟨⟨by omega, by omega, hsq⟩, c55⟩]
                   have := hS.1
                   first | rw [if_neg (by omega)] | rw [if_pos (by omega)])
          · refine x_bipush 60 (xd DX9_refusal rfl) rfl rfl ?_
            refine x_ri (xd DX9_refusal rfl) rfl ?_
            rw [hR.1] at *
            unfold hindC SqR
            first
              | (refine ⟨(pik_f (fun q => by omega) _ _).symm, Off.rf, fun _ _ => rfl, hTR⟩; done)
              | (refine ⟨?_, Off.rf, fun _ _ => rfl, hTR⟩
                 rw [pik_t ⟨by omega, by omega, by omega, by omega, by omega⟩, pik_f (fun q => c45 ((MSq_Sq hP hL hR hT.1 (by omega) (by omega)).mpr q.1.2.2))]
                 done)
              | (refine ⟨?_, hl.1, fun j a => hl.2.1 j (Or.inl a), hl.rg hTR (by omega) (by omega) (hR.sq hP (by omega) (by have := hL.hrl i (by omega) (by omega); omega))⟩
                 rw [pik_t ⟨by omega, by omega, by omega, by omega, by omega⟩, pik_f (fun q => q.2 c55)]
                 done)
              | (refine ⟨?_, hl.1, fun j a => hl.2.1 j (Or.inl a), hl.rg hTR (by omega) (by omega) (hR.sq hP (by omega) (by have := hL.hrl i (by omega) (by omega); omega))⟩
                 rw [hl.2.1 82 (by omega), hT.2.2.1] at c70
                 rw [pik_t ⟨by omega, by omega, by omega, by omega, by omega⟩, pik_t ⟨⟨by omega, by omega, hsq⟩, c55⟩]
                 have := hS.1
                 first | rw [if_neg (by omega)] | rw [if_pos (by omega)])
      · refine x_iconst 38 (xd DX9_refusal rfl) rfl ?_
        refine x_ri (xd DX9_refusal rfl) rfl ?_
        rw [hR.1] at *
        unfold hindC SqR
        first
          | (refine ⟨(pik_f (fun q => by omega) _ _).symm, Off.rf, fun _ _ => rfl, hTR⟩; done)
          | (refine ⟨?_, Off.rf, fun _ _ => rfl, hTR⟩
             rw [pik_t ⟨by omega, by omega, by omega, by omega, by omega⟩, pik_f (fun q => c45 ((MSq_Sq hP hL hR hT.1 (by omega) (by omega)).mpr q.1.2.2))]
             done)
          | (refine ⟨?_, hl.1, fun j a => hl.2.1 j (Or.inl a), hl.rg hTR (by omega) (by omega) (hR.sq hP (by omega) (by have := hL.hrl i (by omega) (by omega); omega))⟩
             rw [pik_t ⟨by omega, by omega, by omega, by omega, by omega⟩, pik_f (fun q => q.2 c55)]
             done)
          | (refine ⟨?_, hl.1, fun j a => hl.2.1 j (Or.inl a), hl.rg hTR (by omega) (by omega) (hR.sq hP (by omega) (by have := hL.hrl i (by omega) (by omega); omega))⟩
             rw [hl.2.1 82 (by omega), hT.2.2.1] at c70
             rw [pik_t ⟨by omega, by omega, by omega, by omega, by omega⟩, pik_t ⟨⟨by omega, by omega, hsq⟩, c55⟩]
             have := hS.1
             first | rw [if_neg (by omega)] | rw [if_pos (by omega)])

