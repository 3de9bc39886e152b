/-! SqueezedCodeModel: matches -/
def MFs (h : XH) (i c d : Int) : Prop := ∀ x, 0 ≤ x → x < d → h 263 (i + x) = h 266 (c + 2 + x) ∧ (x = h 266 (c + 1) ∨ h 264 (i + x) = h 266 (c + 6 + x))
def MMt (h : XH) (i c : Int) : Prop := MSq h i (h 266 c) ∧ MFs h i c (h 266 c)
/-- the reference's cells: the program, the table -/
def MPW (h : XH) : Prop := (0 ≤ h 259 5 ∧ h 259 5 ≤ 48) ∧ ∀ j, 0 ≤ j → j < h 259 5 → xrg (h 263 j) ∧ xrg (h 264 j) ∧ (h 265 j = 0 ∨ h 265 j = 1)
def MTW (h : XH) : Prop := (1 ≤ h 266 80 ∧ h 266 80 ≤ 16) ∧ (0 ≤ h 266 82 ∧ h 266 82 ≤ 8) ∧ ∀ j, 0 ≤ j → j < 93 → xrg (h 266 j)
theorem MFs_s {h : XH} {i c d : Int} (hd : 0 ≤ d) : MFs h i c (d + 1) ↔ (MFs h i c d ∧ h 263 (i + d) = h 266 (c + 2 + d) ∧ (d = h 266 (c + 1) ∨ h 264 (i + d) = h 266 (c + 6 + d))) := by
  constructor
  · intro q
    exact ⟨fun x a b => q x a (by omega), q d hd (by omega)⟩
  · intro q x a b
    by_cases e : x = d
    · rw [e]; exact q.2
    · exact q.1 x a (by omega)
theorem mEnt_rg {e : Int} (he : 0 ≤ e ∧ e ≤ 8) : 0 ≤ mEnt e ∧ mEnt e ≤ 83 := by unfold mEnt; split <;> omega
set_option maxRecDepth 100000 in
set_option maxHeartbeats 4000000 in
theorem pX9_matches {K : XK} {n : Nat} {h : XH} (i e : Int) (hi : 0 ≤ i ∧ i ≤ 1000) (he : 0 ≤ e ∧ e ≤ 8) (hP : MPW h) (hT : MTW h) (hm : 1 ≤ h 266 (mEnt e) ∧ h 266 (mEnt e) ≤ 4) : MI K mX9_matches 2 n [vr 259, vi i, vi e] h (fun zr h' => zr = xp (MMt h i (mEnt e)) ∧ h' = h) := by
  refine xMeth FX9_matches (Nat.le_of_ble_eq_true rfl) ?_
  have hP1 := hP.1
  have hc1 := mEnt_rg he
  have loop : ∀ c, mEnt e = c → (0 ≤ c ∧ c ≤ 83) → (1 ≤ h 266 c ∧ h 266 c ≤ 4) → ∀ (m : Nat) (xj : Int) (xz : Int), 0 ≤ xj → xj ≤ h 266 c → h 266 c - xj < (m : Int) → xz = xp (MSq h i (h 266 c) ∧ MFs h i c xj) → WI K mX9_matches 2 n (qI n (fun zr h' => zr = xp (MMt h i (mEnt e)) ∧ h' = h)) 26 [(0, vr 259), (1, vi i), (2, vi e), (3, vi c), (4, vi (h 266 c)), (5, vi xz), (6, vi xj)] [] h := by
    intro c hcc hc1 hm m
    induction m with
    | zero => intro xj xz a b c; exact absurd c (by omega)
    | succ m ih =>
      intro xj xz h0 h1 hmm hz
      refine x_iload 28 (xd DX9_matches rfl) rfl rfl ?_
      refine x_iload 30 (xd DX9_matches rfl) rfl rfl ?_
      refine x_icmp_ge 33 111 (xd DX9_matches rfl) rfl (by omega) (by omega) rfl (fun c30 => ?_) (fun c30 => ?_)
      · refine x_iload 113 (xd DX9_matches rfl) rfl rfl ?_
        refine x_rz (xd DX9_matches rfl) rfl (by have := xp01 (MSq h i (h 266 c) ∧ MFs h i c xj); omega) ?_
        first
          | exact ⟨c35.trans (xp_f hn0), rfl⟩
          | (refine ⟨?_, rfl⟩; rw [hz, show xj = h 266 c by omega, hcc]; rfl)
      · refine x_iload 35 (xd DX9_matches rfl) rfl rfl ?_
        refine x_if_eq 38 111 (xd DX9_matches rfl) rfl (by have := xp01 (MSq h i (h 266 c) ∧ MFs h i c xj); omega) rfl (fun c35 => ?_) (fun c35 => ?_)
        · have hn0 : ¬ MMt h i (mEnt e) := fun q => by
            rw [hcc] at q
            exact xp_0.mp (hz.symm.trans c35) ⟨q.1, fun x a b => q.2 x a (by omega)⟩
          refine x_iload 113 (xd DX9_matches rfl) rfl rfl ?_
          refine x_rz (xd DX9_matches rfl) rfl (by have := xp01 (MSq h i (h 266 c) ∧ MFs h i c xj); omega) ?_
          first
            | exact ⟨c35.trans (xp_f hn0), rfl⟩
            | (refine ⟨?_, rfl⟩; rw [hz, show xj = h 266 c by omega, hcc]; rfl)
        · have hy1 : MSq h i (h 266 c) ∧ MFs h i c xj := xp_1.mp (by have := xp01 (MSq h i (h 266 c) ∧ MFs h i c xj); omega)
          have hN1 := hy1.1.1
          have k1 := (hP.2 (i + xj) (by omega) (by omega))
          have k2 := hT.2.2 (c + 2 + xj) (by omega) (by omega)
          have k3 := hT.2.2 (c + 6 + xj) (by omega) (by omega)
          have k4 := hT.2.2 (c + 1) (by omega) (by omega)
          refine x_aload_n 39 (xd DX9_matches rfl) rfl rfl ?_
          refine x_gr 42 _ LX9_19 (xd DX9_matches rfl) rfl rfl ⟨by decide, by decide⟩ (by decide) rfl rfl ?_
          refine x_iload_n 43 (xd DX9_matches rfl) rfl rfl ?_
          refine x_iload 45 (xd DX9_matches rfl) rfl rfl ?_
          refine x_iadd 46 (xd DX9_matches rfl) rfl ?_
          refine x_iaload 47 (xd DX9_matches rfl) rfl ⟨Or.inr ⟨rfl, by decide⟩, by decide⟩ (by decide) (by omega) (by omega) rfl ?_
          refine x_aload_n 48 (xd DX9_matches rfl) rfl rfl ?_
          refine x_gr 51 _ LX9_28 (xd DX9_matches rfl) rfl rfl ⟨by decide, by decide⟩ (by decide) rfl rfl ?_
          refine x_iload_n 52 (xd DX9_matches rfl) rfl rfl ?_
          refine x_iconst 53 (xd DX9_matches rfl) rfl ?_
          refine x_iadd 54 (xd DX9_matches rfl) rfl ?_
          refine x_iload 56 (xd DX9_matches rfl) rfl rfl ?_
          refine x_iadd 57 (xd DX9_matches rfl) rfl ?_
          refine x_iaload 58 (xd DX9_matches rfl) rfl ⟨Or.inr ⟨rfl, by decide⟩, by decide⟩ (by decide) (by omega) (by omega) rfl ?_
          refine x_icmp_ne 61 102 (xd DX9_matches rfl) rfl (by omega) (by omega) rfl (fun c58 => ?_) (fun c58 => ?_)
          · have hno : ¬ ((MSq h i (h 266 c) ∧ MFs h i c xj) ∧ h 263 (i + xj) = h 266 (c + 2 + xj) ∧ (xj = h 266 (c + 1) ∨ h 264 (i + xj) = h 266 (c + 6 + xj))) := fun q => c58 q.2.1
            refine x_iconst 103 (xd DX9_matches rfl) rfl ?_
            refine x_istore 105 (L' := [(0, _), (1, _), (2, _), (3, _), (4, _), (5, _), (6, _)]) (xd DX9_matches rfl) (by decide) rfl rfl rfl ?_
            refine x_iinc 108 (L' := [(0, _), (1, _), (2, _), (3, _), (4, _), (5, _), (6, _)]) (xd DX9_matches rfl) rfl (by decide) rfl rfl rfl ?_
            refine x_goto 26 (xd DX9_matches rfl) rfl ?_
            refine ih (xj + 1) _ (by omega) (by omega) (by omega) ?_
            rw [xp_c (p := MSq h i (h 266 c) ∧ MFs h i c (xj + 1)) (q := (MSq h i (h 266 c) ∧ MFs h i c xj) ∧ h 263 (i + xj) = h 266 (c + 2 + xj) ∧ (xj = h 266 (c + 1) ∨ h 264 (i + xj) = h 266 (c + 6 + xj))) ⟨fun q => ⟨⟨q.1, ((MFs_s h0).mp q.2).1⟩, ((MFs_s h0).mp q.2).2⟩, fun q => ⟨q.1.1, (MFs_s h0).mpr ⟨q.1.2, q.2⟩⟩⟩]
            first | exact xp_t hyes | exact xp_f hno
          · refine x_iload 63 (xd DX9_matches rfl) rfl rfl ?_
            refine x_aload_n 64 (xd DX9_matches rfl) rfl rfl ?_
            refine x_gr 67 _ LX9_28 (xd DX9_matches rfl) rfl rfl ⟨by decide, by decide⟩ (by decide) rfl rfl ?_
            refine x_iload_n 68 (xd DX9_matches rfl) rfl rfl ?_
            refine x_iconst 69 (xd DX9_matches rfl) rfl ?_
            refine x_iadd 70 (xd DX9_matches rfl) rfl ?_
            refine x_iaload 71 (xd DX9_matches rfl) rfl ⟨Or.inr ⟨rfl, by decide⟩, by decide⟩ (by decide) (by omega) (by omega) rfl ?_
            refine x_icmp_eq 74 98 (xd DX9_matches rfl) rfl (by omega) (by omega) rfl (fun c71 => ?_) (fun c71 => ?_)
            · have hyes : (MSq h i (h 266 c) ∧ MFs h i c xj) ∧ h 263 (i + xj) = h 266 (c + 2 + xj) ∧ (xj = h 266 (c + 1) ∨ h 264 (i + xj) = h 266 (c + 6 + xj)) := ⟨hy1, c58, Or.inl c71⟩
              refine x_iconst 99 (xd DX9_matches rfl) rfl ?_
              refine x_goto 103 (xd DX9_matches rfl) rfl ?_
              refine x_istore 105 (L' := [(0, _), (1, _), (2, _), (3, _), (4, _), (5, _), (6, _)]) (xd DX9_matches rfl) (by decide) rfl rfl rfl ?_
              refine x_iinc 108 (L' := [(0, _), (1, _), (2, _), (3, _), (4, _), (5, _), (6, _)]) (xd DX9_matches rfl) rfl (by decide) rfl rfl rfl ?_
              refine x_goto 26 (xd DX9_matches rfl) rfl ?_
              refine ih (xj + 1) _ (by omega) (by omega) (by omega) ?_
              rw [xp_c (p := MSq h i (h 266 c) ∧ MFs h i c (xj + 1)) (q := (MSq h i (h 266 c) ∧ MFs h i c xj) ∧ h 263 (i + xj) = h 266 (c + 2 + xj) ∧ (xj = h 266 (c + 1) ∨ h 264 (i + xj) = h 266 (c + 6 + xj))) ⟨fun q => ⟨⟨q.1, ((MFs_s h0).mp q.2).1⟩, ((MFs_s h0).mp q.2).2⟩, fun q => ⟨q.1.1, (MFs_s h0).mpr ⟨q.1.2, q.2⟩⟩⟩]
              first | exact xp_t hyes | exact xp_f hno
            · refine x_aload_n 75 (xd DX9_matches rfl) rfl rfl ?_
              refine x_gr 78 _ LX9_22 (xd DX9_matches rfl) rfl rfl ⟨by decide, by decide⟩ (by decide) rfl rfl ?_
              refine x_iload_n 79 (xd DX9_matches rfl) rfl rfl ?_
              refine x_iload 81 (xd DX9_matches rfl) rfl rfl ?_
              refine x_iadd 82 (xd DX9_matches rfl) rfl ?_
              refine x_iaload 83 (xd DX9_matches rfl) rfl ⟨Or.inr ⟨rfl, by decide⟩, by decide⟩ (by decide) (by omega) (by omega) rfl ?_
              refine x_aload_n 84 (xd DX9_matches rfl) rfl rfl ?_
              refine x_gr 87 _ LX9_28 (xd DX9_matches rfl) rfl rfl ⟨by decide, by decide⟩ (by decide) rfl rfl ?_
              refine x_iload_n 88 (xd DX9_matches rfl) rfl rfl ?_
              refine x_bipush 90 (xd DX9_matches rfl) rfl rfl ?_
              refine x_iadd 91 (xd DX9_matches rfl) rfl ?_
              refine x_iload 93 (xd DX9_matches rfl) rfl rfl ?_
              refine x_iadd 94 (xd DX9_matches rfl) rfl ?_
              refine x_iaload 95 (xd DX9_matches rfl) rfl ⟨Or.inr ⟨rfl, by decide⟩, by decide⟩ (by decide) (by omega) (by omega) rfl ?_
              refine x_icmp_ne 98 102 (xd DX9_matches rfl) rfl (by omega) (by omega) rfl (fun c95 => ?_) (fun c95 => ?_)
              · have hno : ¬ ((MSq h i (h 266 c) ∧ MFs h i c xj) ∧ h 263 (i + xj) = h 266 (c + 2 + xj) ∧ (xj = h 266 (c + 1) ∨ h 264 (i + xj) = h 266 (c + 6 + xj))) := fun q => q.2.2.elim c71 c95
                refine x_iconst 103 (xd DX9_matches rfl) rfl ?_
                refine x_istore 105 (L' := [(0, _), (1, _), (2, _), (3, _), (4, _), (5, _), (6, _)]) (xd DX9_matches rfl) (by decide) rfl rfl rfl ?_
                refine x_iinc 108 (L' := [(0, _), (1, _), (2, _), (3, _), (4, _), (5, _), (6, _)]) (xd DX9_matches rfl) rfl (by decide) rfl rfl rfl ?_
                refine x_goto 26 (xd DX9_matches rfl) rfl ?_
                refine ih (xj + 1) _ (by omega) (by omega) (by omega) ?_
                rw [xp_c (p := MSq h i (h 266 c) ∧ MFs h i c (xj + 1)) (q := (MSq h i (h 266 c) ∧ MFs h i c xj) ∧ h 263 (i + xj) = h 266 (c + 2 + xj) ∧ (xj = h 266 (c + 1) ∨ h 264 (i + xj) = h 266 (c + 6 + xj))) ⟨fun q => ⟨⟨q.1, ((MFs_s h0).mp q.2).1⟩, ((MFs_s h0).mp q.2).2⟩, fun q => ⟨q.1.1, (MFs_s h0).mpr ⟨q.1.2, q.2⟩⟩⟩]
                first | exact xp_t hyes | exact xp_f hno
              · have hyes : (MSq h i (h 266 c) ∧ MFs h i c xj) ∧ h 263 (i + xj) = h 266 (c + 2 + xj) ∧ (xj = h 266 (c + 1) ∨ h 264 (i + xj) = h 266 (c + 6 + xj)) := ⟨hy1, c58, Or.inr c95⟩
                refine x_iconst 99 (xd DX9_matches rfl) rfl ?_
                refine x_goto 103 (xd DX9_matches rfl) rfl ?_
                refine x_istore 105 (L' := [(0, _), (1, _), (2, _), (3, _), (4, _), (5, _), (6, _)]) (xd DX9_matches rfl) (by decide) rfl rfl rfl ?_
                refine x_iinc 108 (L' := [(0, _), (1, _), (2, _), (3, _), (4, _), (5, _), (6, _)]) (xd DX9_matches rfl) rfl (by decide) rfl rfl rfl ?_
                refine x_goto 26 (xd DX9_matches rfl) rfl ?_
                refine ih (xj + 1) _ (by omega) (by omega) (by omega) ?_
                rw [xp_c (p := MSq h i (h 266 c) ∧ MFs h i c (xj + 1)) (q := (MSq h i (h 266 c) ∧ MFs h i c xj) ∧ h 263 (i + xj) = h 266 (c + 2 + xj) ∧ (xj = h 266 (c + 1) ∨ h 264 (i + xj) = h 266 (c + 6 + xj))) ⟨fun q => ⟨⟨q.1, ((MFs_s h0).mp q.2).1⟩, ((MFs_s h0).mp q.2).2⟩, fun q => ⟨q.1.1, (MFs_s h0).mpr ⟨q.1.2, q.2⟩⟩⟩]
                first | exact xp_t hyes | exact xp_f hno
  refine x_aload_n 1 (xd DX9_matches rfl) rfl rfl ?_
  refine x_iload_n 2 (xd DX9_matches rfl) rfl rfl ?_
  refine x_Vi 5 (pX9_entryAt e (by omega)) FX9_entryAt VX9_entryAt CX9_116 (xd DX9_matches rfl) rfl rfl rfl ⟨by decide, rfl⟩ ⟨by decide, by decide⟩ (by decide) (Nat.le_of_ble_eq_true rfl) (by decide) rfl ?_
  rintro z9 h9 ⟨q1, q2⟩
  rw [q1, q2]
  clear q1 q2 z9 h9
  refine x_istore_n 6 (L' := [(0, _), (1, _), (2, _), (3, _)]) (xd DX9_matches rfl) (by decide) rfl rfl rfl ?_
  refine x_aload_n 7 (xd DX9_matches rfl) rfl rfl ?_
  refine x_gr 10 _ LX9_28 (xd DX9_matches rfl) rfl rfl ⟨by decide, by decide⟩ (by decide) rfl rfl ?_
  refine x_iload_n 11 (xd DX9_matches rfl) rfl rfl ?_
  refine x_iaload 12 (xd DX9_matches rfl) rfl ⟨Or.inr ⟨rfl, by decide⟩, by decide⟩ (by decide) (by omega) (by omega) rfl ?_
  refine x_istore 14 (L' := [(0, _), (1, _), (2, _), (3, _), (4, _)]) (xd DX9_matches rfl) (by decide) rfl rfl rfl ?_
  refine x_aload_n 15 (xd DX9_matches rfl) rfl rfl ?_
  refine x_iload_n 16 (xd DX9_matches rfl) rfl rfl ?_
  refine x_iload 18 (xd DX9_matches rfl) rfl rfl ?_
  refine x_Vi 21 (pX9_isSequence i (h 266 (mEnt e)) (by omega) (by omega) hP.1 hT.1 (fun j a b => ⟨(hP.2 j a b).1, (hP.2 j a b).2.2⟩)) FX9_isSequence VX9_isSequence CX9_119 (xd DX9_matches rfl) rfl rfl rfl ⟨by decide, rfl⟩ ⟨by decide, by decide⟩ (by decide) (Nat.le_of_ble_eq_true rfl) (by decide) rfl ?_
  rintro z9 h9 ⟨q1, q2⟩
  rw [q1, q2]
  clear q1 q2 z9 h9
  refine x_istore 23 (L' := [(0, _), (1, _), (2, _), (3, _), (4, _), (5, _)]) (xd DX9_matches rfl) (by decide) rfl rfl rfl ?_
  refine x_iconst 24 (xd DX9_matches rfl) rfl ?_
  refine x_istore 26 (L' := [(0, _), (1, _), (2, _), (3, _), (4, _), (5, _), (6, _)]) (xd DX9_matches rfl) (by decide) rfl rfl rfl ?_
  exact loop (mEnt e) rfl hc1 hm 100 0 _ (by omega) (by omega) (by omega) (xp_c ⟨fun q => ⟨q, fun x a b => absurd b (by omega)⟩, fun q => q.1⟩)

