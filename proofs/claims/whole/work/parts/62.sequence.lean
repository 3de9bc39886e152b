/-! SqueezedCodeModel: isSequence -/
def MSs (h : XH) (i d : Int) : Prop := ∀ x, 0 ≤ x → x < d → mSim (h 263 (i + x)) ∧ (x = 0 ∨ h 265 (i + x) = 0)
def MSq (h : XH) (i m : Int) : Prop := i + m ≤ h 259 5 ∧ i / h 266 80 = (i + m - 1) / h 266 80 ∧ MSs h i m
theorem MSs_s {h : XH} {i j : Int} (hij : i ≤ j) : MSs h i (j + 1 - i) ↔ (MSs h i (j - i) ∧ mSim (h 263 j) ∧ (j = i ∨ h 265 j = 0)) := by
  constructor
  · intro q
    have q1 := q (j - i) (by omega) (by omega)
    rw [show i + (j - i) = j by omega] at q1
    exact ⟨fun x a b => q x a (by omega), q1.1, q1.2.elim (fun z => Or.inl (by omega)) Or.inr⟩
  · intro q x a b
    by_cases e : x = j - i
    · rw [show i + x = j by omega]; exact ⟨q.2.1, q.2.2.elim (fun z => Or.inl (by omega)) Or.inr⟩
    · exact q.1 x a (by omega)
set_option maxRecDepth 100000 in
set_option maxHeartbeats 4000000 in
theorem pX9_isSequence {K : XK} {n : Nat} {h : XH} (i mm : Int) (hi : 0 ≤ i ∧ i ≤ 1000) (hm : 1 ≤ mm ∧ mm ≤ 1000) (h5 : 0 ≤ h 259 5 ∧ h 259 5 ≤ 48) (h8 : 1 ≤ h 266 80 ∧ h 266 80 ≤ 16) (hh : ∀ j, 0 ≤ j → j < h 259 5 → xrg (h 263 j) ∧ (h 265 j = 0 ∨ h 265 j = 1)) : MI K mX9_isSequence 1 n [vr 259, vi i, vi mm] h (fun zr h' => zr = xp (MSq h i mm) ∧ h' = h) := by
  refine xMeth FX9_isSequence (Nat.le_of_ble_eq_true rfl) ?_
  have loop : ∀ (m : Nat) (xj : Int) (xz : Int), i ≤ xj → xj ≤ i + mm → i + mm - xj < (m : Int) → i + mm ≤ h 259 5 → i / h 266 80 = (i + mm - 1) / h 266 80 → xz = xp (MSs h i (xj - i)) → WI K mX9_isSequence 1 n (qI n (fun zr h' => zr = xp (MSq h i mm) ∧ h' = h)) 42 [(0, vr 259), (1, vi i), (2, vi mm), (3, vi xz), (4, vi xj)] [] h := by
    intro m
    induction m with
    | zero => intro xj xz a b c; exact absurd c (by omega)
    | succ m ih =>
      intro xj xz h0 h1 hmm hA hB hz
      refine x_iload 44 (xd DX9_isSequence rfl) rfl rfl ?_
      refine x_iload_n 45 (xd DX9_isSequence rfl) rfl rfl ?_
      refine x_iload_n 46 (xd DX9_isSequence rfl) rfl rfl ?_
      refine x_iadd 47 (xd DX9_isSequence rfl) rfl ?_
      refine x_icmp_ge 50 95 (xd DX9_isSequence rfl) rfl (by omega) (by omega) rfl (fun c47 => ?_) (fun c47 => ?_)
      · refine x_iload_n 96 (xd DX9_isSequence rfl) rfl rfl ?_
        refine x_rz (xd DX9_isSequence rfl) rfl (by have := xp01 (MSs h i (xj - i)); omega) ?_
        refine ⟨?_, rfl⟩
        rw [hz, show xj - i = mm by omega]
        exact xp_c ⟨fun q => ⟨hA, hB, q⟩, fun q => q.2.2⟩
      · refine x_iload_n 51 (xd DX9_isSequence rfl) rfl rfl ?_
        refine x_if_eq 54 87 (xd DX9_isSequence rfl) rfl (by have := xp01 (MSs h i (xj - i)); omega) rfl (fun c51 => ?_) (fun c51 => ?_)
        · have hno : ¬ (MSs h i (xj - i) ∧ mSim (h 263 xj) ∧ (xj = i ∨ h 265 xj = 0)) := fun q => xp_0.mp (hz.symm.trans c51) q.1
          refine x_iconst 88 (xd DX9_isSequence rfl) rfl ?_
          refine x_istore_n 89 (L' := [(0, _), (1, _), (2, _), (3, _), (4, _)]) (xd DX9_isSequence rfl) (by decide) rfl rfl rfl ?_
          refine x_iinc 92 (L' := [(0, _), (1, _), (2, _), (3, _), (4, _)]) (xd DX9_isSequence rfl) rfl (by decide) rfl rfl rfl ?_
          refine x_goto 42 (xd DX9_isSequence rfl) rfl ?_
          refine ih (xj + 1) _ (by omega) (by omega) (by omega) hA hB ?_
          rw [xp_c (MSs_s (h := h) (i := i) (j := xj) (by omega))]
          first | exact xp_t hyes | exact xp_f hno
        · have hy1 : MSs h i (xj - i) := xp_1.mp (by have := xp01 (MSs h i (xj - i)); omega)
          refine x_aload_n 55 (xd DX9_isSequence rfl) rfl rfl ?_
          refine x_gr 58 _ LX9_19 (xd DX9_isSequence rfl) rfl rfl ⟨by decide, by decide⟩ (by decide) rfl rfl ?_
          refine x_iload 60 (xd DX9_isSequence rfl) rfl rfl ?_
          refine x_iaload 61 (xd DX9_isSequence rfl) rfl ⟨Or.inr ⟨rfl, by decide⟩, by decide⟩ (by decide) (by omega) (by omega) rfl ?_
          refine x_Si 64 (pX9_isSimple (h 263 xj) (hh xj (by omega) (by omega)).1) FX9_isSimple VX9_isSimple CX9_86 (xd DX9_isSequence rfl) rfl rfl (by decide) (Nat.le_of_ble_eq_true rfl) (by decide) rfl ?_
          rintro z9 h9 ⟨q1, q2⟩
          rw [q1, q2]
          clear q1 q2 z9 h9
          refine x_ifp_eq 67 87 (xd DX9_isSequence rfl) rfl rfl (fun c64 => ?_) (fun c64 => ?_)
          · have hno : ¬ (MSs h i (xj - i) ∧ mSim (h 263 xj) ∧ (xj = i ∨ h 265 xj = 0)) := fun q => c64 q.2.1
            refine x_iconst 88 (xd DX9_isSequence rfl) rfl ?_
            refine x_istore_n 89 (L' := [(0, _), (1, _), (2, _), (3, _), (4, _)]) (xd DX9_isSequence rfl) (by decide) rfl rfl rfl ?_
            refine x_iinc 92 (L' := [(0, _), (1, _), (2, _), (3, _), (4, _)]) (xd DX9_isSequence rfl) rfl (by decide) rfl rfl rfl ?_
            refine x_goto 42 (xd DX9_isSequence rfl) rfl ?_
            refine ih (xj + 1) _ (by omega) (by omega) (by omega) hA hB ?_
            rw [xp_c (MSs_s (h := h) (i := i) (j := xj) (by omega))]
            first | exact xp_t hyes | exact xp_f hno
          · refine x_iload 69 (xd DX9_isSequence rfl) rfl rfl ?_
            refine x_iload_n 70 (xd DX9_isSequence rfl) rfl rfl ?_
            refine x_icmp_eq 73 83 (xd DX9_isSequence rfl) rfl (by omega) (by omega) rfl (fun c70 => ?_) (fun c70 => ?_)
            · have hyes : MSs h i (xj - i) ∧ mSim (h 263 xj) ∧ (xj = i ∨ h 265 xj = 0) := ⟨hy1, c64, Or.inl c70⟩
              refine x_iconst 84 (xd DX9_isSequence rfl) rfl ?_
              refine x_goto 88 (xd DX9_isSequence rfl) rfl ?_
              refine x_istore_n 89 (L' := [(0, _), (1, _), (2, _), (3, _), (4, _)]) (xd DX9_isSequence rfl) (by decide) rfl rfl rfl ?_
              refine x_iinc 92 (L' := [(0, _), (1, _), (2, _), (3, _), (4, _)]) (xd DX9_isSequence rfl) rfl (by decide) rfl rfl rfl ?_
              refine x_goto 42 (xd DX9_isSequence rfl) rfl ?_
              refine ih (xj + 1) _ (by omega) (by omega) (by omega) hA hB ?_
              rw [xp_c (MSs_s (h := h) (i := i) (j := xj) (by omega))]
              first | exact xp_t hyes | exact xp_f hno
            · refine x_aload_n 74 (xd DX9_isSequence rfl) rfl rfl ?_
              refine x_gr 77 _ LX9_25 (xd DX9_isSequence rfl) rfl rfl ⟨by decide, by decide⟩ (by decide) rfl rfl ?_
              refine x_iload 79 (xd DX9_isSequence rfl) rfl rfl ?_
              refine x_iaload 80 (xd DX9_isSequence rfl) rfl ⟨Or.inr ⟨rfl, by decide⟩, by decide⟩ (by decide) (by omega) (by omega) rfl ?_
              refine x_if_ne 83 87 (xd DX9_isSequence rfl) rfl (by have := (hh xj (by omega) (by omega)).2; omega) rfl (fun c80 => ?_) (fun c80 => ?_)
              · have hno : ¬ (MSs h i (xj - i) ∧ mSim (h 263 xj) ∧ (xj = i ∨ h 265 xj = 0)) := fun q => q.2.2.elim c70 c80
                refine x_iconst 88 (xd DX9_isSequence rfl) rfl ?_
                refine x_istore_n 89 (L' := [(0, _), (1, _), (2, _), (3, _), (4, _)]) (xd DX9_isSequence rfl) (by decide) rfl rfl rfl ?_
                refine x_iinc 92 (L' := [(0, _), (1, _), (2, _), (3, _), (4, _)]) (xd DX9_isSequence rfl) rfl (by decide) rfl rfl rfl ?_
                refine x_goto 42 (xd DX9_isSequence rfl) rfl ?_
                refine ih (xj + 1) _ (by omega) (by omega) (by omega) hA hB ?_
                rw [xp_c (MSs_s (h := h) (i := i) (j := xj) (by omega))]
                first | exact xp_t hyes | exact xp_f hno
              · have hyes : MSs h i (xj - i) ∧ mSim (h 263 xj) ∧ (xj = i ∨ h 265 xj = 0) := ⟨hy1, c64, Or.inr c80⟩
                refine x_iconst 84 (xd DX9_isSequence rfl) rfl ?_
                refine x_goto 88 (xd DX9_isSequence rfl) rfl ?_
                refine x_istore_n 89 (L' := [(0, _), (1, _), (2, _), (3, _), (4, _)]) (xd DX9_isSequence rfl) (by decide) rfl rfl rfl ?_
                refine x_iinc 92 (L' := [(0, _), (1, _), (2, _), (3, _), (4, _)]) (xd DX9_isSequence rfl) rfl (by decide) rfl rfl rfl ?_
                refine x_goto 42 (xd DX9_isSequence rfl) rfl ?_
                refine ih (xj + 1) _ (by omega) (by omega) (by omega) hA hB ?_
                rw [xp_c (MSs_s (h := h) (i := i) (j := xj) (by omega))]
                first | exact xp_t hyes | exact xp_f hno
  refine x_iload_n 1 (xd DX9_isSequence rfl) rfl rfl ?_
  refine x_iload_n 2 (xd DX9_isSequence rfl) rfl rfl ?_
  refine x_iadd 3 (xd DX9_isSequence rfl) rfl ?_
  refine x_aload_n 4 (xd DX9_isSequence rfl) rfl rfl ?_
  refine x_gi 7 5 rfl LX9_103 (xd DX9_isSequence rfl) rfl ⟨Or.inr ⟨rfl, by decide⟩, by decide⟩ rfl ?_
  refine x_icmp_gt 10 35 (xd DX9_isSequence rfl) rfl (by omega) (by omega) rfl (fun c7 => ?_) (fun c7 => ?_)
  · refine x_iconst 36 (xd DX9_isSequence rfl) rfl ?_
    refine x_rz (xd DX9_isSequence rfl) rfl (by omega) ?_
    first
      | exact ⟨xp_f (fun q => by have := q.1; omega), rfl⟩
      | exact ⟨xp_f (fun q => c32 q.2.1), rfl⟩
  · refine x_iload_n 11 (xd DX9_isSequence rfl) rfl rfl ?_
    refine x_aload_n 12 (xd DX9_isSequence rfl) rfl rfl ?_
    refine x_gr 15 _ LX9_28 (xd DX9_isSequence rfl) rfl rfl ⟨by decide, by decide⟩ (by decide) rfl rfl ?_
    refine x_bipush 17 (xd DX9_isSequence rfl) rfl rfl ?_
    refine x_iaload 18 (xd DX9_isSequence rfl) rfl ⟨Or.inr ⟨rfl, by decide⟩, by decide⟩ (by decide) (by omega) (by omega) rfl ?_
    refine x_idiv 19 (by omega) (by omega) (by omega) (by omega) (xd DX9_isSequence rfl) rfl ?_
    refine x_iload_n 20 (xd DX9_isSequence rfl) rfl rfl ?_
    refine x_iload_n 21 (xd DX9_isSequence rfl) rfl rfl ?_
    refine x_iadd 22 (xd DX9_isSequence rfl) rfl ?_
    refine x_iconst 23 (xd DX9_isSequence rfl) rfl ?_
    refine x_isub 24 (xd DX9_isSequence rfl) rfl ?_
    refine x_aload_n 25 (xd DX9_isSequence rfl) rfl rfl ?_
    refine x_gr 28 _ LX9_28 (xd DX9_isSequence rfl) rfl rfl ⟨by decide, by decide⟩ (by decide) rfl rfl ?_
    refine x_bipush 30 (xd DX9_isSequence rfl) rfl rfl ?_
    refine x_iaload 31 (xd DX9_isSequence rfl) rfl ⟨Or.inr ⟨rfl, by decide⟩, by decide⟩ (by decide) (by omega) (by omega) rfl ?_
    refine x_idiv 32 (by omega) (by omega) (by omega) (by omega) (xd DX9_isSequence rfl) rfl ?_
    refine x_icmp_eq 35 37 (xd DX9_isSequence rfl) rfl (by have d1 := Int.ediv_le_self (a := i) (h 266 80) (by omega); have d2 := Int.ediv_nonneg (a := i) (b := h 266 80) (by omega) (by omega); have d3 := Int.ediv_le_self (a := i + mm - 1) (h 266 80) (by omega); have d4 := Int.ediv_nonneg (a := i + mm - 1) (b := h 266 80) (by omega) (by omega); omega) (by have d1 := Int.ediv_le_self (a := i) (h 266 80) (by omega); have d2 := Int.ediv_nonneg (a := i) (b := h 266 80) (by omega) (by omega); have d3 := Int.ediv_le_self (a := i + mm - 1) (h 266 80) (by omega); have d4 := Int.ediv_nonneg (a := i + mm - 1) (b := h 266 80) (by omega) (by omega); omega) rfl (fun c32 => ?_) (fun c32 => ?_)
    · refine x_iconst 38 (xd DX9_isSequence rfl) rfl ?_
      refine x_istore_n 39 (L' := [(0, _), (1, _), (2, _), (3, _)]) (xd DX9_isSequence rfl) (by decide) rfl rfl rfl ?_
      refine x_iload_n 40 (xd DX9_isSequence rfl) rfl rfl ?_
      refine x_istore 42 (L' := [(0, _), (1, _), (2, _), (3, _), (4, _)]) (xd DX9_isSequence rfl) (by decide) rfl rfl rfl ?_
      exact loop 2000 i 1 (Int.le_refl _) (by omega) (by omega) (by omega) (by omega) (xp_t (fun x a b => absurd b (by omega)))
    · refine x_iconst 36 (xd DX9_isSequence rfl) rfl ?_
      refine x_rz (xd DX9_isSequence rfl) rfl (by omega) ?_
      first
        | exact ⟨xp_f (fun q => by have := q.1; omega), rfl⟩
        | exact ⟨xp_f (fun q => c32 q.2.1), rfl⟩

