/-! the row of rows: new int[48][5] -/
theorem xouter (c : ClassId) (N h0 : Nat) : ∀ i : Nat, Jvm.Free.Multi.outerC c N h0 i = arrV c N (fun j => va_rf (if j < i then some (h0 + 1 + j) else none))
  | 0 => by
    show ({ cls := c, slots := Array.replicate N .null, vm := .none } : Cell) = _
    rw [arrV_new]
    refine congrArg (arrV c N) (funext fun j => ?_)
    rw [if_neg (Nat.not_lt_zero j)]
    rfl
  | i + 1 => by
    show (Jvm.Free.Multi.outerC c N h0 i).setSlot i (.ref (h0 + 1 + i)) = _
    rw [xouter c N h0 i, arrV_store]
    refine congrArg (arrV c N) (funext fun j => ?_)
    by_cases e : j = i
    · subst e
      simp [updV, va_rf]
    · by_cases h : j < i
      · simp [updV, e, h, Nat.lt_succ_of_lt h]
      · simp [updV, e, h, show ¬ j < i + 1 by omega]
theorem KX3_15 : Cond.classLink RX3 15 ("[" ++ (FieldType.array .int).toString) ∈ xTb := xTb_mem 216 (by decide +kernel) rfl
set_option maxRecDepth 100000 in
set_option maxHeartbeats 4000000 in
theorem xmn {K : XK} : XMN K := by
  intro R Q u L st h hm hu hcc hss kk
  intro hmd p e s m args below meth c E H locs ls hH hP hS hlv
  have hts := E.2.2.2.2.2.2.2.1
  have hXF := E.2.2.2.2.2.2.2.2.1
  have hK := hXF.1
  have k2 := fun H1 hz hP1 hS1 => kk (fun q => by rw [hm] at q; cases q) p e s m args below meth c E H1 locs ls hz hP1 hS1 hlv
  intro T hT X
  have n1 : ¬ Int32.ofInt 48 < 0 := by decide
  have n2 : ¬ Int32.ofInt 5 < 0 := by decide
  have n3 : (Int32.ofInt 48).toNatClampNeg = 48 := by decide
  have n4 : (Int32.ofInt 5).toNatClampNeg = 5 := by decide
  have hover : (Cond.arrayOver (.array .int)).before args s = true := hXF.2.2.2.1
  obtain ⟨vm₁, cA, comp, -, fA, fC, hO, -, X', step⟩ := X.multianewarray2F E.1 E.2.2.2.2.2.2.1 (hts _ KX3_15) hover (hts _ TA_int) (g := F0 m 16 ls (.int (Int32.ofInt 5) :: .int (Int32.ofInt 48) :: st.map (xv K))) rfl (by rw [E.2.1]; exact xd DX3_init rfl) rfl n1 n2 (by rw [n3]; decide) (by rw [n4]; decide) (by rw [n4]; decide) rfl rfl (by rw [n3]; show u.2.1 + (1 + 48) ≤ R.2.2.1; omega) (by rw [n3, n4]; show u.2.2 + (48 + 48 * 5) ≤ R.2.2.2; omega)
  have eA : cA = K.2.2.2.1 5 := Option.some.inj (fA.symm.trans (hK.2 5 _ (xtys_at K 5 _ rfl)).2)
  have eC : comp = K.2.2.2.1 1 := Option.some.inj (fC.symm.trans (hK.2 1 _ (xtys_at K 1 _ rfl)).2)
  subst eA; subst eC
  rw [n3, n4] at X' step
  have hTh : (T.setVm vm₁).heap = H := hT
  generalize hF : Jvm.Free.Multi.fill (T.setVm vm₁) (K.2.2.2.1 5) (K.2.2.2.1 1) 48 5 (defaultValue .int) 48 = F at X' step
  obtain ⟨f1, f2, -, -⟩ := Jvm.Free.Multi.fill_facts (T.setVm vm₁) (K.2.2.2.1 5) (K.2.2.2.1 1) 48 5 (defaultValue .int) 48
  rw [hF, hTh] at f1 f2
  have hold : ∀ x : Nat, x < H.size → F.heap[x]? = H[x]? := fun x hx => by
    have := Jvm.Free.Multi.fill_old (T.setVm vm₁) (K.2.2.2.1 5) (K.2.2.2.1 1) 48 5 (defaultValue .int) (a := x) (by rw [hTh]; exact hx) 48
    rw [hF, hTh] at this
    exact this
  have hrow : ∀ j : Nat, j < 48 → F.heap[H.size + 1 + j]? = some (arrV (K.2.2.2.1 1) 5 (fun _ => .int 0)) := fun j hj => by
    have := Jvm.Free.Multi.fill_inner (T.setVm vm₁) (K.2.2.2.1 5) (K.2.2.2.1 1) 48 5 (defaultValue .int) 48 j hj
    rw [hF, hTh] at this
    rw [this]
    show some ({ cls := K.2.2.2.1 1, slots := Array.replicate 5 (.int 0), vm := .none } : Cell) = _
    rw [arrV_new]
  rw [xouter] at f2
  have hH2 : H.size = K.2.2.1 + 194 := by rw [hH, hu]
  have k3 := k2 F.heap (by rw [f1, hH2]; show K.2.2.1 + 194 + 1 + 48 = K.2.2.1 + 243; omega) (by
    intro k q hk
    have hk9 : k < 243 := by
      have := (List.getElem?_eq_some_iff.mp hk).1
      rw [xw_len] at this
      exact this
    rw [xw_get hk9] at hk
    cases hk
    by_cases w : k < 194
    · have := hP k (K.2.2.1 + k, xe K (xTY k) (h k)) (xw_get (by rw [hu]; exact w))
      rw [mnH_o (Or.inl w)]
      exact va_at.kept this (hold _ (by show K.2.2.1 + k < H.size; rw [hH2]; omega))
    · by_cases w2 : k = 194
      · subst w2
        show F.heap[K.2.2.1 + 194]? = some (vp_cell (K.2.2.2.1 5) (48, .inr (.inr (.inr (.inr fun (j : Nat) => xro K (mnH h 194 j))))))
        rw [← hH2, f2, vp_cell_q]
        congr 2
        funext j
        show va_rf _ = va_rf _
        congr 1
        have e1 : mnH h 194 (j : Int) = if (0 : Int) ≤ (j : Int) ∧ (j : Int) < 48 then 196 + (j : Int) else 0 := rfl
        rw [e1]
        by_cases w3 : j < 48
        · rw [if_pos w3, if_pos ⟨by omega, by omega⟩]
          unfold xro
          rw [if_neg (by omega), hH2]
          congr 1
          omega
        · rw [if_neg w3, if_neg (fun q => w3 (by omega))]
          rfl
      · have w3 : 195 ≤ k ∧ k < 243 := by omega
        rw [mnH_r w3, xTY_rows k w3.2 w3.1]
        show F.heap[K.2.2.1 + k]? = some (vp_cell (K.2.2.2.1 1) _)
        have := hrow (k - 195) (by omega)
        rw [show H.size + 1 + (k - 195) = K.2.2.1 + k by rw [hH2]; omega] at this
        exact this) ⟨by rw [f1]; have := hS.1; omega, fun x h1 h2 => (hold x (Nat.lt_of_lt_of_le h1 hS.1)).trans (hS.2.1 x h1 h2), hS.2.2⟩
  obtain ⟨t, a1, b1⟩ := k3 F rfl X'
  refine ⟨t, step t ?_, b1⟩
  have e9 : Value.ref T.heap.size = xv K (vr 194) := by
    show _ = Value.ref (xad K 194)
    rw [hT, hH2, xad_lt (by decide)]
  rw [e9]
  exact a1
