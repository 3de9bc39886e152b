/-! THE CLAIM OUT OF ONE WALK OF THE LAW'S BODY. Your part is whole_start (and what it stands on); all else here is the same for every law, but numbers. -/
def R_law : String := "SqueezedCodeLaw"
def lw_P (b : Addr) (xs : List Int32) (args : Array Value) (s : State) : Prop := args = #[.ref b] ∧ s.IntsAt b xs ∧ xs.length ≤ 2048 ∧ (Jvm.Cond.and given_1 narrow_1).before args s = true
def lw_Q (_ : Array Value) (s : State) (o : Outcome) (t : State) : Prop := o = .returned (some (.int 1)) ∧ Framed s o t [] 600000 7302250
def lw_Z (below : List Frame) (a : Array Value) (s : State) : State → Prop := fun t => ∃ o, t.status = .running ∧ Ended t below o ∧ lw_Q a s o t
/-- the law's own end, with 1 on the stack, nothing written that was there before, its room as the claim has it -/
theorem lw_ret {p : Program} {l : Launch} {e : Env} {s : State} {m : MethodId} {below : List Frame} {meth : Method} {c : Code} {b : Nat} (hx : p.tables.exec = Jvm.exec) (hb : c.code = code) (hr : meth.sig.returnType = ret) (hlocks : meth.locks = false) {pc : Nat} {H : Heap} {ls : Array Slot} (hdg : decode code pc = .ok (.ireturn, 1)) : W p l e room_1 s m #[Value.ref b] below meth c H [] 600000 7302250 (lw_Z below #[Value.ref b] s) (F0 m pc ls [.int 1]) := by
  intro T hT X
  obtain ⟨fs, hret, hrun, hended, hW, hframe⟩ := X.leave (v := some (.int 1)) (hlocks := hlocks) (fun h => by rw [hr] at h; cases h)
  have hmeth' : T.vm.method? m = some meth := X.method'
  refine ⟨T.setFrames fs, ?_, .returned (some (.int 1)), hrun, hended, rfl, ⟨_, rfl⟩, hW, hframe⟩
  jvm_step X.here [X.here.top, hx, hb, hdg, hmeth', hr, ret, narrow_b1]
  (try refine ⟨rfl, ?_⟩); (try refine ⟨rfl, ?_⟩)
  first | (intro acts; rw [hret _ acts rfl rfl rfl]) | rw [hret _ _ rfl rfl rfl]
  exact Steps.refl _
/-- what holds at the law's entry: the machine, the code, the tables' words (any of lw_tbl by 'hts w (by decide +kernel)'), the script of L ints xs at the cell b, what the Statement gives of the start (any of its parts by flat_of_before) -/
def lw_At (p : Program) (s : State) (m : MethodId) (meth : Method) (c : Code) (b L : Nat) (xs : Nat → Int32) : Prop :=
  p.tables.exec = Jvm.exec ∧ c.code = code ∧ meth.sig.returnType = ret ∧ c.maxLocals = 4 ∧ s.vm.findClass R_law = some m.cls ∧ (∀ w ∈ lw_tbl, w.before #[Value.ref b] s = true) ∧ va_X b L xs s s.heap ∧ b < s.heap.size ∧ meth.locks = false ∧ (Jvm.Cond.and given_1 narrow_1).before #[Value.ref b] s = true
-- ===== YOUR PART BEGINS =====
theorem xRoom1 {s : State} {pl : Platform} (h : s.hasRoom pl room_1 = true) : s.hasRoom pl (xrm RLaw) = true := by
  have q1 : room_1.frames = 14 := rfl
  have q2 : room_1.cells = 600000 := rfl
  have q3 : room_1.slots = 7302250 := rfl
  have q4 : room_1.locals = 536 := rfl
  have r1 : (xrm RLaw).frames = 14 := rfl
  have r2 : (xrm RLaw).cells = 274 := rfl
  have r3 : (xrm RLaw).slots = 3349 := rfl
  have r4 : (xrm RLaw).locals = 532 := rfl
  simp only [State.hasRoom, Bool.and_eq_true, decide_eq_true_eq] at h ⊢
  rw [q1, q2, q3, q4] at h
  rw [r1, r2, r3, r4]
  obtain ⟨⟨⟨⟨h1, h2⟩, h3⟩, h4⟩, h5⟩ := h
  refine ⟨⟨⟨⟨?_, ?_⟩, ?_⟩, ?_⟩, h5⟩ <;> omega
theorem lw_mem {w : Cond} (i : Nat) (h : lw_tbl[i]? = some w) : w ∈ lw_tbl := List.mem_of_getElem? h
def tmLw (i : Nat) : Term := if i = 0 then .string "SqueezedCode" 64 else .string "SqueezedCode" 277
def gvLw : List Cond := flatC (Jvm.Cond.and given_1 narrow_1)
theorem gvEl : ∀ i : Nat, i < 2 → ∀ j : Nat, j < [55, 12].getD i 0 → Cond.eq (.elem (.field (tmLw i) "java/lang/String" "value" "[B") (.int (Int32.ofNat j))) (.int ((xTxt.getD i []).getD j 0)) ∈ gvLw := by decide +kernel
theorem gvEx : ∀ i : Nat, i < 2 → Cond.exactly (tmLw i) "java/lang/String" ∈ gvLw := by decide +kernel
theorem gvCo : ∀ i : Nat, i < 2 → Cond.eq (.field (tmLw i) "java/lang/String" "coder" "B") (.int 0) ∈ gvLw := by decide +kernel
theorem gvAr : ∀ i : Nat, i < 2 → Cond.arrayOf (.field (tmLw i) "java/lang/String" "value" "[B") .byte ∈ gvLw := by decide +kernel
theorem gvLe : ∀ i : Nat, i < 2 → Cond.eq (.length (.field (tmLw i) "java/lang/String" "value" "[B")) (.int (Int32.ofNat ([55, 12].getD i 0))) ∈ gvLw := by decide +kernel
theorem gvNe : Cond.not (Cond.eq (tmLw 0) (tmLw 1)) ∈ gvLw := by decide +kernel
theorem gvTx : Cond.eq (.string "SqueezedCode$Text" 44) (tmLw 1) ∈ gvLw := by decide +kernel
theorem gvCs : Cond.eq (.static "java/lang/String" "COMPACT_STRINGS" "Z") (.int 1) ∈ gvLw := by decide +kernel
theorem gvSi : Cond.isRef (.static "jdk/internal/util/Preconditions" "SIOOBE_FORMATTER" "Ljava/util/function/BiFunction;") ∈ gvLw := by decide +kernel
/-- what the tables say of the classes and of the classes of arrays -/
theorem lw_classes {s : State} {args : Array Value} (hts : ∀ w ∈ xTb, w.before args s = true) : ∃ G : va_G, ∀ (k : Nat) (q : vw_C), vwCl[k]? = some q → u_Kn s q.1 q.2.1 q.2.2 (G.1 k) (G.2 k) := by
  have kn : ∀ ci : Nat, ∃ q : ClassId × (Nat → Nat), ∀ r : vw_C, vwCl[ci]? = some r → u_Kn s r.1 r.2.1 r.2.2 q.1 q.2 := by
    intro ci
    by_cases hc : ci < 10
    · have : ci = 0 ∨ ci = 1 ∨ ci = 2 ∨ ci = 3 ∨ ci = 4 ∨ ci = 5 ∨ ci = 6 ∨ ci = 7 ∨ ci = 8 ∨ ci = 9 := by omega
      rcases this with w | w | w | w | w | w | w | w | w | w <;> subst w
      · obtain ⟨c, i, hk⟩ := u_known hts wX0_in (hts _ NX0)
        exact ⟨(c, i), fun r hr => (by cases hr; exact hk)⟩
      · obtain ⟨c, i, hk⟩ := u_known hts wX1_in (hts _ NX1)
        exact ⟨(c, i), fun r hr => (by cases hr; exact hk)⟩
      · obtain ⟨c, i, hk⟩ := u_known hts wX2_in (hts _ NX2)
        exact ⟨(c, i), fun r hr => (by cases hr; exact hk)⟩
      · obtain ⟨c, i, hk⟩ := u_known hts wX3_in (hts _ NX3)
        exact ⟨(c, i), fun r hr => (by cases hr; exact hk)⟩
      · obtain ⟨c, i, hk⟩ := u_known hts wX4_in (hts _ NX4)
        exact ⟨(c, i), fun r hr => (by cases hr; exact hk)⟩
      · obtain ⟨c, i, hk⟩ := u_known hts wX5_in (hts _ NX5)
        exact ⟨(c, i), fun r hr => (by cases hr; exact hk)⟩
      · obtain ⟨c, i, hk⟩ := u_known hts wX6_in (hts _ NX6)
        exact ⟨(c, i), fun r hr => (by cases hr; exact hk)⟩
      · obtain ⟨c, i, hk⟩ := u_known hts wX7_in (hts _ NX7)
        exact ⟨(c, i), fun r hr => (by cases hr; exact hk)⟩
      · obtain ⟨c, i, hk⟩ := u_known hts wX8_in (hts _ NX8)
        exact ⟨(c, i), fun r hr => (by cases hr; exact hk)⟩
      · obtain ⟨c, i, hk⟩ := u_known hts wX9_in (hts _ NX9)
        exact ⟨(c, i), fun r hr => (by cases hr; exact hk)⟩
    · refine ⟨(0, fun _ => 0), fun r hr => ?_⟩
      have := (List.getElem?_eq_some_iff.mp hr).1
      exact absurd this hc
  obtain ⟨f, hf⟩ := Classical.axiomOfChoice kn
  exact ⟨(fun k => (f k).1, fun k => (f k).2), hf⟩
theorem lw_prim {s : State} {args : Array Value} {ty : FieldType} (hty : ∀ C, ty ≠ .object C) (h : (Cond.arrayClass ty).before args s = true) : ∃ cA : ClassId, ArrOfT s cA ty ∧ va_RA s cA ty := by
  obtain ⟨cA, kA, comp, f1, f2, f3⟩ := Cond.arrayClass_spec h
  refine ⟨cA, fun n z => ⟨(fun k h => by cases h), kA, f2, comp, f3⟩, ?_⟩
  cases ty with
  | object C => exact absurd rfl (hty C)
  | _ => exact f1
theorem lw_objs {s : State} {C : String} (h : va_AO C s) : ∃ cA : ClassId, ArrOfT s cA (.object C) ∧ va_RA s cA (.object C) := by
  obtain ⟨comp, cA, k, h1, h2, h3, h4, h5⟩ := Cond.arrayOver_spec h
  exact ⟨cA, fun n z => ⟨(fun k h => by cases h), k, h3, comp, h4⟩, k, comp, h3, h4, h1, h5⟩
theorem lw_rows {s : State} (h : xAOA s) : ∃ cA : ClassId, ArrOfT s cA (.array .int) ∧ va_RA s cA (.array .int) := by
  obtain ⟨comp, cA, k, h1, h2, h3, ⟨comp', h4⟩, h5⟩ := xAOA_spec h
  exact ⟨cA, fun n z => ⟨(fun k h => by cases h), k, h3, comp', h4⟩, h5⟩
set_option maxRecDepth 100000 in
set_option maxHeartbeats 4000000 in
theorem whole_start {p : Program} {e : Env} {s : State} {m : MethodId} {below : List Frame} {meth : Method} {c : Code} (l : Launch) (hflags : l.flags = flags0) {b L : Nat} {xs : Nat → Int32} (hL : L ≤ 2048) (C0 : lw_At p s m meth c b L xs) : W p l e room_1 s m #[Value.ref b] below meth c s.heap [] 0 0 (lw_Z below #[Value.ref b] s) (entryFrame m ([Value.ref b] : List Value).toArray 4) := by
  obtain ⟨hx, hb, hr, hml, hown, hts0, hX, hbl, hlocks, hgv⟩ := id C0
  have hs : ∀ w ∈ gvLw, w.before #[Value.ref b] s = true := flat_of_before _ hgv
  have hts : ∀ w ∈ xTb, w.before #[Value.ref b] s = true := fun w hw => hts0 w (List.mem_filter.mp hw).1
  have hA : ∀ a : Nat, a < s.heap.size → ¬ (fun q : Nat => s.heap.size ≤ q) a := fun a h => Nat.not_le.mpr h
  obtain ⟨G, hG⟩ := lw_classes hts
  have o1 : va_AO RX1 s := hts0 (Cond.arrayOver (.object RX1)) (lw_mem 145 (by decide +kernel))
  have o6 : va_AO RX6 s := hts0 (Cond.arrayOver (.object RX6)) (lw_mem 200 (by decide +kernel))
  have oa : xAOA s := hts0 (Cond.arrayOver (.array .int)) (lw_mem 217 (by decide +kernel))
  obtain ⟨a0, q0⟩ := lw_prim (fun C h => by cases h) (hts _ TA_char)
  obtain ⟨a1, q1⟩ := lw_prim (fun C h => by cases h) (hts _ TA_int)
  obtain ⟨a2, q2⟩ := lw_prim (fun C h => by cases h) (hts _ TA_boolean)
  obtain ⟨a3, q3⟩ := lw_objs o1
  obtain ⟨a4, q4⟩ := lw_objs o6
  obtain ⟨a5, q5⟩ := lw_rows oa
  obtain ⟨adK, adV, hSt, hEv⟩ := vk_Sof (args := #[Value.ref b]) (s := s) (N := 2) (tm := tmLw) (len := [55, 12]) (byt := xTxt) (A := fun q : Nat => s.heap.size ≤ q) (by decide) (fun i hi => hs _ (gvEx i hi)) (fun i hi => hs _ (gvCo i hi)) (fun i hi => hs _ (gvAr i hi)) (fun i hi => hs _ (gvLe i hi)) (fun i hi j hj => hs _ (gvEl i hi j hj)) (fun i j hi hj hij => by
    have : (i = 0 ∧ j = 1) ∨ (i = 1 ∧ j = 0) := by omega
    rcases this with ⟨z1, z2⟩ | ⟨z1, z2⟩ <;> subst z1 <;> subst z2
    · exact Or.inl (hs _ gvNe)
    · exact Or.inr (hs _ gvNe)) hA
  have xr : ∀ k : Nat, -2147483648 ≤ (xs k).toInt ∧ (xs k).toInt < 2147483648 := fun k => ⟨Int32.le_toInt (xs k), Int32.toInt_lt (xs k)⟩
  let K : XK := (l, G, s.heap.size, (fun j => [a0, a1, a2, a3, a4, a5].getD j 0), (fun i => if i = 2 then adV 0 else if i = 3 then adV 1 else if i = 4 then b else adK i), (fun i => if i = 2 then L else if 3 ≤ i then ((xs (i - 3)).toInt + 2147483648).toNat else adV i))
  have hKK : va_K K.2.1 vwCl (xtys K) s := by
    refine ⟨hG, fun k q hq => ?_⟩
    have hk : k < 6 := (List.getElem?_eq_some_iff.mp hq).1
    have : k = 0 ∨ k = 1 ∨ k = 2 ∨ k = 3 ∨ k = 4 ∨ k = 5 := by omega
    rcases this with w | w | w | w | w | w <;> subst w <;> cases hq
    · exact q0
    · exact q1
    · exact q2
    · exact q3
    · exact q4
    · exact q5
  have eK : ∀ i : Nat, i < 2 → K.2.2.2.2.1 i = adK i := fun i hi => by
    show (if i = 2 then adV 0 else if i = 3 then adV 1 else if i = 4 then b else adK i) = adK i
    rw [if_neg (by omega), if_neg (by omega), if_neg (by omega)]
  have eV : ∀ i : Nat, i < 2 → K.2.2.2.2.2 i = adV i := fun i hi => by
    show (if i = 2 then L else if 3 ≤ i then ((xs (i - 3)).toInt + 2147483648).toNat else adV i) = adV i
    rw [if_neg (by omega), if_neg (by omega)]
  have eX : ∀ k : Nat, (K.2.2.2.2.2 (3 + k) : Int) = (xs k).toInt + 2147483648 := fun k => by
    show (((if 3 + k = 2 then L else if 3 ≤ 3 + k then ((xs (3 + k - 3)).toInt + 2147483648).toNat else adV (3 + k)) : Nat) : Int) = _
    rw [if_neg (by omega), if_pos (by omega), show 3 + k - 3 = k by omega]
    have := xr k
    omega
  have hZ : va_Z "java/lang/String" "COMPACT_STRINGS" "Z" (.int 1) (xA K) s s.heap := va_Zof (hts0 _ (lw_mem 381 (by decide +kernel))) (hts0 _ (lw_mem 64 (by decide +kernel))) (va_eqt (hs _ gvCs)) hA
  have hZq : va_Zq "jdk/internal/util/Preconditions" "SIOOBE_FORMATTER" "Ljava/util/function/BiFunction;" (xA K) s s.heap := va_Zqof (hts0 _ (lw_mem 397 (by decide +kernel))) (hts0 _ (lw_mem 66 (by decide +kernel))) (hs _ gvSi) hA
  have hR8 : vk_R RX8 64 "a5s0a3m2s1w0a5s0a7m2s1w1k14qa1a5s0a9m2s1w2l0z26x1s0j16h" (K.2.2.2.2.1 0) s := vk_R.of (A := #[Value.ref b]) (hts0 _ (lw_mem 371 (by decide +kernel))) (by rw [eK 0 (by decide)]; exact hEv 0 (by decide))
  have hR7 : vk_R RX7 44 "amxslpwjzkqh" (K.2.2.2.2.1 1) s := vk_R.of (A := #[Value.ref b]) (hts0 _ (lw_mem 432 (by decide +kernel))) (by rw [eK 1 (by decide)]; exact va_eqv (hs _ gvTx) (hEv 1 (by decide)))
  have hR9 : vk_R RX8 277 "amxslpwjzkqh" (K.2.2.2.2.1 1) s := vk_R.of (A := #[Value.ref b]) (hts0 _ (lw_mem 640 (by decide +kernel))) (by rw [eK 1 (by decide)]; exact hEv 1 (by decide))
  have hVS : vk_S 2 [55, 12] xTxt K.2.2.2.2.1 K.2.2.2.2.2 (xA K) s s.heap := ⟨fun i hi => by rw [eK i hi, eV i hi]; exact hSt.1 i hi, fun i j hi hj hij => by rw [eK i hi, eK j hj] at hij; exact hSt.2 i j hi hj hij⟩
  have hT : va_T .int (K.2.2.2.2.1 4) (K.2.2.2.2.2 2) (fun j : Nat => .int (Int32.ofInt ((K.2.2.2.2.2 (3 + j) : Int) - 2147483648))) (xA K) s s.heap := by
    obtain ⟨scr, h1, h2, h3, h4, h5⟩ := hX
    refine ⟨scr, h1, h2, h3, Nat.le_of_eq h4.symm, by rw [h4]; rfl, fun j hj => ?_, hA b hbl⟩
    rw [h5 j hj]
    show some (Value.int (xs j)) = some (Value.int (Int32.ofInt ((K.2.2.2.2.2 (3 + j) : Int) - 2147483648)))
    rw [eX j, show (xs j).toInt + 2147483648 - 2147483648 = (xs j).toInt by omega, Int32.ofInt_toInt]
  have hXF : XF K s := ⟨hKK, o1, o6, oa, hVS, hZ, hR8, hR7, hR9, hZq, fun i hi => by
    have : i = 0 ∨ i = 1 := by omega
    rcases this with w | w <;> subst w <;> rfl, hT, fun w hw => va_Nw.of (xNw_tab (List.mem_filter.mp hw).2) (hts0 w (List.mem_filter.mp hw).1)⟩
  have hsc : ∀ j, xrg (scA K j) := fun j => by
    unfold scA
    rw [eX]
    have := xr j.toNat
    omega
  have hE : XE K (mLw meth.name) p s m #[Value.ref b] meth c := ⟨hx, hb, hml, hr, hlocks, rfl, hown, hts, hXF, Nat.le_refl _⟩
  have hl := lv_entry ([.ref b]) (n := 4) (Nat.le_of_ble_eq_true rfl)
  rw [lg_entry_eq]
  generalize (lg_sl ([.ref b]) ++ List.replicate (4 - (lg_sl ([.ref b])).length) Slot.unset).toArray = ls at hl ⊢
  have hl2 : lv_has ls (mLw meth.name).2.2.1 (xL K [(0, vr 1000004)]) := hl
  have hw := lw_all (K := K) (nm := meth.name) (h := fun _ _ => 0) xmn hsc hL (fun q => by cases q) p e s m #[Value.ref b] below meth c hE s.heap [] ls rfl (fun k q hq => by cases hq) va_S.rf hl2
  intro T hT2 X
  obtain ⟨t, st, o, h1, h2, ⟨⟨v, n', h', e1, e2, -, -, -⟩, -⟩, L2, ⟨f1, f2, f3⟩, hL2⟩ := hw T hT2 { X with room := xRoom1 X.room }
  have e2 : v = some (vi 1) := e2
  subst e2
  refine ⟨t, st, o, h1, h2, e1, f1, f2, ?_⟩
  exact f3.weaken (fun y hy hlt => absurd hlt (Nat.not_lt.mpr (hL2 y hy))) (by decide) (by decide)
-- ===== YOUR PART ENDS =====
set_option maxHeartbeats 4000000 in
theorem lw_walk (l : Launch) (hflags : l.flags = flags0) (b : Addr) (xs : List Int32) : MetFree l x (headSpec (Jvm.Cond.code x code maxLocals ret :: tables_1) room_1) (lw_P b xs) (fun _ _ _ _ _ => True) lw_Q := by
  refine MetFree.of_bodyS (code := code) (maxLocals := maxLocals) (ret := ret) (by decide) ?_ ?_
  · intro args s m h hn
    obtain ⟨meth, c, h1, h2, h3, h4, h5, h6, -, -⟩ := Cond.code_spec hn (atoms_spec (ws := Jvm.Cond.code x code maxLocals ret :: tables_1) h _ List.mem_cons_self)
    exact ⟨meth, c, h1, h2, h3, h4, h5, h6⟩
  · intro p e s m args below meth c s₁ B hml0 hP _
    obtain ⟨rfl, hx, hbd, hgv⟩ := hP
    obtain ⟨scr, harrAt, hlist, hof, hsmall⟩ := hx
    obtain ⟨hcb, hkn, -, -⟩ := State.arrayAt?_spec harrAt
    have hown : s.vm.findClass R_law = some m.cls := findClass_of_methodNamed B.named
    have hts0 : ∀ c ∈ (Jvm.Cond.code x code maxLocals ret :: tables_1), c.before #[Value.ref b] s = true := atoms_spec (ws := Jvm.Cond.code x code maxLocals ret :: tables_1) B.pre
    have hts : ∀ w ∈ lw_tbl, w.before #[Value.ref b] s = true := k2_hts_sels lw_privs (fun w hw => hts0 w (List.mem_cons_of_mem _ hw)) lw_privs_ok
    have hml : c.maxLocals = 4 := B.maxLocals_eq (hts0 _ List.mem_cons_self)
    have X₀ : Stand p l e room_1 s m #[Value.ref b] below meth c s₁ [] 0 0 := Stand.of_body B
    have hh0 : s₁.heap = s.heap := by rw [B.state]; rfl
    have hsz : scr.slots.size = xs.length := by rw [← Array.length_toList, hlist, List.length_map]
    have hval : ∀ j : Nat, j < xs.length → scr.slots[j]? = some (.int (xs.getD j 0)) := fun j hj => by
      rw [← Array.getElem?_toList, hlist]
      simp [hj]
    have hbl : b < s.heap.size := (Array.getElem?_eq_some_iff.mp hcb).1
    have hX : va_X b xs.length (fun j => xs.getD j 0) s s.heap := ⟨scr, hcb, hof, hkn, hsz, hval⟩
    have K : W p l e room_1 s m #[Value.ref b] below meth c s₁.heap [] 0 0 (lw_Z below #[Value.ref b] s) (entryFrame m ([Value.ref b] : List Value).toArray 4) := by
      rw [hh0]
      exact whole_start l hflags hbd ⟨B.exec, B.bytes, B.returns, hml, hown, hts, hX, hbl, B.notSynchronized, hgv⟩
    obtain ⟨t, a1, o, b1, b2, b3⟩ := K s₁ rfl X₀
    exact ⟨t, o, a1, b1, b2, b3⟩
theorem lw_pre_spec {args : Array Value} {s : State} (h : (Jvm.Cond.and given_1 narrow_1).before args s = true) (hr : rest_1_c.before args s = true) : ∃ (b : Addr) (xs : List Int32), lw_P b xs args s := by
  have hs := flat_of_before _ h
  have hq := flat_of_before _ hr
  have hc : (Cond.count 1).before args s = true := hs _ (by decide +kernel)
  have harr : (Cond.arrayOf (.arg 0) .int).before args s = true := hs _ (by decide +kernel)
  have hle : (Cond.le (.length (.arg 0)) (.int 2048)).before args s = true := hs _ (by decide +kernel)
  have hlen : (Cond.isInt (.length (.arg 0))).before args s = true := hq _ (by decide +kernel)
  have hall : (Cond.all (.arg 0) (.isInt (.elem (.arg 0) (.index 0)))).before args s = true := hq _ (by decide +kernel)
  obtain ⟨b, xs, hb, hx⟩ := State.ints_of_pre rfl harr hlen hall
  have hsm : xs.length < 2 ^ 31 := hx.choose_spec.2.2.2
  have hev : (Term.length (.arg 0)).eval args s none [] s = some (.int xs.length.toInt32) := hx.length_eval hb
  have hv := Cond.le_ints hev (show (Term.int 2048).eval args s none [] s = some (.int 2048) from rfl)
  have hd : xs.length.toInt32 ≤ 2048 := by
    simpa [Cond.before, Cond.holds, hv] using hle
  have hN : xs.length ≤ 2048 := (Int32.ofNat_le_ofNat hsm (by decide)).mp (show Int32.ofNat xs.length ≤ Int32.ofNat 2048 from hd)
  exact ⟨b, xs, Cond.one_arg hc (show args[0]? = some (.ref b) from hb), hx, hN, h⟩
theorem lw_comes (l : Launch) (hflags : l.flags = flags0) : Comes l x (Jvm.Cond.code x code maxLocals ret :: tables_1) room_1 (fun tb e args s => Calls_1 tb e args s ∧ rest_1 tb e args s ∧ Pre_1 tb e args s)
    (fun _ _ args s o t => lw_Q args s o t) := by
  intro p e ha hc hk s m args below hf hfit hheap happ hpre
  obtain ⟨b, xs, hP⟩ := lw_pre_spec hpre.2.2 hpre.2.1
  obtain ⟨k, o, h1, h2, h3, hQ⟩ := lw_walk l hflags b xs p e ha hc hk s m args below hf ((Spec.applies_iff_loose hf).mp happ).1 hP trivial
  exact ⟨k, o, h1, h2, h3, hQ⟩
theorem lw_frame {s t : State} {o : Outcome} {args : Array Value} (h : Framed s o t [] 600000 7302250) :
    Framed s o t (fieldLocs frame_1_writes args s ++ arrayLocs frame_1_arrays args s ++ staticLocs frame_1_statics s) 600000 7302250 := h
theorem lw_limb (L : Cond) (hL : ∀ (args : Array Value) (s t : State), L.after args s (.returned (some (.int 1))) t = true) :
    ArmFor flags0 classFile x code maxLocals ret World_1 tables_1 room_1 Calls_1 rest_1 Pre_1
      (fun tb e a s o t => postC L tb e a s o t ∧ Framed s o t (fieldLocs frame_1_writes a s ++ arrayLocs frame_1_arrays a s ++ staticLocs frame_1_statics s) 600000 7302250) := by
  intro l hflags _ _ p e ha hc hk s m args below hf hfit hheap happ hpre
  obtain ⟨k, o, h1, h2, h3, rfl, hF⟩ := lw_comes l hflags p e ha hc hk s m args below hf hfit hheap happ hpre
  exact ⟨k, _, h1, h2, h3, hL args s _, lw_frame hF⟩
theorem i_vc : Claimed_1_1 ∧ Claimed_1_2 := ⟨lw_limb limb_1_1 (fun args s t => by simp [limb_1_1, Cond.after, Cond.holds, Cond.value]), lw_limb limb_1_2 (fun args s t => Cond.after_iff.mpr (by
  first | (rw [show limb_1_2 = Cond.eq .result (.int 1) from rfl, Cond.eq_ints (x := 1) (y := 1) rfl rfl]; simp; done) | (simp [limb_1_2, Cond.value, Term.eval]; done)))⟩
