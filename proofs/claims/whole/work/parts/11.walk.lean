/-! the judgements: a walk (WX) and a contract (MX) of the small machine -/
/-- code, name, locals, answer, how many cells stand at least -/
abbrev XM : Type := ByteArray × MethodName × Nat × Option FieldType × Nat
def xXS (n : Nat) (h : XH) : Prop := ∀ c k : Nat, c < n → xRF c k ≠ 0 → h c k = xRF c k
def xTxt : List (List Int32) := [[97, 53, 115, 48, 97, 51, 109, 50, 115, 49, 119, 48, 97, 53, 115, 48, 97, 55, 109, 50, 115, 49, 119, 49, 107, 49, 52, 113, 97, 49, 97, 53, 115, 48, 97, 57, 109, 50, 115, 49, 119, 50, 108, 48, 122, 50, 54, 120, 49, 115, 48, 106, 49, 54, 104], [97, 109, 120, 115, 108, 112, 119, 106, 122, 107, 113, 104]]
/-- what is given of the machine's own things: classes, arrays of references, the two constant texts -/
def XF (K : XK) (U : State) : Prop := va_K K.2.1 vwCl (xtys K) U ∧ va_AO RX1 U ∧ va_AO RX6 U ∧ xAOA U ∧
  vk_S 2 [55, 12] xTxt K.2.2.2.2.1 K.2.2.2.2.2 (xA K) U U.heap ∧ va_Z "java/lang/String" "COMPACT_STRINGS" "Z" (.int 1) (xA K) U U.heap ∧
  vk_R RX8 64 "a5s0a3m2s1w0a5s0a7m2s1w1k14qa1a5s0a9m2s1w2l0z26x1s0j16h" (K.2.2.2.2.1 0) U ∧ vk_R RX7 44 "amxslpwjzkqh" (K.2.2.2.2.1 1) U ∧ vk_R RX8 277 "amxslpwjzkqh" (K.2.2.2.2.1 1) U ∧
  va_Zq "jdk/internal/util/Preconditions" "SIOOBE_FORMATTER" "Ljava/util/function/BiFunction;" (xA K) U U.heap ∧ (∀ i : Nat, i < 2 → K.2.2.2.2.1 (2 + i) = K.2.2.2.2.2 i) ∧
  va_T .int (K.2.2.2.2.1 4) (K.2.2.2.2.2 2) (fun j : Nat => .int (Int32.ofInt ((K.2.2.2.2.2 (3 + j) : Int) - 2147483648))) (xA K) U U.heap ∧ ∀ w ∈ xTn, va_Nw w U
theorem XF.moved {K : XK} {s U : State} {H : Heap} {locs : List Loc} (hW : s.WarmedH U.vm) (hU : U.heap = H) (hS : va_S (xA K) s.heap H locs) (h : XF K s) : XF K U := by
  obtain ⟨h1, h2, h3, h4, h5, h6, h7, h8, h9, hq, hv, ht, h10⟩ := h
  refine ⟨h1.moved hW.alike, h2.moved hW.alike, h3.moved hW.alike, h4.moved hW.alike, ?_, ?_, h7.warm hW, h8.warm hW, h9.warm hW, ?_, hv, ?_, fun w hw => xNw_warm (List.mem_filter.mp hw).2 hW (h10 w hw)⟩
  · rw [hU]; exact (h5.moved hW.alike).kept hS.2.1
  · rw [hU]; exact (h6.moved hW.alike).kept hS.2.1
  · rw [hU]; exact (hq.moved hW.alike).kept hS.2.1
  · rw [hU]; exact (ht.moved hW.alike).kept hS.2.1
theorem XF.calling {K : XK} {U : State} {g : JFrame} {mk : MethodId} {a : Array Value} (h : XF K U) : XF K (U.calling g mk a) := by
  obtain ⟨h1, h2, h3, h4, h5, h6, h7, h8, h9, hq, hv, ht, h10⟩ := h
  exact ⟨va_K.moved (u := U) (U := U.calling g mk a) (Vm.Alike.refl U.vm) h1, va_AO.moved (u := U) (U := U.calling g mk a) (Vm.Alike.refl U.vm) h2, va_AO.moved (u := U) (U := U.calling g mk a) (Vm.Alike.refl U.vm) h3, xAOA.moved (u := U) (U := U.calling g mk a) (Vm.Alike.refl U.vm) h4, vk_S.moved (u := U) (U := U.calling g mk a) (Vm.Alike.refl U.vm) h5, va_Z.moved (u := U) (U := U.calling g mk a) (Vm.Alike.refl U.vm) h6, vk_R.same (u := U) (U := U.calling g mk a) rfl h7, vk_R.same (u := U) (U := U.calling g mk a) rfl h8, vk_R.same (u := U) (U := U.calling g mk a) rfl h9, va_Zq.moved (u := U) (U := U.calling g mk a) (Vm.Alike.refl U.vm) hq, hv, va_T.moved (u := U) (U := U.calling g mk a) (Vm.Alike.refl U.vm) ht, fun w hw => va_Nw.same (u := U) (U := U.calling g mk a) (xNw_tab (List.mem_filter.mp hw).2) rfl (h10 w hw)⟩
theorem XF.nest {K : XK} {U : State} (h : XF K U) {w : Cond} (hw : w ∈ xTn) (A : Array Value) : w.before A U = true := va_Nw.use (xNw_tab (List.mem_filter.mp hw).2) (h.2.2.2.2.2.2.2.2.2.2.2.2 w hw)
theorem XF.nestw {K : XK} {U : State} (h : XF K U) {w : Cond} (hw : w ∈ xTn) : va_Nw w U := h.2.2.2.2.2.2.2.2.2.2.2.2 w hw
/-- a method's surroundings while it runs -/
def XE (K : XK) (M : XM) (p : Program) (s : State) (m : MethodId) (args : Array Value) (meth : Method) (c : Code) : Prop :=
  p.tables.exec = Jvm.exec ∧ c.code = M.1 ∧ c.maxLocals = M.2.2.1 ∧ meth.sig.returnType = M.2.2.2.1 ∧ meth.locks = false ∧ meth.name = M.2.1.name ∧ s.vm.findClass M.2.1.cls = some m.cls ∧ (∀ w ∈ xTb, w.before args s = true) ∧ XF K s ∧ K.2.2.1 ≤ s.heap.size
/-- room: for good (the references stand), frames, cells, slots -/
abbrev XR : Type := Bool × Nat × Nat × Nat
def xrm (R : XR) : Room := { frames := R.2.1, cells := R.2.2.1, slots := R.2.2.2, locals := 38 * R.2.1 }
def xQ (K : XK) (md : Bool) (Q : Option XV → Nat → XH → Prop) : Array Value → State → Outcome → State → Prop := fun _ st o t =>
  (∃ (v : Option XV) (n : Nat) (h : XH), o = .returned (v.map (xv K)) ∧ Q v n h ∧ t.heap.size = K.2.2.1 + n ∧ va_P K.2.1 vwCl (xw K n h) t.heap ∧ (md = true → xXS n h)) ∧ va_F (xA K) st t
def xL (K : XK) (L : List (Nat × XV)) : List (Nat × Value) := L.map fun q => (q.1, xv K q.2)
/-- u: cells in all, new ones, new slots -/
def WX (K : XK) (M : XM) (R : XR) (Q : Option XV → Nat → XH → Prop) (u : Nat × Nat × Nat) (pc : Nat) (L : List (Nat × XV)) (st : List XV) (h : XH) : Prop :=
  (R.1 = true → M.2.2.2.2 ≤ u.1 ∧ xXS u.1 h) → ∀ (p : Program) (e : Env) (s : State) (m : MethodId) (args : Array Value) (below : List Frame) (meth : Method) (c : Code), XE K M p s m args meth c → ∀ (H : Heap) (locs : List Loc) (ls : Array Slot), H.size = K.2.2.1 + u.1 → va_P K.2.1 vwCl (xw K u.1 h) H → va_S (xA K) s.heap H locs → lv_has ls M.2.2.1 (xL K L) →
    W p K.1 e (xrm R) s m args below meth c H locs u.2.1 u.2.2 (MQ below (xQ K R.1 Q) args s R.2.2.1 R.2.2.2 (xA K)) (F0 m pc ls (st.map (xv K)))
def xPc (K : XK) (M : XM) (md : Bool) (n : Nat) (as : List XV) (h : XH) : Array Value → State → Prop := va_Pc (as.map (xv K)) (fun U => U.heap.size = K.2.2.1 + n ∧ va_P K.2.1 vwCl (xw K n h) U.heap ∧ XF K U ∧ (md = true → M.2.2.2.2 ≤ n ∧ xXS n h))
def MX (K : XK) (M : XM) (R : XR) (n : Nat) (as : List XV) (h : XH) (Q : Option XV → Nat → XH → Prop) : Prop :=
  Met K.1 M.2.1 (Cond.code M.2.1 M.1 M.2.2.1 M.2.2.2.1 :: xTb) (xrm R) (xPc K M R.1 n as h) (xQ K R.1 Q) R.2.2.1 R.2.2.2 (xA K)
/-- what the tables say of a method: how many arguments -/
def xMF (M : XM) (n : Nat) : Prop := plainName M.2.1.cls = true ∧ Cond.code M.2.1 M.1 M.2.2.1 M.2.2.2.1 ∈ xTb ∧ Cond.initialized M.2.1.cls ∈ xTb ∧ M.2.1.cls ≠ "java/lang/invoke/MethodHandle" ∧ M.2.1.cls ≠ "java/lang/invoke/VarHandle" ∧ (parseMethodDescriptor M.2.1.desc).map (fun d => d.parameters.length) = some n ∧ M.2.2.1 ≤ 19
def xMV (M : XM) : Prop := Cond.instanceMethod M.2.1 ∈ xTb ∧ Cond.selects M.2.1.cls M.2.1 M.2.1 ∈ xTb
def xMS (M : XM) : Prop := Cond.static M.2.1 ∈ xTb
def xMI (M : XM) : Prop := Cond.instanceMethod M.2.1 ∈ xTb ∧ M.2.1.name = "<init>"
def xML (own : String) (idx : Nat) (y : MethodName) : Prop := Cond.methodLink own idx y ∈ xTb ∨ ∃ host, Cond.methodLinkNest own idx y host ∈ xTn
def xargs : Nat → List XV → List (Nat × XV)
  | _, [] => []
  | i, v :: vs => (i, v) :: xargs (i + (match v with | .inr (.inr _) => 2 | _ => 1)) vs
theorem xcat (K : XK) (v : XV) : (xv K v).category = (match v with | .inr (.inr _) => 2 | _ => 1) := by
  rcases v with z | k | z <;> rfl
theorem xargs_lv (K : XK) : ∀ (as : List XV) (i : Nat), lv_args i (as.map (xv K)) = xL K (xargs i as)
  | [], i => rfl
  | v :: vs, i => by
    have e := xargs_lv K vs
    rcases v with z | k | z
    · exact congrArg (fun l => (i, xv K (vi z)) :: l) (e (i + 1))
    · exact congrArg (fun l => (i, xv K (vr k)) :: l) (e (i + 1))
    · exact congrArg (fun l => (i, xv K (vl z)) :: l) (e (i + 2))
theorem xMeth {K : XK} {M : XM} {R : XR} {n a : Nat} {as : List XV} {h : XH} {Q : Option XV → Nat → XH → Prop} (hF : xMF M a) (hlen : (lg_sl (as.map (xv K))).length ≤ M.2.2.1) (hw : WX K M R Q (n, 0, 0) 0 (xargs 0 as) [] h) : MX K M R n as h Q := by
  refine Met.ofW (cc := M.1) (maxL := M.2.2.1) (ret := M.2.2.2.1) hF.1 rfl ?_
  intro p e s m args below meth c s₁ B hml hv
  obtain ⟨rfl, hsz, hP, hXF, hmd⟩ := hv
  have hts : ∀ w ∈ xTb, w.before (as.map (xv K)).toArray s = true := fun w hw => atoms_spec (ws := Cond.code M.2.1 M.1 M.2.2.1 M.2.2.2.1 :: xTb) B.pre w (List.mem_cons_of_mem _ hw)
  have hl := lv_entry (as.map (xv K)) (n := M.2.2.1) hlen
  rw [lg_entry_eq]
  rw [xargs_lv] at hl
  exact hw hmd p e s m _ below meth c ⟨B.exec, B.bytes, hml, B.returns, B.notSynchronized, (name_of_methodNamed B.named B.method).1, findClass_of_methodNamed B.named, hts, hXF, by rw [hsz]; exact Nat.le_add_right _ _⟩ s.heap [] _ hsz hP va_S.rf hl
