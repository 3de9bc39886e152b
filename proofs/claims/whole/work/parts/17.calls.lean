/-! rows of the small machine: calls -/
theorem xPc_blind {K : XK} {M : XM} {md : Bool} {n : Nat} {as : List XV} {h : XH} : FrameBlind (xPc K M md n as h) := by
  intro a U g mk hp
  obtain ⟨h1, h2, h3, h4, h5⟩ := hp
  exact ⟨h1, h2, h3, h4.calling, h5⟩
section XCALL
variable {K : XK} {M : XM} {R : XR} {Q : Option XV → Nat → XH → Prop} {u : Nat × Nat × Nat} {pc : Nat} {L : List (Nat × XV)} {st st0 : List XV} {h : XH}
variable {M' : XM} {R' : XR} {as : List XV} {Q' : Option XV → Nat → XH → Prop} {a : Nat}
def xMode (R : XR) (M : XM) (u : Nat × Nat × Nat) (h : XH) (R' : XR) (M' : XM) : Prop := (R.1 = true → R'.1 = true) ∧ (R'.1 = true → (R.1 = true ∧ M'.2.2.2.2 ≤ M.2.2.2.2) ∨ (M'.2.2.2.2 ≤ u.1 ∧ xXS u.1 h))
theorem x_run {p : Program} {e : Env} {s : State} {m : MethodId} {args : Array Value} {below : List Frame} {meth : Method} {c : Code} (E : XE K M p s m args meth c) {H : Heap} {locs : List Loc} {ls : Array Slot} (hH : H.size = K.2.2.1 + u.1) (hS : va_S (xA K) s.heap H locs) (hlv : lv_has ls M.2.2.1 (xL K L)) (hmd : R.1 = true → M.2.2.2.2 ≤ u.1 ∧ xXS u.1 h) (hm : R.1 = true → R'.1 = true) {st1 : List Value} {ar : Array Value}
    (run : va_Run p K.1 e (xrm R) s m args below meth c H locs u.2.1 u.2.2 R'.2.2.1 R'.2.2.2 (F0 m pc ls st1) (st.map (xv K)) (xQ K R'.1 Q' ar) (xA K))
    (kk : ∀ (v : Option XV) (n' : Nat) (h' : XH), Q' v n' h' → WX K M R Q (n', u.2.1 + R'.2.2.1, u.2.2 + R'.2.2.2) (pc + 3) L (v.toList ++ st) h') :
    W p K.1 e (xrm R) s m args below meth c H locs u.2.1 u.2.2 (MQ below (xQ K R.1 Q) args s R.2.2.1 R.2.2.2 (xA K)) (F0 m pc ls st1) := by
  intro T hT X
  obtain ⟨v, st₀, t, T', Lx, h0, X', hL, e1, e2, ⟨⟨v', n', h', hv, hq, hz, hp', hx'⟩, hz2, hk⟩, stp⟩ := run T hT X
  rw [h0] at hz2 hk
  have hv2 : v = v'.map (xv K) := by cases hv; rfl
  subst hv2
  have hle : u.1 ≤ n' := by rw [hH, hz] at hz2; omega
  have k2 := kk v' n' h' hq (fun q => ⟨Nat.le_trans (hmd q).1 hle, hx' (hm q)⟩) p e s m args below meth c E T'.heap (locs ++ Lx) ls (by rw [e1]; exact hz) (by rw [e1]; exact hp')
    ⟨Nat.le_trans hS.1 (by rw [e1]; exact hz2), fun q h1 h2 => by rw [e1, hk q (Nat.lt_of_lt_of_le h1 hS.1) h2]; exact hS.2.1 q h1 h2, fun q hq => by
      rcases List.mem_append.mp hq with h | h
      · exact hS.2.2 q h
      · exact hL q h⟩ hlv
  obtain ⟨t2, a1, b1⟩ := k2 T' rfl X'
  refine ⟨t2, stp t2 ?_, b1⟩
  have e3 : (v'.map (xv K)).toList ++ st.map (xv K) = (v'.toList ++ st).map (xv K) := by cases v' <;> simp
  rw [e3]
  exact a1
theorem x_pre {p : Program} {s : State} {m : MethodId} {args : Array Value} {meth : Method} {c : Code} (E : XE K M p s m args meth c) {H : Heap} {locs : List Loc} (hH : H.size = K.2.2.1 + u.1) (hP : va_P K.2.1 vwCl (xw K u.1 h) H) (hS : va_S (xA K) s.heap H locs) (hmd : R.1 = true → M.2.2.2.2 ≤ u.1 ∧ xXS u.1 h) (hm : xMode R M u h R' M') (U : State) (hU : U.heap = H) (hW : s.WarmedH U.vm) : xPc K M' R'.1 u.1 as h (as.map (xv K)).toArray U := by
  refine ⟨rfl, by rw [hU]; exact hH, by rw [hU]; exact hP, XF.moved hW hU hS E.2.2.2.2.2.2.2.2.1, fun q => ?_⟩
  rcases hm.2 q with ⟨q1, q2⟩ | q1
  · exact ⟨Nat.le_trans q2 (hmd q1).1, (hmd q1).2⟩
  · exact q1
def xRoom (R : XR) (u : Nat × Nat × Nat) (R' : XR) : Prop := R'.2.1 + 1 ≤ R.2.1 ∧ u.2.1 + R'.2.2.1 ≤ R.2.2.1 ∧ u.2.2 + R'.2.2.2 ≤ R.2.2.2
def xcs (st : List XV) : Nat := (st.map fun v => match v with | .inr (.inr _) => 2 | _ => 1).sum
theorem xcs_eq (K : XK) (st : List XV) : ((st.map (xv K)).map fun v => v.category).sum = xcs st := by
  unfold xcs
  rw [List.map_map]
  congr 1
  apply List.map_congr_left
  intro v _
  exact xcat K v
theorem x_B {R1 : Room} {s : State} {args : Array Value} {own : String} {i : Nat} (hts : ∀ w ∈ xTb, w.before args s = true) (hF : xMF M' a) (hR : (xrm R').frames + 1 ≤ R1.frames ∧ 38 * (R'.2.1 + 1) ≤ R1.locals) (hl : Cond.methodLink own i M'.2.1 ∈ xTb) : CallB R1 s args own i M'.2.1 M'.1 M'.2.2.1 M'.2.2.2.1 (Cond.code M'.2.1 M'.1 M'.2.2.1 M'.2.2.2.1 :: xTb) (xrm R') R'.2.2.1 R'.2.2.2 a := by
  obtain ⟨-, h1, h2, h3, h4, h5, h6⟩ := hF
  exact callB_of a hts (xGoodIn h1) rfl rfl rfl (hts _ h2) (hts _ hl) ⟨h3, h4, h5⟩ ⟨hR.1, by show 8 + (M'.2.2.1 + 11) + 38 * R'.2.1 ≤ _; omega⟩
theorem x_BN {R1 : Room} {s : State} {args : Array Value} {own host : String} {i : Nat} (hXF : XF K s) (hts : ∀ w ∈ xTb, w.before args s = true) (hF : xMF M' a) (hR : (xrm R').frames + 1 ≤ R1.frames ∧ 38 * (R'.2.1 + 1) ≤ R1.locals) (hl : Cond.methodLinkNest own i M'.2.1 host ∈ xTn) : va_CN R1 s args own i M'.2.1 host M'.1 M'.2.2.1 M'.2.2.2.1 (Cond.code M'.2.1 M'.1 M'.2.2.1 M'.2.2.2.1 :: xTb) (xrm R') R'.2.2.1 R'.2.2.2 a := by
  obtain ⟨-, h1, h2, h3, h4, h5, h6⟩ := hF
  exact va_cnB a hts (xGoodIn h1) rfl rfl rfl (hXF.nestw hl) (hts _ h2) ⟨h3, h4, h5⟩ ⟨hR.1, by show 8 + (M'.2.2.1 + 11) + 38 * R'.2.1 ≤ _; omega⟩
theorem xRoom_of (hR : xRoom R u R') : (xrm R').frames + 1 ≤ (xrm R).frames ∧ 38 * (R'.2.1 + 1) ≤ (xrm R).locals := ⟨hR.1, by show 38 * (R'.2.1 + 1) ≤ 38 * R.2.1; have := hR.1; omega⟩
theorem x_callV {c0 ci N i : Nat} (hM : MX K M' R' u.1 (vr c0 :: as) h Q') (hF : xMF M' a) (hV : xMV M') (hl : xML M.2.1.cls i M'.2.1) (hd : decode M.1 pc = .ok (.invokevirtual i, 3)) (hst : as.reverse ++ vr c0 :: st = st0) (hlen : as.length = a) (hT : xTY c0 = (ci, N)) (hci : ci < 10 ∧ (vwCl[ci]?).map (fun q => q.1) = some M'.2.1.cls) (hc : xC R M u c0) (hR : xRoom R u R') (hw : xcs st ≤ 8) (hm : xMode R M u h R' M')
    (kk : ∀ (v : Option XV) (n' : Nat) (h' : XH), Q' v n' h' → WX K M R Q (n', u.2.1 + R'.2.2.1, u.2.2 + R'.2.2.2) (pc + 3) L (v.toList ++ st) h') : WX K M R Q u pc L st0 h := by
  refine WX.lt hc fun hc => ?_
  intro hmd p e s m args below meth c E H locs ls hH hP hS hlv
  subst hst
  have hts := E.2.2.2.2.2.2.2.1
  have hcf : CallFix p m c M.1 M.2.2.1 s args xTb M.2.1.cls := ⟨E.1, E.2.1, E.2.2.1, E.2.2.2.2.2.2.1, hts⟩
  have hpre := fun (U : State) (hU : U.heap = H) (hW : s.WarmedH U.vm) => x_pre (as := vr c0 :: as) (R' := R') (M' := M') E hH hP hS hmd hm U hU hW
  have hrecv : ∃ cell : Cell, H[K.2.2.1 + c0]? = some cell ∧ cell.vm.isStatics = false ∧ s.vm.findClass M'.2.1.cls = some cell.cls := by
    cases hq : vwCl[ci]? with
    | none => rw [hq] at hci; cases hci.2
    | some q =>
      rw [hq] at hci
      have e1 : q.1 = M'.2.1.cls := Option.some.inj hci.2
      have he : (xw K u.1 h)[c0]? = some (K.2.2.1 + c0, .inr (ci, (List.range N).map fun (k : Nat) => if xFS ci k = 2 then va_rf (xro K (h c0 k)) else .int (Int32.ofInt (h c0 k)))) := by
        rw [xw_get hc.1, hT, xe_obj K _ hci.1]
      have := va_recv E.2.2.2.2.2.2.2.2.1.1 hP hq he
      rw [e1] at this
      exact this
  have hst1 : (as.reverse ++ vr c0 :: st).map (xv K) = (as.map (xv K)).reverse ++ .ref (K.2.2.1 + c0) :: st.map (xv K) := by
    rw [List.map_append, List.map_reverse, List.map_cons]
    show _ ++ Value.ref (xad K c0) :: _ = _
    rw [xad_lt hc.2]
  have e0 : (vr c0 :: as).map (xv K) = Value.ref (K.2.2.1 + c0) :: as.map (xv K) := by
    show Value.ref (xad K c0) :: _ = _
    rw [xad_lt hc.2]
  rw [e0] at hpre
  have hw2 : 2 * (F0 m pc ls ((as.reverse ++ vr c0 :: st).map (xv K))).monitorRoom + ((st.map (xv K)).map fun v => v.category).sum ≤ 8 := by
    rw [xcs_eq]
    exact (by show 2 * 0 + _ ≤ 8; omega)
  rcases hl with hl | ⟨host, hl⟩
  · exact x_run E hH hS hlv hmd hm.1 (va_runV (C := M'.2.1.cls) (b := K.2.2.1 + c0) (As := as.map (xv K)) hcf hM ⟨x_B hts hF (xRoom_of hR) hl, hts _ hV.1, hts _ hV.2⟩ ⟨xPc_blind, hrecv, hpre⟩ rfl (by rw [List.length_map]; exact hlen) hlv.1 hst1 hw2 hd hR.2) kk
  · exact x_run E hH hS hlv hmd hm.1 (va_runVN (C := M'.2.1.cls) (b := K.2.2.1 + c0) (As := as.map (xv K)) hcf hM ⟨x_BN E.2.2.2.2.2.2.2.2.1 hts hF (xRoom_of hR) hl, hts _ hV.1, hts _ hV.2⟩ ⟨xPc_blind, hrecv, hpre⟩ rfl (by rw [List.length_map]; exact hlen) hlv.1 hst1 hw2 hd hR.2) kk
theorem x_callI {c0 i : Nat} (hM : MX K M' R' u.1 (vr c0 :: as) h Q') (hF : xMF M' a) (hV : xMI M') (hr : M'.2.2.2.1 = none) (hl : xML M.2.1.cls i M'.2.1) (hd : decode M.1 pc = .ok (.invokespecial i, 3)) (hst : as.reverse ++ vr c0 :: st = st0) (hlen : as.length = a) (hc : c0 < 1000000) (hR : xRoom R u R') (hw : xcs st ≤ 8) (hm : xMode R M u h R' M')
    (kk : ∀ (v : Option XV) (n' : Nat) (h' : XH), Q' v n' h' → WX K M R Q (n', u.2.1 + R'.2.2.1, u.2.2 + R'.2.2.2) (pc + 3) L (v.toList ++ st) h') : WX K M R Q u pc L st0 h := by
  intro hmd p e s m args below meth c E H locs ls hH hP hS hlv
  obtain ⟨cd, yn, ml, rt, lo⟩ := M'
  have hr : rt = none := hr
  subst hr
  subst hst
  have hts := E.2.2.2.2.2.2.2.1
  have hcf : CallFix p m c M.1 M.2.2.1 s args xTb M.2.1.cls := ⟨E.1, E.2.1, E.2.2.1, E.2.2.2.2.2.2.1, hts⟩
  have hpre := fun (U : State) (hU : U.heap = H) (hW : s.WarmedH U.vm) => x_pre (as := vr c0 :: as) (R' := R') (M' := (cd, yn, ml, none, lo)) E hH hP hS hmd hm U hU hW
  have hst1 : (as.reverse ++ vr c0 :: st).map (xv K) = (as.map (xv K)).reverse ++ .ref (K.2.2.1 + c0) :: st.map (xv K) := by
    rw [List.map_append, List.map_reverse, List.map_cons]
    show _ ++ Value.ref (xad K c0) :: _ = _
    rw [xad_lt hc]
  have e0 : (vr c0 :: as).map (xv K) = Value.ref (K.2.2.1 + c0) :: as.map (xv K) := by
    show Value.ref (xad K c0) :: _ = _
    rw [xad_lt hc]
  rw [e0] at hpre
  have hw2 : 2 * (F0 m pc ls ((as.reverse ++ vr c0 :: st).map (xv K))).monitorRoom + ((st.map (xv K)).map fun v => v.category).sum ≤ 8 := by
    rw [xcs_eq]
    exact (by show 2 * 0 + _ ≤ 8; omega)
  rcases hl with hl | ⟨host, hl⟩
  · have hB := x_B hts hF (xRoom_of hR) hl
    exact x_run E hH hS hlv hmd hm.1 (va_runI (b := K.2.2.1 + c0) (As := as.map (xv K)) hcf hM ⟨hB, hV.2, hts _ hV.1⟩ ⟨xPc_blind, hpre⟩ rfl (by rw [List.length_map]; exact hlen) hlv.1 hst1 hw2 hd hR.2) kk
  · have hB := x_BN E.2.2.2.2.2.2.2.2.1 hts hF (xRoom_of hR) hl
    exact x_run E hH hS hlv hmd hm.1 (va_runIN (b := K.2.2.1 + c0) (As := as.map (xv K)) hcf hM ⟨hB, hV.2, hts _ hV.1⟩ ⟨xPc_blind, hpre⟩ rfl (by rw [List.length_map]; exact hlen) hlv.1 hst1 hw2 hd hR.2) kk
theorem x_callS {i : Nat} (hM : MX K M' R' u.1 as h Q') (hF : xMF M' a) (hV : xMS M') (hl : xML M.2.1.cls i M'.2.1) (hd : decode M.1 pc = .ok (.invokestatic i, 3)) (hst : as.reverse ++ st = st0) (hlen : as.length = a) (hR : xRoom R u R') (hw : xcs st ≤ 8) (hm : xMode R M u h R' M')
    (kk : ∀ (v : Option XV) (n' : Nat) (h' : XH), Q' v n' h' → WX K M R Q (n', u.2.1 + R'.2.2.1, u.2.2 + R'.2.2.2) (pc + 3) L (v.toList ++ st) h') : WX K M R Q u pc L st0 h := by
  intro hmd p e s m args below meth c E H locs ls hH hP hS hlv
  subst hst
  have hts := E.2.2.2.2.2.2.2.1
  have hcf : CallFix p m c M.1 M.2.2.1 s args xTb M.2.1.cls := ⟨E.1, E.2.1, E.2.2.1, E.2.2.2.2.2.2.1, hts⟩
  have hpre := fun (U : State) (hU : U.heap = H) (hW : s.WarmedH U.vm) => x_pre (as := as) (R' := R') (M' := M') E hH hP hS hmd hm U hU hW
  have hst1 : (as.reverse ++ st).map (xv K) = (as.map (xv K)).reverse ++ st.map (xv K) := by
    rw [List.map_append, List.map_reverse]
  have hw2 : 2 * (F0 m pc ls ((as.reverse ++ st).map (xv K))).monitorRoom + ((st.map (xv K)).map fun v => v.category).sum ≤ 8 := by
    rw [xcs_eq]
    exact (by show 2 * 0 + _ ≤ 8; omega)
  rcases hl with hl | ⟨host, hl⟩
  · exact x_run E hH hS hlv hmd hm.1 (va_runS (As := as.map (xv K)) hcf hM ⟨x_B hts hF (xRoom_of hR) hl, hts _ hV⟩ ⟨xPc_blind, hpre⟩ rfl (by rw [List.length_map]; exact hlen) hlv.1 hst1 hw2 hd hR.2) kk
  · exact x_run E hH hS hlv hmd hm.1 (va_runSN (As := as.map (xv K)) hcf hM ⟨x_BN E.2.2.2.2.2.2.2.2.1 hts hF (xRoom_of hR) hl, hts _ hV, trivial⟩ ⟨xPc_blind, hpre⟩ rfl (by rw [List.length_map]; exact hlen) hlv.1 hst1 hw2 hd hR.2) kk
/-! methods that make nothing: an answer that is a number, or none -/
def qI (n : Nat) (P : Int → XH → Prop) : Option XV → Nat → XH → Prop := fun v n' h' => n' = n ∧ ∃ z : Int, v = some (vi z) ∧ P z h'
def qV (n : Nat) (P : XH → Prop) : Option XV → Nat → XH → Prop := fun v n' h' => n' = n ∧ v = none ∧ P h'
abbrev MI (K : XK) (M : XM) (d n : Nat) (as : List XV) (h : XH) (P : Int → XH → Prop) : Prop := MX K M (true, d, 0, 0) n as h (qI n P)
abbrev MV (K : XK) (M : XM) (d n : Nat) (as : List XV) (h : XH) (P : XH → Prop) : Prop := MX K M (true, d, 0, 0) n as h (qV n P)
abbrev WI (K : XK) (M : XM) (d n : Nat) (Q : Option XV → Nat → XH → Prop) (pc : Nat) (L : List (Nat × XV)) (st : List XV) (h : XH) : Prop := WX K M (true, d, 0, 0) Q (n, 0, 0) pc L st h
variable {d d' n : Nat}
theorem x_Vi (p' : Nat) {c0 ci N i : Nat} {P : Int → XH → Prop} (hM : MI K M' d' n (vr c0 :: as) h P) (hF : xMF M' a) (hV : xMV M') (hl : xML M.2.1.cls i M'.2.1) (hd : decode M.1 pc = .ok (.invokevirtual i, 3)) (hst : as.reverse ++ vr c0 :: st = st0) (hlen : as.length = a) (hT : xTY c0 = (ci, N)) (hci : ci < 10 ∧ (vwCl[ci]?).map (fun q => q.1) = some M'.2.1.cls) (hc : c0 < M.2.2.2.2 ∧ c0 < 1000000) (hR : d' + 1 ≤ d) (hw : xcs st ≤ 8) (hm : M'.2.2.2.2 ≤ M.2.2.2.2)
    (hp : pc + 3 = p') (kk : ∀ (z : Int) (h' : XH), P z h' → WI K M d n Q p' L (vi z :: st) h') : WI K M d n Q pc L st0 h := by
  subst hp
  refine x_callV hM hF hV hl hd hst hlen hT hci ⟨Or.inr ⟨rfl, hc.1⟩, hc.2⟩ ⟨hR, Nat.le_refl _, Nat.le_refl _⟩ hw ⟨fun _ => rfl, fun _ => Or.inl ⟨rfl, hm⟩⟩ (fun v n' h' hq => ?_)
  obtain ⟨e1, z, e2, hp⟩ := hq
  have e1 : n' = n := e1
  subst e1; subst e2
  exact kk z h' hp
theorem x_Vv (p' : Nat) {c0 ci N i : Nat} {P : XH → Prop} (hM : MV K M' d' n (vr c0 :: as) h P) (hF : xMF M' a) (hV : xMV M') (hl : xML M.2.1.cls i M'.2.1) (hd : decode M.1 pc = .ok (.invokevirtual i, 3)) (hst : as.reverse ++ vr c0 :: st = st0) (hlen : as.length = a) (hT : xTY c0 = (ci, N)) (hci : ci < 10 ∧ (vwCl[ci]?).map (fun q => q.1) = some M'.2.1.cls) (hc : c0 < M.2.2.2.2 ∧ c0 < 1000000) (hR : d' + 1 ≤ d) (hw : xcs st ≤ 8) (hm : M'.2.2.2.2 ≤ M.2.2.2.2)
    (hp : pc + 3 = p') (kk : ∀ (h' : XH), P h' → WI K M d n Q p' L st h') : WI K M d n Q pc L st0 h := by
  subst hp
  refine x_callV hM hF hV hl hd hst hlen hT hci ⟨Or.inr ⟨rfl, hc.1⟩, hc.2⟩ ⟨hR, Nat.le_refl _, Nat.le_refl _⟩ hw ⟨fun _ => rfl, fun _ => Or.inl ⟨rfl, hm⟩⟩ (fun v n' h' hq => ?_)
  obtain ⟨e1, e2, hp⟩ := hq
  have e1 : n' = n := e1
  subst e1; subst e2
  exact kk h' hp
theorem x_Si (p' : Nat) {i : Nat} {P : Int → XH → Prop} (hM : MI K M' d' n as h P) (hF : xMF M' a) (hV : xMS M') (hl : xML M.2.1.cls i M'.2.1) (hd : decode M.1 pc = .ok (.invokestatic i, 3)) (hst : as.reverse ++ st = st0) (hlen : as.length = a) (hR : d' + 1 ≤ d) (hw : xcs st ≤ 8) (hm : M'.2.2.2.2 ≤ M.2.2.2.2)
    (hp : pc + 3 = p') (kk : ∀ (z : Int) (h' : XH), P z h' → WI K M d n Q p' L (vi z :: st) h') : WI K M d n Q pc L st0 h := by
  subst hp
  refine x_callS hM hF hV hl hd hst hlen ⟨hR, Nat.le_refl _, Nat.le_refl _⟩ hw ⟨fun _ => rfl, fun _ => Or.inl ⟨rfl, hm⟩⟩ (fun v n' h' hq => ?_)
  obtain ⟨e1, z, e2, hp⟩ := hq
  have e1 : n' = n := e1
  subst e1; subst e2
  exact kk z h' hp
theorem x_ri {z : Int} {P : Int → XH → Prop} (hd : decode M.1 pc = .ok (.ireturn, 1)) (hr : M.2.2.2.1 = some .int) (hq : P z h) : WI K M d n (qI n P) pc L [vi z] h := x_ireturn hd hr rfl ⟨rfl, z, rfl, hq⟩
theorem x_rz {z : Int} {P : Int → XH → Prop} (hd : decode M.1 pc = .ok (.ireturn, 1)) (hr : M.2.2.2.1 = some .boolean) (hz : z = 0 ∨ z = 1) (hq : P z h) : WI K M d n (qI n P) pc L [vi z] h := x_zreturn hd hr rfl hz ⟨rfl, z, rfl, hq⟩
theorem x_rv {P : XH → Prop} (hd : decode M.1 pc = .ok (.return_, 1)) (hr : M.2.2.2.1 = none) (hq : P h) : WI K M d n (qV n P) pc L [] h := x_return hd hr rfl ⟨rfl, rfl, hq⟩
end XCALL
