/-! rows of the small machine: what makes cells -/
/-- an entry's own field, its class's own -/
def xLP (own : String) (idx ci k : Nat) : Prop := ∃ (C : String) (T : u_T) (N : Nat), vwCl[ci]? = some (C, T, N) ∧ Cond.fieldLink own idx C (T k).2.1 (T k).2.2.1 ∈ xTb
theorem xw_ext {K : XK} {n : Nat} {h h' : XH} (e : ∀ c, c < n → h' c = h c) : xw K n h' = xw K n h := by
  unfold xw
  apply List.map_congr_left
  intro c hc
  rw [e c (List.mem_range.mp hc)]
theorem xw_new {K : XK} {n : Nat} {h : XH} {r : Int → Int} : xw K (n + 1) (rset h n r) = xw K n h ++ [(K.2.2.1 + n, xe K (xTY n) r)] := by
  rw [← xw_push, xw_ext (h' := rset h n r) (h := h) (fun c hc => rset_c (Nat.ne_of_lt hc)), rset_s]
def xokT (t : FieldType) : Bool := match t with
  | .int => true
  | .boolean => true
  | .object _ => true
  | .array _ => true
  | _ => false
theorem xokT_d {t : FieldType} (q : xokT t = true) : defaultValue t = if xsort t = 2 then Value.null else .int 0 := by
  cases t <;> first | rfl | (exfalso; revert q; decide)
section XNEW
variable {K : XK} {M : XM} {R : XR} {Q : Option XV → Nat → XH → Prop} {u : Nat × Nat × Nat} {pc : Nat} {L : List (Nat × XV)} {st : List XV} {h : XH}
theorem x_newc (p' : Nat) {ci N i : Nat} {C : String} {T : u_T} (hd : decode M.1 pc = .ok (.new i, 3)) (hm : R.1 = false) (hT : xTY u.1 = (ci, N)) (hcl : xCl ci) (hq : vwCl[ci]? = some (C, T, N)) (hl : Cond.classLink M.2.1.cls i C ∈ xTb) (hin : Cond.instantiable C N ∈ xTb) (hii : Cond.initialized C ∈ xTb) (hok : ∀ j, j < N → xokT (xFT ci j) = true) (hu : u.1 < 1000000) (hcc : u.2.1 + 1 ≤ R.2.2.1) (hss : u.2.2 + N ≤ R.2.2.2)
    (hp : pc + 3 = p') (kk : WX K M R Q (u.1 + 1, u.2.1 + 1, u.2.2 + N) p' L (vr u.1 :: st) (rset h u.1 (fun _ => 0))) : WX K M R Q u pc L st h := by
  subst hp
  intro hmd p e s m args below meth c E H locs ls hH hP hS hlv
  obtain ⟨C', T', N', hq', hci, hw, hnm, hty⟩ := hcl
  cases hq.symm.trans hq'
  have hts := E.2.2.2.2.2.2.2.1
  have hK := E.2.2.2.2.2.2.2.2.1.1
  have hKn := hK.1 ci _ hq
  have k2 := fun H1 hz hP1 hS1 => kk (fun q => by rw [hm] at q; cases q) p e s m args below meth c E H1 locs ls hz hP1 hS1 hlv
  refine W.newcK E.1 E.2.1 E.2.2.2.2.2.2.1 (hts _ hl) (hts _ hin) (hts _ hii) rfl hd hcc hss hKn.2.1 rfl fun H1 kC hkC e1 z1 o1 => ?_
  have k3 := k2 H1 (by rw [z1, hH]; rfl) (by
    show va_P _ _ (xw K (u.1 + 1) _) H1
    rw [xw_new]
    refine (hP.kept (fun k x hx => o1 x.1 ((hP k x hx).lt))).app (fun k x hx => ?_)
    have hz : k < 1 := (List.getElem?_eq_some_iff.mp hx).1
    rw [show k = 0 by omega] at hx
    cases hx
    rw [hT, xe_obj K _ hci]
    refine ⟨_, hq, (u_born (xFT ci) hts hw hKn hkC (by rw [← hH]; exact e1) hty).to (fun j hj => ?_)⟩
    have hj2 : ((List.range N).map fun (k : Nat) => if xFS ci k = 2 then va_rf (xro K 0) else Value.int (Int32.ofInt 0))[j]? = some (if xFS ci j = 2 then va_rf (xro K 0) else .int (Int32.ofInt 0)) := by
      rw [List.getElem?_map, List.getElem?_range hj]
      rfl
    have hj3 : vp_V ((List.range N).map fun (k : Nat) => if xFS ci k = 2 then va_rf (xro K 0) else Value.int (Int32.ofInt 0)) j = if xFS ci j = 2 then va_rf (xro K 0) else .int (Int32.ofInt 0) := by
      unfold vp_V
      rw [List.getD_eq_getElem?_getD, hj2]
      rfl
    refine Eq.trans ?_ hj3.symm
    rw [xokT_d (hok j hj)]
    rfl) ⟨Nat.le_trans hS.1 (by omega), fun x h1 h2 => (o1 x (Nat.lt_of_lt_of_le h1 hS.1)).trans (hS.2.1 x h1 h2), hS.2.2⟩
  have e9 : Value.ref H.size = xv K (vr u.1) := by
    show _ = Value.ref (xad K u.1)
    rw [hH, xad_lt hu]
  show W p K.1 e (xrm R) s m args below meth c H1 locs (u.2.1 + 1) (u.2.2 + N) _ (F0 m (pc + 3) ls (Value.ref H.size :: st.map (xv K)))
  rw [e9]
  exact k3
/-- the atypes of int, char and boolean, and the row of classes' place -/
def xAty (at' : ArrayType) (a : Nat) : Prop := (at' = .char ∧ a = 10) ∨ (at' = .int ∧ a = 11) ∨ (at' = .boolean ∧ a = 12)
theorem x_newa (p' : Nat) {a N : Nat} {at' : ArrayType} {z : Int} (hd : decode M.1 pc = .ok (.newarray at', 2)) (hm : R.1 = false) (hT : xTY u.1 = (a, N)) (hat : xAty at' a) (ha : Cond.arrayClass (newarray.typeOf at') ∈ xTb) (hz : z = (N : Int)) (hN : N ≤ 1000) (hu : u.1 < 1000000) (hcc : u.2.1 + 1 ≤ R.2.2.1) (hss : u.2.2 + N ≤ R.2.2.2)
    (hp : pc + 2 = p') (kk : WX K M R Q (u.1 + 1, u.2.1 + 1, u.2.2 + N) p' L (vr u.1 :: st) (rset h u.1 (fun _ => 0))) : WX K M R Q u pc L (vi z :: st) h := by
  subst hp; subst hz
  intro hmd p e s m args below meth c E H locs ls hH hP hS hlv
  have hts := E.2.2.2.2.2.2.2.1
  have hK := E.2.2.2.2.2.2.2.2.1.1
  have k2 := fun H1 hz hP1 hS1 => kk (fun q => by rw [hm] at q; cases q) p e s m args below meth c E H1 locs ls hz hP1 hS1 hlv
  have hn1 : ¬ Int32.ofInt (N : Int) < 0 := fun q => (xin (z := 0) (n := 1) (by omega) (by omega) (by omega)) (by
    exfalso
    exact (xin (z := (N : Int)) (n := N + 1) (by omega) (by omega) (by omega)) (Or.inl q))
  have hn2 : (Int32.ofInt (N : Int)).toNatClampNeg = N := by rw [xclamp (by omega) (by omega)]; omega
  have hby : N * componentBytes (newarray.typeOf at') ≤ 536870912 := by
    rcases hat with ⟨q, -⟩ | ⟨q, -⟩ | ⟨q, -⟩ <;> subst q
    · exact Nat.le_trans (Nat.mul_le_mul_right 2 hN) (by decide)
    · exact Nat.le_trans (Nat.mul_le_mul_right 4 hN) (by decide)
    · exact Nat.le_trans (Nat.mul_le_mul_right 1 hN) (by decide)
  refine va_newaK E.1 E.2.1 (hts _ ha) rfl hd rfl hn1 hn2 hby hcc hss rfl fun H1 cA e1 z1 o1 hAr hNm => ?_
  have k3 := k2 H1 (by rw [z1, hH]; rfl) (by
    show va_P _ _ (xw K (u.1 + 1) _) H1
    rw [xw_new]
    refine (hP.kept (fun k x hx => o1 x.1 ((hP k x hx).lt))).app (fun k x hx => ?_)
    have hz : k < 1 := (List.getElem?_eq_some_iff.mp hx).1
    rw [show k = 0 by omega] at hx
    cases hx
    rcases hat with ⟨q, q2⟩ | ⟨q, q2⟩ | ⟨q, q2⟩ <;> subst q <;> subst q2 <;> rw [hT, xe_arr K _ N _ (by decide) (by decide)]
    · have e5 : some cA = some (K.2.2.2.1 0) := hNm.symm.trans (hK.2 0 _ (xtys_at K 0 _ rfl)).2
      show H1[K.2.2.1 + u.1]? = some (vp_cell (K.2.2.2.1 0) _)
      rw [← Option.some.inj e5, ← hH]
      exact e1
    · have e5 : some cA = some (K.2.2.2.1 1) := hNm.symm.trans (hK.2 1 _ (xtys_at K 1 _ rfl)).2
      show H1[K.2.2.1 + u.1]? = some (vp_cell (K.2.2.2.1 1) _)
      rw [← Option.some.inj e5, ← hH]
      exact e1
    · have e5 : some cA = some (K.2.2.2.1 2) := hNm.symm.trans (hK.2 2 _ (xtys_at K 2 _ rfl)).2
      show H1[K.2.2.1 + u.1]? = some (vp_cell (K.2.2.2.1 2) _)
      rw [← Option.some.inj e5, ← hH]
      exact e1) ⟨Nat.le_trans hS.1 (by omega), fun x h1 h2 => (o1 x (Nat.lt_of_lt_of_le h1 hS.1)).trans (hS.2.1 x h1 h2), hS.2.2⟩
  have e9 : Value.ref H.size = xv K (vr u.1) := by
    show _ = Value.ref (xad K u.1)
    rw [hH, xad_lt hu]
  show W p K.1 e (xrm R) s m args below meth c H1 locs (u.2.1 + 1) (u.2.2 + N) _ (F0 m (pc + 2) ls (Value.ref H.size :: st.map (xv K)))
  rw [e9]
  exact k3
/-- a row of entries or of setups -/
theorem x_newq (p' : Nat) {a N i : Nat} {C : String} {z : Int} (hd : decode M.1 pc = .ok (.anewarray i, 3)) (hm : R.1 = false) (hT : xTY u.1 = (a, N)) (ha : (a = 13 ∧ C = RX1) ∨ (a = 14 ∧ C = RX6)) (hl : Cond.classLink M.2.1.cls i C ∈ xTb) (hz : z = (N : Int)) (hN : N ≤ 1000) (hu : u.1 < 1000000) (hcc : u.2.1 + 1 ≤ R.2.2.1) (hss : u.2.2 + N ≤ R.2.2.2)
    (hp : pc + 3 = p') (kk : WX K M R Q (u.1 + 1, u.2.1 + 1, u.2.2 + N) p' L (vr u.1 :: st) (rset h u.1 (fun _ => 0))) : WX K M R Q u pc L (vi z :: st) h := by
  subst hp; subst hz
  intro hmd p e s m args below meth c E H locs ls hH hP hS hlv
  have hts := E.2.2.2.2.2.2.2.1
  have hXF := E.2.2.2.2.2.2.2.2.1
  have hK := hXF.1
  have k2 := fun H1 hz hP1 hS1 => kk (fun q => by rw [hm] at q; cases q) p e s m args below meth c E H1 locs ls hz hP1 hS1 hlv
  have hn1 : ¬ Int32.ofInt (N : Int) < 0 := fun q => (xin (z := (N : Int)) (n := N + 1) (by omega) (by omega) (by omega)) (Or.inl q)
  have hn2 : (Int32.ofInt (N : Int)).toNatClampNeg = N := by rw [xclamp (by omega) (by omega)]; omega
  have hover : va_AO C s := by
    rcases ha with ⟨-, q⟩ | ⟨-, q⟩ <;> subst q
    · exact hXF.2.1
    · exact hXF.2.2.1
  refine W.anew E.1 E.2.1 E.2.2.2.2.2.2.1 (hts _ hl) (va_AO.use hover) rfl hd rfl hn1 (by rw [hn2]; omega) hcc (by rw [hn2]; exact hss) fun cA kA comp f1 f2 f3 f4 => ?_
  generalize hH1 : H.push ({ cls := cA, slots := Array.replicate (Int32.ofInt (N : Int)).toNatClampNeg .null, vm := .none } : Cell) = H1
  have z1 : H1.size = H.size + 1 := by rw [← hH1, Array.size_push]
  have e1 : H1[H.size]? = some (arrV cA N (fun _ => .null)) := by rw [← hH1, Array.getElem?_push_size, ← arrV_new, hn2]
  have o1 : ∀ q : Nat, q < H.size → H1[q]? = H[q]? := fun q hq => by rw [← hH1, Array.getElem?_push, if_neg (Nat.ne_of_lt hq)]
  have k3 := k2 H1 (by rw [z1, hH]; rfl) (by
    show va_P _ _ (xw K (u.1 + 1) _) H1
    rw [xw_new]
    refine (hP.kept (fun k x hx => o1 x.1 ((hP k x hx).lt))).app (fun k x hx => ?_)
    have hz : k < 1 := (List.getElem?_eq_some_iff.mp hx).1
    rw [show k = 0 by omega] at hx
    cases hx
    rcases ha with ⟨q2, q⟩ | ⟨q2, q⟩ <;> subst q <;> subst q2 <;> rw [hT, xe_ref K _ N _ (by decide)]
    · obtain ⟨-, -, -, -, -, f5⟩ := (hK.2 3 _ (xtys_at K 3 _ rfl)).2
      have e5 : some cA = some (K.2.2.2.1 3) := f1.symm.trans f5
      show H1[K.2.2.1 + u.1]? = some (vp_cell (K.2.2.2.1 3) _)
      rw [← Option.some.inj e5, ← hH]
      exact e1
    · obtain ⟨-, -, -, -, -, f5⟩ := (hK.2 4 _ (xtys_at K 4 _ rfl)).2
      have e5 : some cA = some (K.2.2.2.1 4) := f1.symm.trans f5
      show H1[K.2.2.1 + u.1]? = some (vp_cell (K.2.2.2.1 4) _)
      rw [← Option.some.inj e5, ← hH]
      exact e1) ⟨Nat.le_trans hS.1 (by omega), fun x h1 h2 => (o1 x (Nat.lt_of_lt_of_le h1 hS.1)).trans (hS.2.1 x h1 h2), hS.2.2⟩
  have e9 : Value.ref H.size = xv K (vr u.1) := by
    show _ = Value.ref (xad K u.1)
    rw [hH, xad_lt hu]
  show W p K.1 e (xrm R) s m args below meth c H1 locs (u.2.1 + 1) (u.2.2 + (Int32.ofInt (N : Int)).toNatClampNeg) _ (F0 m (pc + 3) ls (Value.ref H.size :: st.map (xv K)))
  rw [e9, hn2]
  exact k3
/-- a reference put into a final field while its object is made -/
theorem x_pr (p' : Nat) {c0 k ci N i r : Nat} (hl : xLr M.2.1.cls i ci k N) (hd : decode M.1 pc = .ok (.putfield i, 3)) (hm : R.1 = false) (hlp : xLP M.2.1.cls i ci k) (hok : xokT (xFT ci k) = true) (hin : M.2.1.name = "<init>") (hown : (vwCl[ci]?).map (fun q => q.1) = some M.2.1.cls) (hT : xTY c0 = (ci, N)) (hc : c0 < u.1 ∧ c0 < 1000000) (hr : r < 1000000)
    (hp : pc + 3 = p') (kk : WX K M R Q u p' L st (hset h c0 k ((r : Int) + 1))) : WX K M R Q u pc L (vr r :: vr c0 :: st) h := by
  subst hp
  intro hmd p e s m args below meth c E H locs ls hH hP hS hlv
  have k2 := fun H locs hH hP hS => kk (fun q => by rw [hm] at q; cases q) p e s m args below meth c E H locs ls hH hP hS hlv
  obtain ⟨hl1, hs, hN, hfin, hcl⟩ := hl
  obtain ⟨C, T, N', hq, -, hin2, hnm, hty⟩ := hcl
  obtain ⟨hk, -, hTk, hlink⟩ := hl1.inj hq
  have hN2 := xN_of hN.2
  rw [hq] at hN2 hfin hown
  have hN3 : N' = N := Option.some.inj hN2
  have hfin2 : (T k).2.2.2 = true := Option.some.inj hfin
  have hown2 : C = M.2.1.cls := Option.some.inj hown
  subst hN3
  have he : (xw K u.1 h)[c0]? = some (K.2.2.1 + c0, .inr (ci, (List.range N').map fun (k : Nat) => if xFS ci k = 2 then va_rf (xro K (h c0 k)) else .int (Int32.ofInt (h c0 k)))) := by
    rw [xw_get hc.1, hT, xe_obj K _ hN.1]
  have hrv : va_rf (xro K ((r : Int) + 1)) = Value.ref (K.2.2.1 + r) := by
    unfold xro
    rw [if_neg (by omega), show ((r : Int) + 1).toNat - 1 = r by omega]
    rfl
  have hset' : (xw K u.1 h).set c0 (K.2.2.1 + c0, .inr (ci, ((List.range N').map fun (k : Nat) => if xFS ci k = 2 then va_rf (xro K (h c0 k)) else .int (Int32.ofInt (h c0 k))).set k (Value.ref (K.2.2.1 + r)))) = xw K u.1 (hset h c0 k ((r : Int) + 1)) := by
    refine xw_set hc.1 ?_
    rw [hT, xe_obj K _ hN.1]
    congr 2
    apply List.ext_getElem?
    intro j
    by_cases hj : j < N'
    · rw [List.getElem?_map, List.getElem?_range hj, Option.map_some]
      by_cases ejk : j = k
      · subst ejk
        rw [List.getElem?_set_self (by rw [List.length_map, List.length_range]; exact hj)]
        have e1 : hset h c0 (j : Int) ((r : Int) + 1) c0 j = (r : Int) + 1 := by unfold hset; rw [if_pos ⟨rfl, rfl⟩]
        rw [e1, if_pos hs, hrv]
      · rw [List.getElem?_set_ne (Ne.symm ejk), List.getElem?_map, List.getElem?_range hj, Option.map_some]
        have e1 : hset h c0 (k : Int) ((r : Int) + 1) c0 j = h c0 j := by unfold hset; rw [if_neg (fun q => ejk (Int.natCast_inj.mp q.2))]
        rw [e1]
    · rw [List.getElem?_eq_none (by rw [List.length_set, List.length_map, List.length_range]; omega), List.getElem?_eq_none (by rw [List.length_map, List.length_range]; omega)]
  have href : (∃ C2, xFT ci k = .object C2) ∨ (∃ t2, xFT ci k = .array t2) ∨ xokT (xFT ci k) = false := by
    unfold xFS at hs
    cases ht : xFT ci k <;> rw [ht] at hs <;> first | exact Or.inl ⟨_, rfl⟩ | exact Or.inr (Or.inl ⟨_, rfl⟩) | exact Or.inr (Or.inr rfl) | (exfalso; revert hs; decide)
  have hna : narrow (xFT ci k) (Value.ref (K.2.2.1 + r)) = Value.ref (K.2.2.1 + r) := by
    cases xFT ci k <;> rfl
  have hfi : fits (xFT ci k) (Value.ref (K.2.2.1 + r)) = true := by
    rcases href with ⟨_, q⟩ | ⟨_, q⟩ | q
    · rw [q]; rfl
    · rw [q]; rfl
    · rw [q] at hok; cases hok
  show W p K.1 e (xrm R) s m args below meth c H locs u.2.1 u.2.2 _ (F0 m pc ls (.ref (xad K r) :: .ref (xad K c0) :: st.map (xv K)))
  rw [xad_lt hc.2, xad_lt hr]
  have hm2 : meth.name = "<init>" := E.2.2.2.2.2.1.trans hin
  obtain ⟨C3, T3, N3, q3, hlink3⟩ := hlp
  cases hq.symm.trans q3
  refine xputF (C := C) (T := T) (N := N') E.1 E.2.1 E.2.2.2.2.2.2.2.1 hin2 (xFT ci) hty hnm E.2.2.2.2.2.2.1 E.2.2.2.2.2.2.2.2.1.1 hP xw_D hS he hq hk (E.2.2.2.2.2.2.2.1 _ hlink3) hTk hfin2 hm2 hown2 hna hfi (by rw [List.length_map, List.length_range]; exact hk) hd (fun H1 locs1 hz1 hP1 hS1 => ?_)
  rw [hset'] at hP1
  exact k2 H1 locs1 (hz1.trans hH) hP1 hS1
/-- a made object put into a row of objects -/
theorem x_aast (p' : Nat) {c0 N a j r cr : Nat} {i : Int} (hd : decode M.1 pc = .ok (.aastore, 1)) (hm : R.1 = false) (hT : xTY c0 = (a, N)) (ha : (a = 13 ∧ cr = 1) ∨ (a = 14 ∧ cr = 6)) (hTr : (xTY r).1 = cr) (hc : c0 < u.1 ∧ c0 < 1000000) (hr : r < u.1 ∧ r < 1000000) (hN : N < 2147483648) (hi : i = (j : Int)) (h1 : j < N)
    (hp : pc + 1 = p') (kk : WX K M R Q u p' L st (hset h c0 j ((r : Int) + 1))) : WX K M R Q u pc L (vr r :: vi i :: vr c0 :: st) h := by
  subst hp; subst hi
  intro hmd p e s m args below meth c E H locs ls hH hP hS hlv
  have k2 := fun H locs hH hP hS => kk (fun q => by rw [hm] at q; cases q) p e s m args below meth c E H locs ls hH hP hS hlv
  have hK := E.2.2.2.2.2.2.2.2.1.1
  have he : (xw K u.1 h)[c0]? = some (K.2.2.1 + c0, .inl (K.2.2.2.1 (a - 10), N, .inr (.inr (.inr (.inr fun (j : Nat) => xro K (h c0 j)))))) := by
    rw [xw_get hc.1, hT, xe_ref K a N _ (by rcases ha with q | q <;> rw [q.1] <;> decide)]
  have her : (xw K u.1 h)[r]? = some (K.2.2.1 + r, .inr (cr, (List.range (xTY r).2).map fun (k : Nat) => if xFS cr k = 2 then va_rf (xro K (h r k)) else .int (Int32.ofInt (h r k)))) := by
    rw [xw_get hr.1, xe_obj K _ (by rw [hTr]; rcases ha with q | q <;> rw [q.2] <;> decide), hTr]
  show W p K.1 e (xrm R) s m args below meth c H locs u.2.1 u.2.2 _ (F0 m pc ls (.ref (xad K r) :: .int (Int32.ofInt j) :: .ref (xad K c0) :: st.map (xv K)))
  rw [xad_lt hc.2, xad_lt hr.2]
  have e1 : (Int32.ofInt (j : Int)).toNatClampNeg = j := by rw [xclamp (by omega) (by omega)]; omega
  have hin := xin (z := (j : Int)) (n := N) (by omega) (by omega) hN
  have hlt : (Int32.ofInt (j : Int)).toNatClampNeg < N := by rw [e1]; exact h1
  have hset' : (xw K u.1 h).set c0 (K.2.2.1 + c0, .inl (K.2.2.2.1 (a - 10), N, .inr (.inr (.inr (.inr (va_up (fun (j : Nat) => xro K (h c0 j)) j (some (K.2.2.1 + r)))))))) = xw K u.1 (hset h c0 j ((r : Int) + 1)) := by
    refine xw_set hc.1 ?_
    rw [hT, xe_ref K a N _ (by rcases ha with q | q <;> rw [q.1] <;> decide)]
    congr 7
    funext q
    unfold va_up
    by_cases hq : q = j
    · subst hq
      have e2 : hset h c0 (q : Int) ((r : Int) + 1) c0 q = (r : Int) + 1 := by unfold hset; rw [if_pos ⟨rfl, rfl⟩]
      rw [if_pos rfl, e2]
      unfold xro
      rw [if_neg (by omega), show ((r : Int) + 1).toNat - 1 = r by omega]
    · have e2 : hset h c0 (j : Int) ((r : Int) + 1) c0 q = h c0 q := by unfold hset; rw [if_neg (fun z => hq (Int.natCast_inj.mp z.2))]
      rw [if_neg hq, e2]
  obtain ⟨rr, hrr, cellV, g1, g2, g3, -⟩ := hP r _ her
  have hcr : ∃ C, (C = RX1 ∨ C = RX6) ∧ rr.1 = C ∧ ∃ ty, ty = FieldType.object C ∧ (xtys K)[a - 10]? = some (K.2.2.2.1 (a - 10), ty) := by
    rcases ha with ⟨q, q2⟩ | ⟨q, q2⟩
    · subst q; subst q2
      cases hrr
      exact ⟨RX1, Or.inl rfl, rfl, _, rfl, xtys_at K 3 _ rfl⟩
    · subst q; subst q2
      cases hrr
      exact ⟨RX6, Or.inr rfl, rfl, _, rfl, xtys_at K 4 _ rfl⟩
  obtain ⟨C, -, hC2, ty, hty, hta⟩ := hcr
  subst hty
  have hcls := (hK.1 cr rr hrr).2
  obtain ⟨kA, comp, k3, k4, k5, -⟩ := (hK.2 (a - 10) _ hta).2
  rw [hC2] at hcls
  have hcomp : comp = K.2.1.1 cr := Option.some.inj (k5.symm.trans hcls.1)
  subst hcomp
  obtain ⟨kC, hkC, -⟩ := hcls.2
  refine W.aast E.1 E.2.1 (hP c0 _ he) (fun q h => by cases h) (fun h => by cases h) k3 k4 rfl hkC ⟨fun q => hin (Or.inl q), by show _ < (arrV _ _ _).slots.size; rw [arrV_size]; exact hlt⟩ g1 (fun q h => by rw [g3] at h; cases h) (by rw [g2]; exact hkC) (by rw [g2]; exact va_assign hcls) rfl rfl hd fun H1 e5 z1 oq => ?_
  refine k2 H1 _ (z1.trans hH) ?_ (hS.put z1 oq (xw_D.2 c0 _ he))
  rw [← hset']
  refine hP.set xw_D he ?_ oq
  show H1[K.2.2.1 + c0]? = some (vp_cell _ _)
  rw [e5, e1]
  rw [vp_cell_q, vp_cell_q, arrV_store]
  congr 2
  funext q
  by_cases hq : q = j
  · subst hq
    simp [updV, va_up, va_rf]
  · simp [updV, va_up, hq]
/-- Object's own constructor -/
theorem x_obj (p' : Nat) {c0 i : Nat} (hd : decode M.1 pc = .ok (.invokespecial i, 3)) (hl : Cond.methodLink M.2.1.cls i (⟨"java/lang/Object", "<init>", "()V"⟩ : MethodName) ∈ xTb) (hR : 1 ≤ R.2.1) (hw : xcs st ≤ 8)
    (hp : pc + 3 = p') (kk : WX K M R Q u p' L st h) : WX K M R Q u pc L (vr c0 :: st) h := by
  subst hp
  intro hmd p e s m args below meth c E H locs ls hH hP hS hlv
  have k2 := kk hmd p e s m args below meth c E H locs ls hH hP hS hlv
  have hts := E.2.2.2.2.2.2.2.1
  refine W.objInit E.1 E.2.1 E.2.2.2.2.2.2.1 (hts _ hl) (hts _ (xTb_mem 77 (by decide +kernel) rfl)) (hts _ (xTb_mem 78 (by decide +kernel) rfl)) rfl (by rw [E.2.2.1]; exact hlv.1) rfl hd hR ?_ k2
  rw [xcs_eq]
  show 2 * 0 + _ + 12 ≤ 38 * R.2.1
  omega
end XNEW
