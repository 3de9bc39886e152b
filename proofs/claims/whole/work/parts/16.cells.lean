/-! rows of the small machine: fields by their links, arrays, ends -/
def xNs : List Nat := [6, 4, 2, 16, 4, 17, 4, 4, 7, 31]
def xLi (own : String) (idx ci k N : Nat) : Prop := xLF own idx ci k ∧ xFS ci k = 0 ∧ (ci < 10 ∧ xNs[ci]? = some N) ∧ (vwCl[ci]?).map (fun q => (q.2.1 k).2.2.2) = some false ∧ xCl ci
def xLz (own : String) (idx ci k N : Nat) : Prop := xLF own idx ci k ∧ xFS ci k = 1 ∧ (ci < 10 ∧ xNs[ci]? = some N) ∧ (vwCl[ci]?).map (fun q => (q.2.1 k).2.2.2) = some false ∧ xCl ci
def xLr (own : String) (idx ci k N : Nat) : Prop := xLF own idx ci k ∧ xFS ci k = 2 ∧ (ci < 10 ∧ xNs[ci]? = some N) ∧ (vwCl[ci]?).map (fun q => (q.2.1 k).2.2.2) = some true ∧ xCl ci
theorem xRF_arr {c N a : Nat} (h : xTY c = (a, N)) (ha : a = 10 ∨ a = 11 ∨ a = 12) (j : Nat) : xRF c j = 0 := by
  have h1 : (xTY c).1 = a := by rw [h]
  unfold xRF
  by_cases c8 : c < 8
  · rw [if_pos c8]
    have : c = 0 ∨ c = 1 ∨ c = 2 ∨ c = 3 ∨ c = 4 ∨ c = 5 ∨ c = 6 ∨ c = 7 := by omega
    rcases this with e | e | e | e | e | e | e | e <;> subst e <;> first | rfl | (exfalso; revert h1; show ¬ (_ = a); rcases ha with q | q | q <;> subst q <;> decide)
  · rw [if_neg c8]
    by_cases c2 : c < 192
    · rw [if_pos c2, h1]
      rcases ha with q | q | q <;> subst q <;> rfl
    · rw [if_neg c2]
      have key : ∀ x, (xTY x).1 ≠ 10 → (xTY x).1 ≠ 11 → (xTY x).1 ≠ 12 → c = x → False := fun x h10 h11 h12 e => by
        subst e
        rcases ha with q | q | q <;> subst q
        · exact h10 h1
        · exact h11 h1
        · exact h12 h1
      rw [if_neg (fun q => key 192 (by decide) (by decide) (by decide) q), if_neg (fun q => key 194 (by decide) (by decide) (by decide) q)]
      by_cases c3 : c < 246
      · rw [if_pos c3]
      · rw [if_neg c3, if_neg (fun q => key 246 (by decide) (by decide) (by decide) q), if_neg (fun q => key 254 (by decide) (by decide) (by decide) q), if_neg (fun q => key 255 (by decide) (by decide) (by decide) q), if_neg (fun q => key 259 (by decide) (by decide) (by decide) q)]
theorem xXS.arr {n : Nat} {h : XH} {c N a : Nat} {i z : Int} (hs : xXS n h) (hT : xTY c = (a, N)) (ha : a = 10 ∨ a = 11 ∨ a = 12) : xXS n (hset h c i z) := by
  intro c' k' h1 h2
  unfold hset
  rw [if_neg (fun q => by obtain ⟨e, -⟩ := q; subst e; exact h2 (xRF_arr hT ha k'))]
  exact hs c' k' h1 h2
section XCELL
variable {K : XK} {M : XM} {R : XR} {Q : Option XV → Nat → XH → Prop} {u : Nat × Nat × Nat} {pc : Nat} {L : List (Nat × XV)} {st : List XV} {h : XH}
def xC (R : XR) (M : XM) (u : Nat × Nat × Nat) (c0 : Nat) : Prop := (c0 < u.1 ∨ (R.1 = true ∧ c0 < M.2.2.2.2)) ∧ c0 < 1000000
theorem WX.lt {c0 : Nat} (hc : xC R M u c0) (kk : c0 < u.1 ∧ c0 < 1000000 → WX K M R Q u pc L st h) : WX K M R Q u pc L st h := by
  refine WX.md fun md => kk ⟨?_, hc.2⟩
  rcases hc.1 with q | ⟨q1, q2⟩
  · exact q
  · exact Nat.lt_of_lt_of_le q2 (md q1).1
theorem x_gi (p' : Nat) (kz : Int) {c0 k ci N i : Nat} (hkz : (k : Int) = kz) (hl : xLi M.2.1.cls i ci k N) (hd : decode M.1 pc = .ok (.getfield i, 3)) (hT : xTY c0 = (ci, N)) (hc : xC R M u c0)
    (hp : pc + 3 = p') (kk : WX K M R Q u p' L (vi (h c0 kz) :: st) h) : WX K M R Q u pc L (vr c0 :: st) h := by
  subst hp
  exact WX.lt hc fun hc => x_getf hd hl.1 hT (Or.inl hl.2.1) hl.2.2.1 hc (by rw [hkz]; exact kk)
theorem x_gz (p' : Nat) (kz : Int) {c0 k ci N i : Nat} (hkz : (k : Int) = kz) (hl : xLz M.2.1.cls i ci k N) (hd : decode M.1 pc = .ok (.getfield i, 3)) (hT : xTY c0 = (ci, N)) (hc : xC R M u c0)
    (hp : pc + 3 = p') (kk : WX K M R Q u p' L (vi (h c0 kz) :: st) h) : WX K M R Q u pc L (vr c0 :: st) h := by
  subst hp
  exact WX.lt hc fun hc => x_getf hd hl.1 hT (Or.inr hl.2.1) hl.2.2.1 hc (by rw [hkz]; exact kk)
theorem x_gr (p' : Nat) {c0 k ci N i : Nat} (r : Nat) (hl : xLr M.2.1.cls i ci k N) (hd : decode M.1 pc = .ok (.getfield i, 3)) (hT : xTY c0 = (ci, N)) (hr : xRF c0 k = r + 1) (hc : c0 < M.2.2.2.2 ∧ c0 < 1000000) (hr2 : r < 1000000) (hmd : R.1 = true)
    (hp : pc + 3 = p') (kk : WX K M R Q u p' L (vr r :: st) h) : WX K M R Q u pc L (vr c0 :: st) h := by
  subst hp
  exact x_getr hd hl.1 hT hl.2.1 hl.2.2.1 hc hr hr2 hmd kk
theorem x_gr0 (p' : Nat) {c0 k ci N i : Nat} (r : Nat) (hl : xLr M.2.1.cls i ci k N) (hd : decode M.1 pc = .ok (.getfield i, 3)) (hT : xTY c0 = (ci, N)) (hr : h c0 k = (r : Int) + 1) (hc : c0 < u.1 ∧ c0 < 1000000) (hr2 : r < 1000000)
    (hp : pc + 3 = p') (kk : WX K M R Q u p' L (vr r :: st) h) : WX K M R Q u pc L (vr c0 :: st) h := by
  subst hp
  exact x_getr0 hd hl.1 hT hl.2.1 hl.2.2.1 hc hr hr2 kk
theorem x_pi (p' : Nat) (kz : Int) {c0 k ci N i : Nat} {z : Int} (hkz : (k : Int) = kz) (hl : xLi M.2.1.cls i ci k N) (hd : decode M.1 pc = .ok (.putfield i, 3)) (hT : xTY c0 = (ci, N)) (hRF : xRF c0 k = 0) (hc : xC R M u c0)
    (hp : pc + 3 = p') (kk : WX K M R Q u p' L st (hset h c0 kz z)) : WX K M R Q u pc L (vi z :: vr c0 :: st) h := by
  subst hp
  exact WX.lt hc fun hc => x_putf hd hl.1 hl.2.2.2.2 hT (Or.inl hl.2.1) hl.2.2.1 hl.2.2.2.1 hc hRF (by rw [hkz]; exact kk)
theorem x_pz (p' : Nat) (kz : Int) {c0 k ci N i : Nat} {z : Int} (hkz : (k : Int) = kz) (hl : xLz M.2.1.cls i ci k N) (hd : decode M.1 pc = .ok (.putfield i, 3)) (hT : xTY c0 = (ci, N)) (hRF : xRF c0 k = 0) (hc : xC R M u c0) (hz : z = 0 ∨ z = 1)
    (hp : pc + 3 = p') (kk : WX K M R Q u p' L st (hset h c0 kz z)) : WX K M R Q u pc L (vi z :: vr c0 :: st) h := by
  subst hp
  exact WX.lt hc fun hc => x_putf hd hl.1 hl.2.2.2.2 hT (Or.inr ⟨hl.2.1, hz⟩) hl.2.2.1 hl.2.2.2.1 hc hRF (by rw [hkz]; exact kk)
theorem xtys_at (K : XK) (j : Nat) (ty : FieldType) (h : [FieldType.char, .int, .boolean, .object RX1, .object RX6, .array .int][j]? = some ty) : (xtys K)[j]? = some (K.2.2.2.1 j, ty) := by
  have hj : j < 6 := (List.getElem?_eq_some_iff.mp h).1
  have : j = 0 ∨ j = 1 ∨ j = 2 ∨ j = 3 ∨ j = 4 ∨ j = 5 := by omega
  rcases this with e | e | e | e | e | e <;> subst e <;> cases h <;> rfl
theorem x_iaload (p' : Nat) {c0 N : Nat} {i : Int} (hd : decode M.1 pc = .ok (.iaload, 1)) (hT : xTY c0 = (11, N)) (hc : xC R M u c0) (hN : N < 2147483648) (h0 : 0 ≤ i) (h1 : i < N)
    (hp : pc + 1 = p') (kk : WX K M R Q u p' L (vi (h c0 i) :: st) h) : WX K M R Q u pc L (vi i :: vr c0 :: st) h := by
  subst hp
  refine WX.lt hc fun hc => ?_
  intro hmd p e s m args below meth c E H locs ls hH hP hS hlv
  have k2 := kk hmd p e s m args below meth c E H locs ls hH hP hS hlv
  have he : (xw K u.1 h)[c0]? = some (K.2.2.1 + c0, .inl (K.2.2.2.1 1, N, .inl fun (j : Nat) => Int32.ofInt (h c0 j))) := by
    rw [xw_get hc.1, hT, xe_arr K 11 N _ (by decide) (by decide)] <;> rfl
  show W p K.1 e (xrm R) s m args below meth c H locs u.2.1 u.2.2 _ (F0 m pc ls (.int (Int32.ofInt i) :: .ref (xad K c0) :: st.map (xv K)))
  rw [xad_lt hc.2]
  refine va_iald E.1 E.2.1 E.2.2.2.2.2.2.2.2.1.1 hP c0 1 he (xtys_at K 1 _ rfl) (xin h0 h1 hN) hd ?_
  have e1 : ((Int32.ofInt i).toNatClampNeg : Int) = i := by rw [xclamp h0 (by omega)]; omega
  show W p K.1 e (xrm R) s m args below meth c H locs u.2.1 u.2.2 _ (F0 m (pc + 1) ls (.int (Int32.ofInt (h c0 ((Int32.ofInt i).toNatClampNeg : Int))) :: st.map (xv K)))
  rw [e1]
  exact k2
theorem x_baload (p' : Nat) {c0 N : Nat} {i : Int} (hd : decode M.1 pc = .ok (.baload, 1)) (hT : xTY c0 = (12, N)) (hc : xC R M u c0) (hN : N < 2147483648) (h0 : 0 ≤ i) (h1 : i < N)
    (hp : pc + 1 = p') (kk : WX K M R Q u p' L (vi (h c0 i) :: st) h) : WX K M R Q u pc L (vi i :: vr c0 :: st) h := by
  subst hp
  refine WX.lt hc fun hc => ?_
  intro hmd p e s m args below meth c E H locs ls hH hP hS hlv
  have k2 := kk hmd p e s m args below meth c E H locs ls hH hP hS hlv
  have he : (xw K u.1 h)[c0]? = some (K.2.2.1 + c0, .inl (K.2.2.2.1 2, N, .inl fun (j : Nat) => Int32.ofInt (h c0 j))) := by
    rw [xw_get hc.1, hT, xe_arr K 12 N _ (by decide) (by decide)] <;> rfl
  show W p K.1 e (xrm R) s m args below meth c H locs u.2.1 u.2.2 _ (F0 m pc ls (.int (Int32.ofInt i) :: .ref (xad K c0) :: st.map (xv K)))
  rw [xad_lt hc.2]
  refine va_zald E.1 E.2.1 E.2.2.2.2.2.2.2.2.1.1 hP c0 2 he (xtys_at K 2 _ rfl) (xin h0 h1 hN) hd ?_
  have e1 : ((Int32.ofInt i).toNatClampNeg : Int) = i := by rw [xclamp h0 (by omega)]; omega
  show W p K.1 e (xrm R) s m args below meth c H locs u.2.1 u.2.2 _ (F0 m (pc + 1) ls (.int (Int32.ofInt (h c0 ((Int32.ofInt i).toNatClampNeg : Int))) :: st.map (xv K)))
  rw [e1]
  exact k2
theorem x_caload (p' : Nat) {c0 N : Nat} {i : Int} (hd : decode M.1 pc = .ok (.caload, 1)) (hT : xTY c0 = (10, N)) (hc : xC R M u c0) (hN : N < 2147483648) (h0 : 0 ≤ i) (h1 : i < N)
    (hp : pc + 1 = p') (kk : WX K M R Q u p' L (vi (h c0 i) :: st) h) : WX K M R Q u pc L (vi i :: vr c0 :: st) h := by
  subst hp
  refine WX.lt hc fun hc => ?_
  intro hmd p e s m args below meth c E H locs ls hH hP hS hlv
  have k2 := kk hmd p e s m args below meth c E H locs ls hH hP hS hlv
  have he : (xw K u.1 h)[c0]? = some (K.2.2.1 + c0, .inl (K.2.2.2.1 0, N, .inl fun (j : Nat) => Int32.ofInt (h c0 j))) := by
    rw [xw_get hc.1, hT, xe_arr K 10 N _ (by decide) (by decide)] <;> rfl
  show W p K.1 e (xrm R) s m args below meth c H locs u.2.1 u.2.2 _ (F0 m pc ls (.int (Int32.ofInt i) :: .ref (xad K c0) :: st.map (xv K)))
  rw [xad_lt hc.2]
  refine va_cald E.1 E.2.1 E.2.2.2.2.2.2.2.2.1.1 hP c0 0 he (xtys_at K 0 _ rfl) (xin h0 h1 hN) hd ?_
  have e1 : ((Int32.ofInt i).toNatClampNeg : Int) = i := by rw [xclamp h0 (by omega)]; omega
  show W p K.1 e (xrm R) s m args below meth c H locs u.2.1 u.2.2 _ (F0 m (pc + 1) ls (.int (Int32.ofInt (h c0 ((Int32.ofInt i).toNatClampNeg : Int))) :: st.map (xv K)))
  rw [e1]
  exact k2
theorem xarr_set {K : XK} {n c0 a N : Nat} {h : XH} {i z : Int} {w : Int32} (hc : c0 < n) (hT : xTY c0 = (a, N)) (ha : a = 10 ∨ a = 11 ∨ a = 12) (h0 : 0 ≤ i) (h1 : i < 2147483648) (hw : w = Int32.ofInt z) :
    (xw K n h).set c0 (K.2.2.1 + c0, .inl (K.2.2.2.1 (a - 10), N, .inl (upd (fun (j : Nat) => Int32.ofInt (h c0 j)) (Int32.ofInt i).toNatClampNeg w))) = xw K n (hset h c0 i z) := by
  refine xw_set hc ?_
  rw [hT, xe_arr K a N _ (by omega) (by omega)]
  congr 3
  congr 1
  funext j
  unfold upd hset
  rw [xclamp h0 h1]
  by_cases hj : j = i.toNat
  · rw [if_pos hj, if_pos ⟨rfl, by omega⟩, hw]
  · rw [if_neg hj, if_neg (fun q => hj (by omega))]
theorem x_iastore (p' : Nat) {c0 N : Nat} {i z : Int} (hd : decode M.1 pc = .ok (.iastore, 1)) (hT : xTY c0 = (11, N)) (hc : xC R M u c0) (hN : N < 2147483648) (h0 : 0 ≤ i) (h1 : i < N) 
    (hp : pc + 1 = p') (kk : WX K M R Q u p' L st (hset h c0 i z)) : WX K M R Q u pc L (vi z :: vi i :: vr c0 :: st) h := by
  subst hp
  refine WX.lt hc fun hc => ?_
  intro hmd p e s m args below meth c E H locs ls hH hP hS hlv
  have k2 := fun H1 locs1 hH1 hP1 hS1 => kk (fun q => ⟨(hmd q).1, (hmd q).2.arr hT (by decide)⟩) p e s m args below meth c E H1 locs1 ls hH1 hP1 hS1 hlv
  have he : (xw K u.1 h)[c0]? = some (K.2.2.1 + c0, .inl (K.2.2.2.1 1, N, .inl fun (j : Nat) => Int32.ofInt (h c0 j))) := by
    rw [xw_get hc.1, hT, xe_arr K 11 N _ (by decide) (by decide)] <;> rfl
  show W p K.1 e (xrm R) s m args below meth c H locs u.2.1 u.2.2 _ (F0 m pc ls (.int (Int32.ofInt z) :: .int (Int32.ofInt i) :: .ref (xad K c0) :: st.map (xv K)))
  rw [xad_lt hc.2]
  have hlt : (Int32.ofInt i).toNatClampNeg < N := by rw [xclamp h0 (by omega)]; omega
  refine W.iast E.1 E.2.1 (hP c0 _ he) ((E.2.2.2.2.2.2.2.2.1.1.2 1 _ (xtys_at K 1 _ rfl)).1 N (fun (j : Nat) => .int (Int32.ofInt (h c0 j)))) (fun q => by cases q) (by show ¬ (Int32.ofInt i < 0 ∨ (arrV _ _ _).slots.size ≤ _); rw [arrV_size]; exact xin h0 h1 hN) rfl rfl hd fun H1 e1 z1 oq => ?_
  have hP1 : va_P K.2.1 vwCl ((xw K u.1 h).set c0 (K.2.2.1 + c0, .inl (K.2.2.2.1 (11 - 10), N, .inl (upd (fun (j : Nat) => Int32.ofInt (h c0 j)) (Int32.ofInt i).toNatClampNeg ((Int32.ofInt z)))))) H1 := by
    refine hP.set xw_D he ?_ oq
    show H1[K.2.2.1 + c0]? = some (vp_cell _ _)
    rw [e1]
    rw [vp_cell_i, vp_cell_i, arrV_store]
    congr 2
    funext q
    by_cases hq : q = (Int32.ofInt i).toNatClampNeg
    · subst hq
      simp [updV, upd, vp_nar]
      try rfl
    · simp [updV, upd, hq]
  rw [xarr_set (z := z) hc.1 hT (by decide) h0 (by omega) rfl] at hP1
  exact k2 H1 _ (z1.trans hH) hP1 (hS.put z1 oq (xw_D.2 c0 _ he))
theorem x_bastore (p' : Nat) {c0 N : Nat} {i z : Int} (hd : decode M.1 pc = .ok (.bastore, 1)) (hT : xTY c0 = (12, N)) (hc : xC R M u c0) (hN : N < 2147483648) (h0 : 0 ≤ i) (h1 : i < N) (hz : z = 0 ∨ z = 1) 
    (hp : pc + 1 = p') (kk : WX K M R Q u p' L st (hset h c0 i z)) : WX K M R Q u pc L (vi z :: vi i :: vr c0 :: st) h := by
  subst hp
  refine WX.lt hc fun hc => ?_
  intro hmd p e s m args below meth c E H locs ls hH hP hS hlv
  have k2 := fun H1 locs1 hH1 hP1 hS1 => kk (fun q => ⟨(hmd q).1, (hmd q).2.arr hT (by decide)⟩) p e s m args below meth c E H1 locs1 ls hH1 hP1 hS1 hlv
  have he : (xw K u.1 h)[c0]? = some (K.2.2.1 + c0, .inl (K.2.2.2.1 2, N, .inl fun (j : Nat) => Int32.ofInt (h c0 j))) := by
    rw [xw_get hc.1, hT, xe_arr K 12 N _ (by decide) (by decide)] <;> rfl
  show W p K.1 e (xrm R) s m args below meth c H locs u.2.1 u.2.2 _ (F0 m pc ls (.int (Int32.ofInt z) :: .int (Int32.ofInt i) :: .ref (xad K c0) :: st.map (xv K)))
  rw [xad_lt hc.2]
  have hlt : (Int32.ofInt i).toNatClampNeg < N := by rw [xclamp h0 (by omega)]; omega
  refine W.zast E.1 E.2.1 (hP c0 _ he) ((E.2.2.2.2.2.2.2.2.1.1.2 2 _ (xtys_at K 2 _ rfl)).1 N (fun (j : Nat) => .int (Int32.ofInt (h c0 j)))) (fun q => by cases q) (by show ¬ (Int32.ofInt i < 0 ∨ (arrV _ _ _).slots.size ≤ _); rw [arrV_size]; exact xin h0 h1 hN) rfl rfl hd fun H1 e1 z1 oq => ?_
  have hP1 : va_P K.2.1 vwCl ((xw K u.1 h).set c0 (K.2.2.1 + c0, .inl (K.2.2.2.1 (12 - 10), N, .inl (upd (fun (j : Nat) => Int32.ofInt (h c0 j)) (Int32.ofInt i).toNatClampNeg (vp_nar .boolean (Int32.ofInt z)))))) H1 := by
    refine hP.set xw_D he ?_ oq
    show H1[K.2.2.1 + c0]? = some (vp_cell _ _)
    rw [e1]
    rw [vp_cell_i, vp_cell_i, arrV_store]
    congr 2
    funext q
    by_cases hq : q = (Int32.ofInt i).toNatClampNeg
    · subst hq
      simp [updV, upd, vp_nar]
      try rfl
    · simp [updV, upd, hq]
  rw [xarr_set (z := z) hc.1 hT (by decide) h0 (by omega) (by rcases hz with q | q <;> subst q <;> rfl)] at hP1
  exact k2 H1 _ (z1.trans hH) hP1 (hS.put z1 oq (xw_D.2 c0 _ he))
theorem xnar_char {z : Int} (hz : 0 ≤ z ∧ z < 65536) : vp_nar .char (Int32.ofInt z) = Int32.ofInt z := by
  obtain ⟨n, rfl⟩ := Int.eq_ofNat_of_zero_le hz.1
  have := (pk_charN (q := n) (by omega)).1
  unfold vp_nar
  show (match narrow .char (.int (nI n)) with | .int y => y | _ => 0) = nI n
  rw [this]
theorem x_castore (p' : Nat) {c0 N : Nat} {i z : Int} (hd : decode M.1 pc = .ok (.castore, 1)) (hT : xTY c0 = (10, N)) (hc : xC R M u c0) (hN : N < 2147483648) (h0 : 0 ≤ i) (h1 : i < N) (hz : 0 ≤ z ∧ z < 65536) 
    (hp : pc + 1 = p') (kk : WX K M R Q u p' L st (hset h c0 i z)) : WX K M R Q u pc L (vi z :: vi i :: vr c0 :: st) h := by
  subst hp
  refine WX.lt hc fun hc => ?_
  intro hmd p e s m args below meth c E H locs ls hH hP hS hlv
  have k2 := fun H1 locs1 hH1 hP1 hS1 => kk (fun q => ⟨(hmd q).1, (hmd q).2.arr hT (by decide)⟩) p e s m args below meth c E H1 locs1 ls hH1 hP1 hS1 hlv
  have he : (xw K u.1 h)[c0]? = some (K.2.2.1 + c0, .inl (K.2.2.2.1 0, N, .inl fun (j : Nat) => Int32.ofInt (h c0 j))) := by
    rw [xw_get hc.1, hT, xe_arr K 10 N _ (by decide) (by decide)] <;> rfl
  show W p K.1 e (xrm R) s m args below meth c H locs u.2.1 u.2.2 _ (F0 m pc ls (.int (Int32.ofInt z) :: .int (Int32.ofInt i) :: .ref (xad K c0) :: st.map (xv K)))
  rw [xad_lt hc.2]
  have hlt : (Int32.ofInt i).toNatClampNeg < N := by rw [xclamp h0 (by omega)]; omega
  refine W.cast E.1 E.2.1 (hP c0 _ he) ((E.2.2.2.2.2.2.2.2.1.1.2 0 _ (xtys_at K 0 _ rfl)).1 N (fun (j : Nat) => .int (Int32.ofInt (h c0 j)))) (fun q => by cases q) (by show ¬ (Int32.ofInt i < 0 ∨ (arrV _ _ _).slots.size ≤ _); rw [arrV_size]; exact xin h0 h1 hN) rfl rfl hd fun H1 e1 z1 oq => ?_
  have hP1 : va_P K.2.1 vwCl ((xw K u.1 h).set c0 (K.2.2.1 + c0, .inl (K.2.2.2.1 (10 - 10), N, .inl (upd (fun (j : Nat) => Int32.ofInt (h c0 j)) (Int32.ofInt i).toNatClampNeg (vp_nar .char (Int32.ofInt z)))))) H1 := by
    refine hP.set xw_D he ?_ oq
    show H1[K.2.2.1 + c0]? = some (vp_cell _ _)
    rw [e1]
    rw [vp_cell_i, vp_cell_i, arrV_store]
    congr 2
    funext q
    by_cases hq : q = (Int32.ofInt i).toNatClampNeg
    · subst hq
      simp [updV, upd, vp_nar]
      try rfl
    · simp [updV, upd, hq]
  rw [xarr_set (z := z) hc.1 hT (by decide) h0 (by omega) (xnar_char hz)] at hP1
  exact k2 H1 _ (z1.trans hH) hP1 (hS.put z1 oq (xw_D.2 c0 _ he))
theorem x_aaload0 {c0 N a j r : Nat} {i : Int} (hd : decode M.1 pc = .ok (.aaload, 1)) (hT : xTY c0 = (a, N)) (ha : a = 13 ∨ a = 14 ∨ a = 15) (hc : c0 < u.1 ∧ c0 < 1000000) (hN : N < 2147483648) (hi : i = (j : Int)) (h1 : j < N) (hr : h c0 j = (r : Int) + 1) (hr2 : r < 1000000)
    (kk : WX K M R Q u (pc + 1) L (vr r :: st) h) : WX K M R Q u pc L (vi i :: vr c0 :: st) h := by
  subst hi
  intro hmd p e s m args below meth c E H locs ls hH hP hS hlv
  have k2 := kk hmd p e s m args below meth c E H locs ls hH hP hS hlv
  have he : (xw K u.1 h)[c0]? = some (K.2.2.1 + c0, .inl (K.2.2.2.1 (a - 10), N, .inr (.inr (.inr (.inr fun (j : Nat) => xro K (h c0 j)))))) := by
    rw [xw_get hc.1, hT, xe_ref K a N _ (by rcases ha with q | q | q <;> rw [q] <;> decide)]
  show W p K.1 e (xrm R) s m args below meth c H locs u.2.1 u.2.2 _ (F0 m pc ls (.int (Int32.ofInt j) :: .ref (xad K c0) :: st.map (xv K)))
  rw [xad_lt hc.2]
  have e1 : (Int32.ofInt (j : Int)).toNatClampNeg = j := by rw [xclamp (by omega) (by omega)]; omega
  have e2 : va_rf (xro K (h c0 j)) = xv K (vr r) := by
    rw [hr]
    unfold xro
    rw [if_neg (by omega), show ((r : Int) + 1).toNat - 1 = r by omega]
    show Value.ref _ = Value.ref (xad K r)
    rw [xad_lt hr2]
  have hA : ∃ ty, ArrOfT s (K.2.2.2.1 (a - 10)) ty ∧ ty.isReference = true := by
    rcases ha with q | q | q <;> subst q
    · exact ⟨_, (E.2.2.2.2.2.2.2.2.1.1.2 3 _ (xtys_at K 3 _ rfl)).1, rfl⟩
    · exact ⟨_, (E.2.2.2.2.2.2.2.2.1.1.2 4 _ (xtys_at K 4 _ rfl)).1, rfl⟩
    · exact ⟨_, (E.2.2.2.2.2.2.2.2.1.1.2 5 _ (xtys_at K 5 _ rfl)).1, rfl⟩
  obtain ⟨ty, hA1, hA2⟩ := hA
  refine W.aald (v := xv K (vr r)) (ty := ty) E.1 E.2.1 (hP c0 _ he) (hA1 N (fun (j : Nat) => va_rf (xro K (h c0 j)))) hA2 (fun q => by cases q) (by show ¬ (Int32.ofInt j < 0 ∨ (arrV _ _ _).slots.size ≤ _); rw [arrV_size]; exact (xin (z := (j : Int)) (n := N) (by omega) (by omega) hN)) (by show (arrV _ _ _).slots[_]? = _; rw [e1, arrV_read _ _ h1, e2]) rfl rfl hd k2
theorem x_aaload (p' : Nat) {c0 N a j : Nat} (r : Nat) {i : Int} (hd : decode M.1 pc = .ok (.aaload, 1)) (hT : xTY c0 = (a, N)) (ha : a = 13 ∨ a = 14 ∨ a = 15) (hc : c0 < M.2.2.2.2 ∧ c0 < 1000000) (hN : N < 2147483648) (hi : i = (j : Int)) (h1 : j < N) (hr : xRF c0 j = r + 1) (hr2 : r < 1000000) (hmd : R.1 = true)
    (hp : pc + 1 = p') (kk : WX K M R Q u p' L (vr r :: st) h) : WX K M R Q u pc L (vi i :: vr c0 :: st) h := by
  subst hp
  refine WX.md fun md => ?_
  obtain ⟨h2, h3⟩ := md hmd
  have hlt : c0 < u.1 := Nat.lt_of_lt_of_le hc.1 h2
  exact x_aaload0 hd hT ha ⟨hlt, hc.2⟩ hN hi h1 (by rw [h3 c0 j hlt (by rw [hr]; omega), hr]; rfl) hr2 kk
/-- ends -/
theorem xQ_of {v : Option XV} (hq : Q v u.1 h) (hmd : R.1 = true → M.2.2.2.2 ≤ u.1 ∧ xXS u.1 h) {s : State} {args : Array Value} {H : Heap} {locs : List Loc} (hH : H.size = K.2.2.1 + u.1) (hP : va_P K.2.1 vwCl (xw K u.1 h) H) (hS : va_S (xA K) s.heap H locs) (t : State) (ht : t.heap = H) : xQ K R.1 Q args s (.returned (v.map (xv K))) t :=
  ⟨⟨v, u.1, h, rfl, hq, by rw [ht]; exact hH, by rw [ht]; exact hP, fun q => (hmd q).2⟩, hS.F ht⟩
theorem x_ireturn {z : Int} (hd : decode M.1 pc = .ok (.ireturn, 1)) (hr : M.2.2.2.1 = some .int) (hu : u.2 = R.2.2) (hq : Q (some (vi z)) u.1 h) : WX K M R Q u pc L [vi z] h := by
  intro hmd p e s m args below meth c E H locs ls hH hP hS hlv
  have e1 : R.2.2.1 = u.2.1 := by rw [hu]
  have e2 : R.2.2.2 = u.2.2 := by rw [hu]
  rw [e1, e2]
  exact W.iret E.1 E.2.1 (E.2.2.2.1.trans hr) (fun t ht _ => xQ_of hq hmd hH hP hS t ht) hS.2.2 hd E.2.2.2.2.1
theorem x_zreturn {z : Int} (hd : decode M.1 pc = .ok (.ireturn, 1)) (hr : M.2.2.2.1 = some .boolean) (hu : u.2 = R.2.2) (hz : z = 0 ∨ z = 1) (hq : Q (some (vi z)) u.1 h) : WX K M R Q u pc L [vi z] h := by
  intro hmd p e s m args below meth c E H locs ls hH hP hS hlv
  have e1 : R.2.2.1 = u.2.1 := by rw [hu]
  have e2 : R.2.2.2 = u.2.2 := by rw [hu]
  rw [e1, e2]
  exact W.zret E.1 E.2.1 (E.2.2.2.1.trans hr) (by rcases hz with q | q <;> subst q <;> rfl) (fun t ht _ => xQ_of hq hmd hH hP hS t ht) hS.2.2 hd E.2.2.2.2.1
theorem x_creturn {z : Int} (hd : decode M.1 pc = .ok (.ireturn, 1)) (hr : M.2.2.2.1 = some .char) (hu : u.2 = R.2.2) (hz : 0 ≤ z ∧ z < 65536) (hq : Q (some (vi z)) u.1 h) : WX K M R Q u pc L [vi z] h := by
  intro hmd p e s m args below meth c E H locs ls hH hP hS hlv
  have e1 : R.2.2.1 = u.2.1 := by rw [hu]
  have e2 : R.2.2.2 = u.2.2 := by rw [hu]
  rw [e1, e2]
  refine W.zret E.1 E.2.1 (E.2.2.2.1.trans hr) ?_ (fun t ht _ => xQ_of hq hmd hH hP hS t ht) hS.2.2 hd E.2.2.2.2.1
  obtain ⟨n, rfl⟩ := Int.eq_ofNat_of_zero_le hz.1
  exact (pk_charN (q := n) (by omega)).1
theorem x_return (hd : decode M.1 pc = .ok (.return_, 1)) (hr : M.2.2.2.1 = none) (hu : u.2 = R.2.2) (hq : Q none u.1 h) : WX K M R Q u pc L [] h := by
  intro hmd p e s m args below meth c E H locs ls hH hP hS hlv
  have e1 : R.2.2.1 = u.2.1 := by rw [hu]
  have e2 : R.2.2.2 = u.2.2 := by rw [hu]
  rw [e1, e2]
  exact W.vret E.1 E.2.1 (E.2.2.2.1.trans hr) (fun t ht _ => xQ_of hq hmd hH hP hS t ht) hS.2.2 hd E.2.2.2.2.1
end XCELL
