/-! rows of the small machine: cells -/
/-- what the names say of a class -/
def xCl (ci : Nat) : Prop := ∃ (C : String) (T : u_T) (N : Nat), vwCl[ci]? = some (C, T, N) ∧ ci < 10 ∧ (∀ w ∈ u_ws C T N, w ∈ xTb) ∧ (∀ a, a < N → ∀ b, b < N → a ≠ b → (T a).2.1 ≠ (T b).2.1) ∧ (∀ k, k < N → parseFieldDescriptor (T k).2.2.1 = some (xFT ci k))
/-- entry idx of own's file is field k of class ci -/
def xLF (own : String) (idx ci k : Nat) : Prop := ∃ (C : String) (T : u_T) (N : Nat), vwCl[ci]? = some (C, T, N) ∧ k < N ∧ (∀ w ∈ u_ws C T N, w ∈ xTb) ∧ (T k).1 = C ∧ (Cond.fieldLink own idx C (T k).2.1 (T k).2.2.1 ∈ xTb ∨ ∃ host, Cond.fieldLinkNest own idx C (T k).2.1 (T k).2.2.1 host ∈ xTn)
theorem xLF.inj {own : String} {idx ci k : Nat} (h : xLF own idx ci k) {C : String} {T : u_T} {N : Nat} (e : vwCl[ci]? = some (C, T, N)) : k < N ∧ (∀ w ∈ u_ws C T N, w ∈ xTb) ∧ (T k).1 = C ∧ (Cond.fieldLink own idx C (T k).2.1 (T k).2.2.1 ∈ xTb ∨ ∃ host, Cond.fieldLinkNest own idx C (T k).2.1 (T k).2.2.1 host ∈ xTn) := by
  obtain ⟨C', T', N', e', h'⟩ := h
  have := e.symm.trans e'
  cases this
  exact h'
theorem xe_obj (K : XK) {t : Nat × Nat} (row : Int → Int) (h : t.1 < 10) : xe K t row = .inr (t.1, (List.range t.2).map fun (k : Nat) => if xFS t.1 k = 2 then va_rf (xro K (row k)) else .int (Int32.ofInt (row k))) := by
  unfold xe
  rw [if_pos h]
theorem xe_arr (K : XK) (a N : Nat) (row : Int → Int) (h : ¬ a < 10) (h2 : a < 13) : xe K (a, N) row = .inl (K.2.2.2.1 (a - 10), N, .inl fun (j : Nat) => Int32.ofInt (row j)) := by
  unfold xe
  rw [if_neg h, if_pos h2]
theorem xe_ref (K : XK) (a N : Nat) (row : Int → Int) (h : ¬ a < 13) : xe K (a, N) row = .inl (K.2.2.2.1 (a - 10), N, .inr (.inr (.inr (.inr fun (j : Nat) => xro K (row j))))) := by
  unfold xe
  rw [if_neg (fun q => h (Nat.lt_of_lt_of_le q (by decide))), if_neg h]
section XHEAP
variable {K : XK} {M : XM} {R : XR} {Q : Option XV → Nat → XH → Prop} {u : Nat × Nat × Nat} {pc : Nat} {L : List (Nat × XV)} {st : List XV} {h : XH}
/-- the machine's side of a getfield -/
theorem x_getG {c0 k ci N i : Nat} {v : XV} (hd : decode M.1 pc = .ok (.getfield i, 3)) (hl : xLF M.2.1.cls i ci k) (hT : xTY c0 = (ci, N)) (hci : ci < 10) (hN : (vwCl[ci]?).map (fun q => q.2.2) = some N) (hc : c0 < u.1)
    (hv : (if xFS ci k = 2 then va_rf (xro K (h c0 k)) else .int (Int32.ofInt (h c0 k))) = xv K v) (had : xad K c0 = K.2.2.1 + c0)
    (kk : WX K M R Q u (pc + 3) L (v :: st) h) : WX K M R Q u pc L (vr c0 :: st) h := by
  intro hmd p e s m args below meth c E H locs ls hH hP hS hlv
  have k2 := kk hmd p e s m args below meth c E H locs ls hH hP hS hlv
  cases hq : vwCl[ci]? with
  | none => rw [hq] at hN; cases hN
  | some q =>
    obtain ⟨C, T, N'⟩ := q
    rw [hq] at hN
    cases hN
    obtain ⟨hk, hin, hTk, hlink⟩ := hl.inj hq
    have he : (xw K u.1 h)[c0]? = some (K.2.2.1 + c0, .inr (ci, (List.range N').map fun (k : Nat) => if xFS ci k = 2 then va_rf (xro K (h c0 k)) else .int (Int32.ofInt (h c0 k)))) := by
      rw [xw_get hc, hT, xe_obj K _ hci]
    have hv2 : ((List.range N').map fun (k : Nat) => if xFS ci k = 2 then va_rf (xro K (h c0 k)) else .int (Int32.ofInt (h c0 k)))[k]? = some (xv K v) := by
      rw [List.getElem?_map, List.getElem?_range hk, Option.map_some, hv]
    show W p K.1 e (xrm R) s m args below meth c H locs u.2.1 u.2.2 _ (F0 m pc ls (.ref (xad K c0) :: st.map (xv K)))
    rw [had]
    rcases hlink with hlink | ⟨host, hlink⟩
    · exact va_get (C := C) (T := T) (N := N') (ref := C) E.1 E.2.1 E.2.2.2.2.2.2.2.1 hin E.2.2.2.2.2.2.1 E.2.2.2.2.2.2.2.2.1.1 hP c0 he hq k hk (E.2.2.2.2.2.2.2.1 _ hlink) (by rw [hTk]; exact fun _ h9 => h9) hv2 hd k2
    · exact va_getN (C := C) (T := T) (N := N') (ref := C) E.1 E.2.1 E.2.2.2.2.2.2.2.1 hin E.2.2.2.2.2.2.1 E.2.2.2.2.2.2.2.2.1.1 hP c0 he hq k hk (E.2.2.2.2.2.2.2.2.1.nest hlink args) (by rw [hTk]; exact fun _ h9 => h9) hv2 hd k2
theorem xad_lt {c0 : Nat} (h : c0 < 1000000) : xad K c0 = K.2.2.1 + c0 := by unfold xad; rw [if_pos h]
theorem xN_of {ci N : Nat} (h : [6, 4, 2, 16, 4, 17, 4, 4, 7, 31][ci]? = some N) : (vwCl[ci]?).map (fun q => q.2.2) = some N := by
  have : vwCl.map (fun q => q.2.2) = [6, 4, 2, 16, 4, 17, 4, 4, 7, 31] := rfl
  rw [← this, List.getElem?_map] at h
  exact h
/-- a number or truth value out of a field -/
theorem x_getf {c0 k ci N i : Nat} (hd : decode M.1 pc = .ok (.getfield i, 3)) (hl : xLF M.2.1.cls i ci k) (hT : xTY c0 = (ci, N)) (hs : xFS ci k = 0 ∨ xFS ci k = 1) (hN : ci < 10 ∧ [6, 4, 2, 16, 4, 17, 4, 4, 7, 31][ci]? = some N) (hc : c0 < u.1 ∧ c0 < 1000000)
    (kk : WX K M R Q u (pc + 3) L (vi (h c0 k) :: st) h) : WX K M R Q u pc L (vr c0 :: st) h :=
  x_getG hd hl hT hN.1 (xN_of hN.2) hc.1 (by rw [if_neg (by rcases hs with q | q <;> rw [q] <;> decide)]; rfl) (xad_lt hc.2) kk
/-- a reference out of a field, not yet for good -/
theorem x_getr0 {c0 k ci N i r : Nat} (hd : decode M.1 pc = .ok (.getfield i, 3)) (hl : xLF M.2.1.cls i ci k) (hT : xTY c0 = (ci, N)) (hs : xFS ci k = 2) (hN : ci < 10 ∧ [6, 4, 2, 16, 4, 17, 4, 4, 7, 31][ci]? = some N) (hc : c0 < u.1 ∧ c0 < 1000000) (hr : h c0 k = (r : Int) + 1) (hr2 : r < 1000000)
    (kk : WX K M R Q u (pc + 3) L (vr r :: st) h) : WX K M R Q u pc L (vr c0 :: st) h :=
  x_getG hd hl hT hN.1 (xN_of hN.2) hc.1 (by
    rw [if_pos hs, hr]
    unfold xro
    rw [if_neg (by omega), show ((r : Int) + 1).toNat - 1 = r by omega]
    show Value.ref _ = Value.ref (xad K r)
    rw [xad_lt hr2]) (xad_lt hc.2) kk
theorem WX.md (kk : (R.1 = true → M.2.2.2.2 ≤ u.1 ∧ xXS u.1 h) → WX K M R Q u pc L st h) : WX K M R Q u pc L st h := fun hmd => kk hmd hmd
/-- a reference out of a field, for good -/
theorem x_getr {c0 k ci N i r : Nat} (hd : decode M.1 pc = .ok (.getfield i, 3)) (hl : xLF M.2.1.cls i ci k) (hT : xTY c0 = (ci, N)) (hs : xFS ci k = 2) (hN : ci < 10 ∧ [6, 4, 2, 16, 4, 17, 4, 4, 7, 31][ci]? = some N) (hc : c0 < M.2.2.2.2 ∧ c0 < 1000000) (hr : xRF c0 k = r + 1) (hr2 : r < 1000000) (hmd : R.1 = true)
    (kk : WX K M R Q u (pc + 3) L (vr r :: st) h) : WX K M R Q u pc L (vr c0 :: st) h := by
  refine WX.md fun md => ?_
  obtain ⟨h1, h2⟩ := md hmd
  have hlt : c0 < u.1 := Nat.lt_of_lt_of_le hc.1 h1
  exact x_getr0 hd hl hT hs hN ⟨hlt, hc.2⟩ (by rw [h2 c0 k hlt (by rw [hr]; omega), hr]; rfl) hr2 kk
/-- the machine's side of a putfield that isn't final -/
theorem x_putf {c0 k ci N i : Nat} {z : Int} (hd : decode M.1 pc = .ok (.putfield i, 3)) (hl : xLF M.2.1.cls i ci k) (hcl : xCl ci) (hT : xTY c0 = (ci, N)) (hs : xFS ci k = 0 ∨ (xFS ci k = 1 ∧ (z = 0 ∨ z = 1))) (hN : ci < 10 ∧ [6, 4, 2, 16, 4, 17, 4, 4, 7, 31][ci]? = some N) (hfin : (vwCl[ci]?).map (fun q => (q.2.1 k).2.2.2) = some false) (hc : c0 < u.1 ∧ c0 < 1000000) (hRF : xRF c0 k = 0)
    (kk : WX K M R Q u (pc + 3) L st (hset h c0 k z)) : WX K M R Q u pc L (vi z :: vr c0 :: st) h := by
  intro hmd p e s m args below meth c E H locs ls hH hP hS hlv
  have hmd2 : R.1 = true → M.2.2.2.2 ≤ u.1 ∧ xXS u.1 (hset h c0 k z) := fun q => ⟨(hmd q).1, fun c' k' h1 h2 => by
    unfold hset
    rw [if_neg (fun q2 => by obtain ⟨a, b⟩ := q2; subst a; rw [Int.natCast_inj] at b; subst b; exact h2 hRF)]
    exact (hmd q).2 c' k' h1 h2⟩
  have k2 := fun H locs hH hP hS => kk hmd2 p e s m args below meth c E H locs ls hH hP hS hlv
  obtain ⟨C, T, N', hq, -, hin, hnm, hty⟩ := hcl
  obtain ⟨hk, -, hTk, hlink⟩ := hl.inj hq
  have hN2 := xN_of hN.2
  rw [hq] at hN2 hfin
  have hN3 : N' = N := Option.some.inj hN2
  have hfin2 : (T k).2.2.2 = false := Option.some.inj hfin
  subst hN3
  have he : (xw K u.1 h)[c0]? = some (K.2.2.1 + c0, .inr (ci, (List.range N').map fun (k : Nat) => if xFS ci k = 2 then va_rf (xro K (h c0 k)) else .int (Int32.ofInt (h c0 k)))) := by
    rw [xw_get hc.1, hT, xe_obj K _ hN.1]
  have hset' : (xw K u.1 h).set c0 (K.2.2.1 + c0, .inr (ci, ((List.range N').map fun (k : Nat) => if xFS ci k = 2 then va_rf (xro K (h c0 k)) else .int (Int32.ofInt (h c0 k))).set k (.int (Int32.ofInt z)))) = xw K u.1 (hset h c0 k z) := by
    refine xw_set hc.1 ?_
    rw [hT, xe_obj K _ hN.1]
    congr 2
    apply List.ext_getElem?
    intro j
    by_cases hj : j < N'
    · rw [List.getElem?_map, List.getElem?_range hj, Option.map_some]
      by_cases ejk : j = k
      · subst ejk
        rw [List.getElem?_set_self (by rw [List.length_map, List.length_range]; exact hj)]
        have e1 : hset h c0 (j : Int) z c0 j = z := by unfold hset; rw [if_pos ⟨rfl, rfl⟩]
        rw [e1, if_neg (by rcases hs with q | q; rw [q]; decide; rw [q.1]; decide)]
      · rw [List.getElem?_set_ne (Ne.symm ejk), List.getElem?_map, List.getElem?_range hj, Option.map_some]
        have e1 : hset h c0 (k : Int) z c0 j = h c0 j := by unfold hset; rw [if_neg (fun q => ejk (Int.natCast_inj.mp q.2))]
        rw [e1]
    · rw [List.getElem?_eq_none (by rw [List.length_set, List.length_map, List.length_range]; omega), List.getElem?_eq_none (by rw [List.length_map, List.length_range]; omega)]
  have hft : (xFT ci k = .int ∧ xFS ci k = 0) ∨ (xFT ci k = .boolean ∧ (z = 0 ∨ z = 1)) := by
    unfold xFS at hs ⊢
    cases ht : xFT ci k <;> rw [ht] at hs <;> simp [xsort] at hs ⊢
    exact hs
  have hna : narrow (xFT ci k) (.int (Int32.ofInt z)) = .int (Int32.ofInt z) := by
    rcases hft with ⟨q, -⟩ | ⟨q, q2⟩
    · rw [q]; rfl
    · rw [q]; rcases q2 with q2 | q2 <;> subst q2 <;> rfl
  have hfi : fits (xFT ci k) (.int (Int32.ofInt z)) = true := by
    rcases hft with ⟨q, -⟩ | ⟨q, q2⟩
    · rw [q]; rfl
    · rw [q]; rcases q2 with q2 | q2 <;> subst q2 <;> rfl
  show W p K.1 e (xrm R) s m args below meth c H locs u.2.1 u.2.2 _ (F0 m pc ls (.int (Int32.ofInt z) :: .ref (xad K c0) :: st.map (xv K)))
  rw [xad_lt hc.2]
  rcases hlink with hlink | ⟨host, hlink⟩
  · refine xputS (C := C) (T := T) (N := N') E.1 E.2.1 E.2.2.2.2.2.2.2.1 hin (xFT ci) hty hnm E.2.2.2.2.2.2.1 E.2.2.2.2.2.2.2.2.1.1 hP xw_D hS he hq hk (E.2.2.2.2.2.2.2.1 _ hlink) hTk hfin2 hna hfi (by rw [List.length_map, List.length_range]; exact hk) hd (fun H1 locs1 hz1 hP1 hS1 => ?_)
    rw [hset'] at hP1
    exact k2 H1 locs1 (hz1.trans hH) hP1 hS1
  · refine xputN (C := C) (T := T) (N := N') E.1 E.2.1 E.2.2.2.2.2.2.2.1 hin (xFT ci) hty hnm E.2.2.2.2.2.2.1 E.2.2.2.2.2.2.2.2.1.1 hP xw_D hS he hq hk (E.2.2.2.2.2.2.2.2.1.nest hlink args) hTk hfin2 hna hfi (by rw [List.length_map, List.length_range]; exact hk) hd (fun H1 locs1 hz1 hP1 hS1 => ?_)
    rw [hset'] at hP1
    exact k2 H1 locs1 (hz1.trans hH) hP1 hS1
end XHEAP
