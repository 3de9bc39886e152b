/-! rows of the small machine: the constant texts -/
theorem xand255 (a : Int) : Int32.ofInt a &&& Int32.ofInt 255 = Int32.ofInt (a % 256) := xand a 8 255 (by decide) (by decide)
def sB (i : Nat) (j : Int) : Int := ((xTxt.getD i []).getD j.toNat 0).toInt
def sLen (i : Nat) : Nat := [55, 12].getD i 0
theorem xad_s {K : XK} {i : Nat} : xad K (1000000 + i) = K.2.2.2.2.1 i := by
  unfold xad
  rw [if_neg (by omega), show 1000000 + i - 1000000 = i by omega]
theorem xad_v {K : XK} {U : State} (hX : XF K U) {i : Nat} (hi : i < 2) : xad K (1000002 + i) = K.2.2.2.2.2 i := by
  unfold xad
  rw [if_neg (by omega), show 1000002 + i - 1000000 = 2 + i by omega]
  exact hX.2.2.2.2.2.2.2.2.2.2.1 i hi
section XSTR
variable {K : XK} {M : XM} {R : XR} {Q : Option XV → Nat → XH → Prop} {u : Nat × Nat × Nat} {pc : Nat} {L : List (Nat × XV)} {st st0 : List XV} {h : XH}
theorem x_ldcS (p' : Nat) (i : Nat) {idx : Nat} {tx : String} (hR : ∀ U, XF K U → vk_R M.2.1.cls idx tx (K.2.2.2.2.1 i) U) (hd : decode M.1 pc = .ok (.ldc idx, 2)) (hp : pc + 2 = p') (kk : WX K M R Q u p' L (vr (1000000 + i) :: st) h) : WX K M R Q u pc L st h := by
  subst hp
  intro hmd p e s m args below meth c E H locs ls hH hP hS hlv
  have k2 := kk hmd p e s m args below meth c E H locs ls hH hP hS hlv
  rw [List.map_cons, show xv K (vr (1000000 + i)) = Value.ref (xad K (1000000 + i)) from rfl, xad_s] at k2
  exact va_ldcS E.1 E.2.1 E.2.2.2.2.2.2.1 (hR s E.2.2.2.2.2.2.2.2.1) hd k2
theorem x_ldcwS (p' : Nat) (i : Nat) {idx : Nat} {tx : String} (hR : ∀ U, XF K U → vk_R M.2.1.cls idx tx (K.2.2.2.2.1 i) U) (hd : decode M.1 pc = .ok (.ldc_w idx, 3)) (hp : pc + 3 = p') (kk : WX K M R Q u p' L (vr (1000000 + i) :: st) h) : WX K M R Q u pc L st h := by
  subst hp
  intro hmd p e s m args below meth c E H locs ls hH hP hS hlv
  have k2 := kk hmd p e s m args below meth c E H locs ls hH hP hS hlv
  rw [List.map_cons, show xv K (vr (1000000 + i)) = Value.ref (xad K (1000000 + i)) from rfl, xad_s] at k2
  have hZ := hR s E.2.2.2.2.2.2.2.2.1
  intro T hT X
  obtain ⟨t, a1, b1⟩ := k2 T hT X
  refine ⟨t, ?_, b1⟩
  obtain ⟨k, cf, i0, a', hk, hcf, hcp, -, hr, hev'⟩ := Cond.stringRef_spec (args := #[]) E.2.2.2.2.2.2.1 hZ.1
  cases hZ.2.symm.trans hev'
  obtain ⟨k', hk', he⟩ := X.warmed.alike.2.2 _ _ hk
  have hr' : k'.resolved[idx]? = some (some (.string (K.2.2.2.2.1 i))) := by
    rcases X.warmed.entry hk hk' idx with h | ⟨h, -⟩
    · rw [h]; exact hr
    · rw [hr] at h; cases h
  have hdg : decode c.code pc = .ok (.ldc_w idx, 3) := by rw [E.2.1]; exact hd
  have hexec := E.1
  jvm_step X.here [hexec, hdg, ldc_w.wp_string (e := e) (s := T) (f := F0 m pc ls (st.map (xv K))) X.here.top hk' (by rw [he]; exact hcf) hcp hr']
  exact a1
theorem x_sval (p' : Nat) {i idx : Nat} (hi : i < 2) (hl : Cond.fieldLink M.2.1.cls idx "java/lang/String" "value" "[B" ∈ xTb) (hd : decode M.1 pc = .ok (.getfield idx, 3)) (hp : pc + 3 = p') (kk : WX K M R Q u p' L (vr (1000002 + i) :: st) h) : WX K M R Q u pc L (vr (1000000 + i) :: st) h := by
  subst hp
  intro hmd p e s m args below meth c E H locs ls hH hP hS hlv
  have k2 := kk hmd p e s m args below meth c E H locs ls hH hP hS hlv
  have hX := E.2.2.2.2.2.2.2.2.1
  rw [List.map_cons, show xv K (vr (1000002 + i)) = Value.ref (xad K (1000002 + i)) from rfl, xad_v hX hi] at k2
  rw [List.map_cons, show xv K (vr (1000000 + i)) = Value.ref (xad K (1000000 + i)) from rfl, xad_s]
  exact vk_getf E.1 E.2.1 (hX.2.2.2.2.1.1 i hi).2.2.1 hS E.2.2.2.2.2.2.1 (E.2.2.2.2.2.2.2.1 _ hl) (fun _ q => q) hd k2
theorem x_scod (p' : Nat) {i idx : Nat} (hi : i < 2) (hl : Cond.fieldLink M.2.1.cls idx "java/lang/String" "coder" "B" ∈ xTb) (hd : decode M.1 pc = .ok (.getfield idx, 3)) (hp : pc + 3 = p') (kk : WX K M R Q u p' L (vi 0 :: st) h) : WX K M R Q u pc L (vr (1000000 + i) :: st) h := by
  subst hp
  intro hmd p e s m args below meth c E H locs ls hH hP hS hlv
  have k2 := kk hmd p e s m args below meth c E H locs ls hH hP hS hlv
  have hX := E.2.2.2.2.2.2.2.2.1
  rw [List.map_cons, show xv K (vr (1000000 + i)) = Value.ref (xad K (1000000 + i)) from rfl, xad_s]
  exact vk_getf E.1 E.2.1 (hX.2.2.2.2.1.1 i hi).2.1 hS E.2.2.2.2.2.2.1 (E.2.2.2.2.2.2.2.1 _ hl) (fun _ q => q) hd k2
theorem x_sget (p' : Nat) {idx : Nat} (hl : Cond.fieldLink M.2.1.cls idx "java/lang/String" "COMPACT_STRINGS" "Z" ∈ xTb) (hd : decode M.1 pc = .ok (.getstatic idx, 3)) (hp : pc + 3 = p') (kk : WX K M R Q u p' L (vi 1 :: st) h) : WX K M R Q u pc L st h := by
  subst hp
  intro hmd p e s m args below meth c E H locs ls hH hP hS hlv
  have k2 := kk hmd p e s m args below meth c E H locs ls hH hP hS hlv
  exact va_gets E.1 E.2.1 E.2.2.2.2.2.2.2.2.1.2.2.2.2.2.1 hS E.2.2.2.2.2.2.1 (E.2.2.2.2.2.2.2.1 _ hl) (fun _ q => q) hd k2
theorem x_slen (p' : Nat) {i : Nat} (hi : i < 2) (hd : decode M.1 pc = .ok (.arraylength, 1)) (hp : pc + 1 = p') (kk : WX K M R Q u p' L (vi (sLen i : Int) :: st) h) : WX K M R Q u pc L (vr (1000002 + i) :: st) h := by
  subst hp
  intro hmd p e s m args below meth c E H locs ls hH hP hS hlv
  have k2 := kk hmd p e s m args below meth c E H locs ls hH hP hS hlv
  have hX := E.2.2.2.2.2.2.2.2.1
  rw [List.map_cons, show xv K (vr (1000002 + i)) = Value.ref (xad K (1000002 + i)) from rfl, xad_v hX hi]
  exact va_tlen E.1 E.2.1 (hX.2.2.2.2.1.1 i hi).2.2.2 hS (xnI _) hd k2
theorem x_sbal (p' : Nat) {i : Nat} {j : Int} (hi : i < 2) (h0 : 0 ≤ j) (hj : j < sLen i) (hd : decode M.1 pc = .ok (.baload, 1)) (hp : pc + 1 = p') (kk : WX K M R Q u p' L (vi (sB i j) :: st) h) : WX K M R Q u pc L (vi j :: vr (1000002 + i) :: st) h := by
  subst hp
  intro hmd p e s m args below meth c E H locs ls hH hP hS hlv
  have k2 := kk hmd p e s m args below meth c E H locs ls hH hP hS hlv
  have hX := E.2.2.2.2.2.2.2.2.1
  have hL : sLen i < 100 := by
    have : i = 0 ∨ i = 1 := by omega
    rcases this with q | q <;> subst q <;> decide
  rw [List.map_cons, List.map_cons, show xv K (vr (1000002 + i)) = Value.ref (xad K (1000002 + i)) from rfl, xad_v hX hi]
  refine va_tb E.1 E.2.1 (hX.2.2.2.2.1.1 i hi).2.2.2 hS (i := Int32.ofInt j) (xin h0 hj (by have e9 : [55, 12].getD i 0 = sLen i := rfl; omega)) ?_ hd k2
  rw [xclamp h0 (by omega)]
  show Value.int ((xTxt.getD i []).getD j.toNat 0) = Value.int (Int32.ofInt (((xTxt.getD i []).getD j.toNat 0).toInt))
  rw [Int32.ofInt_toInt]
theorem x_iand255 (p' : Nat) {a : Int} (hd : decode M.1 pc = .ok (.iand, 1)) (hp : pc + 1 = p') (kk : WX K M R Q u p' L (vi (a % 256) :: st) h) : WX K M R Q u pc L (vi 255 :: vi a :: st) h := by
  subst hp
  intro hmd p e s m args below meth c E H locs ls hH hP hS hl
  have k2 := (kk hmd p e s m args below meth c E H locs ls hH hP hS hl)
  rw [List.map_cons, show xv K (vi (a % 256)) = Value.int (Int32.ofInt (a % 256)) from rfl, ← xand255] at k2
  exact lv_iand E.1 E.2.1 hd k2
theorem x_i2c (p' : Nat) {a : Int} (ha : 0 ≤ a ∧ a < 65536) (hd : decode M.1 pc = .ok (.i2c, 1)) (hp : pc + 1 = p') (kk : WX K M R Q u p' L (vi a :: st) h) : WX K M R Q u pc L (vi a :: st) h := by
  subst hp
  intro hmd p e s m args below meth c E H locs ls hH hP hS hl
  exact lv_i2c E.1 E.2.1 hd (by
    rw [pk_char, xbv, xnI]
    congr 1
    omega) (kk hmd p e s m args below meth c E H locs ls hH hP hS hl)
theorem xi2b : ∀ j : Fin 128, (nI j.val).toInt8.toInt32 = nI j.val := by decide +kernel
theorem x_i2b (p' : Nat) {a : Int} (ha : 0 ≤ a ∧ a < 128) (hd : decode M.1 pc = .ok (.i2b, 1)) (hp : pc + 1 = p') (kk : WX K M R Q u p' L (vi a :: st) h) : WX K M R Q u pc L (vi a :: st) h := by
  subst hp
  intro hmd p e s m args below meth c E H locs ls hH hP hS hl
  refine lv_i2b E.1 E.2.1 hd (v := Int32.ofInt a) ?_ (kk hmd p e s m args below meth c E H locs ls hH hP hS hl)
  have := xi2b ⟨a.toNat, by omega⟩
  rw [xnI] at this
  show (Int32.ofInt a).toInt8.toInt32 = Int32.ofInt a
  rw [show a = ((a.toNat : Nat) : Int) by omega]
  exact this
theorem x_breturn {z : Int} (hd : decode M.1 pc = .ok (.ireturn, 1)) (hr : M.2.2.2.1 = some .byte) (hu : u.2 = R.2.2) (hz : z = 0) (hq : Q (some (vi z)) u.1 h) : WX K M R Q u pc L [vi z] h := by
  intro hmd p e s m args below meth c E H locs ls hH hP hS hlv
  have e1 : R.2.2.1 = u.2.1 := by rw [hu]
  have e2 : R.2.2.2 = u.2.2 := by rw [hu]
  rw [e1, e2]
  exact W.zret E.1 E.2.1 (E.2.2.2.1.trans hr) (by subst hz; rfl) (fun t ht _ => xQ_of hq hmd hH hP hS t ht) hS.2.2 hd E.2.2.2.2.1
variable {M' : XM} {as : List XV} {a d d' n : Nat}
theorem x_Vs (p' : Nat) {i0 i : Nat} {P : Int → XH → Prop} (hi0 : i0 < 2) (hM : MI K M' d' n (vr (1000000 + i0) :: as) h P) (hF : xMF M' a) (hV : xMV M') (hl : Cond.methodLink M.2.1.cls i M'.2.1 ∈ xTb) (hd : decode M.1 pc = .ok (.invokevirtual i, 3)) (hst : as.reverse ++ vr (1000000 + i0) :: st = st0) (hlen : as.length = a) (hcl : M'.2.1.cls = "java/lang/String") (hR : d' + 1 ≤ d) (hw : xcs st ≤ 8) (hm : M'.2.2.2.2 ≤ M.2.2.2.2)
    (hp : pc + 3 = p') (kk : ∀ (z : Int) (h' : XH), P z h' → WI K M d n Q p' L (vi z :: st) h') : WI K M d n Q pc L st0 h := by
  subst hp
  subst hst
  intro hmd p e s m args below meth c E H locs ls hH hP hS hlv
  have hts := E.2.2.2.2.2.2.2.1
  have hX := E.2.2.2.2.2.2.2.2.1
  have hcf : CallFix p m c M.1 M.2.2.1 s args xTb M.2.1.cls := ⟨E.1, E.2.1, E.2.2.1, E.2.2.2.2.2.2.1, hts⟩
  have hmo : xMode (true, d, 0, 0) M (n, 0, 0) h (true, d', 0, 0) M' := ⟨fun _ => rfl, fun _ => Or.inl ⟨rfl, hm⟩⟩
  have hpre := fun (U : State) (hU : U.heap = H) (hW : s.WarmedH U.vm) => x_pre (as := vr (1000000 + i0) :: as) (R' := (true, d', 0, 0)) (M' := M') E hH hP hS hmd hmo U hU hW
  have hrecv : ∃ cell : Cell, H[K.2.2.2.2.1 i0]? = some cell ∧ cell.vm.isStatics = false ∧ s.vm.findClass M'.2.1.cls = some cell.cls := by
    rw [hcl]
    exact vk_recv hX.2.2.2.2.1 hi0 hS
  have hst1 : (as.reverse ++ vr (1000000 + i0) :: st).map (xv K) = (as.map (xv K)).reverse ++ .ref (K.2.2.2.2.1 i0) :: st.map (xv K) := by
    rw [List.map_append, List.map_reverse, List.map_cons]
    show _ ++ Value.ref (xad K (1000000 + i0)) :: _ = _
    rw [xad_s]
  have e0 : (vr (1000000 + i0) :: as).map (xv K) = Value.ref (K.2.2.2.2.1 i0) :: as.map (xv K) := by
    show Value.ref (xad K (1000000 + i0)) :: _ = _
    rw [xad_s]
  rw [e0] at hpre
  have hw2 : 2 * (F0 m pc ls ((as.reverse ++ vr (1000000 + i0) :: st).map (xv K))).monitorRoom + ((st.map (xv K)).map fun v => v.category).sum ≤ 8 := by
    rw [xcs_eq]
    exact (by show 2 * 0 + _ ≤ 8; omega)
  have hRm : xRoom (true, d, 0, 0) (n, 0, 0) (true, d', 0, 0) := ⟨hR, Nat.le_refl _, Nat.le_refl _⟩
  exact x_run (R := (true, d, 0, 0)) (u := (n, 0, 0)) E hH hS hlv hmd hmo.1 (va_runV (C := M'.2.1.cls) (b := K.2.2.2.2.1 i0) (As := as.map (xv K)) hcf hM ⟨x_B hts hF (xRoom_of (u := (n, 0, 0)) hRm) hl, hts _ hV.1, hts _ hV.2⟩ ⟨xPc_blind, hrecv, hpre⟩ rfl (by rw [List.length_map]; exact hlen) hlv.1 hst1 hw2 hd hRm.2) (fun v n' h' hq => by
    obtain ⟨q1, z, q2, hp⟩ := hq
    have q1 : n' = n := q1
    subst q1; subst q2
    exact kk z h' hp)
end XSTR
theorem KJ0_9 : Cond.fieldLink RJ0 9 "java/lang/String" "value" "[B" ∈ xTb := xTb_mem 1263 (by decide +kernel) rfl
theorem KJ0_15 : Cond.fieldLink RJ0 15 "java/lang/String" "coder" "B" ∈ xTb := xTb_mem 1264 (by decide +kernel) rfl
theorem KJ0_38 : Cond.fieldLink RJ0 38 "java/lang/String" "COMPACT_STRINGS" "Z" ∈ xTb := xTb_mem 380 (by decide +kernel) rfl
theorem KJ0_1053 : Cond.fieldLink RJ0 1053 "jdk/internal/util/Preconditions" "SIOOBE_FORMATTER" "Ljava/util/function/BiFunction;" ∈ xTb := xTb_mem 396 (by decide +kernel) rfl
theorem MJ0_335 : Cond.methodLink RJ0 335 yJ0_coder_7d493 ∈ xTb := xTb_mem 376 (by decide +kernel) rfl
theorem MJ0_492 : Cond.methodLink RJ0 492 yJ0_isLatin1_aae02 ∈ xTb := xTb_mem 386 (by decide +kernel) rfl
theorem MJ0_505 : Cond.methodLink RJ0 505 yJ0_length_8abf5 ∈ xTb := xTb_mem 441 (by decide +kernel) rfl
theorem MJ0_633 : Cond.methodLink RJ0 633 yJ0_indexOf_7cf53 ∈ xTb := xTb_mem 437 (by decide +kernel) rfl
theorem MX8_66 : Cond.methodLink RX8 66 yJ0_length_8abf5 ∈ xTb := xTb_mem 372 (by decide +kernel) rfl
theorem MX8_72 : Cond.methodLink RX8 72 yJ0_charAt_5068e ∈ xTb := xTb_mem 382 (by decide +kernel) rfl
theorem MX7_46 : Cond.methodLink RX7 46 yJ0_indexOf_0f7a4 ∈ xTb := xTb_mem 433 (by decide +kernel) rfl
theorem mxS : Cond.static Lib.Math.max.name ∈ xTb := xTb_mem 449 (by decide +kernel) rfl
theorem mxC : Cond.code Lib.Math.max.name Lib.Math.max.code 2 (some .int) ∈ xTb := xTb_mem 450 (by decide +kernel) rfl
theorem mxLJ1_92 : Cond.methodLink RJ1 92 Lib.Math.max.name ∈ xTb := xTb_mem 448 (by decide +kernel) rfl
