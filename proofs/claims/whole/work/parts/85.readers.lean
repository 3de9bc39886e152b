/-! the library's readers of a constant text -/
abbrev mPre : XM := (prog_17_method_11_code, ⟨"jdk/internal/util/Preconditions", "checkIndex", "(IILjava/util/function/BiFunction;)I"⟩, 3, some .int, 0)
theorem FPre : xMF mPre 3 := ⟨by decide +kernel, xTb_mem 400 (by decide +kernel) rfl, xTb_mem 66 (by decide +kernel) rfl, by decide +kernel, by decide +kernel, by decide +kernel, by decide⟩
theorem VPre : xMS mPre := xTb_mem 399 (by decide +kernel) rfl
theorem CPre : Cond.methodLink RJ0 1059 mPre.2.1 ∈ xTb := xTb_mem 398 (by decide +kernel) rfl
def tPre : List (Nat × Instr × Nat) := [(0, .iload_n 0, 1), (1, .ifCond .lt 8, 3), (4, .iload_n 0, 1), (5, .iload_n 1, 1), (6, .if_icmp .lt 10, 3), (16, .iload_n 0, 1), (17, .ireturn, 1)]
theorem DPre : xdt mPre.1 tPre = true := by decide +kernel
/-- the arguments as they are, the third any value -/
def rPc (K : XK) (M : XM) (md : Bool) (n : Nat) (as : List Value) (h : XH) : Array Value → State → Prop := va_Pc as (fun U => U.heap.size = K.2.2.1 + n ∧ va_P K.2.1 vwCl (xw K n h) U.heap ∧ XF K U ∧ (md = true → M.2.2.2.2 ≤ n ∧ xXS n h))
theorem rPc_blind {K : XK} {M : XM} {md : Bool} {n : Nat} {as : List Value} {h : XH} : FrameBlind (rPc K M md n as h) := by
  intro a U g mk hp
  obtain ⟨h1, h2, h3, h4, h5⟩ := hp
  exact ⟨h1, h2, h3, h4.calling, h5⟩
set_option maxRecDepth 100000 in
set_option maxHeartbeats 4000000 in
theorem pPre {K : XK} {n : Nat} {h : XH} (a b : Int) (hab : 0 ≤ a ∧ a < b ∧ b < 2147483648) (v : Value) (hv : v.category ≠ 2) : Met K.1 mPre.2.1 (Cond.code mPre.2.1 mPre.1 mPre.2.2.1 mPre.2.2.2.1 :: xTb) (xrm (true, 0, 0, 0)) (rPc K mPre true n [.int (Int32.ofInt a), .int (Int32.ofInt b), v] h) (xQ K true (qI n (fun z h' => z = a ∧ h' = h))) 0 0 (xA K) := by
  refine Met.ofW (cc := mPre.1) (maxL := mPre.2.2.1) (ret := mPre.2.2.2.1) FPre.1 rfl ?_
  intro p e s m args below meth c s₁ B hml hvv
  obtain ⟨rfl, hsz, hP, hXF, hmd⟩ := hvv
  have hts : ∀ w ∈ xTb, w.before [Value.int (Int32.ofInt a), .int (Int32.ofInt b), v].toArray s = true := fun w hw => atoms_spec (ws := Cond.code mPre.2.1 mPre.1 mPre.2.2.1 mPre.2.2.2.1 :: xTb) B.pre w (List.mem_cons_of_mem _ hw)
  have hl := lv_entry [Value.int (Int32.ofInt a), .int (Int32.ofInt b), v] (n := mPre.2.2.1) (by
    show (lg_sl [Value.int (Int32.ofInt a), .int (Int32.ofInt b), v]).length ≤ 3
    cases v <;> first | exact Nat.le_refl _ | exact absurd rfl hv)
  rw [lg_entry_eq]
  have hw : WX K mPre (true, 0, 0, 0) (qI n (fun z h' => z = a ∧ h' = h)) (n, 0, 0) 0 [(0, vi a), (1, vi b)] [] h := by
    refine x_iload_n 1 (xd DPre rfl) rfl rfl ?_
    refine x_if_lt 4 9 (xd DPre rfl) rfl (by omega) rfl (fun c1 => absurd c1 (by omega)) (fun _ => ?_)
    refine x_iload_n 5 (xd DPre rfl) rfl rfl ?_
    refine x_iload_n 6 (xd DPre rfl) rfl rfl ?_
    refine x_icmp_lt 9 16 (xd DPre rfl) rfl (by omega) (by omega) rfl (fun _ => ?_) (fun c1 => absurd c1 (by omega))
    refine x_iload_n 17 (xd DPre rfl) rfl rfl ?_
    exact x_ri (xd DPre rfl) rfl ⟨rfl, rfl⟩
  exact hw hmd p e s m _ below meth c ⟨B.exec, B.bytes, hml, B.returns, B.notSynchronized, (name_of_methodNamed B.named B.method).1, findClass_of_methodNamed B.named, hts, hXF, by rw [hsz]; exact Nat.le_add_right _ _⟩ s.heap [] _ hsz hP va_S.rf (⟨hl.1, hl.2.1, fun q hq => hl.2.2 q (by
    rcases List.mem_cons.mp hq with e | hq
    · rw [e]; exact List.mem_cons_self
    · rcases List.mem_cons.mp hq with e | hq
      · rw [e]; exact List.mem_cons_of_mem _ List.mem_cons_self
      · cases hq)⟩)
section XSV
variable {K : XK} {M : XM} {Q : Option XV → Nat → XH → Prop} {pc : Nat} {L : List (Nat × XV)} {st st0 : List XV} {h : XH} {M' : XM} {as : List XV} {a d d' n : Nat}
theorem x_Sv (p' : Nat) {i : Nat} {P : XH → Prop} (hM : MV K M' d' n as h P) (hF : xMF M' a) (hV : xMS M') (hl : xML M.2.1.cls i M'.2.1) (hd : decode M.1 pc = .ok (.invokestatic i, 3)) (hst : as.reverse ++ st = st0) (hlen : as.length = a) (hR : d' + 1 ≤ d) (hw : xcs st ≤ 8) (hm : M'.2.2.2.2 ≤ M.2.2.2.2)
    (hp : pc + 3 = p') (kk : ∀ (h' : XH), P h' → WI K M d n Q p' L st h') : WI K M d n Q pc L st0 h := by
  subst hp
  refine x_callS hM hF hV hl hd hst hlen ⟨hR, Nat.le_refl _, Nat.le_refl _⟩ hw ⟨fun _ => rfl, fun _ => Or.inl ⟨rfl, hm⟩⟩ (fun v n' h' hq => ?_)
  obtain ⟨e1, e2, hp⟩ := hq
  have e1 : n' = n := e1
  subst e1; subst e2
  exact kk h' hp
theorem x_max (p' : Nat) {R : XR} {u : Nat × Nat × Nat} {a b : Int} {i : Nat} (hl : Cond.methodLink M.2.1.cls i Lib.Math.max.name ∈ xTb) (h2 : Cond.static Lib.Math.max.name ∈ xTb) (h3 : Cond.initialized "java/lang/Math" ∈ xTb) (h4 : Cond.code Lib.Math.max.name Lib.Math.max.code 2 (some .int) ∈ xTb) (hd : decode M.1 pc = .ok (.invokestatic i, 3)) (hF : 1 ≤ R.2.1 ∧ u.2.1 ≤ R.2.2.1 ∧ u.2.2 ≤ R.2.2.2) (hw : xcs st ≤ 8) (ra : xrg a) (rb : xrg b) (hp : pc + 3 = p')
    (kk : WX K M R Q u p' L (vi (if a < b then b else a) :: st) h) : WX K M R Q u pc L (vi b :: vi a :: st) h := by
  subst hp
  intro hmd p e s m args below meth c E H locs ls hH hP hS hl0
  have hts := E.2.2.2.2.2.2.2.1
  refine va_mmax E.1 E.2.1 (E.2.2.1.trans hl0.1.symm) E.2.2.2.2.2.2.1 (hts _ hl) (hts _ h2) (hts _ h3) (hts _ h4) hF.1 ?_ hF.2.1 hF.2.2 hd ?_
  · rw [xcs_eq]
    show xcs st + 13 ≤ 38 * R.2.1
    omega
  · have k2 := kk hmd p e s m args below meth c E H locs ls hH hP hS hl0
    have e1 : (if Int32.ofInt a < Int32.ofInt b then Int32.ofInt b else Int32.ofInt a) = Int32.ofInt (if a < b then b else a) := by
      by_cases q : a < b
      · rw [if_pos ((xlt ra rb).mpr q), if_pos q]
      · rw [if_neg (fun z => q ((xlt ra rb).mp z)), if_neg q]
    rw [e1]
    exact k2
set_option maxHeartbeats 4000000 in
theorem pJ0_checkIndex (a b : Int) (hab : 0 ≤ a ∧ a < b ∧ b < 2147483648) : MV K mJ0_checkIndex_df160 1 n [vi a, vi b] h (fun h' => h' = h) := by
  refine xMeth FJ0_checkIndex_df160 (Nat.le_of_ble_eq_true rfl) ?_
  refine x_iload_n 1 (xd DJ0_checkIndex_df160 rfl) rfl rfl ?_
  refine x_iload_n 2 (xd DJ0_checkIndex_df160 rfl) rfl rfl ?_
  have hend : WX K mJ0_checkIndex_df160 (true, 1, 0, 0) (qV n (fun h' => h' = h)) (n, 0, 0) 8 [(0, vi a), (1, vi b)] [vi a] h := by
    refine x_popi 9 (xd DJ0_checkIndex_df160 rfl) rfl ?_
    exact x_rv (xd DJ0_checkIndex_df160 rfl) rfl rfl
  intro hmd p e s m args below meth c E H locs ls hH hP hS hlv
  have hts := E.2.2.2.2.2.2.2.1
  have hX := E.2.2.2.2.2.2.2.2.1
  have key : ∀ v : Value, v.category ≠ 2 → W p K.1 e (xrm (true, 1, 0, 0)) s m args below meth c H locs 0 0 (MQ below (xQ K true (qV n (fun h' => h' = h))) args s 0 0 (xA K)) (F0 m 5 ls [v, .int (Int32.ofInt b), .int (Int32.ofInt a)]) := by
    intro v hv
    have hcf : CallFix p m c mJ0_checkIndex_df160.1 mJ0_checkIndex_df160.2.2.1 s args xTb mJ0_checkIndex_df160.2.1.cls := ⟨E.1, E.2.1, E.2.2.1, E.2.2.2.2.2.2.1, hts⟩
    have hM := pPre (K := K) (n := n) (h := h) a b hab v hv
    have hpre : ∀ (U : State), U.heap = H → s.WarmedH U.vm → rPc K mPre true n [.int (Int32.ofInt a), .int (Int32.ofInt b), v] h [Value.int (Int32.ofInt a), .int (Int32.ofInt b), v].toArray U := fun U hU hW => ⟨rfl, by rw [hU]; exact hH, by rw [hU]; exact hP, XF.moved hW hU hS hX, fun _ => ⟨Nat.zero_le _, (hmd rfl).2⟩⟩
    have hRm : xRoom (true, 1, 0, 0) (n, 0, 0) (true, 0, 0, 0) := ⟨Nat.le_refl _, Nat.le_refl _, Nat.le_refl _⟩
    refine x_run (M := mJ0_checkIndex_df160) (Q := qV n (fun h' => h' = h)) (R := (true, 1, 0, 0)) (R' := (true, 0, 0, 0)) (u := (n, 0, 0)) (st := []) (Q' := qI n (fun z h' => z = a ∧ h' = h)) (pc := 5) E hH hS hlv hmd (fun _ => rfl) (va_runS (As := [Value.int (Int32.ofInt a), .int (Int32.ofInt b), v]) hcf hM ⟨x_B hts FPre (xRoom_of (u := (n, 0, 0)) hRm) CPre, hts _ VPre⟩ ⟨rPc_blind, hpre⟩ rfl rfl hlv.1 rfl (Nat.zero_le 8) (xd DJ0_checkIndex_df160 rfl) hRm.2) ?_
    rintro w n' h' ⟨q1, z, q2, q3, q4⟩
    have q1 : n' = n := q1
    subst q1; subst q2; subst q3; subst q4
    exact hend
  rcases hX.2.2.2.2.2.2.2.2.2.1 with hz | ⟨t, hz⟩
  · exact va_gets E.1 E.2.1 hz hS E.2.2.2.2.2.2.1 (hts _ KJ0_1053) (fun _ q => q) (xd DJ0_checkIndex_df160 rfl) (key .null (show (1 : Nat) ≠ 2 by decide))
  · exact va_gets E.1 E.2.1 hz hS E.2.2.2.2.2.2.1 (hts _ KJ0_1053) (fun _ q => q) (xd DJ0_checkIndex_df160 rfl) (key (.ref t) (show (1 : Nat) ≠ 2 by decide))
end XSV
theorem sB_all : ∀ i : Fin 2, ∀ j : Fin 55, j.val < sLen i.val → 32 ≤ sB i.val (j.val : Int) ∧ sB i.val (j.val : Int) ≤ 126 := by decide +kernel
theorem sB_rg {i : Nat} {j : Int} (hi : i < 2) (h0 : 0 ≤ j) (hj : j < sLen i) : 32 ≤ sB i j ∧ sB i j ≤ 126 := by
  have hL : sLen i ≤ 55 := by
    have : i = 0 ∨ i = 1 := by omega
    rcases this with q | q <;> subst q <;> decide
  have := sB_all ⟨i, hi⟩ ⟨j.toNat, by omega⟩ (by show j.toNat < sLen i; omega)
  have e : ((j.toNat : Nat) : Int) = j := by omega
  rw [show ((⟨j.toNat, (by omega : j.toNat < 55)⟩ : Fin 55).val : Int) = j from e] at this
  exact this
theorem sB_1 : ∀ j : Fin 12, sB 1 (j.val : Int) = ltr (j.val : Int) := by decide +kernel
theorem sB_ltr {j : Int} (h0 : 0 ≤ j) (hj : j < 12) : sB 1 j = ltr j := by
  have := sB_1 ⟨j.toNat, by omega⟩
  have e : ((j.toNat : Nat) : Int) = j := by omega
  rw [show ((⟨j.toNat, (by omega : j.toNat < 12)⟩ : Fin 12).val : Int) = j from e] at this
  exact this
def kix (c : Int) : Int := if c = 97 then 0 else if c = 109 then 1 else if c = 120 then 2 else if c = 115 then 3 else if c = 108 then 4 else if c = 112 then 5 else if c = 119 then 6 else if c = 106 then 7 else if c = 122 then 8 else if c = 107 then 9 else if c = 113 then 10 else if c = 104 then 11 else -1
theorem kix_ltr {k : Int} (hk : 0 ≤ k ∧ k ≤ 11) : kix (ltr k) = k := by
  rcases k12 hk with e | e | e | e | e | e | e | e | e | e | e | e <;> subst e <;> rfl
theorem kix_no {c : Int} (h : ∀ j, 0 ≤ j → j < 12 → ltr j ≠ c) : kix c = -1 := by
  unfold kix
  rw [if_neg (fun q => h 0 (by decide) (by decide) q.symm), if_neg (fun q => h 1 (by decide) (by decide) q.symm), if_neg (fun q => h 2 (by decide) (by decide) q.symm), if_neg (fun q => h 3 (by decide) (by decide) q.symm), if_neg (fun q => h 4 (by decide) (by decide) q.symm), if_neg (fun q => h 5 (by decide) (by decide) q.symm), if_neg (fun q => h 6 (by decide) (by decide) q.symm), if_neg (fun q => h 7 (by decide) (by decide) q.symm), if_neg (fun q => h 8 (by decide) (by decide) q.symm), if_neg (fun q => h 9 (by decide) (by decide) q.symm), if_neg (fun q => h 10 (by decide) (by decide) q.symm), if_neg (fun q => h 11 (by decide) (by decide) q.symm)]
theorem kix_cs (c : Int) : kix c = -1 ∨ (0 ≤ kix c ∧ kix c ≤ 11 ∧ ltr (kix c) = c) := by
  unfold kix
  (repeat' split) <;> first | (left; rfl) | (right; subst_vars; refine ⟨by decide, by decide, rfl⟩)
set_option maxRecDepth 100000 in
set_option maxHeartbeats 4000000 in
theorem pJ0_coder {K : XK} {n : Nat} {h : XH} (i : Nat) (hi : i < 2) : MI K mJ0_coder_7d493 0 n [vr (1000000 + i)] h (fun zr h' => zr = 0 ∧ h' = h) := by
  refine xMeth FJ0_coder_7d493 (Nat.le_of_ble_eq_true rfl) ?_
  refine x_sget 3 KJ0_38 (xd DJ0_coder_7d493 rfl) rfl ?_
  refine x_if_eq 6 13 (xd DJ0_coder_7d493 rfl) rfl (by decide) rfl (fun c3 => absurd c3 (by decide)) (fun _ => ?_)
  refine x_aload_n 7 (xd DJ0_coder_7d493 rfl) rfl rfl ?_
  refine x_scod 10 (by omega) KJ0_15 (xd DJ0_coder_7d493 rfl) rfl ?_
  refine x_goto 14 (xd DJ0_coder_7d493 rfl) rfl ?_
  refine x_breturn (xd DJ0_coder_7d493 rfl) rfl rfl (by rfl) ⟨rfl, _, rfl, ?_⟩
  exact ⟨rfl, rfl⟩

set_option maxRecDepth 100000 in
set_option maxHeartbeats 4000000 in
theorem pJ0_isLatin1 {K : XK} {n : Nat} {h : XH} (i : Nat) (hi : i < 2) : MI K mJ0_isLatin1_aae02 0 n [vr (1000000 + i)] h (fun zr h' => zr = 1 ∧ h' = h) := by
  refine xMeth FJ0_isLatin1_aae02 (Nat.le_of_ble_eq_true rfl) ?_
  refine x_sget 3 KJ0_38 (xd DJ0_isLatin1_aae02 rfl) rfl ?_
  refine x_if_eq 6 17 (xd DJ0_isLatin1_aae02 rfl) rfl (by decide) rfl (fun c3 => absurd c3 (by decide)) (fun _ => ?_)
  refine x_aload_n 7 (xd DJ0_isLatin1_aae02 rfl) rfl rfl ?_
  refine x_scod 10 (by omega) KJ0_15 (xd DJ0_isLatin1_aae02 rfl) rfl ?_
  refine x_if_ne 13 17 (xd DJ0_isLatin1_aae02 rfl) rfl (by decide) rfl (fun c10 => absurd c10 (by decide)) (fun _ => ?_)
  refine x_iconst 14 (xd DJ0_isLatin1_aae02 rfl) rfl ?_
  refine x_goto 18 (xd DJ0_isLatin1_aae02 rfl) rfl ?_
  refine x_rz (xd DJ0_isLatin1_aae02 rfl) rfl (by decide) ?_
  exact ⟨rfl, rfl⟩

set_option maxRecDepth 100000 in
set_option maxHeartbeats 4000000 in
theorem pJ0_length {K : XK} {n : Nat} {h : XH} (i : Nat) (hi : i < 2) : MI K mJ0_length_8abf5 1 n [vr (1000000 + i)] h (fun zr h' => zr = (sLen i : Int) ∧ h' = h) := by
  refine xMeth FJ0_length_8abf5 (Nat.le_of_ble_eq_true rfl) ?_
  refine x_aload_n 1 (xd DJ0_length_8abf5 rfl) rfl rfl ?_
  refine x_sval 4 (by omega) KJ0_9 (xd DJ0_length_8abf5 rfl) rfl ?_
  refine x_slen 5 (by omega) (xd DJ0_length_8abf5 rfl) rfl ?_
  refine x_aload_n 6 (xd DJ0_length_8abf5 rfl) rfl rfl ?_
  refine x_Vs 9 (by omega) (pJ0_coder i hi) FJ0_coder_7d493 VJ0_coder_7d493 MJ0_335 (xd DJ0_length_8abf5 rfl) rfl rfl rfl (by decide) (Nat.le_of_ble_eq_true rfl) (by decide) rfl ?_
  rintro z9 h9 ⟨q1, q2⟩
  rw [q1, q2]
  clear q1 q2 z9 h9
  have hL : sLen i ≤ 55 := by
    have : i = 0 ∨ i = 1 := by omega
    rcases this with q | q <;> subst q <;> decide
  refine WX.stk (st' := [vi ((0 : Nat) : Int), vi (sLen i : Int)]) rfl ?_
  refine x_ishr 10 (k := 0) (by omega) (by omega) (xd DJ0_length_8abf5 rfl) rfl ?_
  refine x_ri (xd DJ0_length_8abf5 rfl) rfl ?_
  exact ⟨Int.ediv_one _, rfl⟩

set_option maxRecDepth 100000 in
set_option maxHeartbeats 4000000 in
theorem pJ1_charAt {K : XK} {n : Nat} {h : XH} (i : Nat) (k : Int) (hi : i < 2) (hk : 0 ≤ k ∧ k < sLen i) : MI K mJ1_charAt_3b067 2 n [vr (1000002 + i), vi k] h (fun zr h' => zr = sB i k ∧ h' = h) := by
  refine xMeth FJ1_charAt_3b067 (Nat.le_of_ble_eq_true rfl) ?_
  have hL : sLen i ≤ 55 := by
    have : i = 0 ∨ i = 1 := by omega
    rcases this with q | q <;> subst q <;> decide
  have hb := sB_rg hi hk.1 hk.2
  refine x_iload_n 1 (xd DJ1_charAt_3b067 rfl) rfl rfl ?_
  refine x_aload_n 2 (xd DJ1_charAt_3b067 rfl) rfl rfl ?_
  refine x_slen 3 (by omega) (xd DJ1_charAt_3b067 rfl) rfl ?_
  refine x_Sv 6 (pJ0_checkIndex k (sLen i : Int) (by omega)) FJ0_checkIndex_df160 VJ0_checkIndex_df160 CJ1_9 (xd DJ1_charAt_3b067 rfl) rfl rfl (by decide) (Nat.le_of_ble_eq_true rfl) (by decide) rfl ?_
  rintro h9 q2
  rw [q2]
  clear q2 h9
  refine x_aload_n 7 (xd DJ1_charAt_3b067 rfl) rfl rfl ?_
  refine x_iload_n 8 (xd DJ1_charAt_3b067 rfl) rfl rfl ?_
  refine x_sbal 9 (by omega) (by omega) (by omega) (xd DJ1_charAt_3b067 rfl) rfl ?_
  refine x_sipush 12 (xd DJ1_charAt_3b067 rfl) rfl rfl ?_
  refine x_iand255 13 (xd DJ1_charAt_3b067 rfl) rfl ?_
  refine x_i2c 14 (by omega) (xd DJ1_charAt_3b067 rfl) rfl ?_
  refine x_creturn (xd DJ1_charAt_3b067 rfl) rfl rfl (by omega) ⟨rfl, _, rfl, ?_⟩
  exact ⟨by omega, rfl⟩

set_option maxRecDepth 100000 in
set_option maxHeartbeats 4000000 in
theorem pJ0_charAt {K : XK} {n : Nat} {h : XH} (i : Nat) (k : Int) (hi : i < 2) (hk : 0 ≤ k ∧ k < sLen i) : MI K mJ0_charAt_5068e 3 n [vr (1000000 + i), vi k] h (fun zr h' => zr = sB i k ∧ h' = h) := by
  refine xMeth FJ0_charAt_5068e (Nat.le_of_ble_eq_true rfl) ?_
  have hb := sB_rg hi hk.1 hk.2
  refine x_aload_n 1 (xd DJ0_charAt_5068e rfl) rfl rfl ?_
  refine x_Vs 4 (by omega) (pJ0_isLatin1 i hi) FJ0_isLatin1_aae02 VJ0_isLatin1_aae02 MJ0_492 (xd DJ0_charAt_5068e rfl) rfl rfl rfl (by decide) (Nat.le_of_ble_eq_true rfl) (by decide) rfl ?_
  rintro z9 h9 ⟨q1, q2⟩
  rw [q1, q2]
  clear q1 q2 z9 h9
  refine x_if_eq 7 16 (xd DJ0_charAt_5068e rfl) rfl (by decide) rfl (fun c4 => absurd c4 (by decide)) (fun _ => ?_)
  refine x_aload_n 8 (xd DJ0_charAt_5068e rfl) rfl rfl ?_
  refine x_sval 11 (by omega) KJ0_9 (xd DJ0_charAt_5068e rfl) rfl ?_
  refine x_iload_n 12 (xd DJ0_charAt_5068e rfl) rfl rfl ?_
  refine x_Si 15 (pJ1_charAt i k hi hk) FJ1_charAt_3b067 VJ1_charAt_3b067 CJ0_495 (xd DJ0_charAt_5068e rfl) rfl rfl (by decide) (Nat.le_of_ble_eq_true rfl) (by decide) rfl ?_
  rintro z9 h9 ⟨q1, q2⟩
  rw [q1, q2]
  clear q1 q2 z9 h9
  refine x_creturn (xd DJ0_charAt_5068e rfl) rfl rfl (by omega) ⟨rfl, _, rfl, ?_⟩
  exact ⟨rfl, rfl⟩

set_option maxRecDepth 100000 in
set_option maxHeartbeats 4000000 in
theorem pJ1_canEncode {K : XK} {n : Nat} {h : XH} (c : Int) (hc : 0 ≤ c ∧ c < 128) : MI K mJ1_canEncode_9a6ad 0 n [vi c] h (fun zr h' => zr = 1 ∧ h' = h) := by
  refine xMeth FJ1_canEncode_9a6ad (Nat.le_of_ble_eq_true rfl) ?_
  refine x_iload_n 1 (xd DJ1_canEncode_9a6ad rfl) rfl rfl ?_
  refine x_if_lt 4 15 (xd DJ1_canEncode_9a6ad rfl) rfl (by omega) rfl (fun c1 => absurd c1 (by omega)) (fun _ => ?_)
  refine x_iload_n 5 (xd DJ1_canEncode_9a6ad rfl) rfl rfl ?_
  refine x_sipush 8 (xd DJ1_canEncode_9a6ad rfl) rfl rfl ?_
  refine x_icmp_gt 11 15 (xd DJ1_canEncode_9a6ad rfl) rfl (by omega) (by omega) rfl (fun c8 => absurd c8 (by omega)) (fun _ => ?_)
  refine x_iconst 12 (xd DJ1_canEncode_9a6ad rfl) rfl ?_
  refine x_goto 16 (xd DJ1_canEncode_9a6ad rfl) rfl ?_
  refine x_rz (xd DJ1_canEncode_9a6ad rfl) rfl (by decide) ?_
  exact ⟨rfl, rfl⟩

set_option maxRecDepth 100000 in
set_option maxHeartbeats 4000000 in
theorem pJ1_indexOfChar {K : XK} {n : Nat} {h : XH} (c : Int) (hc : 0 ≤ c ∧ c < 128) : MI K mJ1_indexOfChar_4cfef 0 n [vr (1000002 + 1), vi c, vi 0, vi 12] h (fun zr h' => zr = kix c ∧ h' = h) := by
  refine xMeth FJ1_indexOfChar_4cfef (Nat.le_of_ble_eq_true rfl) ?_
  have loop : ∀ (f : Nat) (xi : Int), 0 ≤ xi → xi ≤ 12 → 12 - xi < (f : Int) → (∀ j, 0 ≤ j → j < xi → ltr j ≠ c) → WI K mJ1_indexOfChar_4cfef 0 n (qI n (fun zr h' => zr = kix c ∧ h' = h)) 7 [(0, vr (1000002 + 1)), (1, vi c), (2, vi 0), (3, vi 12), (4, vi c), (5, vi xi)] [] h := by
    intro f
    induction f with
    | zero => intro xi a b c; exact absurd c (by omega)
    | succ f ih =>
      intro xi h0 h1 hf hne
      refine x_iload 9 (xd DJ1_indexOfChar_4cfef rfl) rfl rfl ?_
      refine x_iload_n 10 (xd DJ1_indexOfChar_4cfef rfl) rfl rfl ?_
      refine x_icmp_ge 13 31 (xd DJ1_indexOfChar_4cfef rfl) rfl (by omega) (by omega) rfl (fun c10 => ?_) (fun c10 => ?_)
      · refine x_iconst 32 (xd DJ1_indexOfChar_4cfef rfl) rfl ?_
        refine x_ri (xd DJ1_indexOfChar_4cfef rfl) rfl ?_
        exact ⟨(kix_no (fun j a b => hne j a (by omega))).symm, rfl⟩
      · refine x_aload_n 14 (xd DJ1_indexOfChar_4cfef rfl) rfl rfl ?_
        refine x_iload 16 (xd DJ1_indexOfChar_4cfef rfl) rfl rfl ?_
        refine x_sbal 17 (by omega) (by first | omega | (show _ < ((12 : Nat) : Int); omega)) (by first | omega | (show _ < ((12 : Nat) : Int); omega)) (xd DJ1_indexOfChar_4cfef rfl) rfl ?_
        refine x_iload 19 (xd DJ1_indexOfChar_4cfef rfl) rfl rfl ?_
        refine x_icmp_ne 22 25 (xd DJ1_indexOfChar_4cfef rfl) rfl (by first | omega | (rw [sB_ltr h0 (by omega)]; have := ltr_rg xi; omega)) (by first | omega | (rw [sB_ltr h0 (by omega)]; have := ltr_rg xi; omega)) rfl (fun c19 => ?_) (fun c19 => ?_)
        · refine x_iinc 28 (L' := [(0, _), (1, _), (2, _), (3, _), (4, _), (5, _)]) (xd DJ1_indexOfChar_4cfef rfl) rfl (by decide) rfl rfl rfl ?_
          refine x_goto 7 (xd DJ1_indexOfChar_4cfef rfl) rfl ?_
          refine ih (xi + 1) (by omega) (by omega) (by omega) (fun j a b => ?_)
          rw [sB_ltr h0 (by omega)] at c19
          by_cases e : j = xi
          · rw [e]; exact c19
          · exact hne j a (by omega)
        · refine x_iload 24 (xd DJ1_indexOfChar_4cfef rfl) rfl rfl ?_
          refine x_ri (xd DJ1_indexOfChar_4cfef rfl) rfl ?_
          refine ⟨?_, rfl⟩
          rw [sB_ltr h0 (by omega)] at c19
          rw [← c19, kix_ltr ⟨h0, by omega⟩]
  refine x_iload_n 1 (xd DJ1_indexOfChar_4cfef rfl) rfl rfl ?_
  refine x_i2b 2 (by omega) (xd DJ1_indexOfChar_4cfef rfl) rfl ?_
  refine x_istore 4 (L' := [(0, _), (1, _), (2, _), (3, _), (4, _)]) (xd DJ1_indexOfChar_4cfef rfl) (by decide) rfl rfl rfl ?_
  refine x_iload_n 5 (xd DJ1_indexOfChar_4cfef rfl) rfl rfl ?_
  refine x_istore 7 (L' := [(0, _), (1, _), (2, _), (3, _), (4, _), (5, _)]) (xd DJ1_indexOfChar_4cfef rfl) (by decide) rfl rfl rfl ?_
  exact loop 20 0 (by omega) (by omega) (by omega) (fun j a b => absurd b (by omega))

set_option maxRecDepth 100000 in
set_option maxHeartbeats 4000000 in
theorem pJ1_indexOf {K : XK} {n : Nat} {h : XH} (c : Int) (hc : 0 ≤ c ∧ c < 128) : MI K mJ1_indexOf_4cfef 1 n [vr (1000002 + 1), vi c, vi 0, vi 12] h (fun zr h' => zr = kix c ∧ h' = h) := by
  refine xMeth FJ1_indexOf_4cfef (Nat.le_of_ble_eq_true rfl) ?_
  refine x_iload_n 1 (xd DJ1_indexOf_4cfef rfl) rfl rfl ?_
  refine x_Si 4 (pJ1_canEncode c hc) FJ1_canEncode_9a6ad VJ1_canEncode_9a6ad CJ1_88 (xd DJ1_indexOf_4cfef rfl) rfl rfl (by decide) (Nat.le_of_ble_eq_true rfl) (by decide) rfl ?_
  rintro z9 h9 ⟨q1, q2⟩
  rw [q1, q2]
  clear q1 q2 z9 h9
  refine x_if_ne 7 9 (xd DJ1_indexOf_4cfef rfl) rfl (by decide) rfl (fun _ => ?_) (fun c4 => absurd c4 (by decide))
  refine x_iload_n 10 (xd DJ1_indexOf_4cfef rfl) rfl rfl ?_
  refine x_iconst 11 (xd DJ1_indexOf_4cfef rfl) rfl ?_
  refine x_max 14 mxLJ1_92 mxS mmI mxC (xd DJ1_indexOf_4cfef rfl) ⟨Nat.le_refl _, Nat.zero_le _, Nat.zero_le _⟩ (by decide) (by decide) (by decide) rfl ?_
  refine x_istore_n 15 (L' := [(0, _), (1, _), (2, _), (3, _)]) (xd DJ1_indexOf_4cfef rfl) (by decide) rfl rfl rfl ?_
  refine x_iload_n 16 (xd DJ1_indexOf_4cfef rfl) rfl rfl ?_
  refine x_aload_n 17 (xd DJ1_indexOf_4cfef rfl) rfl rfl ?_
  refine x_slen 18 (by omega) (xd DJ1_indexOf_4cfef rfl) rfl ?_
  refine x_min 21 mmLJ1_38 mmS mmI mmC (xd DJ1_indexOf_4cfef rfl) ⟨Nat.le_refl _, Nat.zero_le _, Nat.zero_le _⟩ (by decide) (by decide) (by decide) rfl ?_
  refine x_istore_n 22 (L' := [(0, _), (1, _), (2, _), (3, _)]) (xd DJ1_indexOf_4cfef rfl) (by decide) rfl rfl rfl ?_
  refine x_iload_n 23 (xd DJ1_indexOf_4cfef rfl) rfl rfl ?_
  refine x_iload_n 24 (xd DJ1_indexOf_4cfef rfl) rfl rfl ?_
  refine x_icmp_lt 27 29 (xd DJ1_indexOf_4cfef rfl) rfl (by decide) (by decide) rfl (fun _ => ?_) (fun c24 => absurd c24 (by decide))
  refine x_aload_n 30 (xd DJ1_indexOf_4cfef rfl) rfl rfl ?_
  refine x_iload_n 31 (xd DJ1_indexOf_4cfef rfl) rfl rfl ?_
  refine x_iload_n 32 (xd DJ1_indexOf_4cfef rfl) rfl rfl ?_
  refine x_iload_n 33 (xd DJ1_indexOf_4cfef rfl) rfl rfl ?_
  refine x_Si 36 (pJ1_indexOfChar c hc) FJ1_indexOfChar_4cfef VJ1_indexOfChar_4cfef CJ1_95 (xd DJ1_indexOf_4cfef rfl) rfl rfl (by decide) (Nat.le_of_ble_eq_true rfl) (by decide) rfl ?_
  rintro z9 h9 ⟨q1, q2⟩
  rw [q1, q2]
  clear q1 q2 z9 h9
  refine x_ri (xd DJ1_indexOf_4cfef rfl) rfl ?_
  exact ⟨rfl, rfl⟩

set_option maxRecDepth 100000 in
set_option maxHeartbeats 4000000 in
theorem pJ0_indexOf2 {K : XK} {n : Nat} {h : XH} (c : Int) (hc : 0 ≤ c ∧ c < 128) : MI K mJ0_indexOf_7cf53 2 n [vr (1000000 + 1), vi c, vi 0] h (fun zr h' => zr = kix c ∧ h' = h) := by
  refine xMeth FJ0_indexOf_7cf53 (Nat.le_of_ble_eq_true rfl) ?_
  refine x_aload_n 1 (xd DJ0_indexOf_7cf53 rfl) rfl rfl ?_
  refine x_Vs 4 (by omega) (pJ0_isLatin1 1 (by decide)) FJ0_isLatin1_aae02 VJ0_isLatin1_aae02 MJ0_492 (xd DJ0_indexOf_7cf53 rfl) rfl rfl rfl (by decide) (Nat.le_of_ble_eq_true rfl) (by decide) rfl ?_
  rintro z9 h9 ⟨q1, q2⟩
  rw [q1, q2]
  clear q1 q2 z9 h9
  refine x_if_eq 7 23 (xd DJ0_indexOf_7cf53 rfl) rfl (by decide) rfl (fun c4 => absurd c4 (by decide)) (fun _ => ?_)
  refine x_aload_n 8 (xd DJ0_indexOf_7cf53 rfl) rfl rfl ?_
  refine x_sval 11 (by omega) KJ0_9 (xd DJ0_indexOf_7cf53 rfl) rfl ?_
  refine x_iload_n 12 (xd DJ0_indexOf_7cf53 rfl) rfl rfl ?_
  refine x_iload_n 13 (xd DJ0_indexOf_7cf53 rfl) rfl rfl ?_
  refine x_aload_n 14 (xd DJ0_indexOf_7cf53 rfl) rfl rfl ?_
  refine x_Vs 17 (by omega) (pJ0_length 1 (by decide)) FJ0_length_8abf5 VJ0_length_8abf5 MJ0_505 (xd DJ0_indexOf_7cf53 rfl) rfl rfl rfl (by decide) (Nat.le_of_ble_eq_true rfl) (by decide) rfl ?_
  rintro z9 h9 ⟨q1, q2⟩
  rw [q1, q2]
  clear q1 q2 z9 h9
  refine x_Si 20 (pJ1_indexOf c hc) FJ1_indexOf_4cfef VJ1_indexOf_4cfef CJ0_637 (xd DJ0_indexOf_7cf53 rfl) rfl rfl (by decide) (Nat.le_of_ble_eq_true rfl) (by decide) rfl ?_
  rintro z9 h9 ⟨q1, q2⟩
  rw [q1, q2]
  clear q1 q2 z9 h9
  refine x_goto 36 (xd DJ0_indexOf_7cf53 rfl) rfl ?_
  refine x_ri (xd DJ0_indexOf_7cf53 rfl) rfl ?_
  exact ⟨rfl, rfl⟩

set_option maxRecDepth 100000 in
set_option maxHeartbeats 4000000 in
theorem pJ0_indexOf {K : XK} {n : Nat} {h : XH} (c : Int) (hc : 0 ≤ c ∧ c < 128) : MI K mJ0_indexOf_0f7a4 3 n [vr (1000000 + 1), vi c] h (fun zr h' => zr = kix c ∧ h' = h) := by
  refine xMeth FJ0_indexOf_0f7a4 (Nat.le_of_ble_eq_true rfl) ?_
  refine x_aload_n 1 (xd DJ0_indexOf_0f7a4 rfl) rfl rfl ?_
  refine x_iload_n 2 (xd DJ0_indexOf_0f7a4 rfl) rfl rfl ?_
  refine x_iconst 3 (xd DJ0_indexOf_0f7a4 rfl) rfl ?_
  refine x_Vs 6 (by omega) (pJ0_indexOf2 c hc) FJ0_indexOf_7cf53 VJ0_indexOf_7cf53 MJ0_633 (xd DJ0_indexOf_0f7a4 rfl) rfl rfl rfl (by decide) (Nat.le_of_ble_eq_true rfl) (by decide) rfl ?_
  rintro z9 h9 ⟨q1, q2⟩
  rw [q1, q2]
  clear q1 q2 z9 h9
  refine x_ri (xd DJ0_indexOf_0f7a4 rfl) rfl ?_
  exact ⟨rfl, rfl⟩

set_option maxRecDepth 100000 in
set_option maxHeartbeats 4000000 in
theorem pX8_letterOf {K : XK} {n : Nat} {h : XH} (k : Int) (hk : xrg k) : MI K mX8_letterOf 4 n [vi k] h (fun zr h' => zr = (if 0 ≤ k ∧ k ≤ 11 then ltr k else -4) ∧ h' = h) := by
  refine xMeth FX8_letterOf (Nat.le_of_ble_eq_true rfl) ?_
  refine x_iload_n 1 (xd DX8_letterOf rfl) rfl rfl ?_
  refine x_if_lt 4 20 (xd DX8_letterOf rfl) rfl (by omega) rfl (fun c1 => ?_) (fun c1 => ?_)
  · refine x_bipush 22 (xd DX8_letterOf rfl) rfl rfl ?_
    refine x_ri (xd DX8_letterOf rfl) rfl ?_
    refine ⟨?_, rfl⟩
    first
      | (rw [if_neg (by omega)]; done)
      | (rw [if_pos ⟨by omega, by omega⟩]; exact sB_ltr (by omega) (by omega))
  · refine x_iload_n 5 (xd DX8_letterOf rfl) rfl rfl ?_
    refine x_bipush 7 (xd DX8_letterOf rfl) rfl rfl ?_
    refine x_icmp_gt 10 20 (xd DX8_letterOf rfl) rfl (by omega) (by omega) rfl (fun c7 => ?_) (fun c7 => ?_)
    · refine x_bipush 22 (xd DX8_letterOf rfl) rfl rfl ?_
      refine x_ri (xd DX8_letterOf rfl) rfl ?_
      refine ⟨?_, rfl⟩
      first
        | (rw [if_neg (by omega)]; done)
        | (rw [if_pos ⟨by omega, by omega⟩]; exact sB_ltr (by omega) (by omega))
    · refine x_ldcwS 13 1 (fun U q => q.2.2.2.2.2.2.2.2.1) (xd DX8_letterOf rfl) rfl ?_
      refine x_iload_n 14 (xd DX8_letterOf rfl) rfl rfl ?_
      refine x_Vs 17 (by omega) (pJ0_charAt 1 k (by decide) (by show 0 ≤ k ∧ k < ((12 : Nat) : Int); omega)) FJ0_charAt_5068e VJ0_charAt_5068e MX8_72 (xd DX8_letterOf rfl) rfl rfl rfl (by decide) (Nat.le_of_ble_eq_true rfl) (by decide) rfl ?_
      rintro z9 h9 ⟨q1, q2⟩
      rw [q1, q2]
      clear q1 q2 z9 h9
      refine x_goto 22 (xd DX8_letterOf rfl) rfl ?_
      refine x_ri (xd DX8_letterOf rfl) rfl ?_
      refine ⟨?_, rfl⟩
      first
        | (rw [if_neg (by omega)]; done)
        | (rw [if_pos ⟨by omega, by omega⟩]; exact sB_ltr (by omega) (by omega))

