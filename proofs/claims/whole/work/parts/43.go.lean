/-! Run: what stays so by a step; many steps -/
def RWx (h : XH) : Prop := (h 255 5 = 0 ∨ h 255 5 = 1) ∧ (h 255 6 = 0 ∨ h 255 6 = 1) ∧ (h 255 7 = 0 ∨ h 255 7 = 1) ∧ (h 255 8 = 0 ∨ h 255 8 = 1) ∧ xrg (h 255 10) ∧ (0 ≤ h 255 12 ∧ h 255 12 ≤ 12) ∧ (1 ≤ h 255 13 ∧ h 255 13 ≤ 4) ∧ (0 ≤ h 255 14 ∧ h 255 14 ≤ h 255 13) ∧ (∀ j, 0 ≤ j → j < 10 → xrg (h 256 j)) ∧ ∀ j, 0 ≤ j → j < h 255 14 → xrg (h 258 j)
theorem RW.x {h : XH} (hR : RW h) : RWx h := by
  obtain ⟨r5, r6, r7, r8, r9, r10, r12, r13, r14, r256, r258⟩ := hR
  exact ⟨r5, r6, r7, r8, r10, r12, r13, r14, r256, r258⟩
theorem RWx.w {h : XH} (hR : RWx h) (h9 : h 255 6 = 0 → 0 ≤ h 255 9 ∧ h 255 9 < h 4 3) : RW h := by
  obtain ⟨r5, r6, r7, r8, r10, r12, r13, r14, r256, r258⟩ := hR
  exact ⟨r5, r6, r7, r8, h9, r10, r12, r13, r14, r256, r258⟩
theorem RWx.s {h : XH} {j z : Int} (hR : RWx h) (hj : j = 9 ∨ j = 11 ∨ (j = 6 ∧ (z = 0 ∨ z = 1)) ∨ (j = 8 ∧ (z = 0 ∨ z = 1)) ∨ (j = 10 ∧ xrg z) ∨ (j = 12 ∧ 0 ≤ z ∧ z ≤ 12)) : RWx (hset h 255 j z) := by
  obtain ⟨r5, r6, r7, r8, r10, r12, r13, r14, r256, r258⟩ := hR
  unfold RWx
  rw [hset_c (d := 256) (c := 255) (by decide), hset_c (d := 258) (c := 255) (by decide)]
  rcases hj with e | e | ⟨e, e2⟩ | ⟨e, e2⟩ | ⟨e, e2⟩ | ⟨e, e2⟩ <;> subst e
  · rw [hset_i (j := 5) (by decide), hset_i (j := 6) (by decide), hset_i (j := 7) (by decide), hset_i (j := 8) (by decide), hset_i (j := 10) (by decide), hset_i (j := 12) (by decide), hset_i (j := 13) (by decide), hset_i (j := 14) (by decide)]
    exact ⟨r5, r6, r7, r8, r10, r12, r13, r14, r256, r258⟩
  · rw [hset_i (j := 5) (by decide), hset_i (j := 6) (by decide), hset_i (j := 7) (by decide), hset_i (j := 8) (by decide), hset_i (j := 10) (by decide), hset_i (j := 12) (by decide), hset_i (j := 13) (by decide), hset_i (j := 14) (by decide)]
    exact ⟨r5, r6, r7, r8, r10, r12, r13, r14, r256, r258⟩
  · rw [hset_i (j := 5) (by decide), hset_s, hset_i (j := 7) (by decide), hset_i (j := 8) (by decide), hset_i (j := 10) (by decide), hset_i (j := 12) (by decide), hset_i (j := 13) (by decide), hset_i (j := 14) (by decide)]
    exact ⟨r5, e2, r7, r8, r10, r12, r13, r14, r256, r258⟩
  · rw [hset_i (j := 5) (by decide), hset_i (j := 6) (by decide), hset_i (j := 7) (by decide), hset_s, hset_i (j := 10) (by decide), hset_i (j := 12) (by decide), hset_i (j := 13) (by decide), hset_i (j := 14) (by decide)]
    exact ⟨r5, r6, r7, e2, r10, r12, r13, r14, r256, r258⟩
  · rw [hset_i (j := 5) (by decide), hset_i (j := 6) (by decide), hset_i (j := 7) (by decide), hset_i (j := 8) (by decide), hset_s, hset_i (j := 12) (by decide), hset_i (j := 13) (by decide), hset_i (j := 14) (by decide)]
    exact ⟨r5, r6, r7, r8, e2, r12, r13, r14, r256, r258⟩
  · rw [hset_i (j := 5) (by decide), hset_i (j := 6) (by decide), hset_i (j := 7) (by decide), hset_i (j := 8) (by decide), hset_i (j := 10) (by decide), hset_s, hset_i (j := 13) (by decide), hset_i (j := 14) (by decide)]
    exact ⟨r5, r6, r7, r8, r10, e2, r13, r14, r256, r258⟩
theorem RWx.c {h : XH} {j z : Int} (hR : RWx h) (hz : xrg z) : RWx (hset h 256 j z) := by
  obtain ⟨r5, r6, r7, r8, r10, r12, r13, r14, r256, r258⟩ := hR
  unfold RWx
  rw [hset_c (d := 255) (c := 256) (by decide), hset_c (d := 258) (c := 256) (by decide)]
  refine ⟨r5, r6, r7, r8, r10, r12, r13, r14, fun x a b => ?_, r258⟩
  by_cases q : x = j
  · subst q; rw [hset_s]; exact hz
  · rw [hset_i q]; exact r256 x a b
theorem RWx.o {h : XH} {j z : Int} (hR : RWx h) : RWx (hset h 257 j z) := by
  obtain ⟨r5, r6, r7, r8, r10, r12, r13, r14, r256, r258⟩ := hR
  unfold RWx
  rw [hset_c (d := 255) (c := 257) (by decide), hset_c (d := 256) (c := 257) (by decide), hset_c (d := 258) (c := 257) (by decide)]
  exact ⟨r5, r6, r7, r8, r10, r12, r13, r14, r256, r258⟩
theorem RWx.use {h : XH} {k : Nat} {l : Int} (hR : RWx h) (hl : xrg l) : RWx (useH h k l) := by
  obtain ⟨r5, r6, r7, r8, r10, r12, r13, r14, r256, r258⟩ := hR
  unfold RWx
  have u := fun j a b c => useH_255 h k l (j := j) a b c
  rw [u 5 (by decide) (by decide) (by decide), u 6 (by decide) (by decide) (by decide), u 7 (by decide) (by decide) (by decide), u 8 (by decide) (by decide) (by decide), u 10 (by decide) (by decide) (by decide), u 12 (by decide) (by decide) (by decide), u 13 (by decide) (by decide) (by decide), useH_row h k l (c := 256) (Or.inl rfl)]
  have hq := fP_rg (fun j => h 258 j = l) (h 255 14).toNat 0
  have e14 : useH h k l 255 14 = hldM h k l 255 14 := by unfold useH; rw [rset_c (by decide)]
  have e258 : useH h k l 258 = fun j => if j = 0 then l else if 0 < j ∧ j ≤ hldQ h l then h 258 (j - 1) else h 258 j := by unfold useH; rw [rset_s]
  rw [e14, e258]
  have q9 : (0 ≤ hldP h l ∧ hldM h k l 255 14 = h 255 14 ∧ hldQ h l = hldP h l ∧ hldP h l < h 255 14) ∨ (hldM h k l 255 14 = (if h 255 13 < h 255 14 + 1 then h 255 13 else h 255 14 + 1) ∧ hldQ h l = (if h 255 13 < h 255 14 + 1 then h 255 13 else h 255 14 + 1) - 1) := by
    by_cases q : 0 ≤ hldP h l
    · left
      refine ⟨q, ?_, ?_, ?_⟩
      · unfold hldM; rw [pik_t q]
      · unfold hldQ; rw [pik_t q]
      · unfold hldP at *; omega
    · right
      refine ⟨?_, ?_⟩
      · unfold hldM; rw [pik_f q, hset_s]
      · unfold hldQ; rw [pik_f q]
  refine ⟨r5, r6, r7, r8, r10, r12, r13, by split at q9 <;> omega, r256, fun j a b => ?_⟩
  show xrg (if j = 0 then l else if 0 < j ∧ j ≤ hldQ h l then h 258 (j - 1) else h 258 j)
  by_cases z0 : j = 0
  · rw [if_pos z0]; exact hl
  · rw [if_neg z0]
    by_cases z1 : 0 < j ∧ j ≤ hldQ h l
    · rw [if_pos z1]
      exact r258 (j - 1) (by omega) (by split at q9 <;> omega)
    · rw [if_neg z1]
      exact r258 j a (by split at q9 <;> omega)
theorem xxor_any (a b : Int) : xrg (xxor a b) := by
  unfold xxor
  exact ⟨(Int32.ofInt a ^^^ Int32.ofInt b).le_toInt, (Int32.ofInt a ^^^ Int32.ofInt b).toInt_lt⟩
theorem mod_rg (a : Int) : xrg (a % 65536) := by
  have := Int.emod_nonneg a (show (65536 : Int) ≠ 0 by decide)
  have := Int.emod_lt_of_pos a (show (0 : Int) < 65536 by decide)
  omega
theorem RWx.wk {h : XH} {kd v : Int} (hR : RWx h) (hv : 0 ≤ v ∧ v ≤ 9) (h6 : kd = 6 → h 255 12 < 12) (hkd : 0 ≤ kd ∧ kd ≤ 6) : RWx (wkH h kd v) := by
  have hR' := hR
  obtain ⟨r5, r6, r7, r8, r10, r12, r13, r14, r256, r258⟩ := hR'
  unfold wkH
  split
  · exact hR.s (by right; right; right; right; left; exact ⟨rfl, mod_rg _⟩)
  split
  · exact hR.s (by right; right; right; right; left; exact ⟨rfl, mod_rg _⟩)
  split
  · exact hR.s (by right; right; right; right; left; exact ⟨rfl, xxor_any _ _⟩)
  split
  · exact hR.c r10
  split
  · exact hR.s (by right; right; right; right; left; exact ⟨rfl, r256 v hv.1 (by omega)⟩)
  split
  · exact hR.s (by right; right; right; right; left; exact ⟨rfl, mod_rg _⟩)
  · unfold tellH
    have k6 := h6 (by omega)
    exact (hR.o (j := h 255 12) (z := (h 255 10 + v) % 65536)).s (by omega)
theorem adr_rg {h : XH} (ha : ∀ j, 0 ≤ j → j < h 4 3 → xrg (h 251 j)) {i : Int} (hi : xrg i) : xrg (adr h i) := by
  unfold adr
  by_cases q : h 255 7 ≠ 0 ∧ 0 ≤ i ∧ i < h 4 3
  · rw [pik_t q]; exact ha i q.2.1 q.2.2
  · rw [pik_f q]; exact hi
theorem RWx.jmp {h : XH} (hR : RWx h) : RWx (jmpH h) := by
  unfold jmpH
  by_cases q : 0 ≤ fP (jmpP h) 0 (h 4 3).toNat
  · rw [pik_t q]; exact hR.s (Or.inl rfl)
  · rw [pik_f q]; exact (hR.s (j := 8) (z := 1) (by omega)).s (by omega)
theorem RWx.trn {h : XH} {kd t : Int} (hR : RWx h) (ha : ∀ j, 0 ≤ j → j < h 4 3 → xrg (h 251 j)) (ht : xrg t) : RWx (trnH h kd t) := by
  unfold trnH
  split
  · exact hR.s (Or.inl rfl)
  split
  · exact hR.s (Or.inl rfl)
  split
  · exact hR.s (by right; right; right; right; left; exact ⟨rfl, adr_rg ha ht⟩)
  split
  · exact hR.jmp
  · exact hR.s (by omega)
theorem stp_RW {h : XH} {k : Nat} (hP : PW h) (hR : RW h) (hn : h 255 6 = 0) (h6 : h 5 (h 255 9) = 6 → h 255 12 < 12) (ha : ∀ j, 0 ≤ j → j < h 4 3 → xrg (h 251 j)) : RW (stpH h k) ∧ xrg (stpC h k 255 9) := by
  have hP1 := hP.1
  obtain ⟨h0, h1⟩ := hR.2.2.2.2.1 hn
  have hv := hP.v h0 h1
  have hp : (0 : Int) < ((2 ^ k : Nat) : Int) := Int.natCast_pos.mpr (Nat.two_pow_pos k)
  have hA : RWx (stpA h k) := by
    unfold stpA
    by_cases q : h 255 7 ≠ 0
    · rw [pik_t q]
      exact hR.x.use ⟨Int.le_trans (by decide) (Int.ediv_nonneg h0 (Int.le_of_lt hp)), by have := Int.ediv_le_self (a := h 255 9) ((2 ^ k : Nat) : Int) h0; omega⟩
    · rw [pik_f q]; exact hR.x
  have hB : RWx (stpB h k) := (hA.s (j := 11) (by omega)).s (Or.inl rfl)
  have b9 : stpB h k 255 9 = h 255 9 + 1 := by unfold stpB; rw [hset_s]
  have b12 : stpB h k 255 12 = h 255 12 := by unfold stpB; rw [hset_i (by decide), hset_i (by decide)]; exact stpA_255 h k (by decide) (by decide) (by decide)
  have B := stpB_off h k
  have B4 : stpB h k 4 = h 4 := B 4 (by unfold SRu; omega)
  have B5 : stpB h k 5 = h 5 := B 5 (by unfold SRu; omega)
  have B6 : stpB h k 6 = h 6 := B 6 (by unfold SRu; omega)
  have B251 : stpB h k 251 = h 251 := B 251 (by unfold SRu; omega)
  have hC : RWx (stpC h k) := by
    unfold stpC
    by_cases q : 0 ≤ h 5 (h 255 9) ∧ h 5 (h 255 9) ≤ 6
    · rw [if_pos q]
      exact hB.wk ((hP.2 _ h0 h1).2.1 q.2) (fun z => by rw [b12]; exact h6 z) q
    · rw [if_neg q]
      exact hB.trn (by rw [B251, B4]; exact ha) (by omega)
  have c9 : xrg (stpC h k 255 9) := by
    unfold stpC
    by_cases q : 0 ≤ h 5 (h 255 9) ∧ h 5 (h 255 9) ≤ 6
    · rw [if_pos q]
      have : wkH (stpB h k) (h 5 (h 255 9)) (h 6 (h 255 9)) 255 9 = h 255 9 + 1 := by
        unfold wkH tellH
        (repeat' split) <;> first | (rw [hset_i (by decide), b9]) | (rw [hset_c (by decide), b9]) | (rw [hset_i (by decide), hset_c (by decide), b9])
      rw [this]; omega
    · rw [if_neg q]
      unfold trnH
      split
      · rw [hset_s]; omega
      split
      · rw [hset_s, b9]; split <;> omega
      split
      · rw [hset_i (by decide), b9]; omega
      split
      · unfold jmpH
        rw [B4, B6]
        have f9 := fP_rg (jmpP (stpB h k)) (h 4 3).toNat 0
        by_cases q2 : 0 ≤ fP (jmpP (stpB h k)) 0 (h 4 3).toNat
        · rw [pik_t q2, hset_s]
          have := hP.v (i := fP (jmpP (stpB h k)) 0 (h 4 3).toNat) q2 (by omega)
          omega
        · rw [pik_f q2, hset_i (by decide), hset_i (by decide), b9]; omega
      · rw [hset_i (by decide), b9]; omega
  refine ⟨?_, c9⟩
  have C4 : stpC h k 4 = h 4 := stpC_off h k 4 (by unfold SRu; omega)
  unfold stpH
  by_cases q : 0 ≤ stpC h k 255 9 ∧ stpC h k 255 9 < h 4 3
  · rw [pik_t q]
    exact hC.w (fun _ => by rw [C4]; exact q)
  · rw [pik_f q]
    exact (hC.s (j := 6) (z := 1) (by omega)).w (fun z => by rw [hset_s] at z; exact absurd z (by decide))
noncomputable def goH (h : XH) (k : Nat) : Nat → XH
  | 0 => h
  | m + 1 => pik (h 255 6 = 0) (pik (h 5 (h 255 9) = 6 ∧ h 255 12 = 12) (hset h 255 6 1) (goH (stpH h k) k m)) h
set_option maxRecDepth 100000 in
set_option maxHeartbeats 4000000 in
theorem pX5_go {K : XK} {n : Nat} {h : XH} (c : Int) (k : Nat) (hc : 1 ≤ c ∧ c ≤ 400) (hP : PW h) (hR : RW h) (hk : h 192 15 = (k : Int)) (hk4 : k ≤ 4) (ha : ∀ j, 0 ≤ j → j < h 4 3 → xrg (h 251 j)) : MI K mX5_go 5 n [vr 255, vi c] h (fun z h' => h' = goH h k c.toNat ∧ z = h' 255 11 - h 255 11) := by
  refine xMeth FX5_go (Nat.le_of_ble_eq_true rfl) ?_
  have hP1 := hP.1
  have loop : ∀ (m : Nat) (xi : Nat) (xg : XH), (xi : Int) ≤ c → c - xi < (m : Int) → Off SRu h xg → RW xg → goH xg k (c.toNat - xi) = goH h k c.toNat → WI K mX5_go 5 n (qI n fun z h' => h' = goH h k c.toNat ∧ z = h' 255 11 - h 255 11) 7 [(0, vr 255), (1, vi c), (2, vi (h 255 11)), (3, vi (xi : Int))] [] xg := by
    intro m
    induction m with
    | zero => intro xi xg a b; exact absurd b (by omega)
    | succ m ih =>
      intro xi xg h0 hm hO hR hf
      have e4 : xg 4 = h 4 := hO 4 (by unfold SRu; omega)
      have e43 : xg 4 3 = h 4 3 := by rw [e4]
      have Pg : PW xg := hP.off hO (by unfold SRu; omega) (by unfold SRu; omega) (by unfold SRu; omega) (by unfold SRu; omega)
      refine x_iload_n 8 (xd DX5_go rfl) rfl rfl ?_
      refine x_iload_n 9 (xd DX5_go rfl) rfl rfl ?_
      refine x_icmp_ge 12 63 (xd DX5_go rfl) rfl (by omega) (by omega) rfl (fun c9 => ?_) (fun c9 => ?_)
      · refine x_aload_n 64 (xd DX5_go rfl) rfl rfl ?_
        refine x_gi 67 11 rfl LX5_49 (xd DX5_go rfl) rfl ⟨Or.inr ⟨rfl, by decide⟩, by decide⟩ rfl ?_
        refine x_iload_n 68 (xd DX5_go rfl) rfl rfl ?_
        refine x_isub 69 (xd DX5_go rfl) rfl ?_
        refine x_ri (xd DX5_go rfl) rfl ?_
        refine ⟨?_, rfl⟩
        rw [← hf]
        first
          | (rw [show c.toNat - xi = 0 by omega]; rfl)
          | (rw [show c.toNat - xi = (c.toNat - xi - 1) + 1 by omega]; unfold goH; rw [pik_f c16])
      · refine x_aload_n 13 (xd DX5_go rfl) rfl rfl ?_
        refine x_gz 16 6 rfl LX5_33 (xd DX5_go rfl) rfl ⟨Or.inr ⟨rfl, by decide⟩, by decide⟩ rfl ?_
        refine x_if_ne 19 63 (xd DX5_go rfl) rfl (by have := hR.2.1; omega) rfl (fun c16 => ?_) (fun c16 => ?_)
        · refine x_aload_n 64 (xd DX5_go rfl) rfl rfl ?_
          refine x_gi 67 11 rfl LX5_49 (xd DX5_go rfl) rfl ⟨Or.inr ⟨rfl, by decide⟩, by decide⟩ rfl ?_
          refine x_iload_n 68 (xd DX5_go rfl) rfl rfl ?_
          refine x_isub 69 (xd DX5_go rfl) rfl ?_
          refine x_ri (xd DX5_go rfl) rfl ?_
          refine ⟨?_, rfl⟩
          rw [← hf]
          first
            | (rw [show c.toNat - xi = 0 by omega]; rfl)
            | (rw [show c.toNat - xi = (c.toNat - xi - 1) + 1 by omega]; unfold goH; rw [pik_f c16])
        · have nx := hR.2.2.2.2.1 c16
          have hv := Pg.v nx.1 nx.2
          refine x_aload_n 20 (xd DX5_go rfl) rfl rfl ?_
          refine x_gr 23 _ LX5_21 (xd DX5_go rfl) rfl rfl ⟨by decide, by decide⟩ (by decide) rfl rfl ?_
          refine x_gr 26 _ LX5_73 (xd DX5_go rfl) rfl rfl ⟨by decide, by decide⟩ (by decide) rfl rfl ?_
          refine x_aload_n 27 (xd DX5_go rfl) rfl rfl ?_
          refine x_gi 30 9 rfl LX5_42 (xd DX5_go rfl) rfl ⟨Or.inr ⟨rfl, by decide⟩, by decide⟩ rfl ?_
          refine x_iaload 31 (xd DX5_go rfl) rfl ⟨Or.inr ⟨rfl, by decide⟩, by decide⟩ (by decide) (by omega) (by omega) rfl ?_
          refine x_bipush 33 (xd DX5_go rfl) rfl rfl ?_
          refine x_icmp_ne 36 53 (xd DX5_go rfl) rfl (by omega) (by omega) rfl (fun c33 => ?_) (fun c33 => ?_)
          · refine x_aload_n 54 (xd DX5_go rfl) rfl rfl ?_
            have h612 : xg 5 (xg 255 9) = 6 → xg 255 12 < 12 := fun q => by first | (exact absurd q (by omega)) | (have := hR.2.2.2.2.2.2.1; omega)
            refine x_Vv 57 (pX5_takeStep k Pg hR c16 h612 (by rw [hO 192 (by unfold SRu; omega)]; exact hk) hk4 (by rw [hO 251 (by unfold SRu; omega), e4]; exact ha) (stp_RW Pg hR c16 h612 (by rw [hO 251 (by unfold SRu; omega), e4]; exact ha)).2) FX5_takeStep VX5_takeStep CX5_78 (xd DX5_go rfl) rfl rfl rfl ⟨by decide, rfl⟩ ⟨by decide, by decide⟩ (by decide) (Nat.le_of_ble_eq_true rfl) (by decide) rfl ?_
            rintro h9 q2
            rw [q2]
            clear q2 h9
            refine x_iinc 60 (L' := [(0, _), (1, _), (2, _), (3, _)]) (xd DX5_go rfl) rfl (by decide) rfl rfl rfl ?_
            refine x_goto 7 (xd DX5_go rfl) rfl ?_
            first
              | (refine ih (xi + 1) _ (by omega) (by omega) (hO.tr o255) ((hR.x.s (j := 6) (z := 1) (by omega)).w (fun z => by rw [hset_s] at z; exact absurd z (by decide))) ?_
                 rw [← hf, show c.toNat - xi = (c.toNat - (xi + 1)) + 1 by omega]
                 conv => rhs; unfold goH
                 rw [pik_t c16, pik_t ⟨c33, c42⟩]
                 cases c.toNat - (xi + 1) with
                 | zero => rfl
                 | succ d => unfold goH; rw [pik_f (by rw [hset_s]; decide)])
              | (refine ih (xi + 1) _ (by omega) (by omega) (hO.tr (stpH_off xg k)) (stp_RW Pg hR c16 h612 (by rw [hO 251 (by unfold SRu; omega), e4]; exact ha)).1 ?_
                 rw [← hf, show c.toNat - xi = (c.toNat - (xi + 1)) + 1 by omega]
                 conv => rhs; unfold goH
                 rw [pik_t c16, pik_f (fun q => by first | exact c33 q.1 | exact c42 q.2)])
          · refine x_aload_n 37 (xd DX5_go rfl) rfl rfl ?_
            refine x_gi 40 12 rfl LX5_52 (xd DX5_go rfl) rfl ⟨Or.inr ⟨rfl, by decide⟩, by decide⟩ rfl ?_
            refine x_bipush 42 (xd DX5_go rfl) rfl rfl ?_
            refine x_icmp_ne 45 53 (xd DX5_go rfl) rfl (by have := hR.2.2.2.2.2.2.1; omega) (by have := hR.2.2.2.2.2.2.1; omega) rfl (fun c42 => ?_) (fun c42 => ?_)
            · refine x_aload_n 54 (xd DX5_go rfl) rfl rfl ?_
              have h612 : xg 5 (xg 255 9) = 6 → xg 255 12 < 12 := fun q => by first | (exact absurd q (by omega)) | (have := hR.2.2.2.2.2.2.1; omega)
              refine x_Vv 57 (pX5_takeStep k Pg hR c16 h612 (by rw [hO 192 (by unfold SRu; omega)]; exact hk) hk4 (by rw [hO 251 (by unfold SRu; omega), e4]; exact ha) (stp_RW Pg hR c16 h612 (by rw [hO 251 (by unfold SRu; omega), e4]; exact ha)).2) FX5_takeStep VX5_takeStep CX5_78 (xd DX5_go rfl) rfl rfl rfl ⟨by decide, rfl⟩ ⟨by decide, by decide⟩ (by decide) (Nat.le_of_ble_eq_true rfl) (by decide) rfl ?_
              rintro h9 q2
              rw [q2]
              clear q2 h9
              refine x_iinc 60 (L' := [(0, _), (1, _), (2, _), (3, _)]) (xd DX5_go rfl) rfl (by decide) rfl rfl rfl ?_
              refine x_goto 7 (xd DX5_go rfl) rfl ?_
              first
                | (refine ih (xi + 1) _ (by omega) (by omega) (hO.tr o255) ((hR.x.s (j := 6) (z := 1) (by omega)).w (fun z => by rw [hset_s] at z; exact absurd z (by decide))) ?_
                   rw [← hf, show c.toNat - xi = (c.toNat - (xi + 1)) + 1 by omega]
                   conv => rhs; unfold goH
                   rw [pik_t c16, pik_t ⟨c33, c42⟩]
                   cases c.toNat - (xi + 1) with
                   | zero => rfl
                   | succ d => unfold goH; rw [pik_f (by rw [hset_s]; decide)])
                | (refine ih (xi + 1) _ (by omega) (by omega) (hO.tr (stpH_off xg k)) (stp_RW Pg hR c16 h612 (by rw [hO 251 (by unfold SRu; omega), e4]; exact ha)).1 ?_
                   rw [← hf, show c.toNat - xi = (c.toNat - (xi + 1)) + 1 by omega]
                   conv => rhs; unfold goH
                   rw [pik_t c16, pik_f (fun q => by first | exact c33 q.1 | exact c42 q.2)])
            · refine x_aload_n 46 (xd DX5_go rfl) rfl rfl ?_
              refine x_iconst 47 (xd DX5_go rfl) rfl ?_
              refine x_pz 50 6 rfl LX5_33 (xd DX5_go rfl) rfl rfl ⟨Or.inr ⟨rfl, by decide⟩, by decide⟩ (by omega) rfl ?_
              refine x_goto 57 (xd DX5_go rfl) rfl ?_
              refine x_iinc 60 (L' := [(0, _), (1, _), (2, _), (3, _)]) (xd DX5_go rfl) rfl (by decide) rfl rfl rfl ?_
              refine x_goto 7 (xd DX5_go rfl) rfl ?_
              first
                | (refine ih (xi + 1) _ (by omega) (by omega) (hO.tr o255) ((hR.x.s (j := 6) (z := 1) (by omega)).w (fun z => by rw [hset_s] at z; exact absurd z (by decide))) ?_
                   rw [← hf, show c.toNat - xi = (c.toNat - (xi + 1)) + 1 by omega]
                   conv => rhs; unfold goH
                   rw [pik_t c16, pik_t ⟨c33, c42⟩]
                   cases c.toNat - (xi + 1) with
                   | zero => rfl
                   | succ d => unfold goH; rw [pik_f (by rw [hset_s]; decide)])
                | (refine ih (xi + 1) _ (by omega) (by omega) (hO.tr (stpH_off xg k)) (stp_RW Pg hR c16 h612 (by rw [hO 251 (by unfold SRu; omega), e4]; exact ha)).1 ?_
                   rw [← hf, show c.toNat - xi = (c.toNat - (xi + 1)) + 1 by omega]
                   conv => rhs; unfold goH
                   rw [pik_t c16, pik_f (fun q => by first | exact c33 q.1 | exact c42 q.2)])
  refine x_aload_n 1 (xd DX5_go rfl) rfl rfl ?_
  refine x_gi 4 11 rfl LX5_49 (xd DX5_go rfl) rfl ⟨Or.inr ⟨rfl, by decide⟩, by decide⟩ rfl ?_
  refine x_istore_n 5 (L' := [(0, _), (1, _), (2, _)]) (xd DX5_go rfl) (by decide) rfl rfl rfl ?_
  refine x_iconst 6 (xd DX5_go rfl) rfl ?_
  refine x_istore_n 7 (L' := [(0, _), (1, _), (2, _), (3, _)]) (xd DX5_go rfl) (by decide) rfl rfl rfl ?_
  exact loop 1000 0 h (by omega) (by omega) Off.rf hR rfl

