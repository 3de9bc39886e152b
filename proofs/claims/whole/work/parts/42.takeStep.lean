/-! Run: a step; a run begins; what is told of it -/
def SRu (x : Nat) : Prop := 255 ≤ x ∧ x ≤ 258
theorem hldM_off (h : XH) (k : Nat) (l : Int) : Off (fun c => c = 255) h (hldM h k l) := by
  unfold hldM
  by_cases q : 0 ≤ hldP h l
  · rw [pik_t q]; exact Off.rf
  · rw [pik_f q]; exact ((ocell (c := 255)).tr ocell).tr ocell
theorem hldM_255 (h : XH) (k : Nat) (l : Int) {j : Int} (h14 : j ≠ 14) (h15 : j ≠ 15) (h16 : j ≠ 16) : hldM h k l 255 j = h 255 j := by
  unfold hldM
  by_cases q : 0 ≤ hldP h l
  · rw [pik_t q]
  · rw [pik_f q, hset_i h14, hset_i h16, hset_i h15]
theorem useH_off (h : XH) (k : Nat) (l : Int) : Off SRu h (useH h k l) := fun c hc => by
  unfold useH
  rw [rset_c (by unfold SRu at hc; omega), hldM_off h k l c (by unfold SRu at hc; omega)]
theorem useH_255 (h : XH) (k : Nat) (l : Int) {j : Int} (h14 : j ≠ 14) (h15 : j ≠ 15) (h16 : j ≠ 16) : useH h k l 255 j = h 255 j := by
  unfold useH
  rw [rset_c (by decide)]
  exact hldM_255 h k l h14 h15 h16
theorem useH_row (h : XH) (k : Nat) (l : Int) {c : Nat} (hc : c = 256 ∨ c = 257) : useH h k l c = h c := by
  unfold useH
  rw [rset_c (by omega), hldM_off h k l c (by omega)]
noncomputable def stpA (h : XH) (k : Nat) : XH := pik (h 255 7 ≠ 0) (useH h k (h 255 9 / (2 ^ k : Nat))) h
noncomputable def stpB (h : XH) (k : Nat) : XH := hset (hset (stpA h k) 255 11 (h 255 11 + 1)) 255 9 (h 255 9 + 1)
noncomputable def stpC (h : XH) (k : Nat) : XH := if 0 ≤ h 5 (h 255 9) ∧ h 5 (h 255 9) ≤ 6 then wkH (stpB h k) (h 5 (h 255 9)) (h 6 (h 255 9)) else trnH (stpB h k) (h 5 (h 255 9)) (h 6 (h 255 9))
noncomputable def stpH (h : XH) (k : Nat) : XH := pik (0 ≤ stpC h k 255 9 ∧ stpC h k 255 9 < h 4 3) (stpC h k) (hset (stpC h k) 255 6 1)
theorem stpA_off (h : XH) (k : Nat) : Off SRu h (stpA h k) := by
  unfold stpA
  by_cases q : h 255 7 ≠ 0
  · rw [pik_t q]; exact useH_off h k _
  · rw [pik_f q]; exact Off.rf
theorem stpA_255 (h : XH) (k : Nat) {j : Int} (h14 : j ≠ 14) (h15 : j ≠ 15) (h16 : j ≠ 16) : stpA h k 255 j = h 255 j := by
  unfold stpA
  by_cases q : h 255 7 ≠ 0
  · rw [pik_t q]; exact useH_255 h k _ h14 h15 h16
  · rw [pik_f q]
theorem o255 {h : XH} {k z : Int} : Off SRu h (hset h 255 k z) := Off.set (by unfold SRu; omega)
theorem stpB_off (h : XH) (k : Nat) : Off SRu h (stpB h k) := ((stpA_off h k).tr o255).tr o255
theorem wkH_off (h : XH) (kd v : Int) : Off SRu h (wkH h kd v) := by
  unfold wkH tellH
  (repeat' split)
  all_goals first | exact o255 | exact Off.set (by unfold SRu; omega) | exact (Off.set (c := 257) (by unfold SRu; omega)).tr o255
theorem jmpH_off (h : XH) : Off SRu h (jmpH h) := by
  unfold jmpH
  by_cases q : 0 ≤ fP (jmpP h) 0 (h 4 3).toNat
  · rw [pik_t q]; exact o255
  · rw [pik_f q]; exact o255.tr o255
theorem trnH_off (h : XH) (kd v : Int) : Off SRu h (trnH h kd v) := by
  unfold trnH
  (repeat' split)
  all_goals first | exact o255 | exact jmpH_off h
theorem stpC_off (h : XH) (k : Nat) : Off SRu h (stpC h k) := by
  unfold stpC
  split
  · exact (stpB_off h k).tr (wkH_off _ _ _)
  · exact (stpB_off h k).tr (trnH_off _ _ _)
theorem stpH_off (h : XH) (k : Nat) : Off SRu h (stpH h k) := by
  unfold stpH
  by_cases q : 0 ≤ stpC h k 255 9 ∧ stpC h k 255 9 < h 4 3
  · rw [pik_t q]; exact stpC_off h k
  · rw [pik_f q]; exact (stpC_off h k).tr o255
set_option maxRecDepth 100000 in
set_option maxHeartbeats 4000000 in
theorem pX5_takeStep {K : XK} {n : Nat} {h : XH} (k : Nat) (hP : PW h) (hR : RW h) (hn : h 255 6 = 0) (h6 : h 5 (h 255 9) = 6 → h 255 12 < 12) (hk : h 192 15 = (k : Int)) (hk4 : k ≤ 4) (ha : ∀ j, 0 ≤ j → j < h 4 3 → xrg (h 251 j)) (C9 : xrg (stpC h k 255 9)) : MV K mX5_takeStep 4 n [vr 255] h (fun h' => h' = stpH h k) := by
  refine xMeth FX5_takeStep (Nat.le_of_ble_eq_true rfl) ?_
  have hP1 := hP.1
  obtain ⟨r5, r6, r7, r8, r9, r10, r12, r13, r14, r256, r258⟩ := id hR
  obtain ⟨h0, h1⟩ := r9 hn
  have hp : (0 : Int) < ((2 ^ k : Nat) : Int) := Int.natCast_pos.mpr (Nat.two_pow_pos k)
  have hl9 : 0 ≤ h 255 9 / (2 ^ k : Nat) ∧ h 255 9 / (2 ^ k : Nat) < 1000 := ⟨Int.ediv_nonneg h0 (Int.le_of_lt hp), by have := Int.ediv_le_self (a := h 255 9) ((2 ^ k : Nat) : Int) h0; omega⟩
  have B := stpB_off h k
  have A0 := stpA_off h k
  have A5 : stpA h k 5 = h 5 := A0 5 (by unfold SRu; omega)
  have A6 : stpA h k 6 = h 6 := A0 6 (by unfold SRu; omega)
  have A9 : stpA h k 255 9 = h 255 9 := stpA_255 h k (by decide) (by decide) (by decide)
  have A11 : stpA h k 255 11 = h 255 11 := stpA_255 h k (by decide) (by decide) (by decide)
  have bb : ∀ j, j ≠ 9 → j ≠ 11 → j ≠ 14 → j ≠ 15 → j ≠ 16 → stpB h k 255 j = h 255 j := fun j a b c d e => by unfold stpB; rw [hset_i a, hset_i b]; exact stpA_255 h k c d e
  have b12 : stpB h k 255 12 = h 255 12 := bb 12 (by decide) (by decide) (by decide) (by decide) (by decide)
  have b7 : stpB h k 255 7 = h 255 7 := bb 7 (by decide) (by decide) (by decide) (by decide) (by decide)
  have b10 : stpB h k 255 10 = h 255 10 := bb 10 (by decide) (by decide) (by decide) (by decide) (by decide)
  have PB : PW (stpB h k) := hP.off B (by unfold SRu; omega) (by unfold SRu; omega) (by unfold SRu; omega) (by unfold SRu; omega)
  have CO := stpC_off h k
  have j90 : WI K mX5_takeStep 4 n (qV n fun h' => h' = stpH h k) 90 [(0, vr 255), (1, vi (h 5 (h 255 9))), (2, vi (h 6 (h 255 9)))] [] (stpC h k) := by
    refine x_aload_n 91 (xd DX5_takeStep rfl) rfl rfl ?_
    refine x_gr 94 _ LX5_21 (xd DX5_takeStep rfl) rfl rfl ⟨by decide, by decide⟩ (by decide) rfl rfl ?_
    refine x_aload_n 95 (xd DX5_takeStep rfl) rfl rfl ?_
    refine x_gi 98 9 rfl LX5_42 (xd DX5_takeStep rfl) rfl ⟨Or.inr ⟨rfl, by decide⟩, by decide⟩ rfl ?_
    refine x_Vi 101 (pX4_has (stpC h k 255 9) C9 (by rw [CO 4 (by unfold SRu; omega)]; omega)) FX4_has VX4_has CX5_105 (xd DX5_takeStep rfl) rfl rfl rfl ⟨by decide, rfl⟩ ⟨by decide, by decide⟩ (by decide) (Nat.le_of_ble_eq_true rfl) (by decide) rfl ?_
    rintro z9 h9 ⟨q1, q2⟩
    rw [q1, q2]
    clear q1 q2 z9 h9
    rw [CO 4 (by unfold SRu; omega)]
    refine x_ifp_ne 104 109 (xd DX5_takeStep rfl) rfl rfl (fun c101 => ?_) (fun c101 => ?_)
    · refine x_rv (xd DX5_takeStep rfl) rfl ?_
      unfold stpH
      first | rw [pik_t c101] | rw [pik_f c101]
    · refine x_aload_n 105 (xd DX5_takeStep rfl) rfl rfl ?_
      refine x_iconst 106 (xd DX5_takeStep rfl) rfl ?_
      refine x_pz 109 6 rfl LX5_33 (xd DX5_takeStep rfl) rfl rfl ⟨Or.inr ⟨rfl, by decide⟩, by decide⟩ (by omega) rfl ?_
      refine x_rv (xd DX5_takeStep rfl) rfl ?_
      unfold stpH
      first | rw [pik_t c101] | rw [pik_f c101]
  have j22 : ∀ {xg : XH}, stpA h k = xg → WI K mX5_takeStep 4 n (qV n fun h' => h' = stpH h k) 22 [(0, vr 255)] [] xg := by
    intro xg q
    rw [← q]
    refine x_aload_n 23 (xd DX5_takeStep rfl) rfl rfl ?_
    refine x_gr 26 _ LX5_21 (xd DX5_takeStep rfl) rfl rfl ⟨by decide, by decide⟩ (by decide) rfl rfl ?_
    refine x_gr 29 _ LX5_73 (xd DX5_takeStep rfl) rfl rfl ⟨by decide, by decide⟩ (by decide) rfl rfl ?_
    refine x_aload_n 30 (xd DX5_takeStep rfl) rfl rfl ?_
    refine x_gi 33 9 rfl LX5_42 (xd DX5_takeStep rfl) rfl ⟨Or.inr ⟨rfl, by decide⟩, by decide⟩ rfl ?_
    refine x_iaload 34 (xd DX5_takeStep rfl) rfl ⟨Or.inr ⟨rfl, by decide⟩, by decide⟩ (by decide) (by first | omega | (rw [A9]; omega)) (by first | omega | (rw [A9]; omega)) rfl ?_
    rw [A5, A9]
    refine x_istore_n 35 (L' := [(0, _), (1, _)]) (xd DX5_takeStep rfl) (by decide) rfl rfl rfl ?_
    refine x_aload_n 36 (xd DX5_takeStep rfl) rfl rfl ?_
    refine x_gr 39 _ LX5_21 (xd DX5_takeStep rfl) rfl rfl ⟨by decide, by decide⟩ (by decide) rfl rfl ?_
    refine x_gr 42 _ LX5_91 (xd DX5_takeStep rfl) rfl rfl ⟨by decide, by decide⟩ (by decide) rfl rfl ?_
    refine x_aload_n 43 (xd DX5_takeStep rfl) rfl rfl ?_
    refine x_gi 46 9 rfl LX5_42 (xd DX5_takeStep rfl) rfl ⟨Or.inr ⟨rfl, by decide⟩, by decide⟩ rfl ?_
    refine x_iaload 47 (xd DX5_takeStep rfl) rfl ⟨Or.inr ⟨rfl, by decide⟩, by decide⟩ (by decide) (by first | omega | (rw [A9]; omega)) (by first | omega | (rw [A9]; omega)) rfl ?_
    rw [A6, A9]
    refine x_istore_n 48 (L' := [(0, _), (1, _), (2, _)]) (xd DX5_takeStep rfl) (by decide) rfl rfl rfl ?_
    refine x_aload_n 49 (xd DX5_takeStep rfl) rfl rfl ?_
    refine x_dupr 50 (xd DX5_takeStep rfl) rfl ?_
    refine x_gi 53 11 rfl LX5_49 (xd DX5_takeStep rfl) rfl ⟨Or.inr ⟨rfl, by decide⟩, by decide⟩ rfl ?_
    refine x_iconst 54 (xd DX5_takeStep rfl) rfl ?_
    refine x_iadd 55 (xd DX5_takeStep rfl) rfl ?_
    rw [A11]
    refine x_pi 58 11 rfl LX5_49 (xd DX5_takeStep rfl) rfl rfl ⟨Or.inr ⟨rfl, by decide⟩, by decide⟩ rfl ?_
    refine x_aload_n 59 (xd DX5_takeStep rfl) rfl rfl ?_
    refine x_dupr 60 (xd DX5_takeStep rfl) rfl ?_
    refine x_gi 63 9 rfl LX5_42 (xd DX5_takeStep rfl) rfl ⟨Or.inr ⟨rfl, by decide⟩, by decide⟩ rfl ?_
    refine x_iconst 64 (xd DX5_takeStep rfl) rfl ?_
    refine x_iadd 65 (xd DX5_takeStep rfl) rfl ?_
    rw [hset_i (h := stpA h k) (c := 255) (k := 11) (j := 9) (by decide), A9]
    refine x_pi 68 9 rfl LX5_42 (xd DX5_takeStep rfl) rfl rfl ⟨Or.inr ⟨rfl, by decide⟩, by decide⟩ rfl ?_
    rw [show hset (hset (stpA h k) 255 11 (h 255 11 + 1)) 255 9 (h 255 9 + 1) = stpB h k from rfl]
    refine x_iload_n 69 (xd DX5_takeStep rfl) rfl rfl ?_
    refine x_Si 72 (pX8_isSimple _ (by have := hP.v h0 h1; omega)) FX8_isSimple VX8_isSimple CX5_94 (xd DX5_takeStep rfl) rfl rfl (by decide) (Nat.le_of_ble_eq_true rfl) (by decide) rfl ?_
    rintro z9 h9 ⟨q1, q2⟩
    rw [q1, q2]
    clear q1 q2 z9 h9
    refine x_ifp_eq 75 84 (xd DX5_takeStep rfl) rfl rfl (fun c72 => ?_) (fun c72 => ?_)
    · refine x_aload_n 85 (xd DX5_takeStep rfl) rfl rfl ?_
      refine x_iload_n 86 (xd DX5_takeStep rfl) rfl rfl ?_
      refine x_iload_n 87 (xd DX5_takeStep rfl) rfl rfl ?_
      refine x_Vv 90 (pX5_turn (h 5 (h 255 9)) (h 6 (h 255 9)) (by have := hP.v h0 h1; unfold kSim at c72; omega) PB (by have := hP.v h0 h1; omega) (by rw [b7]; exact r7) (by rw [b10]; exact r10) (by rw [B 251 (by unfold SRu; omega), B 4 (by unfold SRu; omega)]; exact ha)) FX5_turn VX5_turn CX5_102 (xd DX5_takeStep rfl) rfl rfl rfl ⟨by decide, rfl⟩ ⟨by decide, by decide⟩ (by decide) (Nat.le_of_ble_eq_true rfl) (by decide) rfl ?_
      rintro h9 q2
      rw [q2]
      clear q2 h9
      first
        | (have e9 : wkH (stpB h k) (h 5 (h 255 9)) (h 6 (h 255 9)) = stpC h k := by unfold stpC; rw [if_pos (show 0 ≤ h 5 (h 255 9) ∧ h 5 (h 255 9) ≤ 6 from c72)]
           rw [e9]; exact j90)
        | (have e9 : trnH (stpB h k) (h 5 (h 255 9)) (h 6 (h 255 9)) = stpC h k := by unfold stpC; rw [if_neg (show ¬ (0 ≤ h 5 (h 255 9) ∧ h 5 (h 255 9) ≤ 6) from c72)]
           rw [e9]; exact j90)
    · refine x_aload_n 76 (xd DX5_takeStep rfl) rfl rfl ?_
      refine x_iload_n 77 (xd DX5_takeStep rfl) rfl rfl ?_
      refine x_iload_n 78 (xd DX5_takeStep rfl) rfl rfl ?_
      refine x_Vv 81 (pX5_work (h 5 (h 255 9)) (h 6 (h 255 9)) c72 ((hP.2 _ h0 h1).2.1 c72.2) (fun q => by rw [b12]; have := h6 q; omega)) FX5_work VX5_work CX5_98 (xd DX5_takeStep rfl) rfl rfl rfl ⟨by decide, rfl⟩ ⟨by decide, by decide⟩ (by decide) (Nat.le_of_ble_eq_true rfl) (by decide) rfl ?_
      rintro h9 q2
      rw [q2]
      clear q2 h9
      refine x_goto 90 (xd DX5_takeStep rfl) rfl ?_
      first
        | (have e9 : wkH (stpB h k) (h 5 (h 255 9)) (h 6 (h 255 9)) = stpC h k := by unfold stpC; rw [if_pos (show 0 ≤ h 5 (h 255 9) ∧ h 5 (h 255 9) ≤ 6 from c72)]
           rw [e9]; exact j90)
        | (have e9 : trnH (stpB h k) (h 5 (h 255 9)) (h 6 (h 255 9)) = stpC h k := by unfold stpC; rw [if_neg (show ¬ (0 ≤ h 5 (h 255 9) ∧ h 5 (h 255 9) ≤ 6) from c72)]
           rw [e9]; exact j90)
  refine x_aload_n 1 (xd DX5_takeStep rfl) rfl rfl ?_
  refine x_gz 4 7 rfl LX5_36 (xd DX5_takeStep rfl) rfl ⟨Or.inr ⟨rfl, by decide⟩, by decide⟩ rfl ?_
  refine x_if_eq 7 22 (xd DX5_takeStep rfl) rfl (by omega) rfl (fun c4 => ?_) (fun c4 => ?_)
  · first | exact j22 (by unfold stpA; rw [pik_t c4]) | exact j22 (by unfold stpA; rw [pik_f (fun q => q c4)])
  · refine x_aload_n 8 (xd DX5_takeStep rfl) rfl rfl ?_
    refine x_aload_n 9 (xd DX5_takeStep rfl) rfl rfl ?_
    refine x_gr 12 _ LX5_25 (xd DX5_takeStep rfl) rfl rfl ⟨by decide, by decide⟩ (by decide) rfl rfl ?_
    refine x_aload_n 13 (xd DX5_takeStep rfl) rfl rfl ?_
    refine x_gi 16 9 rfl LX5_42 (xd DX5_takeStep rfl) rfl ⟨Or.inr ⟨rfl, by decide⟩, by decide⟩ rfl ?_
    refine x_Vi 19 (pX3_lineOf (h 255 9) k (by omega) hk (by omega)) FX3_lineOf VX3_lineOf CX5_81 (xd DX5_takeStep rfl) rfl rfl rfl ⟨by decide, rfl⟩ ⟨by decide, by decide⟩ (by decide) (Nat.le_of_ble_eq_true rfl) (by decide) rfl ?_
    rintro z9 h9 ⟨q1, q2⟩
    rw [q1, q2]
    clear q1 q2 z9 h9
    refine x_Vv 22 (pX5_useLine (h 255 9 / (2 ^ k : Nat)) k hP hR hl9 hk hk4) FX5_useLine VX5_useLine CX5_87 (xd DX5_takeStep rfl) rfl rfl rfl ⟨by decide, rfl⟩ ⟨by decide, by decide⟩ (by decide) (Nat.le_of_ble_eq_true rfl) (by decide) rfl ?_
    rintro h9 q2
    rw [q2]
    clear q2 h9
    first | exact j22 (by unfold stpA; rw [pik_t c4]) | exact j22 (by unfold stpA; rw [pik_f (fun q => q c4)])

