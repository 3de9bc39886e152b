/-! SqueezedCodeModel: oneStep, step -/
theorem lnD {N W i : Int} (hW : W = 4 ∨ W = 8 ∨ W = 16) (h0 : 0 ≤ i) (h1 : i < N) : 0 ≤ i / W ∧ i / W < (N + W - 1) / W := by
  rcases hW with e | e | e <;> subst e <;> omega
def OSt (h h' : XH) : Prop := Off (fun c => c = 259 ∨ (271 ≤ c ∧ c ≤ 273)) h h' ∧ ∀ j, (j ≤ 16 ∨ 27 ≤ j) → h' 259 j = h 259 j
def RRs (x h : XH) : Prop := RRc x h ∧ RNx x ∧ h 259 17 = (if x 255 6 = 0 then x 255 9 else -4) ∧ h 259 19 = x 255 11
theorem stp_fin {x h2 : XH} {k : Nat} {w : Int} (hR : RRc (stpC x k) h2) (hN : RNx (stpC x k)) (h11 : h2 259 19 = stpC x k 255 11) (hw : (stpC x k 255 6 = 0 ∧ w = (if 0 ≤ stpC x k 255 9 ∧ stpC x k 255 9 < x 4 3 then stpC x k 255 9 else -4)) ∨ (stpC x k 255 6 ≠ 0 ∧ w = -4)) : RRs (stpH x k) (hset h2 259 17 w) := by
  have hR1 : RRc (stpC x k) (hset h2 259 17 w) := hR.m (by decide) (by decide) (by decide) (by decide) (by decide) (by decide) (by decide)
  unfold stpH
  by_cases q : 0 ≤ stpC x k 255 9 ∧ stpC x k 255 9 < x 4 3
  · rw [pik_t q]
    refine ⟨hR1, hN, ?_, by rw [hset_i (by decide)]; exact h11⟩
    rw [hset_s]
    rcases hw with ⟨a, b⟩ | ⟨a, b⟩
    · rw [b, if_pos q, if_pos a]
    · rw [b, if_neg a]
  · rw [pik_f q]
    refine ⟨hR1.k (by decide) (by decide) (by decide) (by decide) (by decide) (by decide) (by decide), hN.k (by decide), ?_, by rw [hset_i (by decide), hset_i (by decide)]; exact h11⟩
    rw [hset_s, hset_s, if_neg (by decide)]
    rcases hw with ⟨a, b⟩ | ⟨a, b⟩
    · rw [b, if_neg q]
    · exact b
set_option maxRecDepth 100000 in
set_option maxHeartbeats 4000000 in
theorem pX9_oneStep {K : XK} {n : Nat} {h : XH} (g x : XH) (k : Nat) (hC : CI g) (hTg : TgI g) (hM : MG g h) (hk : g 8 2 = (2 ^ k : Nat)) (hX : Off SRu g x) (hS : RRs x h) (hRW : RW x) (h13 : x 255 13 = g 8 3) (h6 : x 255 6 = 0) (hnw : g 5 (x 255 9) = 6 → x 255 12 ≠ 12) : MV K mX9_oneStep 4 n [vr 259] h (fun h' => RRs (stpH x k) h' ∧ OSt h h') := by
  refine xMeth FX9_oneStep (Nat.le_of_ble_eq_true rfl) ?_
  have hP1 := hM.1.1.1
  have hn := hM.1.n
  obtain ⟨hRc, hNx, h17, h19⟩ := hS
  have x4 : x 4 = g 4 := hX 4 (by unfold SRu; omega)
  have x5 : x 5 = g 5 := hX 5 (by unfold SRu; omega)
  have x6 : x 6 = g 6 := hX 6 (by unfold SRu; omega)
  have h90 := hRW.2.2.2.2.1 h6
  have h7 := hRW.2.2.1
  have h12 := hRW.2.2.2.2.2.2.1
  rw [x4] at h90
  rw [if_pos h6] at h17
  generalize hnx : x 255 9 = nx at *
  have e17 : h 259 17 = nx := h17
  have hrp := hM.1.2.2.2.1.2 nx h90.1 h90.2
  have hv := hM.1.1.v h90.1 h90.2
  have hln := lnD hM.w.2 h90.1 h90.2
  have h14 := hM.1.2.2.1.2.1
  have hW := hM.w.2
  have hA0 : x 255 7 = 0 → stpA x k = x := fun q => by unfold stpA; rw [pik_f (fun y => y q)]
  have hA1 : x 255 7 ≠ 0 → stpA x k = useH x k (nx / g 8 2) := fun q => by unfold stpA; rw [pik_t q, hnx, hk]
  have hXz : Off SRu g (stpB x k) := hX.tr (stpB_off x k)
  have hzk : ∀ j, j ≠ 9 → j ≠ 11 → j ≠ 14 → j ≠ 15 → j ≠ 16 → stpB x k 255 j = x 255 j := fun j a b c d e => by unfold stpB; rw [hset_i a, hset_i b]; exact stpA_255 x k c d e
  have hz9 : stpB x k 255 9 = nx + 1 := by unfold stpB; rw [hset_s, hnx]
  have hz6 : stpB x k 255 6 = 0 := by rw [hzk 6 (by decide) (by decide) (by decide) (by decide) (by decide)]; exact h6
  have hz12 : stpB x k 255 12 = x 255 12 := hzk 12 (by decide) (by decide) (by decide) (by decide) (by decide)
  have h7z : stpB x k 255 7 = 0 ∨ stpB x k 255 7 = 1 := by rw [hzk 7 (by decide) (by decide) (by decide) (by decide) (by decide)]; exact h7
  have hz11b : stpB x k 255 11 = x 255 11 + 1 := by unfold stpB; rw [hset_i (by decide), hset_s]
  have hNz : RNx (stpB x k) := by
    refine ⟨by rw [hzk 10 (by decide) (by decide) (by decide) (by decide) (by decide)]; exact hNx.1, fun j a b => ?_⟩
    have e : stpB x k 256 = x 256 := by
      unfold stpB
      rw [hset_c (by decide), hset_c (by decide)]
      unfold stpA
      by_cases q : x 255 7 ≠ 0
      · rw [pik_t q]; exact useH_row x k _ (Or.inl rfl)
      · rw [pik_f q]
    rw [e]
    exact hNx.2 j a b
  have rest79 : ∀ (yy : XH) (w : Int), w = (if nx + 1 < g 4 3 then nx + 1 else -4) → RRc (stpA x k) yy → OSt h yy → yy 259 19 = x 255 11 + 1 → WI K mX9_oneStep 4 n (qV n (fun h' => RRs (stpH x k) h' ∧ OSt h h')) 79 [(0, vr 259), (1, vi (ltr (g 5 nx))), (2, vi (g 6 nx)), (3, vi w)] [] yy := by
    intro yy w hw hR1 hy1 hy19
    have hRz : RRc (stpB x k) yy := (hR1.k (by decide) (by decide) (by decide) (by decide) (by decide) (by decide) (by decide)).k (by decide) (by decide) (by decide) (by decide) (by decide) (by decide) (by decide)
    have hz11 : yy 259 19 = stpB x k 255 11 := by rw [hy19, hz11b]
    have h18 : yy 259 18 = stpB x k 255 10 := hRz.2.1
    refine x_iload_n 80 (xd DX9_oneStep rfl) rfl rfl ?_
    refine x_Si 83 (pX9_isSimple (ltr (g 5 nx)) (by have := ltr_rg (g 5 nx); omega)) FX9_isSimple VX9_isSimple CX9_86 (xd DX9_oneStep rfl) rfl rfl (by decide) (Nat.le_of_ble_eq_true rfl) (by decide) rfl ?_
    rintro z9 h9 ⟨q1, q2⟩
    rw [q1, q2]
    clear q1 q2 z9 h9
    refine x_ifp_eq 86 95 (xd DX9_oneStep rfl) rfl rfl (fun c83 => ?_) (fun c83 => ?_)
    · have hk5 : g 5 nx = 7 ∨ g 5 nx = 8 ∨ g 5 nx = 9 ∨ g 5 nx = 10 ∨ g 5 nx = 11 := by
        have := hv.1
        have hns : ¬ kSim (g 5 nx) := fun q => c83 ((ltr_sim hv.1).mpr q)
        unfold kSim at hns
        omega
      rcases hk5 with hkd | hkd | hkd | hkd | hkd
      · have hel : ltr (g 5 nx) = 106 := by rw [hkd]; rfl
        have hvt := (hM.1.1.2 nx h90.1 h90.2).2.2.1 (by omega) (by omega)
        rw [hel]
        refine x_iload_n 96 (xd DX9_oneStep rfl) rfl rfl ?_
        refine x_bipush 98 (xd DX9_oneStep rfl) rfl rfl ?_
        refine x_icmp_eq 101 114 (xd DX9_oneStep rfl) rfl (by decide) (by decide) rfl (fun _ => ?_) (fun c98 => absurd c98 (by decide))
        refine x_iload_n 115 (xd DX9_oneStep rfl) rfl rfl ?_
        refine x_istore_n 116 (L' := [(0, _), (1, _), (2, _), (3, _)]) (xd DX9_oneStep rfl) (by decide) rfl rfl rfl ?_
        refine x_goto 160 (xd DX9_oneStep rfl) rfl ?_
        refine x_aload_n 161 (xd DX9_oneStep rfl) rfl rfl ?_
        refine x_iload_n 162 (xd DX9_oneStep rfl) rfl rfl ?_
        refine x_pi 165 17 rfl LX9_211 (xd DX9_oneStep rfl) rfl rfl ⟨Or.inr ⟨rfl, by decide⟩, by decide⟩ rfl ?_
        refine x_rv (xd DX9_oneStep rfl) rfl ?_
        have hst : stpC x k = trnH (stpB x k) 7 (g 6 nx) := by
          unfold stpC
          rw [x5, x6, hnx, hkd, if_neg (by decide)]
        have hc : stpC x k = hset (stpB x k) 255 9 (g 6 nx) := by rw [hst]; rfl
        refine ⟨stp_fin (k := k) ?_ ?_ ?_ ?_, ?_⟩
        · rw [hc]; exact hRz.k (by decide) (by decide) (by decide) (by decide) (by decide) (by decide) (by decide)
        · rw [hc]; exact hNz.k (by decide)
        · rw [hc, hset_i (by decide)]; exact hz11
        · rw [hc, hset_s, hset_i (by decide), if_pos (by rw [x4]; exact hvt)]; exact Or.inl ⟨hz6, rfl⟩
        · refine ⟨fun c hc => ?_, fun j hj => ?_⟩
          · rw [hset_c (by omega)]; exact hy1.1 c hc
          · rw [hset_i (by omega)]; exact hy1.2 j hj
      · have hel : ltr (g 5 nx) = 122 := by rw [hkd]; rfl
        have hvt := (hM.1.1.2 nx h90.1 h90.2).2.2.1 (by omega) (by omega)
        rw [hel]
        refine x_iload_n 96 (xd DX9_oneStep rfl) rfl rfl ?_
        refine x_bipush 98 (xd DX9_oneStep rfl) rfl rfl ?_
        refine x_icmp_eq 101 114 (xd DX9_oneStep rfl) rfl (by decide) (by decide) rfl (fun c98 => absurd c98 (by decide)) (fun _ => ?_)
        refine x_iload_n 102 (xd DX9_oneStep rfl) rfl rfl ?_
        refine x_bipush 104 (xd DX9_oneStep rfl) rfl rfl ?_
        refine x_icmp_ne 107 119 (xd DX9_oneStep rfl) rfl (by decide) (by decide) rfl (fun c104 => absurd c104 (by decide)) (fun _ => ?_)
        refine x_aload_n 108 (xd DX9_oneStep rfl) rfl rfl ?_
        refine x_gi 111 18 rfl LX9_214 (xd DX9_oneStep rfl) rfl ⟨Or.inr ⟨rfl, by decide⟩, by decide⟩ rfl ?_
        refine x_if_ne 114 119 (xd DX9_oneStep rfl) rfl (by rw [h18]; have := hNz.1; omega) rfl (fun c111 => ?_) (fun c111 => ?_)
        · refine x_iload_n 120 (xd DX9_oneStep rfl) rfl rfl ?_
          refine x_bipush 122 (xd DX9_oneStep rfl) rfl rfl ?_
          refine x_icmp_ne 125 137 (xd DX9_oneStep rfl) rfl (by decide) (by decide) rfl (fun _ => ?_) (fun c122 => absurd c122 (by decide))
          refine x_iload_n 138 (xd DX9_oneStep rfl) rfl rfl ?_
          refine x_bipush 140 (xd DX9_oneStep rfl) rfl rfl ?_
          refine x_icmp_ne 143 151 (xd DX9_oneStep rfl) rfl (by decide) (by decide) rfl (fun _ => ?_) (fun c140 => absurd c140 (by decide))
          refine x_iload_n 152 (xd DX9_oneStep rfl) rfl rfl ?_
          refine x_bipush 154 (xd DX9_oneStep rfl) rfl rfl ?_
          refine x_icmp_ne 157 160 (xd DX9_oneStep rfl) rfl (by decide) (by decide) rfl (fun _ => ?_) (fun c154 => absurd c154 (by decide))
          refine x_aload_n 161 (xd DX9_oneStep rfl) rfl rfl ?_
          refine x_iload_n 162 (xd DX9_oneStep rfl) rfl rfl ?_
          refine x_pi 165 17 rfl LX9_211 (xd DX9_oneStep rfl) rfl rfl ⟨Or.inr ⟨rfl, by decide⟩, by decide⟩ rfl ?_
          refine x_rv (xd DX9_oneStep rfl) rfl ?_
          have hst : stpC x k = trnH (stpB x k) 8 (g 6 nx) := by
            unfold stpC
            rw [x5, x6, hnx, hkd, if_neg (by decide)]
          have hc : stpC x k = hset (stpB x k) 255 9 (if stpB x k 255 10 = 0 then g 6 nx else stpB x k 255 9) := by rw [hst]; rfl
          rw [h18] at c111
          refine ⟨stp_fin (k := k) ?_ ?_ ?_ ?_, ?_⟩
          · rw [hc]; exact hRz.k (by decide) (by decide) (by decide) (by decide) (by decide) (by decide) (by decide)
          · rw [hc]; exact hNz.k (by decide)
          · rw [hc, hset_i (by decide)]; exact hz11
          · rw [hc, hset_s, hset_i (by decide), x4]
            first
              | (rw [if_pos c111, if_pos hvt]; exact Or.inl ⟨hz6, rfl⟩)
              | (rw [if_neg c111, hz9]
                 refine Or.inl ⟨hz6, ?_⟩
                 rw [hw]
                 by_cases q : nx + 1 < g 4 3
                 · rw [if_pos q, if_pos ⟨by omega, q⟩]
                 · rw [if_neg q, if_neg (fun y => q y.2)])
          · refine ⟨fun c hc => ?_, fun j hj => ?_⟩
            · rw [hset_c (by omega)]; exact hy1.1 c hc
            · rw [hset_i (by omega)]; exact hy1.2 j hj
        · refine x_iload_n 115 (xd DX9_oneStep rfl) rfl rfl ?_
          refine x_istore_n 116 (L' := [(0, _), (1, _), (2, _), (3, _)]) (xd DX9_oneStep rfl) (by decide) rfl rfl rfl ?_
          refine x_goto 160 (xd DX9_oneStep rfl) rfl ?_
          refine x_aload_n 161 (xd DX9_oneStep rfl) rfl rfl ?_
          refine x_iload_n 162 (xd DX9_oneStep rfl) rfl rfl ?_
          refine x_pi 165 17 rfl LX9_211 (xd DX9_oneStep rfl) rfl rfl ⟨Or.inr ⟨rfl, by decide⟩, by decide⟩ rfl ?_
          refine x_rv (xd DX9_oneStep rfl) rfl ?_
          have hst : stpC x k = trnH (stpB x k) 8 (g 6 nx) := by
            unfold stpC
            rw [x5, x6, hnx, hkd, if_neg (by decide)]
          have hc : stpC x k = hset (stpB x k) 255 9 (if stpB x k 255 10 = 0 then g 6 nx else stpB x k 255 9) := by rw [hst]; rfl
          rw [h18] at c111
          refine ⟨stp_fin (k := k) ?_ ?_ ?_ ?_, ?_⟩
          · rw [hc]; exact hRz.k (by decide) (by decide) (by decide) (by decide) (by decide) (by decide) (by decide)
          · rw [hc]; exact hNz.k (by decide)
          · rw [hc, hset_i (by decide)]; exact hz11
          · rw [hc, hset_s, hset_i (by decide), x4]
            first
              | (rw [if_pos c111, if_pos hvt]; exact Or.inl ⟨hz6, rfl⟩)
              | (rw [if_neg c111, hz9]
                 refine Or.inl ⟨hz6, ?_⟩
                 rw [hw]
                 by_cases q : nx + 1 < g 4 3
                 · rw [if_pos q, if_pos ⟨by omega, q⟩]
                 · rw [if_neg q, if_neg (fun y => q y.2)])
          · refine ⟨fun c hc => ?_, fun j hj => ?_⟩
            · rw [hset_c (by omega)]; exact hy1.1 c hc
            · rw [hset_i (by omega)]; exact hy1.2 j hj
      · have hel : ltr (g 5 nx) = 107 := by rw [hkd]; rfl
        have hvt := (hM.1.1.2 nx h90.1 h90.2).2.2.1 (by omega) (by omega)
        rw [hel]
        refine x_iload_n 96 (xd DX9_oneStep rfl) rfl rfl ?_
        refine x_bipush 98 (xd DX9_oneStep rfl) rfl rfl ?_
        refine x_icmp_eq 101 114 (xd DX9_oneStep rfl) rfl (by decide) (by decide) rfl (fun c98 => absurd c98 (by decide)) (fun _ => ?_)
        refine x_iload_n 102 (xd DX9_oneStep rfl) rfl rfl ?_
        refine x_bipush 104 (xd DX9_oneStep rfl) rfl rfl ?_
        refine x_icmp_ne 107 119 (xd DX9_oneStep rfl) rfl (by decide) (by decide) rfl (fun _ => ?_) (fun c104 => absurd c104 (by decide))
        refine x_iload_n 120 (xd DX9_oneStep rfl) rfl rfl ?_
        refine x_bipush 122 (xd DX9_oneStep rfl) rfl rfl ?_
        refine x_icmp_ne 125 137 (xd DX9_oneStep rfl) rfl (by decide) (by decide) rfl (fun c122 => absurd c122 (by decide)) (fun _ => ?_)
        refine x_aload_n 126 (xd DX9_oneStep rfl) rfl rfl ?_
        refine x_aload_n 127 (xd DX9_oneStep rfl) rfl rfl ?_
        refine x_iload_n 128 (xd DX9_oneStep rfl) rfl rfl ?_
        refine x_Vi 131 (pX9_placeOf g (stpB x k) (g 6 nx) (hM.run (hy1.1.mono (fun c q => by omega)) (hy1.2 5 (by decide)) (hy1.2 11 (by decide))) hXz hRz h7z hvt) FX9_placeOf VX9_placeOf CX9_235 (xd DX9_oneStep rfl) rfl rfl rfl ⟨by decide, rfl⟩ ⟨by decide, by decide⟩ (by decide) (Nat.le_of_ble_eq_true rfl) (by decide) rfl ?_
        rintro z9 h9 ⟨q1, q2⟩
        rw [q1, q2]
        clear q1 q2 z9 h9
        refine x_pi 134 18 rfl LX9_214 (xd DX9_oneStep rfl) rfl rfl ⟨Or.inr ⟨rfl, by decide⟩, by decide⟩ rfl ?_
        refine x_goto 160 (xd DX9_oneStep rfl) rfl ?_
        refine x_aload_n 161 (xd DX9_oneStep rfl) rfl rfl ?_
        refine x_iload_n 162 (xd DX9_oneStep rfl) rfl rfl ?_
        refine x_pi 165 17 rfl LX9_211 (xd DX9_oneStep rfl) rfl rfl ⟨Or.inr ⟨rfl, by decide⟩, by decide⟩ rfl ?_
        refine x_rv (xd DX9_oneStep rfl) rfl ?_
        have hst : stpC x k = trnH (stpB x k) 9 (g 6 nx) := by
          unfold stpC
          rw [x5, x6, hnx, hkd, if_neg (by decide)]
        have hc : stpC x k = hset (stpB x k) 255 10 (adr (stpB x k) (g 6 nx)) := by rw [hst]; rfl
        refine ⟨stp_fin (k := k) ?_ ?_ ?_ ?_, ?_⟩
        · rw [hc]; exact hRz.sum
        · rw [hc]; exact hNz.sum (adr_ok hC hTg hXz h90.1 h90.2 (by rw [hkd]; unfold kTgt; decide))
        · rw [hc, hset_i (by decide), hset_i (by decide)]; exact hz11
        · rw [hc, hset_i (by decide), hset_i (by decide), x4, hz9]
          refine Or.inl ⟨hz6, ?_⟩
          rw [hw]
          by_cases q : nx + 1 < g 4 3
          · rw [if_pos q, if_pos ⟨by omega, q⟩]
          · rw [if_neg q, if_neg (fun y => q y.2)]
        · refine ⟨fun c hc => ?_, fun j hj => ?_⟩
          · rw [hset_c (by omega), hset_c (by omega)]; exact hy1.1 c hc
          · rw [hset_i (by omega), hset_i (by omega)]; exact hy1.2 j hj
      · have hel : ltr (g 5 nx) = 113 := by rw [hkd]; rfl
        rw [hel]
        refine x_iload_n 96 (xd DX9_oneStep rfl) rfl rfl ?_
        refine x_bipush 98 (xd DX9_oneStep rfl) rfl rfl ?_
        refine x_icmp_eq 101 114 (xd DX9_oneStep rfl) rfl (by decide) (by decide) rfl (fun c98 => absurd c98 (by decide)) (fun _ => ?_)
        refine x_iload_n 102 (xd DX9_oneStep rfl) rfl rfl ?_
        refine x_bipush 104 (xd DX9_oneStep rfl) rfl rfl ?_
        refine x_icmp_ne 107 119 (xd DX9_oneStep rfl) rfl (by decide) (by decide) rfl (fun _ => ?_) (fun c104 => absurd c104 (by decide))
        refine x_iload_n 120 (xd DX9_oneStep rfl) rfl rfl ?_
        refine x_bipush 122 (xd DX9_oneStep rfl) rfl rfl ?_
        refine x_icmp_ne 125 137 (xd DX9_oneStep rfl) rfl (by decide) (by decide) rfl (fun _ => ?_) (fun c122 => absurd c122 (by decide))
        refine x_iload_n 138 (xd DX9_oneStep rfl) rfl rfl ?_
        refine x_bipush 140 (xd DX9_oneStep rfl) rfl rfl ?_
        refine x_icmp_ne 143 151 (xd DX9_oneStep rfl) rfl (by decide) (by decide) rfl (fun c140 => absurd c140 (by decide)) (fun _ => ?_)
        refine x_aload_n 144 (xd DX9_oneStep rfl) rfl rfl ?_
        refine x_Vi 147 (pX9_byAddress g (stpB x k) hC hTg (hM.run (hy1.1.mono (fun c q => by omega)) (hy1.2 5 (by decide)) (hy1.2 11 (by decide))) hXz hRz h7z (by have := hNz.1; omega)) FX9_byAddress VX9_byAddress CX9_249 (xd DX9_oneStep rfl) rfl rfl rfl ⟨by decide, rfl⟩ ⟨by decide, by decide⟩ (by decide) (Nat.le_of_ble_eq_true rfl) (by decide) rfl ?_
        rintro z9 h9 ⟨hB1, hB2⟩
        refine x_istore_n 148 (L' := [(0, _), (1, _), (2, _), (3, _)]) (xd DX9_oneStep rfl) (by decide) rfl rfl rfl ?_
        refine x_goto 160 (xd DX9_oneStep rfl) rfl ?_
        refine x_aload_n 161 (xd DX9_oneStep rfl) rfl rfl ?_
        refine x_iload_n 162 (xd DX9_oneStep rfl) rfl rfl ?_
        refine x_pi 165 17 rfl LX9_211 (xd DX9_oneStep rfl) rfl rfl ⟨Or.inr ⟨rfl, by decide⟩, by decide⟩ rfl ?_
        refine x_rv (xd DX9_oneStep rfl) rfl ?_
        have hst : stpC x k = trnH (stpB x k) 10 (g 6 nx) := by
          unfold stpC
          rw [x5, x6, hnx, hkd, if_neg (by decide)]
        have hc : stpC x k = jmpH (stpB x k) := by rw [hst]; rfl
        have hz4 : stpB x k 4 = g 4 := hXz 4 (by unfold SRu; omega)
        have hz5 : stpB x k 5 = g 5 := hXz 5 (by unfold SRu; omega)
        have hz6b : stpB x k 6 = g 6 := hXz 6 (by unfold SRu; omega)
        by_cases hF : 0 ≤ fP (jmpP (stpB x k)) 0 (g 4 3).toNat
        · obtain ⟨b1, b2⟩ := hB1 hF
          rw [b1, b2]
          have hc2 : stpC x k = hset (stpB x k) 255 9 (g 6 (fP (jmpP (stpB x k)) 0 (g 4 3).toNat)) := by
            rw [hc]
            unfold jmpH
            rw [hz4, hz6b, pik_t hF]
          have hfr := (fP_rg (jmpP (stpB x k)) (g 4 3).toNat 0).resolve_left (by omega)
          have hpj := hfr.2.2
          have hkj : g 5 (fP (jmpP (stpB x k)) 0 (g 4 3).toNat) = 9 := by
            have := hpj.1
            rw [hz5, show (((fP (jmpP (stpB x k)) 0 (g 4 3).toNat).toNat : Nat) : Int) = fP (jmpP (stpB x k)) 0 (g 4 3).toNat by omega] at this
            exact this
          have hvj := (hM.1.1.2 (fP (jmpP (stpB x k)) 0 (g 4 3).toNat) hF (by omega)).2.2.1 (by omega) (by omega)
          refine ⟨stp_fin (k := k) ?_ ?_ ?_ ?_, ?_⟩
          · rw [hc2]; exact hRz.k (by decide) (by decide) (by decide) (by decide) (by decide) (by decide) (by decide)
          · rw [hc2]; exact hNz.k (by decide)
          · rw [hc2, hset_i (by decide)]; exact hz11
          · rw [hc2, hset_s, hset_i (by decide), if_pos (by rw [x4]; exact hvj)]; exact Or.inl ⟨hz6, rfl⟩
          · refine ⟨fun c hc => ?_, fun j hj => ?_⟩
            · rw [hset_c (by omega)]; exact hy1.1 c hc
            · rw [hset_i (by omega)]; exact hy1.2 j hj
        · obtain ⟨b1, b2⟩ := hB2 hF
          rw [b1, b2]
          have hc2 : stpC x k = hset (hset (stpB x k) 255 8 1) 255 6 1 := by
            rw [hc]
            unfold jmpH
            rw [hz4, hz6b, pik_f hF]
          refine ⟨stp_fin (k := k) ?_ ?_ ?_ ?_, ?_⟩
          · rw [hc2]; exact hRz.trap.k (by decide) (by decide) (by decide) (by decide) (by decide) (by decide) (by decide)
          · rw [hc2]; exact (hNz.k (by decide)).k (by decide)
          · rw [hc2, hset_i (by decide), hset_i (by decide), hset_i (by decide)]; exact hz11
          · rw [hc2, hset_s]; exact Or.inr ⟨by decide, rfl⟩
          · refine ⟨fun c hc => ?_, fun j hj => ?_⟩
            · rw [hset_c (by omega), hset_c (by omega)]; exact hy1.1 c hc
            · rw [hset_i (by omega), hset_i (by omega)]; exact hy1.2 j hj
      · have hel : ltr (g 5 nx) = 104 := by rw [hkd]; rfl
        rw [hel]
        refine x_iload_n 96 (xd DX9_oneStep rfl) rfl rfl ?_
        refine x_bipush 98 (xd DX9_oneStep rfl) rfl rfl ?_
        refine x_icmp_eq 101 114 (xd DX9_oneStep rfl) rfl (by decide) (by decide) rfl (fun c98 => absurd c98 (by decide)) (fun _ => ?_)
        refine x_iload_n 102 (xd DX9_oneStep rfl) rfl rfl ?_
        refine x_bipush 104 (xd DX9_oneStep rfl) rfl rfl ?_
        refine x_icmp_ne 107 119 (xd DX9_oneStep rfl) rfl (by decide) (by decide) rfl (fun _ => ?_) (fun c104 => absurd c104 (by decide))
        refine x_iload_n 120 (xd DX9_oneStep rfl) rfl rfl ?_
        refine x_bipush 122 (xd DX9_oneStep rfl) rfl rfl ?_
        refine x_icmp_ne 125 137 (xd DX9_oneStep rfl) rfl (by decide) (by decide) rfl (fun _ => ?_) (fun c122 => absurd c122 (by decide))
        refine x_iload_n 138 (xd DX9_oneStep rfl) rfl rfl ?_
        refine x_bipush 140 (xd DX9_oneStep rfl) rfl rfl ?_
        refine x_icmp_ne 143 151 (xd DX9_oneStep rfl) rfl (by decide) (by decide) rfl (fun _ => ?_) (fun c140 => absurd c140 (by decide))
        refine x_iload_n 152 (xd DX9_oneStep rfl) rfl rfl ?_
        refine x_bipush 154 (xd DX9_oneStep rfl) rfl rfl ?_
        refine x_icmp_ne 157 160 (xd DX9_oneStep rfl) rfl (by decide) (by decide) rfl (fun c154 => absurd c154 (by decide)) (fun _ => ?_)
        refine x_bipush 159 (xd DX9_oneStep rfl) rfl rfl ?_
        refine x_istore_n 160 (L' := [(0, _), (1, _), (2, _), (3, _)]) (xd DX9_oneStep rfl) (by decide) rfl rfl rfl ?_
        refine x_aload_n 161 (xd DX9_oneStep rfl) rfl rfl ?_
        refine x_iload_n 162 (xd DX9_oneStep rfl) rfl rfl ?_
        refine x_pi 165 17 rfl LX9_211 (xd DX9_oneStep rfl) rfl rfl ⟨Or.inr ⟨rfl, by decide⟩, by decide⟩ rfl ?_
        refine x_rv (xd DX9_oneStep rfl) rfl ?_
        have hst : stpC x k = trnH (stpB x k) 11 (g 6 nx) := by
          unfold stpC
          rw [x5, x6, hnx, hkd, if_neg (by decide)]
        have hc : stpC x k = hset (stpB x k) 255 6 1 := by rw [hst]; rfl
        refine ⟨stp_fin (k := k) ?_ ?_ ?_ ?_, ?_⟩
        · rw [hc]; exact hRz.k (by decide) (by decide) (by decide) (by decide) (by decide) (by decide) (by decide)
        · rw [hc]; exact hNz.k (by decide)
        · rw [hc, hset_i (by decide)]; exact hz11
        · rw [hc, hset_s]; exact Or.inr ⟨by decide, rfl⟩
        · refine ⟨fun c hc => ?_, fun j hj => ?_⟩
          · rw [hset_c (by omega)]; exact hy1.1 c hc
          · rw [hset_i (by omega)]; exact hy1.2 j hj
    · have hsm := (ltr_sim hv.1).mp c83
      refine x_aload_n 87 (xd DX9_oneStep rfl) rfl rfl ?_
      refine x_iload_n 88 (xd DX9_oneStep rfl) rfl rfl ?_
      refine x_iload_n 89 (xd DX9_oneStep rfl) rfl rfl ?_
      refine x_Vv 92 (pX9_simple (stpB x k) (g 5 nx) (g 6 nx) hsm ((hM.1.1.2 nx h90.1 h90.2).2.1 hsm.2) hRz hNz (fun q => by have := hnw q; rw [hz12]; omega)) FX9_simple VX9_simple CX9_246 (xd DX9_oneStep rfl) rfl rfl rfl ⟨by decide, rfl⟩ ⟨by decide, by decide⟩ (by decide) (Nat.le_of_ble_eq_true rfl) (by decide) rfl ?_
      intro y2 ⟨hW1, hW2, hW3⟩
      refine x_goto 160 (xd DX9_oneStep rfl) rfl ?_
      refine x_aload_n 161 (xd DX9_oneStep rfl) rfl rfl ?_
      refine x_iload_n 162 (xd DX9_oneStep rfl) rfl rfl ?_
      refine x_pi 165 17 rfl LX9_211 (xd DX9_oneStep rfl) rfl rfl ⟨Or.inr ⟨rfl, by decide⟩, by decide⟩ rfl ?_
      refine x_rv (xd DX9_oneStep rfl) rfl ?_
      have hst : stpC x k = wkH (stpB x k) (g 5 nx) (g 6 nx) := by
        unfold stpC
        rw [x5, x6, hnx, if_pos (show 0 ≤ g 5 nx ∧ g 5 nx ≤ 6 from hsm)]
      have hk9 : ∀ j, j ≠ 10 → j ≠ 12 → wkH (stpB x k) (g 5 nx) (g 6 nx) 255 j = stpB x k 255 j := fun j a b => by
        unfold wkH tellH
        (repeat' split) <;> first | (rw [hset_i a]; done) | (rw [hset_c (by decide)]; done) | (rw [hset_i b, hset_c (by decide)]; done)
      refine ⟨stp_fin (k := k) ?_ ?_ ?_ ?_, ?_⟩
      · rw [hst]; exact hW1
      · rw [hst]; exact hW2
      · rw [hst, hk9 11 (by decide) (by decide), hW3.2 19 (by decide) (by decide)]; exact hz11
      · rw [hst, hk9 6 (by decide) (by decide), hk9 9 (by decide) (by decide), hz9, x4]
        refine Or.inl ⟨hz6, ?_⟩
        rw [hw]
        by_cases q : nx + 1 < g 4 3
        · rw [if_pos q, if_pos ⟨by omega, q⟩]
        · rw [if_neg q, if_neg (fun y => q y.2)]
      · refine ⟨fun c hc => ?_, fun j hj => ?_⟩
        · rw [hset_c (by omega), hW3.1 c (by omega)]; exact hy1.1 c hc
        · rw [hset_i (by omega), hW3.2 j (by omega) (by omega)]; exact hy1.2 j hj
  have rest69 : ∀ (y : XH) (w : Int), w = (if nx + 1 < g 4 3 then nx + 1 else -4) → RRc (stpA x k) y → Off (fun c => c = 259 ∨ c = 273) h y → (∀ j, j ≠ 22 → j ≠ 23 → j ≠ 26 → y 259 j = h 259 j) → WI K mX9_oneStep 4 n (qV n (fun h' => RRs (stpH x k) h' ∧ OSt h h')) 69 [(0, vr 259), (1, vi (ltr (g 5 nx))), (2, vi (g 6 nx)), (3, vi w)] [] y := by
    intro y w hw hR1 hy0 hy9
    refine x_aload_n 70 (xd DX9_oneStep rfl) rfl rfl ?_
    refine x_dupr 71 (xd DX9_oneStep rfl) rfl ?_
    refine x_gi 74 19 rfl LX9_217 (xd DX9_oneStep rfl) rfl ⟨Or.inr ⟨rfl, by decide⟩, by decide⟩ rfl ?_
    refine x_iconst 75 (xd DX9_oneStep rfl) rfl ?_
    refine x_iadd 76 (xd DX9_oneStep rfl) rfl ?_
    refine x_pi 79 19 rfl LX9_217 (xd DX9_oneStep rfl) rfl rfl ⟨Or.inr ⟨rfl, by decide⟩, by decide⟩ rfl ?_
    exact rest79 _ w hw (hR1.m (by decide) (by decide) (by decide) (by decide) (by decide) (by decide) (by decide)) ⟨fun c hc => by rw [hset_c (by omega)]; exact hy0 c (by omega), fun j hj => by rw [hset_i (by omega)]; exact hy9 j (by omega) (by omega) (by omega)⟩ (by rw [hset_s, hy9 19 (by decide) (by decide) (by decide), h19])
  have rest45 : ∀ (w : Int), w = (if nx + 1 < g 4 3 then nx + 1 else -4) → WI K mX9_oneStep 4 n (qV n (fun h' => RRs (stpH x k) h' ∧ OSt h h')) 45 [(0, vr 259), (1, vi (ltr (g 5 nx))), (2, vi (g 6 nx)), (3, vi w)] [] h := by
    intro w hw
    refine x_aload_n 46 (xd DX9_oneStep rfl) rfl rfl ?_
    refine x_gi 49 16 rfl LX9_208 (xd DX9_oneStep rfl) rfl ⟨Or.inr ⟨rfl, by decide⟩, by decide⟩ rfl ?_
    refine x_iconst 50 (xd DX9_oneStep rfl) rfl ?_
    refine x_icmp_ne 53 69 (xd DX9_oneStep rfl) rfl (by first | decide | (rw [hRc.1]; omega)) (by first | decide | (rw [hRc.1]; omega)) rfl (fun c50 => ?_) (fun c50 => ?_)
    · first
        | exact rest69 h w hw (by rw [hA0 (by rw [hRc.1] at c50; omega)]; exact hRc) Off.rf (fun _ _ _ _ => rfl)
        | exact rest69 y w hw (by rw [hA1 (by rw [hRc.1] at c50; omega)]; exact hH1) hH2 hH3
    · refine x_aload_n 54 (xd DX9_oneStep rfl) rfl rfl ?_
      refine x_aload_n 55 (xd DX9_oneStep rfl) rfl rfl ?_
      refine x_gi 58 17 rfl LX9_211 (xd DX9_oneStep rfl) rfl ⟨Or.inr ⟨rfl, by decide⟩, by decide⟩ rfl ?_
      refine x_aload_n 59 (xd DX9_oneStep rfl) rfl rfl ?_
      refine x_gr 62 _ LX9_28 (xd DX9_oneStep rfl) rfl rfl ⟨by decide, by decide⟩ (by decide) rfl rfl ?_
      refine x_bipush 64 (xd DX9_oneStep rfl) rfl rfl ?_
      refine x_iaload 65 (xd DX9_oneStep rfl) rfl ⟨Or.inr ⟨rfl, by decide⟩, by decide⟩ (by decide) (by omega) (by omega) rfl ?_
      refine x_idiv 66 (by first | omega | (rw [e17]; omega) | (rw [hM.w.1]; omega)) (by first | omega | (rw [e17]; omega) | (rw [hM.w.1]; omega)) (by first | omega | (rw [e17]; omega) | (rw [hM.w.1]; omega)) (by first | omega | (rw [e17]; omega) | (rw [hM.w.1]; omega)) (xd DX9_oneStep rfl) rfl ?_
      refine WX.stk (st' := [vi (nx / g 8 2), vr 259]) (by rw [e17, hM.w.1]) ?_
      refine x_Vv 69 (pX9_holdLine g x k (nx / g 8 2) hC hM hk (by rw [h14]; exact hln) hX hRc h13 hRW.2.2.2.2.2.2.2.2.1 hRW.2.2.2.2.2.2.2.2.2.2) FX9_holdLine VX9_holdLine CX9_242 (xd DX9_oneStep rfl) rfl rfl rfl ⟨by decide, rfl⟩ ⟨by decide, by decide⟩ (by decide) (Nat.le_of_ble_eq_true rfl) (by decide) rfl ?_
      intro y ⟨hH1, hH2, hH3⟩
      first
        | exact rest69 h w hw (by rw [hA0 (by rw [hRc.1] at c50; omega)]; exact hRc) Off.rf (fun _ _ _ _ => rfl)
        | exact rest69 y w hw (by rw [hA1 (by rw [hRc.1] at c50; omega)]; exact hH1) hH2 hH3
  refine x_aload_n 1 (xd DX9_oneStep rfl) rfl rfl ?_
  refine x_gr 4 _ LX9_19 (xd DX9_oneStep rfl) rfl rfl ⟨by decide, by decide⟩ (by decide) rfl rfl ?_
  refine x_aload_n 5 (xd DX9_oneStep rfl) rfl rfl ?_
  refine x_gi 8 17 rfl LX9_211 (xd DX9_oneStep rfl) rfl ⟨Or.inr ⟨rfl, by decide⟩, by decide⟩ rfl ?_
  refine WX.stk (st' := [vi nx, vr 263]) (by rw [e17]) ?_
  refine x_iaload 9 (xd DX9_oneStep rfl) rfl ⟨Or.inr ⟨rfl, by decide⟩, by decide⟩ (by decide) (by omega) (by omega) rfl ?_
  refine WX.stk (st' := [vi (ltr (g 5 nx))]) (by rw [hrp.1]) ?_
  refine x_istore_n 10 (L' := [(0, _), (1, _)]) (xd DX9_oneStep rfl) (by decide) rfl rfl rfl ?_
  refine x_aload_n 11 (xd DX9_oneStep rfl) rfl rfl ?_
  refine x_gr 14 _ LX9_22 (xd DX9_oneStep rfl) rfl rfl ⟨by decide, by decide⟩ (by decide) rfl rfl ?_
  refine x_aload_n 15 (xd DX9_oneStep rfl) rfl rfl ?_
  refine x_gi 18 17 rfl LX9_211 (xd DX9_oneStep rfl) rfl ⟨Or.inr ⟨rfl, by decide⟩, by decide⟩ rfl ?_
  refine WX.stk (st' := [vi nx, vr 264]) (by rw [e17]) ?_
  refine x_iaload 19 (xd DX9_oneStep rfl) rfl ⟨Or.inr ⟨rfl, by decide⟩, by decide⟩ (by decide) (by omega) (by omega) rfl ?_
  refine WX.stk (st' := [vi (g 6 nx)]) (by rw [hrp.2.1]) ?_
  refine x_istore_n 20 (L' := [(0, _), (1, _), (2, _)]) (xd DX9_oneStep rfl) (by decide) rfl rfl rfl ?_
  refine x_aload_n 21 (xd DX9_oneStep rfl) rfl rfl ?_
  refine x_gi 24 17 rfl LX9_211 (xd DX9_oneStep rfl) rfl ⟨Or.inr ⟨rfl, by decide⟩, by decide⟩ rfl ?_
  refine x_iconst 25 (xd DX9_oneStep rfl) rfl ?_
  refine x_iadd 26 (xd DX9_oneStep rfl) rfl ?_
  refine x_aload_n 27 (xd DX9_oneStep rfl) rfl rfl ?_
  refine x_gi 30 5 rfl LX9_103 (xd DX9_oneStep rfl) rfl ⟨Or.inr ⟨rfl, by decide⟩, by decide⟩ rfl ?_
  refine x_icmp_ge 33 42 (xd DX9_oneStep rfl) rfl (by omega) (by omega) rfl (fun c30 => ?_) (fun c30 => ?_)
  · refine x_bipush 44 (xd DX9_oneStep rfl) rfl rfl ?_
    refine x_istore_n 45 (L' := [(0, _), (1, _), (2, _), (3, _)]) (xd DX9_oneStep rfl) (by decide) rfl rfl rfl ?_
    first
      | exact rest45 _ (by rw [if_neg (by omega)])
      | exact rest45 _ (by rw [e17, if_pos (by omega)])
  · refine x_aload_n 34 (xd DX9_oneStep rfl) rfl rfl ?_
    refine x_gi 37 17 rfl LX9_211 (xd DX9_oneStep rfl) rfl ⟨Or.inr ⟨rfl, by decide⟩, by decide⟩ rfl ?_
    refine x_iconst 38 (xd DX9_oneStep rfl) rfl ?_
    refine x_iadd 39 (xd DX9_oneStep rfl) rfl ?_
    refine x_goto 44 (xd DX9_oneStep rfl) rfl ?_
    refine x_istore_n 45 (L' := [(0, _), (1, _), (2, _), (3, _)]) (xd DX9_oneStep rfl) (by decide) rfl rfl rfl ?_
    first
      | exact rest45 _ (by rw [if_neg (by omega)])
      | exact rest45 _ (by rw [e17, if_pos (by omega)])

