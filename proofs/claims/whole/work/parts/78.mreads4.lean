/-! SqueezedCodeModel: line, nibble -/
set_option maxRecDepth 100000 in
set_option maxHeartbeats 4000000 in
theorem pX9_lineEnd {K : XK} {n : Nat} {h : XH} (g : XH) (l : Int) (hM : MG g h) (hb : 0 ≤ (l + 1) * g 8 2 ∧ (l + 1) * g 8 2 ≤ 1000) : MI K mX9_lineEnd 0 n [vr 259, vi l] h (fun zr h' => zr = (if (l + 1) * g 8 2 < g 4 3 then (l + 1) * g 8 2 else g 4 3) ∧ h' = h) := by
  refine xMeth FX9_lineEnd (Nat.le_of_ble_eq_true rfl) ?_
  have hP1 := hM.1.1.1
  refine x_iload_n 1 (xd DX9_lineEnd rfl) rfl rfl ?_
  refine x_iconst 2 (xd DX9_lineEnd rfl) rfl ?_
  refine x_iadd 3 (xd DX9_lineEnd rfl) rfl ?_
  refine x_aload_n 4 (xd DX9_lineEnd rfl) rfl rfl ?_
  refine x_gr 7 _ LX9_28 (xd DX9_lineEnd rfl) rfl rfl ⟨by decide, by decide⟩ (by decide) rfl rfl ?_
  refine x_bipush 9 (xd DX9_lineEnd rfl) rfl rfl ?_
  refine x_iaload 10 (xd DX9_lineEnd rfl) rfl ⟨Or.inr ⟨rfl, by decide⟩, by decide⟩ (by decide) (by omega) (by omega) rfl ?_
  refine x_imul 11 (xd DX9_lineEnd rfl) rfl ?_
  refine x_istore_n 12 (L' := [(0, _), (1, _), (2, _)]) (xd DX9_lineEnd rfl) (by decide) rfl rfl rfl ?_
  refine x_iload_n 13 (xd DX9_lineEnd rfl) rfl rfl ?_
  refine x_aload_n 14 (xd DX9_lineEnd rfl) rfl rfl ?_
  refine x_gi 17 5 rfl LX9_103 (xd DX9_lineEnd rfl) rfl ⟨Or.inr ⟨rfl, by decide⟩, by decide⟩ rfl ?_
  refine x_icmp_ge 20 24 (xd DX9_lineEnd rfl) rfl (by first | (rw [hM.w.1]; omega) | (rw [hM.1.n]; omega)) (by first | (rw [hM.w.1]; omega) | (rw [hM.1.n]; omega)) rfl (fun c17 => ?_) (fun c17 => ?_)
  · rw [hM.w.1, hM.1.n] at c17
    refine x_aload_n 25 (xd DX9_lineEnd rfl) rfl rfl ?_
    refine x_gi 28 5 rfl LX9_103 (xd DX9_lineEnd rfl) rfl ⟨Or.inr ⟨rfl, by decide⟩, by decide⟩ rfl ?_
    refine x_ri (xd DX9_lineEnd rfl) rfl ?_
    refine ⟨?_, rfl⟩
    first
      | rw [if_neg (by omega), hM.1.n]
      | rw [if_pos c17, hM.w.1]
  · rw [hM.w.1, hM.1.n] at c17
    refine x_iload_n 21 (xd DX9_lineEnd rfl) rfl rfl ?_
    refine x_goto 28 (xd DX9_lineEnd rfl) rfl ?_
    refine x_ri (xd DX9_lineEnd rfl) rfl ?_
    refine ⟨?_, rfl⟩
    first
      | rw [if_neg (by omega), hM.1.n]
      | rw [if_pos c17, hM.w.1]

set_option maxRecDepth 100000 in
set_option maxHeartbeats 4000000 in
theorem pX9_line {K : XK} {n : Nat} {h : XH} (g : XH) (k : Nat) (l w : Int) (hC : CI g) (hM : MG g h) (hk : g 8 2 = (2 ^ k : Nat)) (hl : xrg l) (hw : xrg w) : MI K mX9_line 2 n [vr 259, vi l, vi w] h (fun zr h' => zr = lineC g k l w ∧ h' = h) := by
  refine xMeth FX9_line (Nat.le_of_ble_eq_true rfl) ?_
  have hP1 := hM.1.1.1
  have h14 := hM.1.2.2.1.2.1
  have h14b := hC.lines
  refine x_iload_n 1 (xd DX9_line rfl) rfl rfl ?_
  refine x_i2l 2 (by omega) (xd DX9_line rfl) rfl ?_
  refine x_lconst 3 (xd DX9_line rfl) (z := 0) rfl rfl ?_
  refine x_aload_n 4 (xd DX9_line rfl) rfl rfl ?_
  refine x_Vi 7 (pX9_lines hM.1.m.1.1 hM.1.m.2.1) FX9_lines VX9_lines CX9_192 (xd DX9_line rfl) rfl rfl rfl ⟨by decide, rfl⟩ ⟨by decide, by decide⟩ (by decide) (Nat.le_of_ble_eq_true rfl) (by decide) rfl ?_
  rintro z9 h9 ⟨q1, q2⟩
  rw [q1, q2]
  clear q1 q2 z9 h9
  rw [hM.ln]
  refine x_iconst 8 (xd DX9_line rfl) rfl ?_
  refine x_isub 9 (xd DX9_line rfl) rfl ?_
  refine x_i2l 10 (by omega) (xd DX9_line rfl) rfl ?_
  refine x_Si 13 (pX9_in l 0 (g 192 14 - 1) (by omega) (by omega) (by omega)) FX9_in VX9_in CX9_71 (xd DX9_line rfl) rfl rfl (by decide) (Nat.le_of_ble_eq_true rfl) (by decide) rfl ?_
  rintro z9 h9 ⟨q1, q2⟩
  rw [q1, q2]
  clear q1 q2 z9 h9
  refine x_ifp_eq 16 28 (xd DX9_line rfl) rfl rfl (fun c13 => ?_) (fun c13 => ?_)
  · refine x_iconst 29 (xd DX9_line rfl) rfl ?_
    refine x_ri (xd DX9_line rfl) rfl ?_
    refine ⟨?_, rfl⟩
    unfold lineC
    first
      | (rw [if_neg (by omega)]; done)
      | rw [if_pos (by omega), if_neg (by omega), if_neg (by omega), if_neg (by omega)]
  · have hl2 : l < (g 4 3 + g 8 2 - 1) / g 8 2 := by rw [← h14]; omega
    have hlF := lnF hM.w.2 c13.1 hl2
    have hW := hM.w.2
    refine x_iload_n 17 (xd DX9_line rfl) rfl rfl ?_
    refine x_i2l 18 (by omega) (xd DX9_line rfl) rfl ?_
    refine x_lconst 19 (xd DX9_line rfl) (z := 0) rfl rfl ?_
    refine x_ldc2 22 (xd DX9_line rfl) KX9_143 rfl ?_
    refine x_Si 25 (pX9_in w 0 2 (by omega) (by omega) (by omega)) FX9_in VX9_in CX9_71 (xd DX9_line rfl) rfl rfl (by decide) (Nat.le_of_ble_eq_true rfl) (by decide) rfl ?_
    rintro z9 h9 ⟨q1, q2⟩
    rw [q1, q2]
    clear q1 q2 z9 h9
    refine x_ifp_ne 28 30 (xd DX9_line rfl) rfl rfl (fun c25 => ?_) (fun c25 => ?_)
    · refine x_iload_n 31 (xd DX9_line rfl) rfl rfl ?_
      refine x_aload_n 32 (xd DX9_line rfl) rfl rfl ?_
      refine x_gr 35 _ LX9_28 (xd DX9_line rfl) rfl rfl ⟨by decide, by decide⟩ (by decide) rfl rfl ?_
      refine x_bipush 37 (xd DX9_line rfl) rfl rfl ?_
      refine x_iaload 38 (xd DX9_line rfl) rfl ⟨Or.inr ⟨rfl, by decide⟩, by decide⟩ (by decide) (by omega) (by omega) rfl ?_
      refine x_imul 39 (xd DX9_line rfl) rfl ?_
      refine x_istore_n 40 (L' := [(0, _), (1, _), (2, _), (3, _)]) (xd DX9_line rfl) (by decide) rfl rfl rfl ?_
      refine x_iload_n 41 (xd DX9_line rfl) rfl rfl ?_
      refine x_if_ne 44 53 (xd DX9_line rfl) rfl (by omega) rfl (fun c41 => ?_) (fun c41 => ?_)
      · refine x_iload_n 54 (xd DX9_line rfl) rfl rfl ?_
        refine x_iconst 55 (xd DX9_line rfl) rfl ?_
        refine x_icmp_ne 58 78 (xd DX9_line rfl) rfl (by omega) (by omega) rfl (fun c55 => ?_) (fun c55 => ?_)
        · refine x_aload_n 79 (xd DX9_line rfl) rfl rfl ?_
          refine x_iload_n 80 (xd DX9_line rfl) rfl rfl ?_
          refine x_aload_n 81 (xd DX9_line rfl) rfl rfl ?_
          refine x_iload_n 82 (xd DX9_line rfl) rfl rfl ?_
          refine x_Vi 85 (pX9_lineEnd g l hM (by omega)) FX9_lineEnd VX9_lineEnd CX9_205 (xd DX9_line rfl) rfl rfl rfl ⟨by decide, rfl⟩ ⟨by decide, by decide⟩ (by decide) (Nat.le_of_ble_eq_true rfl) (by decide) rfl ?_
          rintro z9 h9 ⟨q1, q2⟩
          rw [q1, q2]
          clear q1 q2 z9 h9
          refine WX.stk (st' := [vi ((((if (l + 1) * g 8 2 < g 4 3 then (l + 1) * g 8 2 else g 4 3).toNat : Nat)) : Int), vi (((l * g 8 2).toNat : Nat) : Int), vr 259]) (by
            rw [hM.w.1, show (((l * g 8 2).toNat : Nat) : Int) = l * g 8 2 by omega, show ((((if (l + 1) * g 8 2 < g 4 3 then (l + 1) * g 8 2 else g 4 3).toNat : Nat)) : Int) = (if (l + 1) * g 8 2 < g 4 3 then (l + 1) * g 8 2 else g 4 3) by split <;> omega]) ?_
          refine x_Vi 88 (pX9_references (l * g 8 2).toNat (if (l + 1) * g 8 2 < g 4 3 then (l + 1) * g 8 2 else g 4 3).toNat (by split <;> omega) (by split <;> omega) (fun j a b => by have p := hM.2.1.pk (j := j) (by split at b <;> omega); have r := hC.rows (j := (j : Int)) (by omega) (by split at b <;> omega); rw [p.1, p.2]; omega)) FX9_references VX9_references CX9_195 (xd DX9_line rfl) rfl rfl rfl ⟨by decide, rfl⟩ ⟨by decide, by decide⟩ (by decide) (Nat.le_of_ble_eq_true rfl) (by decide) rfl ?_
          rintro z9 h9 ⟨q1, q2⟩
          rw [q1, q2]
          clear q1 q2 z9 h9
          refine x_ri (xd DX9_line rfl) rfl ?_
          refine ⟨?_, rfl⟩
          have hrow := hM.2.1.row hlF.1 hlF.2.1
          have e1 : lAd g k l = g 251 (l * g 8 2) := by
            unfold lAd
            rw [← hk, pik_t ⟨hlF.1, hlF.2.1⟩]
          have e2 : h 270 (if (l + 1) * g 8 2 < g 4 3 then (l + 1) * g 8 2 else g 4 3) = lAd g k (l + 1) := by
            unfold lAd
            rw [← hk]
            by_cases y : (l + 1) * g 8 2 < g 4 3
            · rw [if_pos y, pik_t ⟨by omega, y⟩]
              exact (hM.2.1.row (by omega) y).2
            · rw [if_neg y, pik_f (fun q => y q.2)]
              exact hM.2.1.2
          unfold lineC
          rw [if_pos (c := 0 ≤ l ∧ l < g 192 14) (by omega)]
          first
            | (rw [if_pos (c := w = 0) (by omega), hM.w.1, hrow.2, e1]; done)
            | (rw [if_neg (c := w = 0) (by omega), if_pos (c := w = 1) (by omega), hM.w.1, hrow.2, e1, e2]; done)
            | (rw [if_neg (c := w = 0) (by omega), if_neg (c := w = 1) (by omega), if_pos (c := w = 2) (by omega), ← hk]
               have e3 : (if (l + 1) * g 8 2 < g 4 3 then (l + 1) * g 8 2 else g 4 3).toNat = min ((l + 1) * g 8 2).toNat (g 4 3).toNat := by split <;> omega
               rw [e3]
               exact cntR_cg _ (fun j a b => refs_one hC hM.2.1 (by omega)))
        · refine x_aload_n 59 (xd DX9_line rfl) rfl rfl ?_
          refine x_gr 62 _ LX9_40 (xd DX9_line rfl) rfl rfl ⟨by decide, by decide⟩ (by decide) rfl rfl ?_
          refine x_aload_n 63 (xd DX9_line rfl) rfl rfl ?_
          refine x_iload_n 64 (xd DX9_line rfl) rfl rfl ?_
          refine x_Vi 67 (pX9_lineEnd g l hM (by omega)) FX9_lineEnd VX9_lineEnd CX9_205 (xd DX9_line rfl) rfl rfl rfl ⟨by decide, rfl⟩ ⟨by decide, by decide⟩ (by decide) (Nat.le_of_ble_eq_true rfl) (by decide) rfl ?_
          rintro z9 h9 ⟨q1, q2⟩
          rw [q1, q2]
          clear q1 q2 z9 h9
          refine x_iaload 68 (xd DX9_line rfl) rfl ⟨Or.inr ⟨rfl, by decide⟩, by decide⟩ (by decide) (by split <;> omega) (by split <;> omega) rfl ?_
          refine x_aload_n 69 (xd DX9_line rfl) rfl rfl ?_
          refine x_gr 72 _ LX9_40 (xd DX9_line rfl) rfl rfl ⟨by decide, by decide⟩ (by decide) rfl rfl ?_
          refine x_iload_n 73 (xd DX9_line rfl) rfl rfl ?_
          refine x_iaload 74 (xd DX9_line rfl) rfl ⟨Or.inr ⟨rfl, by decide⟩, by decide⟩ (by decide) (by rw [hM.w.1]; omega) (by rw [hM.w.1]; omega) rfl ?_
          refine x_isub 75 (xd DX9_line rfl) rfl ?_
          refine x_goto 88 (xd DX9_line rfl) rfl ?_
          refine x_ri (xd DX9_line rfl) rfl ?_
          refine ⟨?_, rfl⟩
          have hrow := hM.2.1.row hlF.1 hlF.2.1
          have e1 : lAd g k l = g 251 (l * g 8 2) := by
            unfold lAd
            rw [← hk, pik_t ⟨hlF.1, hlF.2.1⟩]
          have e2 : h 270 (if (l + 1) * g 8 2 < g 4 3 then (l + 1) * g 8 2 else g 4 3) = lAd g k (l + 1) := by
            unfold lAd
            rw [← hk]
            by_cases y : (l + 1) * g 8 2 < g 4 3
            · rw [if_pos y, pik_t ⟨by omega, y⟩]
              exact (hM.2.1.row (by omega) y).2
            · rw [if_neg y, pik_f (fun q => y q.2)]
              exact hM.2.1.2
          unfold lineC
          rw [if_pos (c := 0 ≤ l ∧ l < g 192 14) (by omega)]
          first
            | (rw [if_pos (c := w = 0) (by omega), hM.w.1, hrow.2, e1]; done)
            | (rw [if_neg (c := w = 0) (by omega), if_pos (c := w = 1) (by omega), hM.w.1, hrow.2, e1, e2]; done)
            | (rw [if_neg (c := w = 0) (by omega), if_neg (c := w = 1) (by omega), if_pos (c := w = 2) (by omega), ← hk]
               have e3 : (if (l + 1) * g 8 2 < g 4 3 then (l + 1) * g 8 2 else g 4 3).toNat = min ((l + 1) * g 8 2).toNat (g 4 3).toNat := by split <;> omega
               rw [e3]
               exact cntR_cg _ (fun j a b => refs_one hC hM.2.1 (by omega)))
      · refine x_aload_n 45 (xd DX9_line rfl) rfl rfl ?_
        refine x_gr 48 _ LX9_40 (xd DX9_line rfl) rfl rfl ⟨by decide, by decide⟩ (by decide) rfl rfl ?_
        refine x_iload_n 49 (xd DX9_line rfl) rfl rfl ?_
        refine x_iaload 50 (xd DX9_line rfl) rfl ⟨Or.inr ⟨rfl, by decide⟩, by decide⟩ (by decide) (by rw [hM.w.1]; omega) (by rw [hM.w.1]; omega) rfl ?_
        refine x_goto 88 (xd DX9_line rfl) rfl ?_
        refine x_ri (xd DX9_line rfl) rfl ?_
        refine ⟨?_, rfl⟩
        have hrow := hM.2.1.row hlF.1 hlF.2.1
        have e1 : lAd g k l = g 251 (l * g 8 2) := by
          unfold lAd
          rw [← hk, pik_t ⟨hlF.1, hlF.2.1⟩]
        have e2 : h 270 (if (l + 1) * g 8 2 < g 4 3 then (l + 1) * g 8 2 else g 4 3) = lAd g k (l + 1) := by
          unfold lAd
          rw [← hk]
          by_cases y : (l + 1) * g 8 2 < g 4 3
          · rw [if_pos y, pik_t ⟨by omega, y⟩]
            exact (hM.2.1.row (by omega) y).2
          · rw [if_neg y, pik_f (fun q => y q.2)]
            exact hM.2.1.2
        unfold lineC
        rw [if_pos (c := 0 ≤ l ∧ l < g 192 14) (by omega)]
        first
          | (rw [if_pos (c := w = 0) (by omega), hM.w.1, hrow.2, e1]; done)
          | (rw [if_neg (c := w = 0) (by omega), if_pos (c := w = 1) (by omega), hM.w.1, hrow.2, e1, e2]; done)
          | (rw [if_neg (c := w = 0) (by omega), if_neg (c := w = 1) (by omega), if_pos (c := w = 2) (by omega), ← hk]
             have e3 : (if (l + 1) * g 8 2 < g 4 3 then (l + 1) * g 8 2 else g 4 3).toNat = min ((l + 1) * g 8 2).toNat (g 4 3).toNat := by split <;> omega
             rw [e3]
             exact cntR_cg _ (fun j a b => refs_one hC hM.2.1 (by omega)))
    · refine x_iconst 29 (xd DX9_line rfl) rfl ?_
      refine x_ri (xd DX9_line rfl) rfl ?_
      refine ⟨?_, rfl⟩
      unfold lineC
      first
        | (rw [if_neg (by omega)]; done)
        | rw [if_pos (by omega), if_neg (by omega), if_neg (by omega), if_neg (by omega)]

set_option maxRecDepth 100000 in
set_option maxHeartbeats 4000000 in
theorem pX9_kindOf {K : XK} {n : Nat} {h : XH} (kd : Int) (hk : 0 ≤ kd ∧ kd ≤ 11) : MI K mX9_kindOf 0 n [vi (ltr kd)] h (fun zr h' => zr = kd ∧ h' = h) := by
  refine xMeth FX9_kindOf (Nat.le_of_ble_eq_true rfl) ?_
  rcases k12 hk with e | e | e | e | e | e | e | e | e | e | e | e <;> subst e
  · refine x_iload_n 1 (xd DX9_kindOf rfl) rfl rfl ?_
    refine x_tableIn 120 (xd DX9_kindOf rfl) (by decide) (by decide) (by decide) rfl rfl ?_
    refine x_iconst 121 (xd DX9_kindOf rfl) rfl ?_
    refine x_ri (xd DX9_kindOf rfl) rfl ?_
    exact ⟨rfl, rfl⟩
  · refine x_iload_n 1 (xd DX9_kindOf rfl) rfl rfl ?_
    refine x_tableIn 122 (xd DX9_kindOf rfl) (by decide) (by decide) (by decide) rfl rfl ?_
    refine x_iconst 123 (xd DX9_kindOf rfl) rfl ?_
    refine x_ri (xd DX9_kindOf rfl) rfl ?_
    exact ⟨rfl, rfl⟩
  · refine x_iload_n 1 (xd DX9_kindOf rfl) rfl rfl ?_
    refine x_tableIn 124 (xd DX9_kindOf rfl) (by decide) (by decide) (by decide) rfl rfl ?_
    refine x_iconst 125 (xd DX9_kindOf rfl) rfl ?_
    refine x_ri (xd DX9_kindOf rfl) rfl ?_
    exact ⟨rfl, rfl⟩
  · refine x_iload_n 1 (xd DX9_kindOf rfl) rfl rfl ?_
    refine x_tableIn 126 (xd DX9_kindOf rfl) (by decide) (by decide) (by decide) rfl rfl ?_
    refine x_iconst 127 (xd DX9_kindOf rfl) rfl ?_
    refine x_ri (xd DX9_kindOf rfl) rfl ?_
    exact ⟨rfl, rfl⟩
  · refine x_iload_n 1 (xd DX9_kindOf rfl) rfl rfl ?_
    refine x_tableIn 128 (xd DX9_kindOf rfl) (by decide) (by decide) (by decide) rfl rfl ?_
    refine x_iconst 129 (xd DX9_kindOf rfl) rfl ?_
    refine x_ri (xd DX9_kindOf rfl) rfl ?_
    exact ⟨rfl, rfl⟩
  · refine x_iload_n 1 (xd DX9_kindOf rfl) rfl rfl ?_
    refine x_tableIn 130 (xd DX9_kindOf rfl) (by decide) (by decide) (by decide) rfl rfl ?_
    refine x_iconst 131 (xd DX9_kindOf rfl) rfl ?_
    refine x_ri (xd DX9_kindOf rfl) rfl ?_
    exact ⟨rfl, rfl⟩
  · refine x_iload_n 1 (xd DX9_kindOf rfl) rfl rfl ?_
    refine x_tableIn 132 (xd DX9_kindOf rfl) (by decide) (by decide) (by decide) rfl rfl ?_
    refine x_bipush 134 (xd DX9_kindOf rfl) rfl rfl ?_
    refine x_ri (xd DX9_kindOf rfl) rfl ?_
    exact ⟨rfl, rfl⟩
  · refine x_iload_n 1 (xd DX9_kindOf rfl) rfl rfl ?_
    refine x_tableIn 135 (xd DX9_kindOf rfl) (by decide) (by decide) (by decide) rfl rfl ?_
    refine x_bipush 137 (xd DX9_kindOf rfl) rfl rfl ?_
    refine x_ri (xd DX9_kindOf rfl) rfl ?_
    exact ⟨rfl, rfl⟩
  · refine x_iload_n 1 (xd DX9_kindOf rfl) rfl rfl ?_
    refine x_tableIn 138 (xd DX9_kindOf rfl) (by decide) (by decide) (by decide) rfl rfl ?_
    refine x_bipush 140 (xd DX9_kindOf rfl) rfl rfl ?_
    refine x_ri (xd DX9_kindOf rfl) rfl ?_
    exact ⟨rfl, rfl⟩
  · refine x_iload_n 1 (xd DX9_kindOf rfl) rfl rfl ?_
    refine x_tableIn 141 (xd DX9_kindOf rfl) (by decide) (by decide) (by decide) rfl rfl ?_
    refine x_bipush 143 (xd DX9_kindOf rfl) rfl rfl ?_
    refine x_ri (xd DX9_kindOf rfl) rfl ?_
    exact ⟨rfl, rfl⟩
  · refine x_iload_n 1 (xd DX9_kindOf rfl) rfl rfl ?_
    refine x_tableIn 144 (xd DX9_kindOf rfl) (by decide) (by decide) (by decide) rfl rfl ?_
    refine x_bipush 146 (xd DX9_kindOf rfl) rfl rfl ?_
    refine x_ri (xd DX9_kindOf rfl) rfl ?_
    exact ⟨rfl, rfl⟩
  · refine x_iload_n 1 (xd DX9_kindOf rfl) rfl rfl ?_
    refine x_tableIn 147 (xd DX9_kindOf rfl) (by decide) (by decide) (by decide) rfl rfl ?_
    refine x_bipush 149 (xd DX9_kindOf rfl) rfl rfl ?_
    refine x_ri (xd DX9_kindOf rfl) rfl ?_
    exact ⟨rfl, rfl⟩


set_option maxRecDepth 100000 in
set_option maxHeartbeats 4000000 in
theorem pX9_nibbleOf {K : XK} {n : Nat} {h : XH} (g : XH) (i : Nat) (t : Int) (hC : CI g) (hM : MG g h) (hi : (i : Int) < g 4 3) (hh : 0 ≤ g 251 (i : Int)) (ht : 0 ≤ t ∧ t < wid g i) : MI K mX9_nibbleOf 1 n [vr 259, vi (i : Int), vi t] h (fun zr h' => zr = nib g i t ∧ h' = h) := by
  refine xMeth FX9_nibbleOf (Nat.le_of_ble_eq_true rfl) ?_
  have hP := hM.1.1
  have hP1 := hP.1
  have hrow := hM.2.1.row (x := (i : Int)) (by omega) hi
  have hrp := hM.1.2.2.2.1.2 (i : Int) (by omega) hi
  have hv := hP.v (i := (i : Int)) (by omega) hi
  have hrg := hC.rows (j := (i : Int)) (by omega) hi
  have h81 := hM.1.2.1.1
  have hrf := (rowF hC hi).1
  have hfit : 0 ≤ g 249 (i : Int) → (i : Int) + g (10 + 3 * (g 249 (i : Int)).toNat) 2 ≤ g 4 3 := fun q => by
    have hPK := (FB_PK hM.1.2.1.1 hM.1.2.2.1.2.2.2.2.1).2
    have hf := head_facts (hM.1.2.2.1.2.2.2.2.2.2.2.1 i hi) hh
    rw [hf.2.2.1] at q ⊢
    exact hPK (i : Int) (by omega) hi q
  have hw4 : wid g i ≤ 4 := by unfold wid; have := kOwn_rg (g 5 (i : Int)); have := kRef_rg (g (10 + 3 * (g 249 (i : Int)).toNat) 3); split <;> omega
  have hpk : 0 ≤ g 249 (i : Int) → g 249 (i : Int) < g 8 1 := fun q => by
    have hPK := (FB_PK hM.1.2.1.1 hM.1.2.2.1.2.2.2.2.1).1
    have r := csN_rg hP hM.1.2.1 hPK (i + 1) (by omega)
    have p := (PF.of hM.1.2.2.1 hi).1
    omega
  refine x_aload_n 1 (xd DX9_nibbleOf rfl) rfl rfl ?_
  refine x_gr 4 _ LX9_37 (xd DX9_nibbleOf rfl) rfl rfl ⟨by decide, by decide⟩ (by decide) rfl rfl ?_
  refine x_iload_n 5 (xd DX9_nibbleOf rfl) rfl rfl ?_
  refine x_iaload 6 (xd DX9_nibbleOf rfl) rfl ⟨Or.inr ⟨rfl, by decide⟩, by decide⟩ (by decide) (by omega) (by omega) rfl ?_
  refine x_bipush 8 (xd DX9_nibbleOf rfl) rfl rfl ?_
  refine x_icmp_eq 11 58 (xd DX9_nibbleOf rfl) rfl (by first | omega | (rw [hrow.1]; omega)) (by first | omega | (rw [hrow.1]; omega)) rfl (fun c8 => ?_) (fun c8 => ?_)
  · rw [hrow.1] at c8
    have hown : g 249 (i : Int) = -4 := c8
    have hwd : wid g i = kOwn (g 5 (i : Int)) := by unfold wid; rw [if_pos (by omega)]
    refine x_iload_n 59 (xd DX9_nibbleOf rfl) rfl rfl ?_
    refine x_if_ne 62 72 (xd DX9_nibbleOf rfl) rfl (by omega) rfl (fun c59 => ?_) (fun c59 => ?_)
    · refine x_aload_n 73 (xd DX9_nibbleOf rfl) rfl rfl ?_
      refine x_gr 76 _ LX9_19 (xd DX9_nibbleOf rfl) rfl rfl ⟨by decide, by decide⟩ (by decide) rfl rfl ?_
      refine x_iload_n 77 (xd DX9_nibbleOf rfl) rfl rfl ?_
      refine x_iaload 78 (xd DX9_nibbleOf rfl) rfl ⟨Or.inr ⟨rfl, by decide⟩, by decide⟩ (by decide) (by omega) (by omega) rfl ?_
      rw [hrp.1]
      refine x_Si 81 (pX9_isSimple (ltr (g 5 (i : Int))) (by have := ltr_rg (g 5 (i : Int)); omega)) FX9_isSimple VX9_isSimple CX9_86 (xd DX9_nibbleOf rfl) rfl rfl (by decide) (Nat.le_of_ble_eq_true rfl) (by decide) rfl ?_
      rintro z9 h9 ⟨q1, q2⟩
      rw [q1, q2]
      clear q1 q2 z9 h9
      refine x_ifp_eq 84 93 (xd DX9_nibbleOf rfl) rfl rfl (fun c81 => ?_) (fun c81 => ?_)
      · have hsm : ¬ kSim (g 5 (i : Int)) := fun q => c81 ((ltr_sim hv.1).mpr q)
        have htg : kTgt (g 5 (i : Int)) := by
          refine Classical.byContradiction (fun q => ?_)
          rw [hwd, kOwn_o hsm q] at ht
          omega
        have hv4 := kOwn_t hsm htg
        rw [hwd, hv4] at ht
        have htt := hP.2 (i : Int) (by omega) hi
        have hvv := htt.2.2.1 htg.1 htg.2
        have hrt := hM.2.1.row (x := g 6 (i : Int)) hvv.1 hvv.2
        have hrr := hC.rows (j := g 6 (i : Int)) hvv.1 hvv.2
        have key : ∀ (sk : Nat), sk < 32 → (12 : Int) - 4 * t = (sk : Int) → (h 270 (h 264 (i : Int)) / ((2 ^ sk : Nat) : Int)) % 16 = nib g i t → WI K mX9_nibbleOf 1 n (qI n (fun zr h' => zr = nib g i t ∧ h' = h)) 110 [(0, vr 259), (1, vi (i : Int)), (2, vi t)] [vi ((12 : Int) - 4 * t), vi (h 270 (h 264 (i : Int)))] h := by
          intro sk hsk he hres
          rw [he]
          refine x_ishr 111 (k := sk) (by rw [hrp.2.1, hrt.2]; omega) hsk (xd DX9_nibbleOf rfl) rfl ?_
          refine x_bipush 113 (xd DX9_nibbleOf rfl) rfl rfl ?_
          refine x_iand15 114 (xd DX9_nibbleOf rfl) rfl ?_
          refine x_ri (xd DX9_nibbleOf rfl) rfl ?_
          exact ⟨hres, rfl⟩
        refine x_aload_n 94 (xd DX9_nibbleOf rfl) rfl rfl ?_
        refine x_gr 97 _ LX9_40 (xd DX9_nibbleOf rfl) rfl rfl ⟨by decide, by decide⟩ (by decide) rfl rfl ?_
        refine x_aload_n 98 (xd DX9_nibbleOf rfl) rfl rfl ?_
        refine x_gr 101 _ LX9_22 (xd DX9_nibbleOf rfl) rfl rfl ⟨by decide, by decide⟩ (by decide) rfl rfl ?_
        refine x_iload_n 102 (xd DX9_nibbleOf rfl) rfl rfl ?_
        refine x_iaload 103 (xd DX9_nibbleOf rfl) rfl ⟨Or.inr ⟨rfl, by decide⟩, by decide⟩ (by decide) (by omega) (by omega) rfl ?_
        refine x_iaload 104 (xd DX9_nibbleOf rfl) rfl ⟨Or.inr ⟨rfl, by decide⟩, by decide⟩ (by decide) (by first | omega | (rw [hrp.2.1]; omega)) (by first | omega | (rw [hrp.2.1]; omega)) rfl ?_
        refine x_bipush 106 (xd DX9_nibbleOf rfl) rfl rfl ?_
        refine x_iconst 107 (xd DX9_nibbleOf rfl) rfl ?_
        refine x_iload_n 108 (xd DX9_nibbleOf rfl) rfl rfl ?_
        refine x_imul 109 (xd DX9_nibbleOf rfl) rfl ?_
        refine x_isub 110 (xd DX9_nibbleOf rfl) rfl ?_
        have ht3 : t = 1 ∨ t = 2 ∨ t = 3 := by omega
        rcases ht3 with e | e | e
        · subst e
          refine key 8 (by decide) (by decide) ?_
          unfold nib
          rw [if_pos (by omega), if_neg (by decide), if_neg (fun q => hsm ⟨hv.1.1, q⟩), if_pos rfl, hrp.2.1, hrt.2]
          rfl
        · subst e
          refine key 4 (by decide) (by decide) ?_
          unfold nib
          rw [if_pos (by omega), if_neg (by decide), if_neg (fun q => hsm ⟨hv.1.1, q⟩), if_neg (by decide), if_pos rfl, hrp.2.1, hrt.2]
          rfl
        · subst e
          refine key 0 (by decide) (by decide) ?_
          unfold nib
          rw [if_pos (by omega), if_neg (by decide), if_neg (fun q => hsm ⟨hv.1.1, q⟩), if_neg (by decide), if_neg (by decide), hrp.2.1, hrt.2]
          show g 251 (g 6 (i : Int)) / 1 % 16 = _
          rw [Int.ediv_one]
      · have hsm := (ltr_sim hv.1).mp c81
        refine x_aload_n 85 (xd DX9_nibbleOf rfl) rfl rfl ?_
        refine x_gr 88 _ LX9_22 (xd DX9_nibbleOf rfl) rfl rfl ⟨by decide, by decide⟩ (by decide) rfl rfl ?_
        refine x_iload_n 89 (xd DX9_nibbleOf rfl) rfl rfl ?_
        refine x_iaload 90 (xd DX9_nibbleOf rfl) rfl ⟨Or.inr ⟨rfl, by decide⟩, by decide⟩ (by decide) (by omega) (by omega) rfl ?_
        refine x_goto 114 (xd DX9_nibbleOf rfl) rfl ?_
        refine x_ri (xd DX9_nibbleOf rfl) rfl ?_
        refine ⟨?_, rfl⟩
        unfold nib
        rw [if_pos (by omega), if_neg (by omega)]
        first
          | (rw [if_pos hsm.2]; exact hrp.2.1)
          | skip
    · refine x_aload_n 63 (xd DX9_nibbleOf rfl) rfl rfl ?_
      refine x_gr 66 _ LX9_19 (xd DX9_nibbleOf rfl) rfl rfl ⟨by decide, by decide⟩ (by decide) rfl rfl ?_
      refine x_iload_n 67 (xd DX9_nibbleOf rfl) rfl rfl ?_
      refine x_iaload 68 (xd DX9_nibbleOf rfl) rfl ⟨Or.inr ⟨rfl, by decide⟩, by decide⟩ (by decide) (by omega) (by omega) rfl ?_
      rw [hrp.1]
      refine x_Si 71 (pX9_kindOf (g 5 (i : Int)) hv.1) FX9_kindOf VX9_kindOf CX9_199 (xd DX9_nibbleOf rfl) rfl rfl (by decide) (Nat.le_of_ble_eq_true rfl) (by decide) rfl ?_
      rintro z9 h9 ⟨q1, q2⟩
      rw [q1, q2]
      clear q1 q2 z9 h9
      refine x_ri (xd DX9_nibbleOf rfl) rfl ?_
      refine ⟨?_, rfl⟩
      unfold nib
      rw [if_pos (by omega), if_pos (by omega)]
  · rw [hrow.1] at c8
    have hown : ¬ g 249 (i : Int) < 0 := by omega
    have hMe := hM.1.2.2.2.2.1.2.2.2 (g 249 (i : Int)).toNat (by omega)
    rw [show (((g 249 (i : Int)).toNat : Nat) : Int) = g 249 (i : Int) by omega] at hMe
    have hEw := hM.1.2.1.ew (e := (g 249 (i : Int)).toNat) (by omega)
    have hE3 := hEw.2.1
    have hin := hfit (by omega)
    have hkk := kRef_n (k := g (10 + 3 * (g 249 (i : Int)).toNat) 3)
    have hwd : wid g i = kRef (g (10 + 3 * (g 249 (i : Int)).toNat) 3) := by unfold wid; rw [if_neg hown]
    refine x_iload_n 12 (xd DX9_nibbleOf rfl) rfl rfl ?_
    refine x_if_ne 15 20 (xd DX9_nibbleOf rfl) rfl (by omega) rfl (fun c12 => ?_) (fun c12 => ?_)
    · refine x_iload_n 21 (xd DX9_nibbleOf rfl) rfl rfl ?_
      refine x_iconst 22 (xd DX9_nibbleOf rfl) rfl ?_
      refine x_icmp_ne 25 34 (xd DX9_nibbleOf rfl) rfl (by omega) (by omega) rfl (fun c22 => ?_) (fun c22 => ?_)
      · refine x_aload_n 35 (xd DX9_nibbleOf rfl) rfl rfl ?_
        refine x_gr 38 _ LX9_22 (xd DX9_nibbleOf rfl) rfl rfl ⟨by decide, by decide⟩ (by decide) rfl rfl ?_
        refine x_iload_n 39 (xd DX9_nibbleOf rfl) rfl rfl ?_
        refine x_aload_n 40 (xd DX9_nibbleOf rfl) rfl rfl ?_
        refine x_gr 43 _ LX9_28 (xd DX9_nibbleOf rfl) rfl rfl ⟨by decide, by decide⟩ (by decide) rfl rfl ?_
        refine x_bipush 45 (xd DX9_nibbleOf rfl) rfl rfl ?_
        refine x_aload_n 46 (xd DX9_nibbleOf rfl) rfl rfl ?_
        refine x_gr 49 _ LX9_37 (xd DX9_nibbleOf rfl) rfl rfl ⟨by decide, by decide⟩ (by decide) rfl rfl ?_
        refine x_iload_n 50 (xd DX9_nibbleOf rfl) rfl rfl ?_
        refine x_iaload 51 (xd DX9_nibbleOf rfl) rfl ⟨Or.inr ⟨rfl, by decide⟩, by decide⟩ (by decide) (by omega) (by omega) rfl ?_
        refine x_imul 52 (xd DX9_nibbleOf rfl) rfl ?_
        refine x_iconst 53 (xd DX9_nibbleOf rfl) rfl ?_
        refine x_iadd 54 (xd DX9_nibbleOf rfl) rfl ?_
        refine x_iaload 55 (xd DX9_nibbleOf rfl) rfl ⟨Or.inr ⟨rfl, by decide⟩, by decide⟩ (by decide) (by rw [hrow.1]; omega) (by rw [hrow.1]; omega) rfl ?_
        refine x_iadd 56 (xd DX9_nibbleOf rfl) rfl ?_
        refine x_iaload 57 (xd DX9_nibbleOf rfl) rfl ⟨Or.inr ⟨rfl, by decide⟩, by decide⟩ (by decide) (by rw [hrow.1, hMe.2.1]; omega) (by rw [hrow.1, hMe.2.1]; omega) rfl ?_
        refine x_ri (xd DX9_nibbleOf rfl) rfl ?_
        refine ⟨?_, rfl⟩
        unfold nib
        rw [if_neg hown]
        first
          | (rw [if_pos (by omega)]; done)
          | (rw [if_neg (by omega), if_pos (by omega)]; exact hrow.1)
          | (rw [if_neg (by omega), if_neg (by omega), hrow.1, hMe.2.1]
             exact (hM.1.2.2.2.1.2 _ (by omega) (by omega)).2.1)
      · refine x_aload_n 26 (xd DX9_nibbleOf rfl) rfl rfl ?_
        refine x_gr 29 _ LX9_37 (xd DX9_nibbleOf rfl) rfl rfl ⟨by decide, by decide⟩ (by decide) rfl rfl ?_
        refine x_iload_n 30 (xd DX9_nibbleOf rfl) rfl rfl ?_
        refine x_iaload 31 (xd DX9_nibbleOf rfl) rfl ⟨Or.inr ⟨rfl, by decide⟩, by decide⟩ (by decide) (by omega) (by omega) rfl ?_
        refine x_goto 57 (xd DX9_nibbleOf rfl) rfl ?_
        refine x_ri (xd DX9_nibbleOf rfl) rfl ?_
        refine ⟨?_, rfl⟩
        unfold nib
        rw [if_neg hown]
        first
          | (rw [if_pos (by omega)]; done)
          | (rw [if_neg (by omega), if_pos (by omega)]; exact hrow.1)
          | (rw [if_neg (by omega), if_neg (by omega), hrow.1, hMe.2.1]
             exact (hM.1.2.2.2.1.2 _ (by omega) (by omega)).2.1)
    · refine x_bipush 17 (xd DX9_nibbleOf rfl) rfl rfl ?_
      refine x_goto 57 (xd DX9_nibbleOf rfl) rfl ?_
      refine x_ri (xd DX9_nibbleOf rfl) rfl ?_
      refine ⟨?_, rfl⟩
      unfold nib
      rw [if_neg hown]
      first
        | (rw [if_pos (by omega)]; done)
        | (rw [if_neg (by omega), if_pos (by omega)]; exact hrow.1)
        | (rw [if_neg (by omega), if_neg (by omega), hrow.1, hMe.2.1]
           exact (hM.1.2.2.2.1.2 _ (by omega) (by omega)).2.1)

