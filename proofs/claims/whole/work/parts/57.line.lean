/-! SqueezedCode: line, entry, start, step -/
set_option maxRecDepth 100000 in
set_option maxHeartbeats 4000000 in
theorem pX8_line {K : XK} {n : Nat} {h : XH} (l w : Int) (hl : xrg l) (hw : xrg w) (hC : CI h) : MI K mX8_line 4 n [vr 0, vi l, vi w] h (fun zr h' => (∃ k : Nat, h 8 2 = (2 ^ k : Nat) ∧ zr = lineC h k l w) ∧ h' = h) := by
  refine xMeth FX8_line (Nat.le_of_ble_eq_true rfl) ?_
  have hlen := hC.len
  have hP1 := hC.1.1
  have hS1 := hC.2.1.1
  have hx5 := hC.2.2.2.2.1
  obtain ⟨k, hk1, hk2, hk3, -⟩ := hC.2.2.2.1.1
  have hlines := hC.lines
  refine x_iload_n 1 (xd DX8_line rfl) rfl rfl ?_
  refine x_if_lt 4 15 (xd DX8_line rfl) rfl (by omega) rfl (fun c1 => ?_) (fun c1 => ?_)
  · refine x_iconst 16 (xd DX8_line rfl) rfl ?_
    refine x_ri (xd DX8_line rfl) rfl ?_
    refine ⟨⟨k, hk3, ?_⟩, rfl⟩
    unfold lineC
    (repeat' split) <;> first | rfl | (exfalso; omega)
  · refine x_iload_n 5 (xd DX8_line rfl) rfl rfl ?_
    refine x_aload_n 6 (xd DX8_line rfl) rfl rfl ?_
    refine x_gr 9 _ LX8_42 (xd DX8_line rfl) rfl rfl ⟨by decide, by decide⟩ (by decide) rfl rfl ?_
    refine x_gi 12 14 rfl LX8_199 (xd DX8_line rfl) rfl ⟨Or.inr ⟨rfl, by decide⟩, by decide⟩ rfl ?_
    refine x_icmp_lt 15 17 (xd DX8_line rfl) rfl (by omega) (by omega) rfl (fun c12 => ?_) (fun c12 => ?_)
    · refine x_iload_n 18 (xd DX8_line rfl) rfl rfl ?_
      have hsw : w = 0 ∨ w = 1 ∨ w = 2 ∨ (w < 0 ∨ 2 < w) := by omega
      rcases hsw with e | e | e | e
      · subst e
        refine x_tableIn 44 (xd DX8_line rfl) (by decide) (by decide) (by decide) rfl rfl ?_
        refine x_aload_n 45 (xd DX8_line rfl) rfl rfl ?_
        refine x_gr 48 _ LX8_42 (xd DX8_line rfl) rfl rfl ⟨by decide, by decide⟩ (by decide) rfl rfl ?_
        refine x_iload_n 49 (xd DX8_line rfl) rfl rfl ?_
        refine x_Vi 52 (pX3_lineAddress l k hC.1 hk2 (by omega) (by omega)) FX3_lineAddress VX3_lineAddress CX8_218 (xd DX8_line rfl) rfl rfl rfl ⟨by decide, rfl⟩ ⟨by decide, by decide⟩ (by decide) (Nat.le_of_ble_eq_true rfl) (by decide) rfl ?_
        rintro z9 h9 ⟨q1, q2⟩
        rw [q1, q2]
        clear q1 q2 z9 h9
        refine x_ri (xd DX8_line rfl) rfl ?_
        refine ⟨⟨k, hk3, ?_⟩, rfl⟩
        unfold lineC
        (repeat' split) <;> first | rfl | (exfalso; omega)
      · subst e
        refine x_tableIn 53 (xd DX8_line rfl) (by decide) (by decide) (by decide) rfl rfl ?_
        refine x_aload_n 54 (xd DX8_line rfl) rfl rfl ?_
        refine x_gr 57 _ LX8_42 (xd DX8_line rfl) rfl rfl ⟨by decide, by decide⟩ (by decide) rfl rfl ?_
        refine x_iload_n 58 (xd DX8_line rfl) rfl rfl ?_
        refine x_Vi 61 (pX3_lineNibbles l k hC.1 hk2 (by omega) (by omega)) FX3_lineNibbles VX3_lineNibbles CX8_221 (xd DX8_line rfl) rfl rfl rfl ⟨by decide, rfl⟩ ⟨by decide, by decide⟩ (by decide) (Nat.le_of_ble_eq_true rfl) (by decide) rfl ?_
        rintro z9 h9 ⟨q1, q2⟩
        rw [q1, q2]
        clear q1 q2 z9 h9
        refine x_ri (xd DX8_line rfl) rfl ?_
        refine ⟨⟨k, hk3, ?_⟩, rfl⟩
        unfold lineC
        (repeat' split) <;> first | rfl | (exfalso; omega)
      · subst e
        refine x_tableIn 62 (xd DX8_line rfl) (by decide) (by decide) (by decide) rfl rfl ?_
        refine x_aload_n 63 (xd DX8_line rfl) rfl rfl ?_
        refine x_gr 66 _ LX8_42 (xd DX8_line rfl) rfl rfl ⟨by decide, by decide⟩ (by decide) rfl rfl ?_
        refine x_aload_n 67 (xd DX8_line rfl) rfl rfl ?_
        refine x_gr 70 _ LX8_42 (xd DX8_line rfl) rfl rfl ⟨by decide, by decide⟩ (by decide) rfl rfl ?_
        refine x_iload_n 71 (xd DX8_line rfl) rfl rfl ?_
        refine x_Vi 74 (pX3_firstOf l k hk2 (by omega)) FX3_firstOf VX3_firstOf CX8_224 (xd DX8_line rfl) rfl rfl rfl ⟨by decide, rfl⟩ ⟨by decide, by decide⟩ (by decide) (Nat.le_of_ble_eq_true rfl) (by decide) rfl ?_
        rintro z9 h9 ⟨q1, q2⟩
        rw [q1, q2]
        clear q1 q2 z9 h9
        refine x_aload_n 75 (xd DX8_line rfl) rfl rfl ?_
        refine x_gr 78 _ LX8_42 (xd DX8_line rfl) rfl rfl ⟨by decide, by decide⟩ (by decide) rfl rfl ?_
        refine x_iload_n 79 (xd DX8_line rfl) rfl rfl ?_
        refine x_iconst 80 (xd DX8_line rfl) rfl ?_
        refine x_iadd 81 (xd DX8_line rfl) rfl ?_
        refine x_Vi 84 (pX3_firstOf (l + 1) k hk2 (by omega)) FX3_firstOf VX3_firstOf CX8_224 (xd DX8_line rfl) rfl rfl rfl ⟨by decide, rfl⟩ ⟨by decide, by decide⟩ (by decide) (Nat.le_of_ble_eq_true rfl) (by decide) rfl ?_
        rintro z9 h9 ⟨q1, q2⟩
        rw [q1, q2]
        clear q1 q2 z9 h9
        have hb : (l * ((2 ^ k : Nat) : Int)).toNat < 1000 ∧ ((l + 1) * ((2 ^ k : Nat) : Int)).toNat < 1000 := by
          rcases hk1 with q | q | q <;> subst q <;> first | (show (l * 4).toNat < 1000 ∧ ((l + 1) * 4).toNat < 1000; omega) | (show (l * 8).toNat < 1000 ∧ ((l + 1) * 8).toNat < 1000; omega) | (show (l * 16).toNat < 1000 ∧ ((l + 1) * 16).toNat < 1000; omega)
        have p0 : (0 : Int) ≤ ((2 ^ k : Nat) : Int) := Int.natCast_nonneg _
        rw [show l * ((2 ^ k : Nat) : Int) = ((l * ((2 ^ k : Nat) : Int)).toNat : Int) from (Int.toNat_of_nonneg (Int.mul_nonneg (by omega) p0)).symm, show (l + 1) * ((2 ^ k : Nat) : Int) = (((l + 1) * ((2 ^ k : Nat) : Int)).toNat : Int) from (Int.toNat_of_nonneg (Int.mul_nonneg (by omega) p0)).symm]
        refine x_Vi 87 (pX3_references (l * ((2 ^ k : Nat) : Int)).toNat ((l + 1) * ((2 ^ k : Nat) : Int)).toNat hC.1 (by omega) hb (fun j a b => by have := (hC.rows a b).2.1; omega)) FX3_references VX3_references CX8_205 (xd DX8_line rfl) rfl rfl rfl ⟨by decide, rfl⟩ ⟨by decide, by decide⟩ (by decide) (Nat.le_of_ble_eq_true rfl) (by decide) rfl ?_
        rintro z9 h9 ⟨q1, q2⟩
        rw [q1, q2]
        clear q1 q2 z9 h9
        refine x_ri (xd DX8_line rfl) rfl ?_
        refine ⟨⟨k, hk3, ?_⟩, rfl⟩
        unfold lineC
        (repeat' split) <;> first | rfl | (exfalso; omega)
      · refine x_tableOut 88 (xd DX8_line rfl) (hw) e rfl ?_
        refine x_iconst 89 (xd DX8_line rfl) rfl ?_
        refine x_ri (xd DX8_line rfl) rfl ?_
        refine ⟨⟨k, hk3, ?_⟩, rfl⟩
        unfold lineC
        (repeat' split) <;> first | rfl | (exfalso; omega)
    · refine x_iconst 16 (xd DX8_line rfl) rfl ?_
      refine x_ri (xd DX8_line rfl) rfl ?_
      refine ⟨⟨k, hk3, ?_⟩, rfl⟩
      unfold lineC
      (repeat' split) <;> first | rfl | (exfalso; omega)

noncomputable def entC (h : XH) (e w : Int) : Int := if 0 ≤ e ∧ e < h 8 1 then (if w = 0 then h (10 + 3 * e.toNat) 2 else if w = 1 then h (10 + 3 * e.toNat) 3 else if w = 2 then cntR (fun j => h 249 j = e ∧ h 250 j = 0) 0 (h 4 3).toNat else if w = 3 then cntR (fun j => Mt h (10 + 3 * e.toNat) j) 0 (h 4 3).toNat else -1) else -1
set_option maxRecDepth 100000 in
set_option maxHeartbeats 4000000 in
theorem pX8_entry {K : XK} {n : Nat} {h : XH} (e w : Int) (he : xrg e) (hw : xrg w) (hC : CI h) : MI K mX8_entry 3 n [vr 0, vi e, vi w] h (fun zr h' => zr = entC h e w ∧ h' = h) := by
  refine xMeth FX8_entry (Nat.le_of_ble_eq_true rfl) ?_
  have hlen := hC.len
  have hP1 := hC.1.1
  have hS1 := hC.2.1.1
  have hx5 := hC.2.2.2.2.1
  refine x_aload_n 1 (xd DX8_entry rfl) rfl rfl ?_
  refine x_gr 4 _ LX8_26 (xd DX8_entry rfl) rfl rfl ⟨by decide, by decide⟩ (by decide) rfl rfl ?_
  refine x_iload_n 5 (xd DX8_entry rfl) rfl rfl ?_
  refine x_Vi 8 (pX6_has e he (by omega)) FX6_has VX6_has CX8_144 (xd DX8_entry rfl) rfl rfl rfl ⟨by decide, rfl⟩ ⟨by decide, by decide⟩ (by decide) (Nat.le_of_ble_eq_true rfl) (by decide) rfl ?_
  rintro z9 h9 ⟨q1, q2⟩
  rw [q1, q2]
  clear q1 q2 z9 h9
  refine x_ifp_ne 11 13 (xd DX8_entry rfl) rfl rfl (fun c8 => ?_) (fun c8 => ?_)
  · obtain ⟨xe, rfl⟩ := Int.eq_ofNat_of_zero_le c8.1
    refine x_aload_n 14 (xd DX8_entry rfl) rfl rfl ?_
    refine x_gr 17 _ LX8_26 (xd DX8_entry rfl) rfl rfl ⟨by decide, by decide⟩ (by decide) rfl rfl ?_
    refine x_gr 20 _ LX8_169 (xd DX8_entry rfl) rfl rfl ⟨by decide, by decide⟩ (by decide) rfl rfl ?_
    refine x_iload_n 21 (xd DX8_entry rfl) rfl rfl ?_
    refine x_aaload 22 (10 + 3 * xe) (xd DX8_entry rfl) rfl (by decide) ⟨by decide, by decide⟩ (by decide) rfl (by omega) (xRF_9 ⟨xe, by omega⟩) (by omega) rfl rfl ?_
    refine x_astore_n 23 (L' := [(0, _), (1, _), (2, _), (3, _)]) (xd DX8_entry rfl) (by decide) rfl rfl rfl ?_
    refine x_iload_n 24 (xd DX8_entry rfl) rfl rfl ?_
    have hsw : w = 0 ∨ w = 1 ∨ w = 2 ∨ w = 3 ∨ (w < 0 ∨ 3 < w) := by omega
    rcases hsw with e | e | e | e | e
    · subst e
      refine x_tableIn 56 (xd DX8_entry rfl) (by decide) (by decide) (by decide) rfl rfl ?_
      refine x_aload_n 57 (xd DX8_entry rfl) rfl rfl ?_
      refine x_gi 60 2 rfl LX8_173 (xd DX8_entry rfl) (xEnt_10 ⟨xe, by omega⟩).1 ⟨Or.inr ⟨rfl, by show 10 + 3 * xe < 259; omega⟩, by omega⟩ rfl ?_
      refine x_ri (xd DX8_entry rfl) rfl ?_
      refine ⟨?_, rfl⟩
      unfold entC
      (try rw [Int.toNat_natCast])
      (repeat' split) <;> first | rfl | (exfalso; omega)
    · subst e
      refine x_tableIn 61 (xd DX8_entry rfl) (by decide) (by decide) (by decide) rfl rfl ?_
      refine x_aload_n 62 (xd DX8_entry rfl) rfl rfl ?_
      refine x_gi 65 3 rfl LX8_176 (xd DX8_entry rfl) (xEnt_10 ⟨xe, by omega⟩).1 ⟨Or.inr ⟨rfl, by show 10 + 3 * xe < 259; omega⟩, by omega⟩ rfl ?_
      refine x_ri (xd DX8_entry rfl) rfl ?_
      refine ⟨?_, rfl⟩
      unfold entC
      (try rw [Int.toNat_natCast])
      (repeat' split) <;> first | rfl | (exfalso; omega)
    · subst e
      refine x_tableIn 66 (xd DX8_entry rfl) (by decide) (by decide) (by decide) rfl rfl ?_
      refine x_aload_n 67 (xd DX8_entry rfl) rfl rfl ?_
      refine x_gr 70 _ LX8_42 (xd DX8_entry rfl) rfl rfl ⟨by decide, by decide⟩ (by decide) rfl rfl ?_
      refine x_iload_n 71 (xd DX8_entry rfl) rfl rfl ?_
      refine x_Vi 74 (pX3_referencesTo (xe : Int) hC.1 (by omega) (fun j a b => by have := hC.rows a b; omega)) FX3_referencesTo VX3_referencesTo CX8_177 (xd DX8_entry rfl) rfl rfl rfl ⟨by decide, rfl⟩ ⟨by decide, by decide⟩ (by decide) (Nat.le_of_ble_eq_true rfl) (by decide) rfl ?_
      rintro z9 h9 ⟨q1, q2⟩
      rw [q1, q2]
      clear q1 q2 z9 h9
      refine x_ri (xd DX8_entry rfl) rfl ?_
      refine ⟨?_, rfl⟩
      unfold entC
      (try rw [Int.toNat_natCast])
      (repeat' split) <;> first | rfl | (exfalso; omega)
    · subst e
      refine x_tableIn 75 (xd DX8_entry rfl) (by decide) (by decide) (by decide) rfl rfl ?_
      refine x_aload_n 76 (xd DX8_entry rfl) rfl rfl ?_
      refine x_gr 79 _ LX8_42 (xd DX8_entry rfl) rfl rfl ⟨by decide, by decide⟩ (by decide) rfl rfl ?_
      refine x_aload_n 80 (xd DX8_entry rfl) rfl rfl ?_
      refine x_Vi 83 (pX3_matchesOf (10 + 3 * xe) (xEnt_10 ⟨xe, by omega⟩) (hC.2.1.ew (by omega)) hC.1 hC.2.2.2.1.hr) FX3_matchesOf VX3_matchesOf CX8_180 (xd DX8_entry rfl) rfl rfl rfl ⟨by decide, rfl⟩ ⟨by decide, by decide⟩ (by decide) (Nat.le_of_ble_eq_true rfl) (by decide) rfl ?_
      rintro z9 h9 ⟨q1, q2⟩
      rw [q1, q2]
      clear q1 q2 z9 h9
      refine x_ri (xd DX8_entry rfl) rfl ?_
      refine ⟨?_, rfl⟩
      unfold entC
      (try rw [Int.toNat_natCast])
      (repeat' split) <;> first | rfl | (exfalso; omega)
    · refine x_tableOut 84 (xd DX8_entry rfl) (hw) e rfl ?_
      refine x_iconst 85 (xd DX8_entry rfl) rfl ?_
      refine x_ri (xd DX8_entry rfl) rfl ?_
      refine ⟨?_, rfl⟩
      unfold entC
      (try rw [Int.toNat_natCast])
      (repeat' split) <;> first | rfl | (exfalso; omega)
  · refine x_iconst 12 (xd DX8_entry rfl) rfl ?_
    refine x_ri (xd DX8_entry rfl) rfl ?_
    refine ⟨?_, rfl⟩
    unfold entC
    rw [if_neg c8]

