/-! SqueezedCodeModel: address, cell, out, held, headOf, references -/
def adrM (h : XH) (i : Int) : Int := if 0 ≤ i ∧ i ≤ h 259 5 - 1 then h 270 i else -1
def cellM (h : XH) (i : Int) : Int := if 0 ≤ i ∧ i ≤ 9 then (if h 259 15 = 0 then -2 else h 271 i) else -1
def outM (h : XH) (i : Int) : Int := if i < 0 then -1 else if h 259 15 = 0 then -2 else if i < h 259 20 then h 272 i else -4
def heldM (h : XH) (i : Int) : Int := if i < 0 then -1 else if h 259 15 = 0 then -2 else if i < h 259 26 then h 273 i else -4
set_option maxRecDepth 100000 in
set_option maxHeartbeats 4000000 in
theorem pX9_address {K : XK} {n : Nat} {h : XH} (i : Int) (hi : xrg i) (h5 : 0 ≤ h 259 5 ∧ h 259 5 ≤ 48) : MI K mX9_address 2 n [vr 259, vi i] h (fun zr h' => zr = adrM h i ∧ h' = h) := by
  refine xMeth FX9_address (Nat.le_of_ble_eq_true rfl) ?_
  refine x_aload_n 1 (xd DX9_address rfl) rfl rfl ?_
  refine x_iload_n 2 (xd DX9_address rfl) rfl rfl ?_
  refine x_Vi 5 (pX9_isCode i hi h5) FX9_isCode VX9_isCode CX9_140 (xd DX9_address rfl) rfl rfl rfl ⟨by decide, rfl⟩ ⟨by decide, by decide⟩ (by decide) (Nat.le_of_ble_eq_true rfl) (by decide) rfl ?_
  rintro z9 h9 ⟨q1, q2⟩
  rw [q1, q2]
  clear q1 q2 z9 h9
  refine x_ifp_eq 8 17 (xd DX9_address rfl) rfl rfl (fun c5 => ?_) (fun c5 => ?_)
  · refine x_iconst 18 (xd DX9_address rfl) rfl ?_
    refine x_ri (xd DX9_address rfl) rfl ?_
    refine ⟨?_, rfl⟩
    unfold adrM
    (repeat' split) <;> first | rfl | (exfalso; omega)
  · refine x_aload_n 9 (xd DX9_address rfl) rfl rfl ?_
    refine x_gr 12 _ LX9_40 (xd DX9_address rfl) rfl rfl ⟨by decide, by decide⟩ (by decide) rfl rfl ?_
    refine x_iload_n 13 (xd DX9_address rfl) rfl rfl ?_
    refine x_iaload 14 (xd DX9_address rfl) rfl ⟨Or.inr ⟨rfl, by decide⟩, by decide⟩ (by decide) (by omega) (by omega) rfl ?_
    refine x_goto 18 (xd DX9_address rfl) rfl ?_
    refine x_ri (xd DX9_address rfl) rfl ?_
    refine ⟨?_, rfl⟩
    unfold adrM
    (repeat' split) <;> first | rfl | (exfalso; omega)

set_option maxRecDepth 100000 in
set_option maxHeartbeats 4000000 in
theorem pX9_cell {K : XK} {n : Nat} {h : XH} (i : Int) (hi : xrg i) (h15 : h 259 15 = 0 ∨ h 259 15 = 1) : MI K mX9_cell 1 n [vr 259, vi i] h (fun zr h' => zr = cellM h i ∧ h' = h) := by
  refine xMeth FX9_cell (Nat.le_of_ble_eq_true rfl) ?_
  refine x_iload_n 1 (xd DX9_cell rfl) rfl rfl ?_
  refine x_i2l 2 (by omega) (xd DX9_cell rfl) rfl ?_
  refine x_lconst 3 (xd DX9_cell rfl) (z := 0) rfl rfl ?_
  refine x_ldc2 6 (xd DX9_cell rfl) KX9_260 rfl ?_
  refine x_Si 9 (pX9_in i 0 9 hi (by decide) (by decide)) FX9_in VX9_in CX9_71 (xd DX9_cell rfl) rfl rfl (by decide) (Nat.le_of_ble_eq_true rfl) (by decide) rfl ?_
  rintro z9 h9 ⟨q1, q2⟩
  rw [q1, q2]
  clear q1 q2 z9 h9
  refine x_ifp_ne 12 14 (xd DX9_cell rfl) rfl rfl (fun c9 => ?_) (fun c9 => ?_)
  · refine x_aload_n 15 (xd DX9_cell rfl) rfl rfl ?_
    refine x_gz 18 15 rfl LX9_109 (xd DX9_cell rfl) rfl ⟨Or.inr ⟨rfl, by decide⟩, by decide⟩ rfl ?_
    refine x_if_eq 21 30 (xd DX9_cell rfl) rfl (by omega) rfl (fun c18 => ?_) (fun c18 => ?_)
    · refine x_bipush 32 (xd DX9_cell rfl) rfl rfl ?_
      refine x_ri (xd DX9_cell rfl) rfl ?_
      refine ⟨?_, rfl⟩
      unfold cellM
      (repeat' split) <;> first | rfl | (exfalso; omega)
    · refine x_aload_n 22 (xd DX9_cell rfl) rfl rfl ?_
      refine x_gr 25 _ LX9_43 (xd DX9_cell rfl) rfl rfl ⟨by decide, by decide⟩ (by decide) rfl rfl ?_
      refine x_iload_n 26 (xd DX9_cell rfl) rfl rfl ?_
      refine x_iaload 27 (xd DX9_cell rfl) rfl ⟨Or.inr ⟨rfl, by decide⟩, by decide⟩ (by decide) (by omega) (by omega) rfl ?_
      refine x_goto 32 (xd DX9_cell rfl) rfl ?_
      refine x_ri (xd DX9_cell rfl) rfl ?_
      refine ⟨?_, rfl⟩
      unfold cellM
      (repeat' split) <;> first | rfl | (exfalso; omega)
  · refine x_iconst 13 (xd DX9_cell rfl) rfl ?_
    refine x_ri (xd DX9_cell rfl) rfl ?_
    refine ⟨?_, rfl⟩
    unfold cellM
    (repeat' split) <;> first | rfl | (exfalso; omega)

set_option maxRecDepth 100000 in
set_option maxHeartbeats 4000000 in
theorem pX9_out {K : XK} {n : Nat} {h : XH} (i : Int) (hi : xrg i) (h15 : h 259 15 = 0 ∨ h 259 15 = 1) (h20 : 0 ≤ h 259 20 ∧ h 259 20 ≤ 12) : MI K mX9_out 0 n [vr 259, vi i] h (fun zr h' => zr = outM h i ∧ h' = h) := by
  refine xMeth FX9_out (Nat.le_of_ble_eq_true rfl) ?_
  refine x_iload_n 1 (xd DX9_out rfl) rfl rfl ?_
  refine x_if_ge 4 6 (xd DX9_out rfl) rfl (by omega) rfl (fun c1 => ?_) (fun c1 => ?_)
  · refine x_aload_n 7 (xd DX9_out rfl) rfl rfl ?_
    refine x_gz 10 15 rfl LX9_109 (xd DX9_out rfl) rfl ⟨Or.inr ⟨rfl, by decide⟩, by decide⟩ rfl ?_
    refine x_if_ne 13 18 (xd DX9_out rfl) rfl (by omega) rfl (fun c10 => ?_) (fun c10 => ?_)
    · refine x_iload_n 19 (xd DX9_out rfl) rfl rfl ?_
      refine x_aload_n 20 (xd DX9_out rfl) rfl rfl ?_
      refine x_gi 23 20 rfl LX9_220 (xd DX9_out rfl) rfl ⟨Or.inr ⟨rfl, by decide⟩, by decide⟩ rfl ?_
      refine x_icmp_ge 26 35 (xd DX9_out rfl) rfl (by omega) (by omega) rfl (fun c23 => ?_) (fun c23 => ?_)
      · refine x_bipush 37 (xd DX9_out rfl) rfl rfl ?_
        refine x_ri (xd DX9_out rfl) rfl ?_
        refine ⟨?_, rfl⟩
        unfold outM
        (repeat' split) <;> first | rfl | (exfalso; omega)
      · refine x_aload_n 27 (xd DX9_out rfl) rfl rfl ?_
        refine x_gr 30 _ LX9_46 (xd DX9_out rfl) rfl rfl ⟨by decide, by decide⟩ (by decide) rfl rfl ?_
        refine x_iload_n 31 (xd DX9_out rfl) rfl rfl ?_
        refine x_iaload 32 (xd DX9_out rfl) rfl ⟨Or.inr ⟨rfl, by decide⟩, by decide⟩ (by decide) (by omega) (by omega) rfl ?_
        refine x_goto 37 (xd DX9_out rfl) rfl ?_
        refine x_ri (xd DX9_out rfl) rfl ?_
        refine ⟨?_, rfl⟩
        unfold outM
        (repeat' split) <;> first | rfl | (exfalso; omega)
    · refine x_bipush 15 (xd DX9_out rfl) rfl rfl ?_
      refine x_goto 37 (xd DX9_out rfl) rfl ?_
      refine x_ri (xd DX9_out rfl) rfl ?_
      refine ⟨?_, rfl⟩
      unfold outM
      (repeat' split) <;> first | rfl | (exfalso; omega)
  · refine x_iconst 5 (xd DX9_out rfl) rfl ?_
    refine x_ri (xd DX9_out rfl) rfl ?_
    refine ⟨?_, rfl⟩
    unfold outM
    (repeat' split) <;> first | rfl | (exfalso; omega)

set_option maxRecDepth 100000 in
set_option maxHeartbeats 4000000 in
theorem pX9_held {K : XK} {n : Nat} {h : XH} (i : Int) (hi : xrg i) (h15 : h 259 15 = 0 ∨ h 259 15 = 1) (h26 : 0 ≤ h 259 26 ∧ h 259 26 ≤ 4) : MI K mX9_held 0 n [vr 259, vi i] h (fun zr h' => zr = heldM h i ∧ h' = h) := by
  refine xMeth FX9_held (Nat.le_of_ble_eq_true rfl) ?_
  refine x_iload_n 1 (xd DX9_held rfl) rfl rfl ?_
  refine x_if_ge 4 6 (xd DX9_held rfl) rfl (by omega) rfl (fun c1 => ?_) (fun c1 => ?_)
  · refine x_aload_n 7 (xd DX9_held rfl) rfl rfl ?_
    refine x_gz 10 15 rfl LX9_109 (xd DX9_held rfl) rfl ⟨Or.inr ⟨rfl, by decide⟩, by decide⟩ rfl ?_
    refine x_if_ne 13 18 (xd DX9_held rfl) rfl (by omega) rfl (fun c10 => ?_) (fun c10 => ?_)
    · refine x_iload_n 19 (xd DX9_held rfl) rfl rfl ?_
      refine x_aload_n 20 (xd DX9_held rfl) rfl rfl ?_
      refine x_gi 23 26 rfl LX9_232 (xd DX9_held rfl) rfl ⟨Or.inr ⟨rfl, by decide⟩, by decide⟩ rfl ?_
      refine x_icmp_ge 26 35 (xd DX9_held rfl) rfl (by omega) (by omega) rfl (fun c23 => ?_) (fun c23 => ?_)
      · refine x_bipush 37 (xd DX9_held rfl) rfl rfl ?_
        refine x_ri (xd DX9_held rfl) rfl ?_
        refine ⟨?_, rfl⟩
        unfold heldM
        (repeat' split) <;> first | rfl | (exfalso; omega)
      · refine x_aload_n 27 (xd DX9_held rfl) rfl rfl ?_
        refine x_gr 30 _ LX9_49 (xd DX9_held rfl) rfl rfl ⟨by decide, by decide⟩ (by decide) rfl rfl ?_
        refine x_iload_n 31 (xd DX9_held rfl) rfl rfl ?_
        refine x_iaload 32 (xd DX9_held rfl) rfl ⟨Or.inr ⟨rfl, by decide⟩, by decide⟩ (by decide) (by omega) (by omega) rfl ?_
        refine x_goto 37 (xd DX9_held rfl) rfl ?_
        refine x_ri (xd DX9_held rfl) rfl ?_
        refine ⟨?_, rfl⟩
        unfold heldM
        (repeat' split) <;> first | rfl | (exfalso; omega)
    · refine x_bipush 15 (xd DX9_held rfl) rfl rfl ?_
      refine x_goto 37 (xd DX9_held rfl) rfl ?_
      refine x_ri (xd DX9_held rfl) rfl ?_
      refine ⟨?_, rfl⟩
      unfold heldM
      (repeat' split) <;> first | rfl | (exfalso; omega)
  · refine x_iconst 5 (xd DX9_held rfl) rfl ?_
    refine x_ri (xd DX9_held rfl) rfl ?_
    refine ⟨?_, rfl⟩
    unfold heldM
    (repeat' split) <;> first | rfl | (exfalso; omega)

/-- the nearest place at or before i that has an address -/
def hedM (h : XH) (i : Int) : Nat → Int
  | 0 => i
  | d + 1 => if h 270 i = -4 then hedM h (i - 1) d else i
theorem hedM_s (h : XH) (i : Int) (d : Nat) : hedM h i (d + 1) = if h 270 i = -4 then hedM h (i - 1) d else i := rfl
set_option maxRecDepth 100000 in
set_option maxHeartbeats 4000000 in
theorem pX9_headOf {K : XK} {n : Nat} {h : XH} (i : Int) (hi : 0 ≤ i ∧ i < 48) (hq0 : h 270 0 ≠ -4) (hr : ∀ j, 0 ≤ j → j ≤ i → xrg (h 270 j)) : MI K mX9_headOf 0 n [vr 259, vi i] h (fun zr h' => zr = hedM h i i.toNat ∧ h' = h) := by
  refine xMeth FX9_headOf (Nat.le_of_ble_eq_true rfl) ?_
  have loop : ∀ (m : Nat) (xj : Int), 0 ≤ xj → xj ≤ i → xj < (m : Int) → hedM h xj xj.toNat = hedM h i i.toNat → WI K mX9_headOf 0 n (qI n (fun zr h' => zr = hedM h i i.toNat ∧ h' = h)) 2 [(0, vr 259), (1, vi i), (2, vi xj)] [] h := by
    intro m
    induction m with
    | zero => intro xj a b c; exact absurd c (by omega)
    | succ m ih =>
      intro xj h0 h1 hmm hz
      refine x_aload_n 3 (xd DX9_headOf rfl) rfl rfl ?_
      refine x_gr 6 _ LX9_40 (xd DX9_headOf rfl) rfl rfl ⟨by decide, by decide⟩ (by decide) rfl rfl ?_
      refine x_iload_n 7 (xd DX9_headOf rfl) rfl rfl ?_
      refine x_iaload 8 (xd DX9_headOf rfl) rfl ⟨Or.inr ⟨rfl, by decide⟩, by decide⟩ (by decide) (by omega) (by omega) rfl ?_
      refine x_bipush 10 (xd DX9_headOf rfl) rfl rfl ?_
      refine x_icmp_ne 13 19 (xd DX9_headOf rfl) rfl (by first | exact hr xj h0 (by omega) | omega) (by first | exact hr xj h0 (by omega) | omega) rfl (fun c10 => ?_) (fun c10 => ?_)
      · skip
        refine x_iload_n 20 (xd DX9_headOf rfl) rfl rfl ?_
        refine x_ri (xd DX9_headOf rfl) rfl ?_
        refine ⟨?_, rfl⟩
        rw [← hz]
        cases hx : xj.toNat with
        | zero => rfl
        | succ d => rw [hedM_s, if_neg c10]
      · have hj : 1 ≤ xj := by
          have := hq0
          by_cases y : xj = 0
          · rw [y] at c10; exact absurd c10 this
          · omega
        refine x_iinc 16 (L' := [(0, _), (1, _), (2, _)]) (xd DX9_headOf rfl) rfl (by decide) rfl rfl rfl ?_
        refine x_goto 2 (xd DX9_headOf rfl) rfl ?_
        refine ih (xj - 1) (by omega) (by omega) (by omega) ?_
        rw [← hz, show xj.toNat = (xj - 1).toNat + 1 by omega, hedM_s, if_pos c10]
  refine x_iload_n 1 (xd DX9_headOf rfl) rfl rfl ?_
  refine x_istore_n 2 (L' := [(0, _), (1, _), (2, _)]) (xd DX9_headOf rfl) (by decide) rfl rfl rfl ?_
  exact loop 100 i hi.1 (Int.le_refl _) (by omega) rfl

