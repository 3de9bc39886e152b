/-! SqueezedCode: what it comes to, and of a run, readers -/
/-- the class's picture -/
def CI (h : XH) : Prop := PW h ∧ SW h 8 ∧ HW h ∧ LY h ∧ (h 255 5 = 0 ∨ h 255 5 = 1) ∧ (h 255 5 = 1 → RW h) ∧ (0 ≤ h 1 2 ∧ h 1 2 ≤ 200) ∧ ∀ j, 0 ≤ j → j < h 1 2 → 32 ≤ h 2 j ∧ h 2 j ≤ 126
theorem CI.len {h : XH} (hC : CI h) : 0 ≤ h 192 13 ∧ h 192 13 ≤ 192 := by
  obtain ⟨hP, hS, -, hL, -⟩ := hC
  have hP1 := hP.1
  obtain ⟨K1, -⟩ := FB_PK hS.1 hL.2.2.2.2.1
  rw [hL.2.2.2.2.2.2.1]
  have := (csN_rg hP hS K1 (h 4 3).toNat (by omega)).2.2.2
  omega
theorem CI.rows {h : XH} (hC : CI h) {j : Int} (h0 : 0 ≤ j) (h1 : j < h 4 3) : (-4 ≤ h 249 j ∧ h 249 j < 8) ∧ (-4 ≤ h 250 j ∧ h 250 j ≤ 48) ∧ (-4 ≤ h 251 j ∧ h 251 j ≤ 192) ∧ (0 ≤ h 252 j ∧ h 252 j ≤ 192) := by
  obtain ⟨hP, hS, -, hL, -⟩ := hC
  have hP1 := hP.1
  have hS1 := hS.1
  obtain ⟨K1, -⟩ := FB_PK hS.1 hL.2.2.2.2.1
  obtain ⟨x, rfl⟩ := Int.eq_ofNat_of_zero_le h0
  obtain ⟨p1, p2, p3, p4⟩ := hL.2.2.2.2.2.2.2.1 x h1
  have r1 := csN_rg hP hS K1 x (by omega)
  have r2 := csN_rg hP hS K1 (x + 1) (by omega)
  rw [p1, p2, p3, p4]
  refine ⟨by omega, by split <;> omega, by split <;> omega, by omega⟩
theorem CI.lines {h : XH} (hC : CI h) : 1 ≤ h 192 14 ∧ h 192 14 ≤ 12 := by
  obtain ⟨hP, hS, -, hL, -⟩ := hC
  have hP1 := hP.1
  rw [hL.2.1]
  rcases hS.2.1 with e | e | e <;> rw [e] <;> omega
def nibC (h : XH) (i : Int) : Int := if i < 0 then -1 else if i < h 192 13 then h 253 i else -4
def adrC (h : XH) (i : Int) : Int := if 0 ≤ i ∧ i < h 4 3 then h 251 i else -1
def heldC (h : XH) (i : Int) : Int := if i < 0 then -1 else if h 255 5 = 0 then -2 else if i < h 255 14 then h 258 i else -4
def cellC (h : XH) (i : Int) : Int := if 0 ≤ i ∧ i < 10 then (if h 255 5 = 0 then -2 else h 256 i) else -1
def outC (h : XH) (i : Int) : Int := if i < 0 then -1 else if h 255 5 = 0 then -2 else if i < h 255 12 then h 257 i else -4
def nowC (h : XH) (w : Int) : Int := if 0 ≤ w ∧ w ≤ 8 then (if h 255 5 = 0 then -2 else tellF h w) else -1
set_option maxRecDepth 100000 in
set_option maxHeartbeats 4000000 in
theorem pX8_nibble {K : XK} {n : Nat} {h : XH} (i : Int) (hi : xrg i) (hC : CI h) : MI K mX8_nibble 0 n [vr 0, vi i] h (fun zr h' => zr = nibC h i ∧ h' = h) := by
  refine xMeth FX8_nibble (Nat.le_of_ble_eq_true rfl) ?_
  have hlen := hC.len
  have hP1 := hC.1.1
  have hS1 := hC.2.1.1
  have hx5 := hC.2.2.2.2.1
  refine x_iload_n 1 (xd DX8_nibble rfl) rfl rfl ?_
  refine x_if_ge 4 6 (xd DX8_nibble rfl) rfl (by omega) rfl (fun c1 => ?_) (fun c1 => ?_)
  · refine x_iload_n 7 (xd DX8_nibble rfl) rfl rfl ?_
    refine x_aload_n 8 (xd DX8_nibble rfl) rfl rfl ?_
    refine x_gr 11 _ LX8_42 (xd DX8_nibble rfl) rfl rfl ⟨by decide, by decide⟩ (by decide) rfl rfl ?_
    refine x_gi 14 13 rfl LX8_195 (xd DX8_nibble rfl) rfl ⟨Or.inr ⟨rfl, by decide⟩, by decide⟩ rfl ?_
    refine x_icmp_ge 17 29 (xd DX8_nibble rfl) rfl (by omega) (by omega) rfl (fun c14 => ?_) (fun c14 => ?_)
    · refine x_bipush 31 (xd DX8_nibble rfl) rfl rfl ?_
      refine x_ri (xd DX8_nibble rfl) rfl ?_
      refine ⟨?_, rfl⟩
      unfold nibC
      (repeat' split) <;> first | rfl | (exfalso; omega)
    · refine x_aload_n 18 (xd DX8_nibble rfl) rfl rfl ?_
      refine x_gr 21 _ LX8_42 (xd DX8_nibble rfl) rfl rfl ⟨by decide, by decide⟩ (by decide) rfl rfl ?_
      refine x_gr 24 _ LX8_209 (xd DX8_nibble rfl) rfl rfl ⟨by decide, by decide⟩ (by decide) rfl rfl ?_
      refine x_iload_n 25 (xd DX8_nibble rfl) rfl rfl ?_
      refine x_iaload 26 (xd DX8_nibble rfl) rfl ⟨Or.inr ⟨rfl, by decide⟩, by decide⟩ (by decide) (by omega) (by omega) rfl ?_
      refine x_goto 31 (xd DX8_nibble rfl) rfl ?_
      refine x_ri (xd DX8_nibble rfl) rfl ?_
      refine ⟨?_, rfl⟩
      unfold nibC
      (repeat' split) <;> first | rfl | (exfalso; omega)
  · refine x_iconst 5 (xd DX8_nibble rfl) rfl ?_
    refine x_ri (xd DX8_nibble rfl) rfl ?_
    refine ⟨?_, rfl⟩
    unfold nibC
    (repeat' split) <;> first | rfl | (exfalso; omega)

set_option maxRecDepth 100000 in
set_option maxHeartbeats 4000000 in
theorem pX8_address {K : XK} {n : Nat} {h : XH} (i : Int) (hi : xrg i) (hC : CI h) : MI K mX8_address 1 n [vr 0, vi i] h (fun zr h' => zr = adrC h i ∧ h' = h) := by
  refine xMeth FX8_address (Nat.le_of_ble_eq_true rfl) ?_
  have hlen := hC.len
  have hP1 := hC.1.1
  have hS1 := hC.2.1.1
  have hx5 := hC.2.2.2.2.1
  refine x_aload_n 1 (xd DX8_address rfl) rfl rfl ?_
  refine x_gr 4 _ LX8_19 (xd DX8_address rfl) rfl rfl ⟨by decide, by decide⟩ (by decide) rfl rfl ?_
  refine x_iload_n 5 (xd DX8_address rfl) rfl rfl ?_
  refine x_Vi 8 (pX4_has i hi (by omega)) FX4_has VX4_has CX8_108 (xd DX8_address rfl) rfl rfl rfl ⟨by decide, rfl⟩ ⟨by decide, by decide⟩ (by decide) (Nat.le_of_ble_eq_true rfl) (by decide) rfl ?_
  rintro z9 h9 ⟨q1, q2⟩
  rw [q1, q2]
  clear q1 q2 z9 h9
  refine x_ifp_eq 11 23 (xd DX8_address rfl) rfl rfl (fun c8 => ?_) (fun c8 => ?_)
  · refine x_iconst 24 (xd DX8_address rfl) rfl ?_
    refine x_ri (xd DX8_address rfl) rfl ?_
    refine ⟨?_, rfl⟩
    unfold adrC
    (repeat' split) <;> first | rfl | (exfalso; omega)
  · refine x_aload_n 12 (xd DX8_address rfl) rfl rfl ?_
    refine x_gr 15 _ LX8_42 (xd DX8_address rfl) rfl rfl ⟨by decide, by decide⟩ (by decide) rfl rfl ?_
    refine x_gr 18 _ LX8_212 (xd DX8_address rfl) rfl rfl ⟨by decide, by decide⟩ (by decide) rfl rfl ?_
    refine x_iload_n 19 (xd DX8_address rfl) rfl rfl ?_
    refine x_iaload 20 (xd DX8_address rfl) rfl ⟨Or.inr ⟨rfl, by decide⟩, by decide⟩ (by decide) (by omega) (by omega) rfl ?_
    refine x_goto 24 (xd DX8_address rfl) rfl ?_
    refine x_ri (xd DX8_address rfl) rfl ?_
    refine ⟨?_, rfl⟩
    unfold adrC
    (repeat' split) <;> first | rfl | (exfalso; omega)

set_option maxRecDepth 100000 in
set_option maxHeartbeats 4000000 in
theorem pX8_held {K : XK} {n : Nat} {h : XH} (i : Int) (hi : xrg i) (hC : CI h) : MI K mX8_held 0 n [vr 0, vi i] h (fun zr h' => zr = heldC h i ∧ h' = h) := by
  refine xMeth FX8_held (Nat.le_of_ble_eq_true rfl) ?_
  have hlen := hC.len
  have hP1 := hC.1.1
  have hS1 := hC.2.1.1
  have hx5 := hC.2.2.2.2.1
  refine x_iload_n 1 (xd DX8_held rfl) rfl rfl ?_
  refine x_if_ge 4 6 (xd DX8_held rfl) rfl (by omega) rfl (fun c1 => ?_) (fun c1 => ?_)
  · refine x_aload_n 7 (xd DX8_held rfl) rfl rfl ?_
    refine x_gr 10 _ LX8_60 (xd DX8_held rfl) rfl rfl ⟨by decide, by decide⟩ (by decide) rfl rfl ?_
    refine x_gz 13 5 rfl LX8_237 (xd DX8_held rfl) rfl ⟨Or.inr ⟨rfl, by decide⟩, by decide⟩ rfl ?_
    refine x_if_ne 16 19 (xd DX8_held rfl) rfl (by omega) rfl (fun c13 => ?_) (fun c13 => ?_)
    · refine x_iload_n 20 (xd DX8_held rfl) rfl rfl ?_
      refine x_aload_n 21 (xd DX8_held rfl) rfl rfl ?_
      refine x_gr 24 _ LX8_60 (xd DX8_held rfl) rfl rfl ⟨by decide, by decide⟩ (by decide) rfl rfl ?_
      refine x_gi 27 14 rfl LX8_250 (xd DX8_held rfl) rfl ⟨Or.inr ⟨rfl, by decide⟩, by decide⟩ rfl ?_
      refine x_icmp_ge 30 42 (xd DX8_held rfl) rfl (by have hR := hC.2.2.2.2.2.1 (by omega); have r12 := hR.2.2.2.2.2.2.1; have r13 := hR.2.2.2.2.2.2.2.1; have r14 := hR.2.2.2.2.2.2.2.2.1; omega) (by have hR := hC.2.2.2.2.2.1 (by omega); have r12 := hR.2.2.2.2.2.2.1; have r13 := hR.2.2.2.2.2.2.2.1; have r14 := hR.2.2.2.2.2.2.2.2.1; omega) rfl (fun c27 => ?_) (fun c27 => ?_)
      · refine x_bipush 44 (xd DX8_held rfl) rfl rfl ?_
        refine x_ri (xd DX8_held rfl) rfl ?_
        refine ⟨?_, rfl⟩
        unfold heldC
        (repeat' split) <;> first | rfl | (exfalso; omega)
      · refine x_aload_n 31 (xd DX8_held rfl) rfl rfl ?_
        refine x_gr 34 _ LX8_60 (xd DX8_held rfl) rfl rfl ⟨by decide, by decide⟩ (by decide) rfl rfl ?_
        refine x_gr 37 _ LX8_253 (xd DX8_held rfl) rfl rfl ⟨by decide, by decide⟩ (by decide) rfl rfl ?_
        refine x_iload_n 38 (xd DX8_held rfl) rfl rfl ?_
        refine x_iaload 39 (xd DX8_held rfl) rfl ⟨Or.inr ⟨rfl, by decide⟩, by decide⟩ (by decide) (by have hR := hC.2.2.2.2.2.1 (by omega); have r12 := hR.2.2.2.2.2.2.1; have r13 := hR.2.2.2.2.2.2.2.1; have r14 := hR.2.2.2.2.2.2.2.2.1; omega) (by have hR := hC.2.2.2.2.2.1 (by omega); have r12 := hR.2.2.2.2.2.2.1; have r13 := hR.2.2.2.2.2.2.2.1; have r14 := hR.2.2.2.2.2.2.2.2.1; omega) rfl ?_
        refine x_goto 44 (xd DX8_held rfl) rfl ?_
        refine x_ri (xd DX8_held rfl) rfl ?_
        refine ⟨?_, rfl⟩
        unfold heldC
        (repeat' split) <;> first | rfl | (exfalso; omega)
    · refine x_bipush 18 (xd DX8_held rfl) rfl rfl ?_
      refine x_ri (xd DX8_held rfl) rfl ?_
      refine ⟨?_, rfl⟩
      unfold heldC
      (repeat' split) <;> first | rfl | (exfalso; omega)
  · refine x_iconst 5 (xd DX8_held rfl) rfl ?_
    refine x_ri (xd DX8_held rfl) rfl ?_
    refine ⟨?_, rfl⟩
    unfold heldC
    (repeat' split) <;> first | rfl | (exfalso; omega)

set_option maxRecDepth 100000 in
set_option maxHeartbeats 4000000 in
theorem pX8_cell {K : XK} {n : Nat} {h : XH} (i : Int) (hi : xrg i) (hC : CI h) : MI K mX8_cell 0 n [vr 0, vi i] h (fun zr h' => zr = cellC h i ∧ h' = h) := by
  refine xMeth FX8_cell (Nat.le_of_ble_eq_true rfl) ?_
  have hlen := hC.len
  have hP1 := hC.1.1
  have hS1 := hC.2.1.1
  have hx5 := hC.2.2.2.2.1
  refine x_iload_n 1 (xd DX8_cell rfl) rfl rfl ?_
  refine x_if_lt 4 10 (xd DX8_cell rfl) rfl (by omega) rfl (fun c1 => ?_) (fun c1 => ?_)
  · refine x_iconst 11 (xd DX8_cell rfl) rfl ?_
    refine x_ri (xd DX8_cell rfl) rfl ?_
    refine ⟨?_, rfl⟩
    unfold cellC
    (repeat' split) <;> first | rfl | (exfalso; omega)
  · refine x_iload_n 5 (xd DX8_cell rfl) rfl rfl ?_
    refine x_bipush 7 (xd DX8_cell rfl) rfl rfl ?_
    refine x_icmp_lt 10 12 (xd DX8_cell rfl) rfl (by omega) (by omega) rfl (fun c7 => ?_) (fun c7 => ?_)
    · refine x_aload_n 13 (xd DX8_cell rfl) rfl rfl ?_
      refine x_gr 16 _ LX8_60 (xd DX8_cell rfl) rfl rfl ⟨by decide, by decide⟩ (by decide) rfl rfl ?_
      refine x_gz 19 5 rfl LX8_237 (xd DX8_cell rfl) rfl ⟨Or.inr ⟨rfl, by decide⟩, by decide⟩ rfl ?_
      refine x_if_eq 22 34 (xd DX8_cell rfl) rfl (by omega) rfl (fun c19 => ?_) (fun c19 => ?_)
      · refine x_bipush 36 (xd DX8_cell rfl) rfl rfl ?_
        refine x_ri (xd DX8_cell rfl) rfl ?_
        refine ⟨?_, rfl⟩
        unfold cellC
        (repeat' split) <;> first | rfl | (exfalso; omega)
      · refine x_aload_n 23 (xd DX8_cell rfl) rfl rfl ?_
        refine x_gr 26 _ LX8_60 (xd DX8_cell rfl) rfl rfl ⟨by decide, by decide⟩ (by decide) rfl rfl ?_
        refine x_gr 29 _ LX8_256 (xd DX8_cell rfl) rfl rfl ⟨by decide, by decide⟩ (by decide) rfl rfl ?_
        refine x_iload_n 30 (xd DX8_cell rfl) rfl rfl ?_
        refine x_iaload 31 (xd DX8_cell rfl) rfl ⟨Or.inr ⟨rfl, by decide⟩, by decide⟩ (by decide) (by omega) (by omega) rfl ?_
        refine x_goto 36 (xd DX8_cell rfl) rfl ?_
        refine x_ri (xd DX8_cell rfl) rfl ?_
        refine ⟨?_, rfl⟩
        unfold cellC
        (repeat' split) <;> first | rfl | (exfalso; omega)
    · refine x_iconst 11 (xd DX8_cell rfl) rfl ?_
      refine x_ri (xd DX8_cell rfl) rfl ?_
      refine ⟨?_, rfl⟩
      unfold cellC
      (repeat' split) <;> first | rfl | (exfalso; omega)

set_option maxRecDepth 100000 in
set_option maxHeartbeats 4000000 in
theorem pX8_out {K : XK} {n : Nat} {h : XH} (i : Int) (hi : xrg i) (hC : CI h) : MI K mX8_out 0 n [vr 0, vi i] h (fun zr h' => zr = outC h i ∧ h' = h) := by
  refine xMeth FX8_out (Nat.le_of_ble_eq_true rfl) ?_
  have hlen := hC.len
  have hP1 := hC.1.1
  have hS1 := hC.2.1.1
  have hx5 := hC.2.2.2.2.1
  refine x_iload_n 1 (xd DX8_out rfl) rfl rfl ?_
  refine x_if_ge 4 6 (xd DX8_out rfl) rfl (by omega) rfl (fun c1 => ?_) (fun c1 => ?_)
  · refine x_aload_n 7 (xd DX8_out rfl) rfl rfl ?_
    refine x_gr 10 _ LX8_60 (xd DX8_out rfl) rfl rfl ⟨by decide, by decide⟩ (by decide) rfl rfl ?_
    refine x_gz 13 5 rfl LX8_237 (xd DX8_out rfl) rfl ⟨Or.inr ⟨rfl, by decide⟩, by decide⟩ rfl ?_
    refine x_if_ne 16 19 (xd DX8_out rfl) rfl (by omega) rfl (fun c13 => ?_) (fun c13 => ?_)
    · refine x_iload_n 20 (xd DX8_out rfl) rfl rfl ?_
      refine x_aload_n 21 (xd DX8_out rfl) rfl rfl ?_
      refine x_gr 24 _ LX8_60 (xd DX8_out rfl) rfl rfl ⟨by decide, by decide⟩ (by decide) rfl rfl ?_
      refine x_gi 27 12 rfl LX8_259 (xd DX8_out rfl) rfl ⟨Or.inr ⟨rfl, by decide⟩, by decide⟩ rfl ?_
      refine x_icmp_ge 30 42 (xd DX8_out rfl) rfl (by have hR := hC.2.2.2.2.2.1 (by omega); have r12 := hR.2.2.2.2.2.2.1; have r13 := hR.2.2.2.2.2.2.2.1; have r14 := hR.2.2.2.2.2.2.2.2.1; omega) (by have hR := hC.2.2.2.2.2.1 (by omega); have r12 := hR.2.2.2.2.2.2.1; have r13 := hR.2.2.2.2.2.2.2.1; have r14 := hR.2.2.2.2.2.2.2.2.1; omega) rfl (fun c27 => ?_) (fun c27 => ?_)
      · refine x_bipush 44 (xd DX8_out rfl) rfl rfl ?_
        refine x_ri (xd DX8_out rfl) rfl ?_
        refine ⟨?_, rfl⟩
        unfold outC
        (repeat' split) <;> first | rfl | (exfalso; omega)
      · refine x_aload_n 31 (xd DX8_out rfl) rfl rfl ?_
        refine x_gr 34 _ LX8_60 (xd DX8_out rfl) rfl rfl ⟨by decide, by decide⟩ (by decide) rfl rfl ?_
        refine x_gr 37 _ LX8_262 (xd DX8_out rfl) rfl rfl ⟨by decide, by decide⟩ (by decide) rfl rfl ?_
        refine x_iload_n 38 (xd DX8_out rfl) rfl rfl ?_
        refine x_iaload 39 (xd DX8_out rfl) rfl ⟨Or.inr ⟨rfl, by decide⟩, by decide⟩ (by decide) (by have hR := hC.2.2.2.2.2.1 (by omega); have r12 := hR.2.2.2.2.2.2.1; have r13 := hR.2.2.2.2.2.2.2.1; have r14 := hR.2.2.2.2.2.2.2.2.1; omega) (by have hR := hC.2.2.2.2.2.1 (by omega); have r12 := hR.2.2.2.2.2.2.1; have r13 := hR.2.2.2.2.2.2.2.1; have r14 := hR.2.2.2.2.2.2.2.2.1; omega) rfl ?_
        refine x_goto 44 (xd DX8_out rfl) rfl ?_
        refine x_ri (xd DX8_out rfl) rfl ?_
        refine ⟨?_, rfl⟩
        unfold outC
        (repeat' split) <;> first | rfl | (exfalso; omega)
    · refine x_bipush 18 (xd DX8_out rfl) rfl rfl ?_
      refine x_ri (xd DX8_out rfl) rfl ?_
      refine ⟨?_, rfl⟩
      unfold outC
      (repeat' split) <;> first | rfl | (exfalso; omega)
  · refine x_iconst 5 (xd DX8_out rfl) rfl ?_
    refine x_ri (xd DX8_out rfl) rfl ?_
    refine ⟨?_, rfl⟩
    unfold outC
    (repeat' split) <;> first | rfl | (exfalso; omega)

set_option maxRecDepth 100000 in
set_option maxHeartbeats 4000000 in
theorem pX8_now {K : XK} {n : Nat} {h : XH} (w : Int) (hw : xrg w) (hC : CI h) : MI K mX8_now 1 n [vr 0, vi w] h (fun zr h' => zr = nowC h w ∧ h' = h) := by
  refine xMeth FX8_now (Nat.le_of_ble_eq_true rfl) ?_
  have hlen := hC.len
  have hP1 := hC.1.1
  have hS1 := hC.2.1.1
  have hx5 := hC.2.2.2.2.1
  refine x_iload_n 1 (xd DX8_now rfl) rfl rfl ?_
  refine x_if_lt 4 10 (xd DX8_now rfl) rfl (by omega) rfl (fun c1 => ?_) (fun c1 => ?_)
  · refine x_iconst 11 (xd DX8_now rfl) rfl ?_
    refine x_ri (xd DX8_now rfl) rfl ?_
    refine ⟨?_, rfl⟩
    unfold nowC
    (repeat' split) <;> first | rfl | (exfalso; omega)
  · refine x_iload_n 5 (xd DX8_now rfl) rfl rfl ?_
    refine x_bipush 7 (xd DX8_now rfl) rfl rfl ?_
    refine x_icmp_le 10 12 (xd DX8_now rfl) rfl (by omega) (by omega) rfl (fun c7 => ?_) (fun c7 => ?_)
    · refine x_aload_n 13 (xd DX8_now rfl) rfl rfl ?_
      refine x_gr 16 _ LX8_60 (xd DX8_now rfl) rfl rfl ⟨by decide, by decide⟩ (by decide) rfl rfl ?_
      refine x_gz 19 5 rfl LX8_237 (xd DX8_now rfl) rfl ⟨Or.inr ⟨rfl, by decide⟩, by decide⟩ rfl ?_
      refine x_if_eq 22 33 (xd DX8_now rfl) rfl (by omega) rfl (fun c19 => ?_) (fun c19 => ?_)
      · refine x_bipush 35 (xd DX8_now rfl) rfl rfl ?_
        refine x_ri (xd DX8_now rfl) rfl ?_
        refine ⟨?_, rfl⟩
        unfold nowC
        (repeat' split) <;> first | rfl | (exfalso; omega)
      · refine x_aload_n 23 (xd DX8_now rfl) rfl rfl ?_
        refine x_gr 26 _ LX8_60 (xd DX8_now rfl) rfl rfl ⟨by decide, by decide⟩ (by decide) rfl rfl ?_
        refine x_iload_n 27 (xd DX8_now rfl) rfl rfl ?_
        refine x_Vi 30 (pX5_tell w (by omega) (hC.2.2.2.2.2.1 (by omega))) FX5_tell VX5_tell CX8_247 (xd DX8_now rfl) rfl rfl rfl ⟨by decide, rfl⟩ ⟨by decide, by decide⟩ (by decide) (Nat.le_of_ble_eq_true rfl) (by decide) rfl ?_
        rintro z9 h9 ⟨q1, q2⟩
        rw [q1, q2]
        clear q1 q2 z9 h9
        refine x_goto 35 (xd DX8_now rfl) rfl ?_
        refine x_ri (xd DX8_now rfl) rfl ?_
        refine ⟨?_, rfl⟩
        unfold nowC
        (repeat' split) <;> first | rfl | (exfalso; omega)
    · refine x_iconst 11 (xd DX8_now rfl) rfl ?_
      refine x_ri (xd DX8_now rfl) rfl ?_
      refine ⟨?_, rfl⟩
      unfold nowC
      (repeat' split) <;> first | rfl | (exfalso; omega)

set_option maxRecDepth 100000 in
set_option maxHeartbeats 4000000 in
theorem pX8_at {K : XK} {n : Nat} {h : XH} (v : Int) (hv : xrg v) (hC : CI h) : MI K mX8_at 1 n [vr 0, vi v] h (fun zr h' => ((v < 0 ∧ zr = -1) ∨ (0 ≤ v ∧ FirstAt (h 251) (h 4 3) v zr)) ∧ h' = h) := by
  refine xMeth FX8_at (Nat.le_of_ble_eq_true rfl) ?_
  have hlen := hC.len
  have hP1 := hC.1.1
  have hS1 := hC.2.1.1
  have hx5 := hC.2.2.2.2.1
  refine x_iload_n 1 (xd DX8_at rfl) rfl rfl ?_
  refine x_if_ge 4 6 (xd DX8_at rfl) rfl (by omega) rfl (fun c1 => ?_) (fun c1 => ?_)
  · refine x_aload_n 7 (xd DX8_at rfl) rfl rfl ?_
    refine x_gr 10 _ LX8_42 (xd DX8_at rfl) rfl rfl ⟨by decide, by decide⟩ (by decide) rfl rfl ?_
    refine x_iload_n 11 (xd DX8_at rfl) rfl rfl ?_
    refine x_Vi 14 (pX3_instructionOf v hC.1 hv (fun j a b => by have := (hC.rows a b).2.2.1; omega)) FX3_instructionOf VX3_instructionOf CX8_215 (xd DX8_at rfl) rfl rfl rfl ⟨by decide, rfl⟩ ⟨by decide, by decide⟩ (by decide) (Nat.le_of_ble_eq_true rfl) (by decide) rfl ?_
    rintro z9 h9 ⟨q1, q2⟩
    rw [q2]
    clear q2 h9
    refine x_ri (xd DX8_at rfl) rfl ?_
    first | exact ⟨Or.inl ⟨by omega, rfl⟩, rfl⟩ | exact ⟨Or.inr ⟨by omega, q1⟩, rfl⟩
  · refine x_iconst 5 (xd DX8_at rfl) rfl ?_
    refine x_ri (xd DX8_at rfl) rfl ?_
    first | exact ⟨Or.inl ⟨by omega, rfl⟩, rfl⟩ | exact ⟨Or.inr ⟨by omega, q1⟩, rfl⟩

noncomputable def seekC (h : XH) (k : Nat) (i : Int) : Int := if 0 ≤ i ∧ i < h 4 3 then h 252 i - lAd h k (i / (2 ^ k : Nat)) else -1
noncomputable def lineC (h : XH) (k : Nat) (l w : Int) : Int := if 0 ≤ l ∧ l < h 192 14 then (if w = 0 then lAd h k l else if w = 1 then lAd h k (l + 1) - lAd h k l else if w = 2 then cntR (fun j => h 250 j = 0) (l * (2 ^ k : Nat)).toNat (min ((l + 1) * (2 ^ k : Nat)).toNat (h 4 3).toNat - (l * (2 ^ k : Nat)).toNat) else -1) else -1
noncomputable def sizeC (h : XH) (w : Int) : Int := if w = 0 then h 192 13 else if w = 1 then tbN h (h 8 1).toNat else if w = 2 then 3 * h 192 14 else if w = 3 then h 192 13 + tbN h (h 8 1).toNat + 3 * h 192 14 else if w = 4 then plN h (h 4 3).toNat else if w = 5 then cntR (fun j => h 250 j = 0) 0 (h 4 3).toNat else -1
noncomputable def countC (h : XH) (w : Int) : Int := if w = 0 then h 4 3 else if w = 1 then h 8 1 else if w = 2 then h 8 2 else if w = 3 then h 8 3 else if w = 4 then h 192 14 else if w = 5 then cntR (fun j => h 7 j = 1) 0 (h 4 3).toNat else if w = 6 then h 34 1 else if w = 7 then h 1 2 else if w = 8 then h 255 5 else -1
set_option maxRecDepth 100000 in
set_option maxHeartbeats 4000000 in
theorem pX8_seek {K : XK} {n : Nat} {h : XH} (i : Int) (hi : xrg i) (hC : CI h) : MI K mX8_seek 3 n [vr 0, vi i] h (fun zr h' => (∃ k : Nat, h 8 2 = (2 ^ k : Nat) ∧ zr = seekC h k i) ∧ h' = h) := by
  refine xMeth FX8_seek (Nat.le_of_ble_eq_true rfl) ?_
  have hlen := hC.len
  have hP1 := hC.1.1
  have hS1 := hC.2.1.1
  have hx5 := hC.2.2.2.2.1
  obtain ⟨k, hk1, hk2, hk3, -⟩ := hC.2.2.2.1.1
  have hp : (0 : Int) < ((2 ^ k : Nat) : Int) := Int.natCast_pos.mpr (Nat.two_pow_pos k)
  refine x_aload_n 1 (xd DX8_seek rfl) rfl rfl ?_
  refine x_gr 4 _ LX8_19 (xd DX8_seek rfl) rfl rfl ⟨by decide, by decide⟩ (by decide) rfl rfl ?_
  refine x_iload_n 5 (xd DX8_seek rfl) rfl rfl ?_
  refine x_Vi 8 (pX4_has i hi (by omega)) FX4_has VX4_has CX8_108 (xd DX8_seek rfl) rfl rfl rfl ⟨by decide, rfl⟩ ⟨by decide, by decide⟩ (by decide) (Nat.le_of_ble_eq_true rfl) (by decide) rfl ?_
  rintro z9 h9 ⟨q1, q2⟩
  rw [q1, q2]
  clear q1 q2 z9 h9
  refine x_ifp_ne 11 13 (xd DX8_seek rfl) rfl rfl (fun c8 => ?_) (fun c8 => ?_)
  · refine x_aload_n 14 (xd DX8_seek rfl) rfl rfl ?_
    refine x_gr 17 _ LX8_42 (xd DX8_seek rfl) rfl rfl ⟨by decide, by decide⟩ (by decide) rfl rfl ?_
    refine x_gr 20 _ LX8_227 (xd DX8_seek rfl) rfl rfl ⟨by decide, by decide⟩ (by decide) rfl rfl ?_
    refine x_iload_n 21 (xd DX8_seek rfl) rfl rfl ?_
    refine x_iaload 22 (xd DX8_seek rfl) rfl ⟨Or.inr ⟨rfl, by decide⟩, by decide⟩ (by decide) (by omega) (by omega) rfl ?_
    refine x_aload_n 23 (xd DX8_seek rfl) rfl rfl ?_
    refine x_gr 26 _ LX8_42 (xd DX8_seek rfl) rfl rfl ⟨by decide, by decide⟩ (by decide) rfl rfl ?_
    refine x_aload_n 27 (xd DX8_seek rfl) rfl rfl ?_
    refine x_gr 30 _ LX8_42 (xd DX8_seek rfl) rfl rfl ⟨by decide, by decide⟩ (by decide) rfl rfl ?_
    refine x_iload_n 31 (xd DX8_seek rfl) rfl rfl ?_
    refine x_Vi 34 (pX3_lineOf i k hi hk2 (by omega)) FX3_lineOf VX3_lineOf CX8_230 (xd DX8_seek rfl) rfl rfl rfl ⟨by decide, rfl⟩ ⟨by decide, by decide⟩ (by decide) (Nat.le_of_ble_eq_true rfl) (by decide) rfl ?_
    rintro z9 h9 ⟨q1, q2⟩
    rw [q1, q2]
    clear q1 q2 z9 h9
    refine x_Vi 37 (pX3_lineAddress _ k hC.1 hk2 (by omega) ⟨Int.ediv_nonneg c8.1 (Int.le_of_lt hp), by have := Int.ediv_le_self (a := i) ((2 ^ k : Nat) : Int) c8.1; omega⟩) FX3_lineAddress VX3_lineAddress CX8_218 (xd DX8_seek rfl) rfl rfl rfl ⟨by decide, rfl⟩ ⟨by decide, by decide⟩ (by decide) (Nat.le_of_ble_eq_true rfl) (by decide) rfl ?_
    rintro z9 h9 ⟨q1, q2⟩
    rw [q1, q2]
    clear q1 q2 z9 h9
    refine x_isub 38 (xd DX8_seek rfl) rfl ?_
    refine x_ri (xd DX8_seek rfl) rfl ?_
    refine ⟨⟨k, hk3, ?_⟩, rfl⟩
    unfold seekC
    (repeat' split) <;> first | rfl | (exfalso; omega)
  · refine x_iconst 12 (xd DX8_seek rfl) rfl ?_
    refine x_ri (xd DX8_seek rfl) rfl ?_
    refine ⟨⟨k, hk3, ?_⟩, rfl⟩
    unfold seekC
    (repeat' split) <;> first | rfl | (exfalso; omega)

set_option maxRecDepth 100000 in
set_option maxHeartbeats 4000000 in
theorem pX8_size {K : XK} {n : Nat} {h : XH} (w : Int) (hw : xrg w) (hC : CI h) : MI K mX8_size 3 n [vr 0, vi w] h (fun zr h' => zr = sizeC h w ∧ h' = h) := by
  refine xMeth FX8_size (Nat.le_of_ble_eq_true rfl) ?_
  have hlen := hC.len
  have hP1 := hC.1.1
  have hS1 := hC.2.1.1
  have hx5 := hC.2.2.2.2.1
  have hN9 : h 4 3 = ((h 4 3).toNat : Int) := by omega
  refine x_iload_n 1 (xd DX8_size rfl) rfl rfl ?_
  have hsw : w = 0 ∨ w = 1 ∨ w = 2 ∨ w = 3 ∨ w = 4 ∨ w = 5 ∨ (w < 0 ∨ 5 < w) := by omega
  rcases hsw with e | e | e | e | e | e | e
  · subst e
    refine x_tableIn 40 (xd DX8_size rfl) (by decide) (by decide) (by decide) rfl rfl ?_
    refine x_aload_n 41 (xd DX8_size rfl) rfl rfl ?_
    refine x_gr 44 _ LX8_42 (xd DX8_size rfl) rfl rfl ⟨by decide, by decide⟩ (by decide) rfl rfl ?_
    refine x_gi 47 13 rfl LX8_195 (xd DX8_size rfl) rfl ⟨Or.inr ⟨rfl, by decide⟩, by decide⟩ rfl ?_
    refine x_ri (xd DX8_size rfl) rfl ?_
    refine ⟨?_, rfl⟩
    unfold sizeC
    first | rfl | (rw [if_neg (by omega), if_neg (by omega), if_neg (by omega), if_neg (by omega), if_neg (by omega), if_neg (by omega)]) | (show cntR (fun j => h 250 j = 0) 0 (min (h 4 3).toNat (h 4 3).toNat - 0) = cntR (fun j => h 250 j = 0) 0 (h 4 3).toNat; rw [Nat.min_self, Nat.sub_zero])
  · subst e
    refine x_tableIn 48 (xd DX8_size rfl) (by decide) (by decide) (by decide) rfl rfl ?_
    refine x_aload_n 49 (xd DX8_size rfl) rfl rfl ?_
    refine x_gr 52 _ LX8_26 (xd DX8_size rfl) rfl rfl ⟨by decide, by decide⟩ (by decide) rfl rfl ?_
    refine x_Vi 55 (pX6_tableNibbles hS1) FX6_tableNibbles VX6_tableNibbles CX8_196 (xd DX8_size rfl) rfl rfl rfl ⟨by decide, rfl⟩ ⟨by decide, by decide⟩ (by decide) (Nat.le_of_ble_eq_true rfl) (by decide) rfl ?_
    rintro z9 h9 ⟨q1, q2⟩
    rw [q1, q2]
    clear q1 q2 z9 h9
    refine x_ri (xd DX8_size rfl) rfl ?_
    refine ⟨?_, rfl⟩
    unfold sizeC
    first | rfl | (rw [if_neg (by omega), if_neg (by omega), if_neg (by omega), if_neg (by omega), if_neg (by omega), if_neg (by omega)]) | (show cntR (fun j => h 250 j = 0) 0 (min (h 4 3).toNat (h 4 3).toNat - 0) = cntR (fun j => h 250 j = 0) 0 (h 4 3).toNat; rw [Nat.min_self, Nat.sub_zero])
  · subst e
    refine x_tableIn 56 (xd DX8_size rfl) (by decide) (by decide) (by decide) rfl rfl ?_
    refine x_iconst 57 (xd DX8_size rfl) rfl ?_
    refine x_aload_n 58 (xd DX8_size rfl) rfl rfl ?_
    refine x_gr 61 _ LX8_42 (xd DX8_size rfl) rfl rfl ⟨by decide, by decide⟩ (by decide) rfl rfl ?_
    refine x_gi 64 14 rfl LX8_199 (xd DX8_size rfl) rfl ⟨Or.inr ⟨rfl, by decide⟩, by decide⟩ rfl ?_
    refine x_imul 65 (xd DX8_size rfl) rfl ?_
    refine x_ri (xd DX8_size rfl) rfl ?_
    refine ⟨?_, rfl⟩
    unfold sizeC
    first | rfl | (rw [if_neg (by omega), if_neg (by omega), if_neg (by omega), if_neg (by omega), if_neg (by omega), if_neg (by omega)]) | (show cntR (fun j => h 250 j = 0) 0 (min (h 4 3).toNat (h 4 3).toNat - 0) = cntR (fun j => h 250 j = 0) 0 (h 4 3).toNat; rw [Nat.min_self, Nat.sub_zero])
  · subst e
    refine x_tableIn 66 (xd DX8_size rfl) (by decide) (by decide) (by decide) rfl rfl ?_
    refine x_aload_n 67 (xd DX8_size rfl) rfl rfl ?_
    refine x_gr 70 _ LX8_42 (xd DX8_size rfl) rfl rfl ⟨by decide, by decide⟩ (by decide) rfl rfl ?_
    refine x_gi 73 13 rfl LX8_195 (xd DX8_size rfl) rfl ⟨Or.inr ⟨rfl, by decide⟩, by decide⟩ rfl ?_
    refine x_aload_n 74 (xd DX8_size rfl) rfl rfl ?_
    refine x_gr 77 _ LX8_26 (xd DX8_size rfl) rfl rfl ⟨by decide, by decide⟩ (by decide) rfl rfl ?_
    refine x_Vi 80 (pX6_tableNibbles hS1) FX6_tableNibbles VX6_tableNibbles CX8_196 (xd DX8_size rfl) rfl rfl rfl ⟨by decide, rfl⟩ ⟨by decide, by decide⟩ (by decide) (Nat.le_of_ble_eq_true rfl) (by decide) rfl ?_
    rintro z9 h9 ⟨q1, q2⟩
    rw [q1, q2]
    clear q1 q2 z9 h9
    refine x_iadd 81 (xd DX8_size rfl) rfl ?_
    refine x_iconst 82 (xd DX8_size rfl) rfl ?_
    refine x_aload_n 83 (xd DX8_size rfl) rfl rfl ?_
    refine x_gr 86 _ LX8_42 (xd DX8_size rfl) rfl rfl ⟨by decide, by decide⟩ (by decide) rfl rfl ?_
    refine x_gi 89 14 rfl LX8_199 (xd DX8_size rfl) rfl ⟨Or.inr ⟨rfl, by decide⟩, by decide⟩ rfl ?_
    refine x_imul 90 (xd DX8_size rfl) rfl ?_
    refine x_iadd 91 (xd DX8_size rfl) rfl ?_
    refine x_ri (xd DX8_size rfl) rfl ?_
    refine ⟨?_, rfl⟩
    unfold sizeC
    first | rfl | (rw [if_neg (by omega), if_neg (by omega), if_neg (by omega), if_neg (by omega), if_neg (by omega), if_neg (by omega)]) | (show cntR (fun j => h 250 j = 0) 0 (min (h 4 3).toNat (h 4 3).toNat - 0) = cntR (fun j => h 250 j = 0) 0 (h 4 3).toNat; rw [Nat.min_self, Nat.sub_zero])
  · subst e
    refine x_tableIn 92 (xd DX8_size rfl) (by decide) (by decide) (by decide) rfl rfl ?_
    refine x_aload_n 93 (xd DX8_size rfl) rfl rfl ?_
    refine x_gr 96 _ LX8_19 (xd DX8_size rfl) rfl rfl ⟨by decide, by decide⟩ (by decide) rfl rfl ?_
    refine x_Vi 99 (pX4_plainNibbles hC.1) FX4_plainNibbles VX4_plainNibbles CX8_202 (xd DX8_size rfl) rfl rfl rfl ⟨by decide, rfl⟩ ⟨by decide, by decide⟩ (by decide) (Nat.le_of_ble_eq_true rfl) (by decide) rfl ?_
    rintro z9 h9 ⟨q1, q2⟩
    rw [q1, q2]
    clear q1 q2 z9 h9
    refine x_ri (xd DX8_size rfl) rfl ?_
    refine ⟨?_, rfl⟩
    unfold sizeC
    first | rfl | (rw [if_neg (by omega), if_neg (by omega), if_neg (by omega), if_neg (by omega), if_neg (by omega), if_neg (by omega)]) | (show cntR (fun j => h 250 j = 0) 0 (min (h 4 3).toNat (h 4 3).toNat - 0) = cntR (fun j => h 250 j = 0) 0 (h 4 3).toNat; rw [Nat.min_self, Nat.sub_zero])
  · subst e
    refine x_tableIn 100 (xd DX8_size rfl) (by decide) (by decide) (by decide) rfl rfl ?_
    refine x_aload_n 101 (xd DX8_size rfl) rfl rfl ?_
    refine x_gr 104 _ LX8_42 (xd DX8_size rfl) rfl rfl ⟨by decide, by decide⟩ (by decide) rfl rfl ?_
    refine x_iconst 105 (xd DX8_size rfl) rfl ?_
    refine x_aload_n 106 (xd DX8_size rfl) rfl rfl ?_
    refine x_gr 109 _ LX8_19 (xd DX8_size rfl) rfl rfl ⟨by decide, by decide⟩ (by decide) rfl rfl ?_
    refine x_gi 112 3 rfl LX8_106 (xd DX8_size rfl) rfl ⟨Or.inr ⟨rfl, by decide⟩, by decide⟩ rfl ?_
    rw [hN9, show (0 : Int) = ((0 : Nat) : Int) from rfl]
    refine x_Vi 115 (pX3_references 0 (h 4 3).toNat hC.1 (Or.inl (by omega)) (by omega) (fun j a b => by have := (hC.rows a b).2.1; omega)) FX3_references VX3_references CX8_205 (xd DX8_size rfl) rfl rfl rfl ⟨by decide, rfl⟩ ⟨by decide, by decide⟩ (by decide) (Nat.le_of_ble_eq_true rfl) (by decide) rfl ?_
    rintro z9 h9 ⟨q1, q2⟩
    rw [q2, q1]
    clear q2 h9
    refine x_ri (xd DX8_size rfl) rfl ?_
    refine ⟨?_, rfl⟩
    unfold sizeC
    first | rfl | (rw [if_neg (by omega), if_neg (by omega), if_neg (by omega), if_neg (by omega), if_neg (by omega), if_neg (by omega)]) | (show cntR (fun j => h 250 j = 0) 0 (min (h 4 3).toNat (h 4 3).toNat - 0) = cntR (fun j => h 250 j = 0) 0 (h 4 3).toNat; rw [Nat.min_self, Nat.sub_zero])
  · refine x_tableOut 116 (xd DX8_size rfl) (hw) e rfl ?_
    refine x_iconst 117 (xd DX8_size rfl) rfl ?_
    refine x_ri (xd DX8_size rfl) rfl ?_
    refine ⟨?_, rfl⟩
    unfold sizeC
    first | rfl | (rw [if_neg (by omega), if_neg (by omega), if_neg (by omega), if_neg (by omega), if_neg (by omega), if_neg (by omega)]) | (show cntR (fun j => h 250 j = 0) 0 (min (h 4 3).toNat (h 4 3).toNat - 0) = cntR (fun j => h 250 j = 0) 0 (h 4 3).toNat; rw [Nat.min_self, Nat.sub_zero])


set_option maxRecDepth 100000 in
set_option maxHeartbeats 4000000 in
theorem pX8_count {K : XK} {n : Nat} {h : XH} (w : Int) (hw : xrg w) (hC : CI h) : MI K mX8_count 1 n [vr 0, vi w] h (fun zr h' => zr = countC h w ∧ h' = h) := by
  refine xMeth FX8_count (Nat.le_of_ble_eq_true rfl) ?_
  have hlen := hC.len
  have hP1 := hC.1.1
  have hS1 := hC.2.1.1
  have hx5 := hC.2.2.2.2.1
  refine x_iload_n 1 (xd DX8_count rfl) rfl rfl ?_
  have hsw : w = 0 ∨ w = 1 ∨ w = 2 ∨ w = 3 ∨ w = 4 ∨ w = 5 ∨ w = 6 ∨ w = 7 ∨ w = 8 ∨ (w < 0 ∨ 8 < w) := by omega
  rcases hsw with e | e | e | e | e | e | e | e | e | e
  · subst e
    refine x_tableIn 52 (xd DX8_count rfl) (by decide) (by decide) (by decide) rfl rfl ?_
    refine x_aload_n 53 (xd DX8_count rfl) rfl rfl ?_
    refine x_gr 56 _ LX8_19 (xd DX8_count rfl) rfl rfl ⟨by decide, by decide⟩ (by decide) rfl rfl ?_
    refine x_gi 59 3 rfl LX8_106 (xd DX8_count rfl) rfl ⟨Or.inr ⟨rfl, by decide⟩, by decide⟩ rfl ?_
    refine x_ri (xd DX8_count rfl) rfl ?_
    refine ⟨?_, rfl⟩
    unfold countC
    first | rfl | (show _ = h 255 5; omega) | (rw [if_neg (by omega), if_neg (by omega), if_neg (by omega), if_neg (by omega), if_neg (by omega), if_neg (by omega), if_neg (by omega), if_neg (by omega), if_neg (by omega)])
  · subst e
    refine x_tableIn 60 (xd DX8_count rfl) (by decide) (by decide) (by decide) rfl rfl ?_
    refine x_aload_n 61 (xd DX8_count rfl) rfl rfl ?_
    refine x_gr 64 _ LX8_26 (xd DX8_count rfl) rfl rfl ⟨by decide, by decide⟩ (by decide) rfl rfl ?_
    refine x_gi 67 1 rfl LX8_97 (xd DX8_count rfl) rfl ⟨Or.inr ⟨rfl, by decide⟩, by decide⟩ rfl ?_
    refine x_ri (xd DX8_count rfl) rfl ?_
    refine ⟨?_, rfl⟩
    unfold countC
    first | rfl | (show _ = h 255 5; omega) | (rw [if_neg (by omega), if_neg (by omega), if_neg (by omega), if_neg (by omega), if_neg (by omega), if_neg (by omega), if_neg (by omega), if_neg (by omega), if_neg (by omega)])
  · subst e
    refine x_tableIn 68 (xd DX8_count rfl) (by decide) (by decide) (by decide) rfl rfl ?_
    refine x_aload_n 69 (xd DX8_count rfl) rfl rfl ?_
    refine x_gr 72 _ LX8_26 (xd DX8_count rfl) rfl rfl ⟨by decide, by decide⟩ (by decide) rfl rfl ?_
    refine x_gi 75 2 rfl LX8_186 (xd DX8_count rfl) rfl ⟨Or.inr ⟨rfl, by decide⟩, by decide⟩ rfl ?_
    refine x_ri (xd DX8_count rfl) rfl ?_
    refine ⟨?_, rfl⟩
    unfold countC
    first | rfl | (show _ = h 255 5; omega) | (rw [if_neg (by omega), if_neg (by omega), if_neg (by omega), if_neg (by omega), if_neg (by omega), if_neg (by omega), if_neg (by omega), if_neg (by omega), if_neg (by omega)])
  · subst e
    refine x_tableIn 76 (xd DX8_count rfl) (by decide) (by decide) (by decide) rfl rfl ?_
    refine x_aload_n 77 (xd DX8_count rfl) rfl rfl ?_
    refine x_gr 80 _ LX8_26 (xd DX8_count rfl) rfl rfl ⟨by decide, by decide⟩ (by decide) rfl rfl ?_
    refine x_gi 83 3 rfl LX8_189 (xd DX8_count rfl) rfl ⟨Or.inr ⟨rfl, by decide⟩, by decide⟩ rfl ?_
    refine x_ri (xd DX8_count rfl) rfl ?_
    refine ⟨?_, rfl⟩
    unfold countC
    first | rfl | (show _ = h 255 5; omega) | (rw [if_neg (by omega), if_neg (by omega), if_neg (by omega), if_neg (by omega), if_neg (by omega), if_neg (by omega), if_neg (by omega), if_neg (by omega), if_neg (by omega)])
  · subst e
    refine x_tableIn 84 (xd DX8_count rfl) (by decide) (by decide) (by decide) rfl rfl ?_
    refine x_aload_n 85 (xd DX8_count rfl) rfl rfl ?_
    refine x_gr 88 _ LX8_42 (xd DX8_count rfl) rfl rfl ⟨by decide, by decide⟩ (by decide) rfl rfl ?_
    refine x_gi 91 14 rfl LX8_199 (xd DX8_count rfl) rfl ⟨Or.inr ⟨rfl, by decide⟩, by decide⟩ rfl ?_
    refine x_ri (xd DX8_count rfl) rfl ?_
    refine ⟨?_, rfl⟩
    unfold countC
    first | rfl | (show _ = h 255 5; omega) | (rw [if_neg (by omega), if_neg (by omega), if_neg (by omega), if_neg (by omega), if_neg (by omega), if_neg (by omega), if_neg (by omega), if_neg (by omega), if_neg (by omega)])
  · subst e
    refine x_tableIn 92 (xd DX8_count rfl) (by decide) (by decide) (by decide) rfl rfl ?_
    refine x_aload_n 93 (xd DX8_count rfl) rfl rfl ?_
    refine x_gr 96 _ LX8_19 (xd DX8_count rfl) rfl rfl ⟨by decide, by decide⟩ (by decide) rfl rfl ?_
    refine x_Vi 99 (pX4_targetCount hC.1) FX4_targetCount VX4_targetCount CX8_265 (xd DX8_count rfl) rfl rfl rfl ⟨by decide, rfl⟩ ⟨by decide, by decide⟩ (by decide) (Nat.le_of_ble_eq_true rfl) (by decide) rfl ?_
    rintro z9 h9 ⟨q1, q2⟩
    rw [q1, q2]
    clear q1 q2 z9 h9
    refine x_ri (xd DX8_count rfl) rfl ?_
    refine ⟨?_, rfl⟩
    unfold countC
    first | rfl | (show _ = h 255 5; omega) | (rw [if_neg (by omega), if_neg (by omega), if_neg (by omega), if_neg (by omega), if_neg (by omega), if_neg (by omega), if_neg (by omega), if_neg (by omega), if_neg (by omega)])
  · subst e
    refine x_tableIn 100 (xd DX8_count rfl) (by decide) (by decide) (by decide) rfl rfl ?_
    refine x_aload_n 101 (xd DX8_count rfl) rfl rfl ?_
    refine x_gr 104 _ LX8_33 (xd DX8_count rfl) rfl rfl ⟨by decide, by decide⟩ (by decide) rfl rfl ?_
    refine x_gi 107 1 rfl LX8_100 (xd DX8_count rfl) rfl ⟨Or.inr ⟨rfl, by decide⟩, by decide⟩ rfl ?_
    refine x_ri (xd DX8_count rfl) rfl ?_
    refine ⟨?_, rfl⟩
    unfold countC
    first | rfl | (show _ = h 255 5; omega) | (rw [if_neg (by omega), if_neg (by omega), if_neg (by omega), if_neg (by omega), if_neg (by omega), if_neg (by omega), if_neg (by omega), if_neg (by omega), if_neg (by omega)])
  · subst e
    refine x_tableIn 108 (xd DX8_count rfl) (by decide) (by decide) (by decide) rfl rfl ?_
    refine x_aload_n 109 (xd DX8_count rfl) rfl rfl ?_
    refine x_gr 112 _ LX8_12 (xd DX8_count rfl) rfl rfl ⟨by decide, by decide⟩ (by decide) rfl rfl ?_
    refine x_gi 115 2 rfl LX8_268 (xd DX8_count rfl) rfl ⟨Or.inr ⟨rfl, by decide⟩, by decide⟩ rfl ?_
    refine x_ri (xd DX8_count rfl) rfl ?_
    refine ⟨?_, rfl⟩
    unfold countC
    first | rfl | (show _ = h 255 5; omega) | (rw [if_neg (by omega), if_neg (by omega), if_neg (by omega), if_neg (by omega), if_neg (by omega), if_neg (by omega), if_neg (by omega), if_neg (by omega), if_neg (by omega)])
  · subst e
    refine x_tableIn 116 (xd DX8_count rfl) (by decide) (by decide) (by decide) rfl rfl ?_
    refine x_aload_n 117 (xd DX8_count rfl) rfl rfl ?_
    refine x_gr 120 _ LX8_60 (xd DX8_count rfl) rfl rfl ⟨by decide, by decide⟩ (by decide) rfl rfl ?_
    refine x_gz 123 5 rfl LX8_237 (xd DX8_count rfl) rfl ⟨Or.inr ⟨rfl, by decide⟩, by decide⟩ rfl ?_
    refine x_if_eq 126 130 (xd DX8_count rfl) rfl (by omega) rfl (fun c123 => ?_) (fun c123 => ?_)
    · refine x_iconst 131 (xd DX8_count rfl) rfl ?_
      refine x_ri (xd DX8_count rfl) rfl ?_
      refine ⟨?_, rfl⟩
      unfold countC
      first | rfl | (show _ = h 255 5; omega) | (rw [if_neg (by omega), if_neg (by omega), if_neg (by omega), if_neg (by omega), if_neg (by omega), if_neg (by omega), if_neg (by omega), if_neg (by omega), if_neg (by omega)])
    · refine x_iconst 127 (xd DX8_count rfl) rfl ?_
      refine x_goto 131 (xd DX8_count rfl) rfl ?_
      refine x_ri (xd DX8_count rfl) rfl ?_
      refine ⟨?_, rfl⟩
      unfold countC
      first | rfl | (show _ = h 255 5; omega) | (rw [if_neg (by omega), if_neg (by omega), if_neg (by omega), if_neg (by omega), if_neg (by omega), if_neg (by omega), if_neg (by omega), if_neg (by omega), if_neg (by omega)])
  · refine x_tableOut 132 (xd DX8_count rfl) (hw) e rfl ?_
    refine x_iconst 133 (xd DX8_count rfl) rfl ?_
    refine x_ri (xd DX8_count rfl) rfl ?_
    refine ⟨?_, rfl⟩
    unfold countC
    first | rfl | (show _ = h 255 5; omega) | (rw [if_neg (by omega), if_neg (by omega), if_neg (by omega), if_neg (by omega), if_neg (by omega), if_neg (by omega), if_neg (by omega), if_neg (by omega), if_neg (by omega)])


