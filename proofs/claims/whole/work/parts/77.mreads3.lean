/-! SqueezedCodeModel: code, size, seek, line -/
theorem RC.row {g h : XH} (hR : RC g h) {x : Int} (h0 : 0 ≤ x) (hx : x < g 4 3) : h 269 x = g 249 x ∧ h 270 x = g 251 x := by
  have := hR.pk (j := x.toNat) (by omega)
  rw [show ((x.toNat : Nat) : Int) = x by omega] at this
  exact this
theorem RC.rg {g h : XH} (hR : RC g h) (hC : CI g) : ∀ j, 0 ≤ j → j ≤ g 4 3 → -4 ≤ h 270 j ∧ h 270 j ≤ 192 := fun j a b => by
  by_cases e : j = g 4 3
  · rw [e, hR.2]
    have := hC.len
    omega
  · rw [(hR.row a (by omega)).2]
    exact (hC.rows a (by omega)).2.2.1
theorem RC.z {g h : XH} (hR : RC g h) (hC : CI g) : h 270 0 ≠ -4 := by
  have h1 := hC.1.1
  rw [(hR.row (Int.le_refl 0) (by omega)).2]
  have := (rowF hC (j := 0) (by omega)).2.2.2.2.2.1.mpr rfl
  have e : g 251 ((0 : Nat) : Int) = g 251 0 := rfl
  rw [e] at this
  omega
theorem hed_one {g h : XH} (hC : CI g) (hR : RC g h) : ∀ j : Nat, (j : Int) < g 4 3 → 0 ≤ g 249 j → hedM h j j = (j : Int) - g 250 j := by
  intro j
  induction j with
  | zero =>
    intro hj q
    obtain ⟨r1, r2, r3, r4, r5, r6, r7⟩ := rowF hC hj
    have h0 := r6.mpr rfl
    have := (r4 q).2.mpr h0
    show ((0 : Nat) : Int) = _
    omega
  | succ j ih =>
    intro hj q
    obtain ⟨r1, r2, r3, r4, r5, r6, r7⟩ := rowF hC hj
    rw [hedM_s, (hR.pk hj).2]
    by_cases y : g 251 ((j + 1 : Nat) : Int) = -4
    · rw [if_pos y]
      have p := r4 q
      have p2 := r5 p.1 (by have := p.2; omega)
      have e : j + 1 - 1 = j := by omega
      rw [e] at p2
      have := ih (by omega) (by rw [p2.2.1]; exact q)
      rw [show ((j + 1 : Nat) : Int) - 1 = (j : Int) by omega, this, p2.2.2]
      omega
    · rw [if_neg y]
      have := (r4 q).2.mpr (by omega)
      omega
def codC (g : XH) (i w : Int) : Int := if (0 ≤ i ∧ i < g 4 3) ∧ 0 ≤ w ∧ w ≤ 4 then (if w = 0 then ltr (g 5 i) else if w = 1 then g 6 i else if w = 2 then g 7 i else if w = 3 then g 249 i else g 250 i) else -1
theorem mTb_one {g h : XH} (hM : MG g h) : ∀ e : Nat, (e : Int) ≤ g 8 1 → mTbN h e = tbN g e
  | 0, _ => rfl
  | e + 1, q => by
    show mTbN h e + (1 + 2 * h 266 (10 * (e : Int))) = tbN g e + (1 + 2 * g (10 + 3 * e) 2)
    rw [mTb_one hM e (by omega), (hM.1.2.2.2.2.1.2.2.2 e (by omega)).1]
theorem lnF {N W l : Int} (hW : W = 4 ∨ W = 8 ∨ W = 16) (h0 : 0 ≤ l) (h1 : l < (N + W - 1) / W) : 0 ≤ l * W ∧ l * W < N ∧ (l + 1) * W = l * W + W := by
  rcases hW with e | e | e <;> subst e <;> omega
theorem dvF {N W i : Int} (hW : W = 4 ∨ W = 8 ∨ W = 16) (h0 : 0 ≤ i) (h1 : i < N) : 0 ≤ i / W * W ∧ i / W * W < N ∧ i / W * W ≤ i := by
  rcases hW with e | e | e <;> subst e <;> omega
theorem MG.w {g h : XH} (hM : MG g h) : h 266 80 = g 8 2 ∧ (g 8 2 = 4 ∨ g 8 2 = 8 ∨ g 8 2 = 16) := ⟨hM.1.2.2.2.2.1.1, hM.1.2.1.2.1⟩
theorem MG.ln {g h : XH} (hM : MG g h) : (h 259 5 + h 266 80 - 1) / h 266 80 = g 192 14 := by
  rw [hM.1.n, hM.w.1]
  exact hM.1.2.2.1.2.1.symm
set_option maxRecDepth 100000 in
set_option maxHeartbeats 4000000 in
theorem pX9_code {K : XK} {n : Nat} {h : XH} (g : XH) (i w : Int) (hC : CI g) (hM : MG g h) (hi : xrg i) (hw : xrg w) : MI K mX9_code 2 n [vr 259, vi i, vi w] h (fun zr h' => zr = codC g i w ∧ h' = h) := by
  refine xMeth FX9_code (Nat.le_of_ble_eq_true rfl) ?_
  have hP1 := hM.1.1.1
  refine x_aload_n 1 (xd DX9_code rfl) rfl rfl ?_
  refine x_iload_n 2 (xd DX9_code rfl) rfl rfl ?_
  refine x_Vi 5 (pX9_isCode i hi hM.1.m.1.1) FX9_isCode VX9_isCode CX9_140 (xd DX9_code rfl) rfl rfl rfl ⟨by decide, rfl⟩ ⟨by decide, by decide⟩ (by decide) (Nat.le_of_ble_eq_true rfl) (by decide) rfl ?_
  rintro z9 h9 ⟨q1, q2⟩
  rw [q1, q2]
  clear q1 q2 z9 h9
  rw [hM.1.n]
  refine x_ifp_eq 8 20 (xd DX9_code rfl) rfl rfl (fun c5 => ?_) (fun c5 => ?_)
  · refine x_iconst 21 (xd DX9_code rfl) rfl ?_
    refine x_ri (xd DX9_code rfl) rfl ?_
    refine ⟨?_, rfl⟩
    unfold codC
    rw [if_neg (by omega)]
  · refine x_iload_n 9 (xd DX9_code rfl) rfl rfl ?_
    refine x_i2l 10 (by omega) (xd DX9_code rfl) rfl ?_
    refine x_lconst 11 (xd DX9_code rfl) (z := 0) rfl rfl ?_
    refine x_ldc2 14 (xd DX9_code rfl) KX9_145 rfl ?_
    refine x_Si 17 (pX9_in w 0 4 (by omega) (by omega) (by omega)) FX9_in VX9_in CX9_71 (xd DX9_code rfl) rfl rfl (by decide) (Nat.le_of_ble_eq_true rfl) (by decide) rfl ?_
    rintro z9 h9 ⟨q1, q2⟩
    rw [q1, q2]
    clear q1 q2 z9 h9
    refine x_ifp_ne 20 22 (xd DX9_code rfl) rfl rfl (fun c17 => ?_) (fun c17 => ?_)
    · have hrow := hM.2.1.row (x := i) (by omega) (by omega)
      have hrg := hC.rows (j := i) (by omega) (by omega)
      have hrp := hM.1.2.2.2.1.2 i (by omega) (by omega)
      have hrf := rowF hC (j := i.toNat) (by omega)
      rw [show ((i.toNat : Nat) : Int) = i by omega] at hrf
      refine x_iload_n 23 (xd DX9_code rfl) rfl rfl ?_
      have hsw : w = 0 ∨ w = 1 ∨ w = 2 ∨ w = 3 ∨ (w < 0 ∨ 3 < w) := by omega
      rcases hsw with e | e | e | e | e
      · subst e
        refine x_tableIn 52 (xd DX9_code rfl) (by decide) (by decide) (by decide) rfl rfl ?_
        refine x_aload_n 53 (xd DX9_code rfl) rfl rfl ?_
        refine x_gr 56 _ LX9_19 (xd DX9_code rfl) rfl rfl ⟨by decide, by decide⟩ (by decide) rfl rfl ?_
        refine x_iload_n 57 (xd DX9_code rfl) rfl rfl ?_
        refine x_iaload 58 (xd DX9_code rfl) rfl ⟨Or.inr ⟨rfl, by decide⟩, by decide⟩ (by decide) (by omega) (by omega) rfl ?_
        refine x_ri (xd DX9_code rfl) rfl ?_
        exact ⟨by unfold codC; rw [if_pos ⟨by omega, by omega, by omega⟩, if_pos rfl]; exact hrp.1, rfl⟩
      · subst e
        refine x_tableIn 59 (xd DX9_code rfl) (by decide) (by decide) (by decide) rfl rfl ?_
        refine x_aload_n 60 (xd DX9_code rfl) rfl rfl ?_
        refine x_gr 63 _ LX9_22 (xd DX9_code rfl) rfl rfl ⟨by decide, by decide⟩ (by decide) rfl rfl ?_
        refine x_iload_n 64 (xd DX9_code rfl) rfl rfl ?_
        refine x_iaload 65 (xd DX9_code rfl) rfl ⟨Or.inr ⟨rfl, by decide⟩, by decide⟩ (by decide) (by omega) (by omega) rfl ?_
        refine x_ri (xd DX9_code rfl) rfl ?_
        exact ⟨by unfold codC; rw [if_pos ⟨by omega, by omega, by omega⟩, if_neg (by decide), if_pos rfl]; exact hrp.2.1, rfl⟩
      · subst e
        refine x_tableIn 66 (xd DX9_code rfl) (by decide) (by decide) (by decide) rfl rfl ?_
        refine x_aload_n 67 (xd DX9_code rfl) rfl rfl ?_
        refine x_gr 70 _ LX9_25 (xd DX9_code rfl) rfl rfl ⟨by decide, by decide⟩ (by decide) rfl rfl ?_
        refine x_iload_n 71 (xd DX9_code rfl) rfl rfl ?_
        refine x_iaload 72 (xd DX9_code rfl) rfl ⟨Or.inr ⟨rfl, by decide⟩, by decide⟩ (by decide) (by omega) (by omega) rfl ?_
        refine x_ri (xd DX9_code rfl) rfl ?_
        exact ⟨by unfold codC; rw [if_pos ⟨by omega, by omega, by omega⟩, if_neg (by decide), if_neg (by decide), if_pos rfl]; exact hrp.2.2, rfl⟩
      · subst e
        refine x_tableIn 73 (xd DX9_code rfl) (by decide) (by decide) (by decide) rfl rfl ?_
        refine x_aload_n 74 (xd DX9_code rfl) rfl rfl ?_
        refine x_gr 77 _ LX9_37 (xd DX9_code rfl) rfl rfl ⟨by decide, by decide⟩ (by decide) rfl rfl ?_
        refine x_iload_n 78 (xd DX9_code rfl) rfl rfl ?_
        refine x_iaload 79 (xd DX9_code rfl) rfl ⟨Or.inr ⟨rfl, by decide⟩, by decide⟩ (by decide) (by omega) (by omega) rfl ?_
        refine x_ri (xd DX9_code rfl) rfl ?_
        exact ⟨by unfold codC; rw [if_pos ⟨by omega, by omega, by omega⟩, if_neg (by decide), if_neg (by decide), if_neg (by decide), if_pos rfl]; exact hrow.1, rfl⟩
      · refine x_tableOut 80 (xd DX9_code rfl) (by omega) e rfl ?_
        refine x_aload_n 81 (xd DX9_code rfl) rfl rfl ?_
        refine x_gr 84 _ LX9_37 (xd DX9_code rfl) rfl rfl ⟨by decide, by decide⟩ (by decide) rfl rfl ?_
        refine x_iload_n 85 (xd DX9_code rfl) rfl rfl ?_
        refine x_iaload 86 (xd DX9_code rfl) rfl ⟨Or.inr ⟨rfl, by decide⟩, by decide⟩ (by decide) (by omega) (by omega) rfl ?_
        refine x_bipush 88 (xd DX9_code rfl) rfl rfl ?_
        refine x_icmp_ne 91 96 (xd DX9_code rfl) rfl (by first | omega | (rw [hrow.1]; omega)) (by first | omega | (rw [hrow.1]; omega)) rfl (fun c88 => ?_) (fun c88 => ?_)
        · refine x_iload_n 97 (xd DX9_code rfl) rfl rfl ?_
          refine x_aload_n 98 (xd DX9_code rfl) rfl rfl ?_
          refine x_iload_n 99 (xd DX9_code rfl) rfl rfl ?_
          refine x_Vi 102 (pX9_headOf i (by omega) (hM.2.1.z hC) (fun j a b => by have := hM.2.1.rg hC j a (by omega); omega)) FX9_headOf VX9_headOf CX9_184 (xd DX9_code rfl) rfl rfl rfl ⟨by decide, rfl⟩ ⟨by decide, by decide⟩ (by decide) (Nat.le_of_ble_eq_true rfl) (by decide) rfl ?_
          rintro z9 h9 ⟨q1, q2⟩
          rw [q1, q2]
          clear q1 q2 z9 h9
          refine x_isub 103 (xd DX9_code rfl) rfl ?_
          refine x_ri (xd DX9_code rfl) rfl ?_
          refine ⟨?_, rfl⟩
          rw [hrow.1] at c88
          unfold codC
          rw [if_pos ⟨by omega, by omega, by omega⟩, if_neg (by omega), if_neg (by omega), if_neg (by omega), if_neg (by omega)]
          first
            | (rw [(hrf.2.2.1 c88).1]; done)
            | (have hh := hed_one hC hM.2.1 i.toNat (by omega) (by rw [show ((i.toNat : Nat) : Int) = i by omega]; omega)
               rw [show ((i.toNat : Nat) : Int) = i by omega] at hh
               rw [hh]
               omega)
        · refine x_bipush 93 (xd DX9_code rfl) rfl rfl ?_
          refine x_goto 103 (xd DX9_code rfl) rfl ?_
          refine x_ri (xd DX9_code rfl) rfl ?_
          refine ⟨?_, rfl⟩
          rw [hrow.1] at c88
          unfold codC
          rw [if_pos ⟨by omega, by omega, by omega⟩, if_neg (by omega), if_neg (by omega), if_neg (by omega), if_neg (by omega)]
          first
            | (rw [(hrf.2.2.1 c88).1]; done)
            | (have hh := hed_one hC hM.2.1 i.toNat (by omega) (by rw [show ((i.toNat : Nat) : Int) = i by omega]; omega)
               rw [show ((i.toNat : Nat) : Int) = i by omega] at hh
               rw [hh]
               omega)
    · refine x_iconst 21 (xd DX9_code rfl) rfl ?_
      refine x_ri (xd DX9_code rfl) rfl ?_
      refine ⟨?_, rfl⟩
      unfold codC
      rw [if_neg (by omega)]

set_option maxRecDepth 100000 in
set_option maxHeartbeats 4000000 in
theorem pX9_size {K : XK} {n : Nat} {h : XH} (g : XH) (w : Int) (hC : CI g) (hM : MG g h) (hw : xrg w) : MI K mX9_size 2 n [vr 259, vi w] h (fun zr h' => zr = sizeC g w ∧ h' = h) := by
  refine xMeth FX9_size (Nat.le_of_ble_eq_true rfl) ?_
  have hP1 := hM.1.1.1
  have loop : (0 ≤ w ∧ w ≤ 5) → ∀ (f : Nat) (xi xz : Int), 0 ≤ xi → xi ≤ g 4 3 → g 4 3 - xi < (f : Int) → xz = plN g xi.toNat → WI K mX9_size 2 n (qI n (fun zr h' => zr = sizeC g w ∧ h' = h)) 18 [(0, vr 259), (1, vi w), (2, vi xz), (3, vi xi)] [] h := by
    intro hw5 f
    induction f with
    | zero => intro xi xz a b c; exact absurd c (by omega)
    | succ f ih =>
      intro xi xz i0 i1 hf hz
      refine x_iload_n 19 (xd DX9_size rfl) rfl rfl ?_
      refine x_aload_n 20 (xd DX9_size rfl) rfl rfl ?_
      refine x_gi 23 5 rfl LX9_103 (xd DX9_size rfl) rfl ⟨Or.inr ⟨rfl, by decide⟩, by decide⟩ rfl ?_
      refine x_icmp_ge 26 44 (xd DX9_size rfl) rfl (by first | omega | (rw [hM.1.n]; omega)) (by first | omega | (rw [hM.1.n]; omega)) rfl (fun c23 => ?_) (fun c23 => ?_)
      · rw [hM.1.n] at c23
        refine x_iload_n 45 (xd DX9_size rfl) rfl rfl ?_
        have hsw : w = 0 ∨ w = 1 ∨ w = 2 ∨ w = 3 ∨ w = 4 ∨ (w < 0 ∨ 4 < w) := by omega
        rcases hsw with e | e | e | e | e | e
        · subst e
          refine x_tableIn 80 (xd DX9_size rfl) (by decide) (by decide) (by decide) rfl rfl ?_
          refine x_aload_n 81 (xd DX9_size rfl) rfl rfl ?_
          refine x_gr 84 _ LX9_40 (xd DX9_size rfl) rfl rfl ⟨by decide, by decide⟩ (by decide) rfl rfl ?_
          refine x_aload_n 85 (xd DX9_size rfl) rfl rfl ?_
          refine x_gi 88 5 rfl LX9_103 (xd DX9_size rfl) rfl ⟨Or.inr ⟨rfl, by decide⟩, by decide⟩ rfl ?_
          refine x_iaload 89 (xd DX9_size rfl) rfl ⟨Or.inr ⟨rfl, by decide⟩, by decide⟩ (by decide) (by rw [hM.1.n]; omega) (by rw [hM.1.n]; omega) rfl ?_
          refine x_ri (xd DX9_size rfl) rfl ?_
          refine ⟨?_, rfl⟩
          unfold sizeC
          rw [if_pos rfl, hM.1.n]
          exact hM.2.1.2
        · subst e
          refine x_tableIn 90 (xd DX9_size rfl) (by decide) (by decide) (by decide) rfl rfl ?_
          refine x_aload_n 91 (xd DX9_size rfl) rfl rfl ?_
          refine x_Vi 94 (pX9_tableSize hM.1.m.2.2.1) FX9_tableSize VX9_tableSize CX9_189 (xd DX9_size rfl) rfl rfl rfl ⟨by decide, rfl⟩ ⟨by decide, by decide⟩ (by decide) (Nat.le_of_ble_eq_true rfl) (by decide) rfl ?_
          rintro z9 h9 ⟨q1, q2⟩
          rw [q1, q2]
          clear q1 q2 z9 h9
          rw [hM.1.e, mTb_one hM _ (by have := hM.1.2.1.1; omega)]
          refine x_ri (xd DX9_size rfl) rfl ?_
          refine ⟨?_, rfl⟩
          unfold sizeC
          rw [if_neg (by decide), if_pos rfl]
        · subst e
          refine x_tableIn 95 (xd DX9_size rfl) (by decide) (by decide) (by decide) rfl rfl ?_
          refine x_iconst 96 (xd DX9_size rfl) rfl ?_
          refine x_aload_n 97 (xd DX9_size rfl) rfl rfl ?_
          refine x_Vi 100 (pX9_lines hM.1.m.1.1 hM.1.m.2.1) FX9_lines VX9_lines CX9_192 (xd DX9_size rfl) rfl rfl rfl ⟨by decide, rfl⟩ ⟨by decide, by decide⟩ (by decide) (Nat.le_of_ble_eq_true rfl) (by decide) rfl ?_
          rintro z9 h9 ⟨q1, q2⟩
          rw [q1, q2]
          clear q1 q2 z9 h9
          rw [hM.ln]
          refine x_imul 101 (xd DX9_size rfl) rfl ?_
          refine x_ri (xd DX9_size rfl) rfl ?_
          refine ⟨?_, rfl⟩
          unfold sizeC
          rw [if_neg (by decide), if_neg (by decide), if_pos rfl]
        · subst e
          refine x_tableIn 102 (xd DX9_size rfl) (by decide) (by decide) (by decide) rfl rfl ?_
          refine x_aload_n 103 (xd DX9_size rfl) rfl rfl ?_
          refine x_gr 106 _ LX9_40 (xd DX9_size rfl) rfl rfl ⟨by decide, by decide⟩ (by decide) rfl rfl ?_
          refine x_aload_n 107 (xd DX9_size rfl) rfl rfl ?_
          refine x_gi 110 5 rfl LX9_103 (xd DX9_size rfl) rfl ⟨Or.inr ⟨rfl, by decide⟩, by decide⟩ rfl ?_
          refine x_iaload 111 (xd DX9_size rfl) rfl ⟨Or.inr ⟨rfl, by decide⟩, by decide⟩ (by decide) (by rw [hM.1.n]; omega) (by rw [hM.1.n]; omega) rfl ?_
          refine x_aload_n 112 (xd DX9_size rfl) rfl rfl ?_
          refine x_Vi 115 (pX9_tableSize hM.1.m.2.2.1) FX9_tableSize VX9_tableSize CX9_189 (xd DX9_size rfl) rfl rfl rfl ⟨by decide, rfl⟩ ⟨by decide, by decide⟩ (by decide) (Nat.le_of_ble_eq_true rfl) (by decide) rfl ?_
          rintro z9 h9 ⟨q1, q2⟩
          rw [q1, q2]
          clear q1 q2 z9 h9
          rw [hM.1.e, mTb_one hM _ (by have := hM.1.2.1.1; omega)]
          refine x_iadd 116 (xd DX9_size rfl) rfl ?_
          refine x_iconst 117 (xd DX9_size rfl) rfl ?_
          refine x_aload_n 118 (xd DX9_size rfl) rfl rfl ?_
          refine x_Vi 121 (pX9_lines hM.1.m.1.1 hM.1.m.2.1) FX9_lines VX9_lines CX9_192 (xd DX9_size rfl) rfl rfl rfl ⟨by decide, rfl⟩ ⟨by decide, by decide⟩ (by decide) (Nat.le_of_ble_eq_true rfl) (by decide) rfl ?_
          rintro z9 h9 ⟨q1, q2⟩
          rw [q1, q2]
          clear q1 q2 z9 h9
          rw [hM.ln]
          refine x_imul 122 (xd DX9_size rfl) rfl ?_
          refine x_iadd 123 (xd DX9_size rfl) rfl ?_
          refine x_ri (xd DX9_size rfl) rfl ?_
          refine ⟨?_, rfl⟩
          unfold sizeC
          rw [if_neg (by decide), if_neg (by decide), if_neg (by decide), if_pos rfl, hM.1.n, hM.2.1.2]
        · subst e
          refine x_tableIn 124 (xd DX9_size rfl) (by decide) (by decide) (by decide) rfl rfl ?_
          refine x_iload_n 125 (xd DX9_size rfl) rfl rfl ?_
          refine x_ri (xd DX9_size rfl) rfl ?_
          refine ⟨?_, rfl⟩
          unfold sizeC
          rw [if_neg (by decide), if_neg (by decide), if_neg (by decide), if_neg (by decide), if_pos rfl, hz, show xi = (((g 4 3).toNat : Nat) : Int) by omega, Int.toNat_natCast]
        · refine x_tableOut 126 (xd DX9_size rfl) (by omega) e rfl ?_
          refine x_aload_n 127 (xd DX9_size rfl) rfl rfl ?_
          refine x_iconst 128 (xd DX9_size rfl) rfl ?_
          refine x_aload_n 129 (xd DX9_size rfl) rfl rfl ?_
          refine x_gi 132 5 rfl LX9_103 (xd DX9_size rfl) rfl ⟨Or.inr ⟨rfl, by decide⟩, by decide⟩ rfl ?_
          refine WX.stk (st' := [vi (((g 4 3).toNat : Nat) : Int), vi ((0 : Nat) : Int), vr 259]) (by rw [hM.1.n, show (((g 4 3).toNat : Nat) : Int) = g 4 3 by omega]; rfl) ?_
          refine x_Vi 135 (pX9_references 0 (g 4 3).toNat (by omega) (by omega) (fun j a b => by have p := hM.2.1.pk (j := j) (by omega); have r := hC.rows (j := (j : Int)) (by omega) (by omega); rw [p.1, p.2]; omega)) FX9_references VX9_references CX9_195 (xd DX9_size rfl) rfl rfl rfl ⟨by decide, rfl⟩ ⟨by decide, by decide⟩ (by decide) (Nat.le_of_ble_eq_true rfl) (by decide) rfl ?_
          rintro z9 h9 ⟨q1, q2⟩
          rw [q1, q2]
          clear q1 q2 z9 h9
          refine x_ri (xd DX9_size rfl) rfl ?_
          refine ⟨?_, rfl⟩
          unfold sizeC
          rw [if_neg (by omega), if_neg (by omega), if_neg (by omega), if_neg (by omega), if_neg (by omega), if_pos (by omega)]
          exact cntR_cg _ (fun j a b => refs_one hC hM.2.1 (by omega))
      · rw [hM.1.n] at c23
        have hn := hM.1.n
        refine x_iload_n 27 (xd DX9_size rfl) rfl rfl ?_
        refine x_aload_n 28 (xd DX9_size rfl) rfl rfl ?_
        refine x_gr 31 _ LX9_19 (xd DX9_size rfl) rfl rfl ⟨by decide, by decide⟩ (by decide) rfl rfl ?_
        refine x_iload_n 32 (xd DX9_size rfl) rfl rfl ?_
        refine x_iaload 33 (xd DX9_size rfl) rfl ⟨Or.inr ⟨rfl, by decide⟩, by decide⟩ (by decide) (by omega) (by omega) rfl ?_
        refine x_Si 36 (pX9_own (h 263 xi) ((hM.1.m.1.2 xi (by omega) (by omega)).1)) FX9_own VX9_own CX9_127 (xd DX9_size rfl) rfl rfl (by decide) (Nat.le_of_ble_eq_true rfl) (by decide) rfl ?_
        rintro z9 h9 ⟨q1, q2⟩
        rw [q1, q2]
        clear q1 q2 z9 h9
        rw [(hM.1.2.2.2.1.2 xi (by omega) (by omega)).1, ltr_own (hM.1.1.v (by omega) (by omega)).1]
        refine x_iadd 37 (xd DX9_size rfl) rfl ?_
        refine x_istore_n 38 (L' := [(0, _), (1, _), (2, _), (3, _)]) (xd DX9_size rfl) (by decide) rfl rfl rfl ?_
        refine x_iinc 41 (L' := [(0, _), (1, _), (2, _), (3, _)]) (xd DX9_size rfl) rfl (by decide) rfl rfl rfl ?_
        refine x_goto 18 (xd DX9_size rfl) rfl ?_
        exact ih (xi + 1) _ (by omega) (by omega) (by omega) (by rw [show (xi + 1).toNat = xi.toNat + 1 by omega, hz, show xi = ((xi.toNat : Nat) : Int) by omega]; rfl)
  refine x_iload_n 1 (xd DX9_size rfl) rfl rfl ?_
  refine x_i2l 2 (by omega) (xd DX9_size rfl) rfl ?_
  refine x_lconst 3 (xd DX9_size rfl) (z := 0) rfl rfl ?_
  refine x_ldc2 6 (xd DX9_size rfl) KX9_187 rfl ?_
  refine x_Si 9 (pX9_in w 0 5 (by omega) (by omega) (by omega)) FX9_in VX9_in CX9_71 (xd DX9_size rfl) rfl rfl (by decide) (Nat.le_of_ble_eq_true rfl) (by decide) rfl ?_
  rintro z9 h9 ⟨q1, q2⟩
  rw [q1, q2]
  clear q1 q2 z9 h9
  refine x_ifp_ne 12 14 (xd DX9_size rfl) rfl rfl (fun c9 => ?_) (fun c9 => ?_)
  · refine x_iconst 15 (xd DX9_size rfl) rfl ?_
    refine x_istore_n 16 (L' := [(0, _), (1, _), (2, _)]) (xd DX9_size rfl) (by decide) rfl rfl rfl ?_
    refine x_iconst 17 (xd DX9_size rfl) rfl ?_
    refine x_istore_n 18 (L' := [(0, _), (1, _), (2, _), (3, _)]) (xd DX9_size rfl) (by decide) rfl rfl rfl ?_
    exact loop c9 60 0 0 (by omega) (by omega) (by omega) rfl
  · refine x_iconst 13 (xd DX9_size rfl) rfl ?_
    refine x_ri (xd DX9_size rfl) rfl ?_
    refine ⟨?_, rfl⟩
    unfold sizeC
    (repeat (rw [if_neg (by omega)]))

set_option maxRecDepth 100000 in
set_option maxHeartbeats 4000000 in
theorem pX9_seek {K : XK} {n : Nat} {h : XH} (g : XH) (k : Nat) (i : Int) (hC : CI g) (hM : MG g h) (hk : g 8 2 = (2 ^ k : Nat)) (hi : xrg i) : MI K mX9_seek 2 n [vr 259, vi i] h (fun zr h' => zr = seekC g k i ∧ h' = h) := by
  refine xMeth FX9_seek (Nat.le_of_ble_eq_true rfl) ?_
  have hP1 := hM.1.1.1
  have hW := hM.w.2
  have loop : (0 ≤ i ∧ i ≤ g 4 3 - 1) → ∀ (f : Nat) (xj : Int), i < xj → xj ≤ g 4 3 → g 4 3 - xj < (f : Int) → (csN g xj.toNat).2.2.2 = (csN g (i.toNat + 1)).2.2.2 → WI K mX9_seek 2 n (qI n (fun zr h' => zr = seekC g k i ∧ h' = h)) 14 [(0, vr 259), (1, vi i), (2, vi xj)] [] h := by
    intro hc5' f
    have hc5 : 0 ≤ i ∧ i < g 4 3 := by omega
    have hdv := dvF (N := g 4 3) hW hc5.1 hc5.2
    induction f with
    | zero => intro xj a b c; exact absurd c (by omega)
    | succ f ih =>
      intro xj i0 i1 hf hacc
      refine x_iload_n 15 (xd DX9_seek rfl) rfl rfl ?_
      refine x_aload_n 16 (xd DX9_seek rfl) rfl rfl ?_
      refine x_gi 19 5 rfl LX9_103 (xd DX9_seek rfl) rfl ⟨Or.inr ⟨rfl, by decide⟩, by decide⟩ rfl ?_
      refine x_icmp_ge 22 39 (xd DX9_seek rfl) rfl (by first | omega | (rw [hM.1.n]; omega)) (by first | omega | (rw [hM.1.n]; omega)) rfl (fun c19 => ?_) (fun c19 => ?_)
      · rw [hM.1.n] at c19
        refine x_aload_n 40 (xd DX9_seek rfl) rfl rfl ?_
        refine x_gr 43 _ LX9_40 (xd DX9_seek rfl) rfl rfl ⟨by decide, by decide⟩ (by decide) rfl rfl ?_
        refine x_iload_n 44 (xd DX9_seek rfl) rfl rfl ?_
        refine x_iaload 45 (xd DX9_seek rfl) rfl ⟨Or.inr ⟨rfl, by decide⟩, by decide⟩ (by decide) (by omega) (by omega) rfl ?_
        refine x_aload_n 46 (xd DX9_seek rfl) rfl rfl ?_
        refine x_gr 49 _ LX9_40 (xd DX9_seek rfl) rfl rfl ⟨by decide, by decide⟩ (by decide) rfl rfl ?_
        refine x_iload_n 50 (xd DX9_seek rfl) rfl rfl ?_
        refine x_aload_n 51 (xd DX9_seek rfl) rfl rfl ?_
        refine x_gr 54 _ LX9_28 (xd DX9_seek rfl) rfl rfl ⟨by decide, by decide⟩ (by decide) rfl rfl ?_
        refine x_bipush 56 (xd DX9_seek rfl) rfl rfl ?_
        refine x_iaload 57 (xd DX9_seek rfl) rfl ⟨Or.inr ⟨rfl, by decide⟩, by decide⟩ (by decide) (by omega) (by omega) rfl ?_
        refine x_idiv 58 (by first | omega | (rw [hM.w.1]; omega)) (by first | omega | (rw [hM.w.1]; omega)) (by first | omega | (rw [hM.w.1]; omega)) (by first | omega | (rw [hM.w.1]; omega)) (xd DX9_seek rfl) rfl ?_
        refine x_aload_n 59 (xd DX9_seek rfl) rfl rfl ?_
        refine x_gr 62 _ LX9_28 (xd DX9_seek rfl) rfl rfl ⟨by decide, by decide⟩ (by decide) rfl rfl ?_
        refine x_bipush 64 (xd DX9_seek rfl) rfl rfl ?_
        refine x_iaload 65 (xd DX9_seek rfl) rfl ⟨Or.inr ⟨rfl, by decide⟩, by decide⟩ (by decide) (by omega) (by omega) rfl ?_
        refine x_imul 66 (xd DX9_seek rfl) rfl ?_
        refine x_iaload 67 (xd DX9_seek rfl) rfl ⟨Or.inr ⟨rfl, by decide⟩, by decide⟩ (by decide) (by rw [hM.w.1]; omega) (by rw [hM.w.1]; omega) rfl ?_
        refine x_isub 68 (xd DX9_seek rfl) rfl ?_
        refine x_ri (xd DX9_seek rfl) rfl ?_
        refine ⟨?_, rfl⟩
        unfold seekC lAd
        rw [if_pos hc5, hM.w.1, pik_t (by rw [← hk]; exact ⟨hdv.1, hdv.2.1⟩), (hM.2.1.row hdv.1 hdv.2.1).2, ← hk]
        have hend : h 270 xj = g 252 i := by
          have p4 := (hC.2.2.2.1.2.2.2.2.2.2.2.1 i.toNat (by omega)).2.2.2
          rw [show ((i.toNat : Nat) : Int) = i by omega] at p4
          rw [p4, ← hacc]
          by_cases y : xj = g 4 3
          · rw [y, hM.2.1.2]
            exact hC.2.2.2.1.2.2.2.2.2.2.1
          · have p := hM.2.1.row (x := xj) (by omega) (by omega)
            have r := rowF hC (j := xj.toNat) (by omega)
            rw [show ((xj.toNat : Nat) : Int) = xj by omega] at r
            rw [p.2]
            have q : g 251 xj ≠ -4 := fun w => by first | exact c30 (by rw [p.2]; exact w) | exact y (by omega)
            exact r.2.2.2.2.2.2 (by have := r.2.1; omega)
        rw [hend]
      · rw [hM.1.n] at c19
        refine x_aload_n 23 (xd DX9_seek rfl) rfl rfl ?_
        refine x_gr 26 _ LX9_40 (xd DX9_seek rfl) rfl rfl ⟨by decide, by decide⟩ (by decide) rfl rfl ?_
        refine x_iload_n 27 (xd DX9_seek rfl) rfl rfl ?_
        refine x_iaload 28 (xd DX9_seek rfl) rfl ⟨Or.inr ⟨rfl, by decide⟩, by decide⟩ (by decide) (by omega) (by omega) rfl ?_
        refine x_bipush 30 (xd DX9_seek rfl) rfl rfl ?_
        refine x_icmp_ne 33 39 (xd DX9_seek rfl) rfl (by first | omega | (have := hM.2.1.rg hC xj (by omega) (by omega); omega)) (by first | omega | (have := hM.2.1.rg hC xj (by omega) (by omega); omega)) rfl (fun c30 => ?_) (fun c30 => ?_)
        · refine x_aload_n 40 (xd DX9_seek rfl) rfl rfl ?_
          refine x_gr 43 _ LX9_40 (xd DX9_seek rfl) rfl rfl ⟨by decide, by decide⟩ (by decide) rfl rfl ?_
          refine x_iload_n 44 (xd DX9_seek rfl) rfl rfl ?_
          refine x_iaload 45 (xd DX9_seek rfl) rfl ⟨Or.inr ⟨rfl, by decide⟩, by decide⟩ (by decide) (by omega) (by omega) rfl ?_
          refine x_aload_n 46 (xd DX9_seek rfl) rfl rfl ?_
          refine x_gr 49 _ LX9_40 (xd DX9_seek rfl) rfl rfl ⟨by decide, by decide⟩ (by decide) rfl rfl ?_
          refine x_iload_n 50 (xd DX9_seek rfl) rfl rfl ?_
          refine x_aload_n 51 (xd DX9_seek rfl) rfl rfl ?_
          refine x_gr 54 _ LX9_28 (xd DX9_seek rfl) rfl rfl ⟨by decide, by decide⟩ (by decide) rfl rfl ?_
          refine x_bipush 56 (xd DX9_seek rfl) rfl rfl ?_
          refine x_iaload 57 (xd DX9_seek rfl) rfl ⟨Or.inr ⟨rfl, by decide⟩, by decide⟩ (by decide) (by omega) (by omega) rfl ?_
          refine x_idiv 58 (by first | omega | (rw [hM.w.1]; omega)) (by first | omega | (rw [hM.w.1]; omega)) (by first | omega | (rw [hM.w.1]; omega)) (by first | omega | (rw [hM.w.1]; omega)) (xd DX9_seek rfl) rfl ?_
          refine x_aload_n 59 (xd DX9_seek rfl) rfl rfl ?_
          refine x_gr 62 _ LX9_28 (xd DX9_seek rfl) rfl rfl ⟨by decide, by decide⟩ (by decide) rfl rfl ?_
          refine x_bipush 64 (xd DX9_seek rfl) rfl rfl ?_
          refine x_iaload 65 (xd DX9_seek rfl) rfl ⟨Or.inr ⟨rfl, by decide⟩, by decide⟩ (by decide) (by omega) (by omega) rfl ?_
          refine x_imul 66 (xd DX9_seek rfl) rfl ?_
          refine x_iaload 67 (xd DX9_seek rfl) rfl ⟨Or.inr ⟨rfl, by decide⟩, by decide⟩ (by decide) (by rw [hM.w.1]; omega) (by rw [hM.w.1]; omega) rfl ?_
          refine x_isub 68 (xd DX9_seek rfl) rfl ?_
          refine x_ri (xd DX9_seek rfl) rfl ?_
          refine ⟨?_, rfl⟩
          unfold seekC lAd
          rw [if_pos hc5, hM.w.1, pik_t (by rw [← hk]; exact ⟨hdv.1, hdv.2.1⟩), (hM.2.1.row hdv.1 hdv.2.1).2, ← hk]
          have hend : h 270 xj = g 252 i := by
            have p4 := (hC.2.2.2.1.2.2.2.2.2.2.2.1 i.toNat (by omega)).2.2.2
            rw [show ((i.toNat : Nat) : Int) = i by omega] at p4
            rw [p4, ← hacc]
            by_cases y : xj = g 4 3
            · rw [y, hM.2.1.2]
              exact hC.2.2.2.1.2.2.2.2.2.2.1
            · have p := hM.2.1.row (x := xj) (by omega) (by omega)
              have r := rowF hC (j := xj.toNat) (by omega)
              rw [show ((xj.toNat : Nat) : Int) = xj by omega] at r
              rw [p.2]
              have q : g 251 xj ≠ -4 := fun w => by first | exact c30 (by rw [p.2]; exact w) | exact y (by omega)
              exact r.2.2.2.2.2.2 (by have := r.2.1; omega)
          rw [hend]
        · refine x_iinc 36 (L' := [(0, _), (1, _), (2, _)]) (xd DX9_seek rfl) rfl (by decide) rfl rfl rfl ?_
          refine x_goto 14 (xd DX9_seek rfl) rfl ?_
          refine ih (xj + 1) (by omega) (by omega) (by omega) ?_
          have p := hM.2.1.row (x := xj) (by omega) (by omega)
          rw [p.2] at c30
          have r := rowF hC (j := xj.toNat) (by omega)
          rw [show ((xj.toNat : Nat) : Int) = xj by omega] at r
          rw [show (xj + 1).toNat = xj.toNat + 1 by omega, (csN_in (fun w => by have := r.2.2.2.2.2.1.mpr w; omega)).2.2]
          exact hacc
  refine x_aload_n 1 (xd DX9_seek rfl) rfl rfl ?_
  refine x_iload_n 2 (xd DX9_seek rfl) rfl rfl ?_
  refine x_Vi 5 (pX9_isCode i hi hM.1.m.1.1) FX9_isCode VX9_isCode CX9_140 (xd DX9_seek rfl) rfl rfl rfl ⟨by decide, rfl⟩ ⟨by decide, by decide⟩ (by decide) (Nat.le_of_ble_eq_true rfl) (by decide) rfl ?_
  rintro z9 h9 ⟨q1, q2⟩
  rw [q1, q2]
  clear q1 q2 z9 h9
  rw [hM.1.n]
  refine x_ifp_ne 8 10 (xd DX9_seek rfl) rfl rfl (fun c5 => ?_) (fun c5 => ?_)
  · refine x_iload_n 11 (xd DX9_seek rfl) rfl rfl ?_
    refine x_iconst 12 (xd DX9_seek rfl) rfl ?_
    refine x_iadd 13 (xd DX9_seek rfl) rfl ?_
    refine x_istore_n 14 (L' := [(0, _), (1, _), (2, _)]) (xd DX9_seek rfl) (by decide) rfl rfl rfl ?_
    exact loop c5 60 (i + 1) (by omega) (by omega) (by omega) (by rw [show (i + 1).toNat = i.toNat + 1 by omega])
  · refine x_iconst 9 (xd DX9_seek rfl) rfl ?_
    refine x_ri (xd DX9_seek rfl) rfl ?_
    refine ⟨?_, rfl⟩
    unfold seekC
    rw [if_neg (by omega)]

