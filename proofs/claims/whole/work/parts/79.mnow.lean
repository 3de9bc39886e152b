/-! SqueezedCodeModel: nibble, count, now, start -/
/-- a run -/
def RRc (x h : XH) : Prop := h 259 16 = x 255 7 ∧ h 259 18 = x 255 10 ∧ h 259 20 = x 255 12 ∧ h 259 21 = x 255 8 ∧ h 259 22 = x 255 15 ∧ h 259 23 = x 255 16 ∧ h 259 26 = x 255 14 ∧ (∀ j, 0 ≤ j → j < 10 → h 271 j = x 256 j) ∧ (∀ j, 0 ≤ j → j < x 255 12 → h 272 j = x 257 j) ∧ ∀ j, 0 ≤ j → j < x 255 14 → h 273 j = x 258 j
def RNx (x : XH) : Prop := (0 ≤ x 255 10 ∧ x 255 10 < 65536) ∧ ∀ j, 0 ≤ j → j < 10 → 0 ≤ x 256 j ∧ x 256 j < 65536
def RR (x h : XH) : Prop := h 259 15 = x 255 5 ∧ (x 255 5 = 1 → RRc x h ∧ RNx x ∧ h 259 17 = (if x 255 6 = 0 then x 255 9 else -4) ∧ h 259 19 = x 255 11 ∧ x 255 13 = x 8 3)
set_option maxRecDepth 100000 in
set_option maxHeartbeats 4000000 in
theorem pX9_nibble {K : XK} {n : Nat} {h : XH} (g : XH) (i : Int) (hC : CI g) (hM : MG g h) (hi : xrg i) : MI K mX9_nibble 2 n [vr 259, vi i] h (fun zr h' => zr = nibC g i ∧ h' = h) := by
  refine xMeth FX9_nibble (Nat.le_of_ble_eq_true rfl) ?_
  have hP1 := hM.1.1.1
  have hn := hM.1.n
  have hlen := hC.len
  have loop : (0 ≤ i ∧ i < g 192 13) → ∀ (f : Nat) (xj : Int), 0 ≤ xj → xj < g 4 3 → xj < (f : Int) → i < (csN g (xj.toNat + 1)).2.2.2 → WI K mX9_nibble 2 n (qI n (fun zr h' => zr = nibC g i ∧ h' = h)) 29 [(0, vr 259), (1, vi i), (2, vi xj)] [] h := by
    intro hi0 f
    induction f with
    | zero => intro xj a b c; exact absurd c (by omega)
    | succ f ih =>
      intro xj i0 i1 hf hlt
      have ej : ((xj.toNat : Nat) : Int) = xj := by omega
      have hp := (hM.2.1.row i0 i1).2
      have hrg := (hC.rows i0 i1).2.2.1
      have hrf := rowF hC (j := xj.toNat) (by omega)
      rw [ej] at hrf
      refine x_aload_n 30 (xd DX9_nibble rfl) rfl rfl ?_
      refine x_gr 33 _ LX9_40 (xd DX9_nibble rfl) rfl rfl ⟨by decide, by decide⟩ (by decide) rfl rfl ?_
      refine x_iload_n 34 (xd DX9_nibble rfl) rfl rfl ?_
      refine x_iaload 35 (xd DX9_nibble rfl) rfl ⟨Or.inr ⟨rfl, by decide⟩, by decide⟩ (by decide) (by omega) (by omega) rfl ?_
      refine x_bipush 37 (xd DX9_nibble rfl) rfl rfl ?_
      refine x_icmp_eq 40 50 (xd DX9_nibble rfl) rfl (by first | omega | (rw [hp]; omega)) (by first | omega | (rw [hp]; omega)) rfl (fun c37 => ?_) (fun c37 => ?_)
      · rw [hp] at c37
        refine x_iinc 53 (L' := [(0, _), (1, _), (2, _)]) (xd DX9_nibble rfl) rfl (by decide) rfl rfl rfl ?_
        refine x_goto 29 (xd DX9_nibble rfl) rfl ?_
        have x0 : 0 < xj := by
          refine Classical.byContradiction (fun q => ?_)
          have e0 : xj = 0 := by omega
          have r6 := hrf.2.2.2.2.2.1.mpr (by rw [show xj.toNat = 0 by omega]; rfl)
          have r7 := hrf.2.2.2.2.2.2 r6
          have e : (csN g xj.toNat).2.2.2 = 0 := by rw [show xj.toNat = 0 by omega]; rfl
          rw [e] at r7
          omega
        refine ih (xj - 1) (by omega) (by omega) (by omega) ?_
        rw [show (xj - 1).toNat + 1 = xj.toNat by omega]
        first
          | (rw [← e2]; exact c47)
          | (rw [← (csN_in (i := xj.toNat) (fun q => by have := hrf.2.2.2.2.2.1.mpr q; omega)).2.2]; exact hlt)
      · rw [hp] at c37
        have hd := head_facts (hC.2.2.2.1.2.2.2.2.2.2.2.1 xj.toNat (by omega)) (by rw [ej]; omega)
        rw [ej] at hd
        have e251 := hd.2.2.2
        have e2 := hd.2.1
        refine x_aload_n 41 (xd DX9_nibble rfl) rfl rfl ?_
        refine x_gr 44 _ LX9_40 (xd DX9_nibble rfl) rfl rfl ⟨by decide, by decide⟩ (by decide) rfl rfl ?_
        refine x_iload_n 45 (xd DX9_nibble rfl) rfl rfl ?_
        refine x_iaload 46 (xd DX9_nibble rfl) rfl ⟨Or.inr ⟨rfl, by decide⟩, by decide⟩ (by decide) (by omega) (by omega) rfl ?_
        refine x_iload_n 47 (xd DX9_nibble rfl) rfl rfl ?_
        refine x_icmp_le 50 56 (xd DX9_nibble rfl) rfl (by first | omega | (rw [hp]; omega)) (by first | omega | (rw [hp]; omega)) rfl (fun c47 => ?_) (fun c47 => ?_)
        · rw [hp] at c47
          refine x_aload_n 57 (xd DX9_nibble rfl) rfl rfl ?_
          refine x_iload_n 58 (xd DX9_nibble rfl) rfl rfl ?_
          refine x_iload_n 59 (xd DX9_nibble rfl) rfl rfl ?_
          refine x_aload_n 60 (xd DX9_nibble rfl) rfl rfl ?_
          refine x_gr 63 _ LX9_40 (xd DX9_nibble rfl) rfl rfl ⟨by decide, by decide⟩ (by decide) rfl rfl ?_
          refine x_iload_n 64 (xd DX9_nibble rfl) rfl rfl ?_
          refine x_iaload 65 (xd DX9_nibble rfl) rfl ⟨Or.inr ⟨rfl, by decide⟩, by decide⟩ (by decide) (by omega) (by omega) rfl ?_
          refine x_isub 66 (xd DX9_nibble rfl) rfl ?_
          refine WX.stk (st' := [vi (i - h 270 xj), vi ((xj.toNat : Nat) : Int), vr 259]) (by rw [ej]) ?_
          refine x_Vi 69 (pX9_nibbleOf g xj.toNat (i - h 270 xj) hC hM (by omega) (by rw [ej]; omega) (by rw [hp]; omega)) FX9_nibbleOf VX9_nibbleOf CX9_202 (xd DX9_nibble rfl) rfl rfl rfl ⟨by decide, rfl⟩ ⟨by decide, by decide⟩ (by decide) (Nat.le_of_ble_eq_true rfl) (by decide) rfl ?_
          rintro z9 h9 ⟨q1, q2⟩
          rw [q1, q2]
          clear q1 q2 z9 h9
          refine x_ri (xd DX9_nibble rfl) rfl ?_
          refine ⟨?_, rfl⟩
          unfold nibC
          rw [if_neg (by omega), if_pos (by omega), hp]
          have hnb := hC.2.2.2.1.2.2.2.2.2.2.2.2 xj.toNat (by omega) (by rw [ej]; omega) (i - g 251 xj) (by omega) (by omega)
          rw [ej] at hnb
          rw [← hnb, show g 251 xj + (i - g 251 xj) = i by omega]
        · rw [hp] at c47
          refine x_iinc 53 (L' := [(0, _), (1, _), (2, _)]) (xd DX9_nibble rfl) rfl (by decide) rfl rfl rfl ?_
          refine x_goto 29 (xd DX9_nibble rfl) rfl ?_
          have x0 : 0 < xj := by
            refine Classical.byContradiction (fun q => ?_)
            have e0 : xj = 0 := by omega
            have r6 := hrf.2.2.2.2.2.1.mpr (by rw [show xj.toNat = 0 by omega]; rfl)
            have r7 := hrf.2.2.2.2.2.2 r6
            have e : (csN g xj.toNat).2.2.2 = 0 := by rw [show xj.toNat = 0 by omega]; rfl
            rw [e] at r7
            omega
          refine ih (xj - 1) (by omega) (by omega) (by omega) ?_
          rw [show (xj - 1).toNat + 1 = xj.toNat by omega]
          first
            | (rw [← e2]; exact c47)
            | (rw [← (csN_in (i := xj.toNat) (fun q => by have := hrf.2.2.2.2.2.1.mpr q; omega)).2.2]; exact hlt)
  refine x_iload_n 1 (xd DX9_nibble rfl) rfl rfl ?_
  refine x_if_ge 4 6 (xd DX9_nibble rfl) rfl (by omega) rfl (fun c1 => ?_) (fun c1 => ?_)
  · refine x_iload_n 7 (xd DX9_nibble rfl) rfl rfl ?_
    refine x_aload_n 8 (xd DX9_nibble rfl) rfl rfl ?_
    refine x_gr 11 _ LX9_40 (xd DX9_nibble rfl) rfl rfl ⟨by decide, by decide⟩ (by decide) rfl rfl ?_
    refine x_aload_n 12 (xd DX9_nibble rfl) rfl rfl ?_
    refine x_gi 15 5 rfl LX9_103 (xd DX9_nibble rfl) rfl ⟨Or.inr ⟨rfl, by decide⟩, by decide⟩ rfl ?_
    refine x_iaload 16 (xd DX9_nibble rfl) rfl ⟨Or.inr ⟨rfl, by decide⟩, by decide⟩ (by decide) (by rw [hM.1.n]; omega) (by rw [hM.1.n]; omega) rfl ?_
    refine x_icmp_lt 19 22 (xd DX9_nibble rfl) rfl (by first | omega | (rw [hM.1.n, hM.2.1.2]; omega)) (by first | omega | (rw [hM.1.n, hM.2.1.2]; omega)) rfl (fun c16 => ?_) (fun c16 => ?_)
    · rw [hM.1.n, hM.2.1.2] at c16
      refine x_aload_n 23 (xd DX9_nibble rfl) rfl rfl ?_
      refine x_gi 26 5 rfl LX9_103 (xd DX9_nibble rfl) rfl ⟨Or.inr ⟨rfl, by decide⟩, by decide⟩ rfl ?_
      refine x_iconst 27 (xd DX9_nibble rfl) rfl ?_
      refine x_isub 28 (xd DX9_nibble rfl) rfl ?_
      refine x_istore_n 29 (L' := [(0, _), (1, _), (2, _)]) (xd DX9_nibble rfl) (by decide) rfl rfl rfl ?_
      exact loop ⟨by omega, c16⟩ 60 (h 259 5 - 1) (by omega) (by omega) (by omega) (by rw [show (h 259 5 - 1).toNat + 1 = (g 4 3).toNat by omega, ← hC.2.2.2.1.2.2.2.2.2.2.1]; exact c16)
    · rw [hM.1.n, hM.2.1.2] at c16
      refine x_bipush 21 (xd DX9_nibble rfl) rfl rfl ?_
      refine x_ri (xd DX9_nibble rfl) rfl ?_
      exact ⟨by unfold nibC; rw [if_neg (by omega), if_neg (by omega)], rfl⟩
  · refine x_iconst 5 (xd DX9_nibble rfl) rfl ?_
    refine x_ri (xd DX9_nibble rfl) rfl ?_
    exact ⟨by unfold nibC; rw [if_pos (by omega)], rfl⟩

set_option maxRecDepth 100000 in
set_option maxHeartbeats 4000000 in
theorem pX9_count {K : XK} {n : Nat} {h : XH} (g : XH) (w : Int) (hC : CI g) (hM : MG g h) (h0 : h 259 0 = g 1 2) (h15 : h 259 15 = g 255 5) (hw : xrg w) : MI K mX9_count 1 n [vr 259, vi w] h (fun zr h' => zr = countC g w ∧ h' = h) := by
  refine xMeth FX9_count (Nat.le_of_ble_eq_true rfl) ?_
  have hP1 := hM.1.1.1
  have hn := hM.1.n
  have loop : ∀ (f : Nat) (xi xz : Int), 0 ≤ xi → xi ≤ g 4 3 → g 4 3 - xi < (f : Int) → xz = cntR (fun j => g 7 j = 1) 0 xi.toNat → WI K mX9_count 1 n (qI n (fun zr h' => zr = countC g 5 ∧ h' = h)) 90 [(0, vr 259), (1, vi 5), (2, vi xz), (3, vi xi)] [] h := by
    intro f
    induction f with
    | zero => intro xi xz a b c; exact absurd c (by omega)
    | succ f ih =>
      intro xi xz i0 i1 hf hz
      refine x_iload_n 91 (xd DX9_count rfl) rfl rfl ?_
      refine x_aload_n 92 (xd DX9_count rfl) rfl rfl ?_
      refine x_gi 95 5 rfl LX9_103 (xd DX9_count rfl) rfl ⟨Or.inr ⟨rfl, by decide⟩, by decide⟩ rfl ?_
      refine x_icmp_ge 98 113 (xd DX9_count rfl) rfl (by omega) (by omega) rfl (fun c95 => ?_) (fun c95 => ?_)
      · rw [hM.1.n] at c95
        refine x_iload_n 114 (xd DX9_count rfl) rfl rfl ?_
        refine x_ri (xd DX9_count rfl) rfl ?_
        refine ⟨?_, rfl⟩
        unfold countC
        rw [if_neg (by decide), if_neg (by decide), if_neg (by decide), if_neg (by decide), if_neg (by decide), if_pos rfl, hz, show xi.toNat = (g 4 3).toNat by omega]
      · rw [hM.1.n] at c95
        refine x_iload_n 99 (xd DX9_count rfl) rfl rfl ?_
        refine x_aload_n 100 (xd DX9_count rfl) rfl rfl ?_
        refine x_gr 103 _ LX9_25 (xd DX9_count rfl) rfl rfl ⟨by decide, by decide⟩ (by decide) rfl rfl ?_
        refine x_iload_n 104 (xd DX9_count rfl) rfl rfl ?_
        refine x_iaload 105 (xd DX9_count rfl) rfl ⟨Or.inr ⟨rfl, by decide⟩, by decide⟩ (by decide) (by omega) (by omega) rfl ?_
        refine x_iadd 106 (xd DX9_count rfl) rfl ?_
        refine x_istore_n 107 (L' := [(0, _), (1, _), (2, _), (3, _)]) (xd DX9_count rfl) (by decide) rfl rfl rfl ?_
        refine x_iinc 110 (L' := [(0, _), (1, _), (2, _), (3, _)]) (xd DX9_count rfl) rfl (by decide) rfl rfl rfl ?_
        refine x_goto 90 (xd DX9_count rfl) rfl ?_
        refine ih (xi + 1) _ (by omega) (by omega) (by omega) ?_
        rw [show (xi + 1).toNat = xi.toNat + 1 by omega, cntR_s, ← hz, (hM.1.2.2.2.1.2 xi i0 c95).2.2, Nat.zero_add, show ((xi.toNat : Nat) : Int) = xi by omega]
        have ht := (hM.1.1.2 xi i0 c95).2.2.2.2
        rcases ht with e | e
        · rw [e, xp_0.mpr (by decide)]
        · rw [e, xp_1.mpr rfl]
  refine x_iload_n 1 (xd DX9_count rfl) rfl rfl ?_
  have hsw : w = 0 ∨ w = 1 ∨ w = 2 ∨ w = 3 ∨ w = 4 ∨ w = 5 ∨ w = 6 ∨ w = 7 ∨ w = 8 ∨ (w < 0 ∨ 8 < w) := by omega
  rcases hsw with e | e | e | e | e | e | e | e | e | e
  · subst e
    refine x_tableIn 52 (xd DX9_count rfl) (by decide) (by decide) (by decide) rfl rfl ?_
    refine x_aload_n 53 (xd DX9_count rfl) rfl rfl ?_
    refine x_gi 56 5 rfl LX9_103 (xd DX9_count rfl) rfl ⟨Or.inr ⟨rfl, by decide⟩, by decide⟩ rfl ?_
    refine x_ri (xd DX9_count rfl) rfl ?_
    refine ⟨?_, rfl⟩
    unfold countC
    rw [if_pos rfl]; exact hM.1.n
  · subst e
    refine x_tableIn 57 (xd DX9_count rfl) (by decide) (by decide) (by decide) rfl rfl ?_
    refine x_aload_n 58 (xd DX9_count rfl) rfl rfl ?_
    refine x_gr 61 _ LX9_28 (xd DX9_count rfl) rfl rfl ⟨by decide, by decide⟩ (by decide) rfl rfl ?_
    refine x_bipush 63 (xd DX9_count rfl) rfl rfl ?_
    refine x_iaload 64 (xd DX9_count rfl) rfl ⟨Or.inr ⟨rfl, by decide⟩, by decide⟩ (by decide) (by omega) (by omega) rfl ?_
    refine x_ri (xd DX9_count rfl) rfl ?_
    refine ⟨?_, rfl⟩
    unfold countC
    rw [if_neg (by decide), if_pos rfl]; exact hM.1.e
  · subst e
    refine x_tableIn 65 (xd DX9_count rfl) (by decide) (by decide) (by decide) rfl rfl ?_
    refine x_aload_n 66 (xd DX9_count rfl) rfl rfl ?_
    refine x_gr 69 _ LX9_28 (xd DX9_count rfl) rfl rfl ⟨by decide, by decide⟩ (by decide) rfl rfl ?_
    refine x_bipush 71 (xd DX9_count rfl) rfl rfl ?_
    refine x_iaload 72 (xd DX9_count rfl) rfl ⟨Or.inr ⟨rfl, by decide⟩, by decide⟩ (by decide) (by omega) (by omega) rfl ?_
    refine x_ri (xd DX9_count rfl) rfl ?_
    refine ⟨?_, rfl⟩
    unfold countC
    rw [if_neg (by decide), if_neg (by decide), if_pos rfl]; exact hM.w.1
  · subst e
    refine x_tableIn 73 (xd DX9_count rfl) (by decide) (by decide) (by decide) rfl rfl ?_
    refine x_aload_n 74 (xd DX9_count rfl) rfl rfl ?_
    refine x_gr 77 _ LX9_28 (xd DX9_count rfl) rfl rfl ⟨by decide, by decide⟩ (by decide) rfl rfl ?_
    refine x_bipush 79 (xd DX9_count rfl) rfl rfl ?_
    refine x_iaload 80 (xd DX9_count rfl) rfl ⟨Or.inr ⟨rfl, by decide⟩, by decide⟩ (by decide) (by omega) (by omega) rfl ?_
    refine x_ri (xd DX9_count rfl) rfl ?_
    refine ⟨?_, rfl⟩
    unfold countC
    rw [if_neg (by decide), if_neg (by decide), if_neg (by decide), if_pos rfl]; exact hM.1.2.2.2.2.1.2.1
  · subst e
    refine x_tableIn 81 (xd DX9_count rfl) (by decide) (by decide) (by decide) rfl rfl ?_
    refine x_aload_n 82 (xd DX9_count rfl) rfl rfl ?_
    refine x_Vi 85 (pX9_lines hM.1.m.1.1 hM.1.m.2.1) FX9_lines VX9_lines CX9_192 (xd DX9_count rfl) rfl rfl rfl ⟨by decide, rfl⟩ ⟨by decide, by decide⟩ (by decide) (Nat.le_of_ble_eq_true rfl) (by decide) rfl ?_
    rintro z9 h9 ⟨q1, q2⟩
    rw [q1, q2]
    clear q1 q2 z9 h9
    rw [hM.ln]
    refine x_ri (xd DX9_count rfl) rfl ?_
    refine ⟨?_, rfl⟩
    unfold countC
    rw [if_neg (by decide), if_neg (by decide), if_neg (by decide), if_neg (by decide), if_pos rfl]
  · subst e
    refine x_tableIn 86 (xd DX9_count rfl) (by decide) (by decide) (by decide) rfl rfl ?_
    refine x_iconst 87 (xd DX9_count rfl) rfl ?_
    refine x_istore_n 88 (L' := [(0, _), (1, _), (2, _)]) (xd DX9_count rfl) (by decide) rfl rfl rfl ?_
    refine x_iconst 89 (xd DX9_count rfl) rfl ?_
    refine x_istore_n 90 (L' := [(0, _), (1, _), (2, _), (3, _)]) (xd DX9_count rfl) (by decide) rfl rfl rfl ?_
    exact loop 60 0 0 (by omega) (by omega) (by omega) rfl
  · subst e
    refine x_tableIn 115 (xd DX9_count rfl) (by decide) (by decide) (by decide) rfl rfl ?_
    refine x_aload_n 116 (xd DX9_count rfl) rfl rfl ?_
    refine x_gi 119 11 rfl LX9_106 (xd DX9_count rfl) rfl ⟨Or.inr ⟨rfl, by decide⟩, by decide⟩ rfl ?_
    refine x_ri (xd DX9_count rfl) rfl ?_
    refine ⟨?_, rfl⟩
    unfold countC
    rw [if_neg (by decide), if_neg (by decide), if_neg (by decide), if_neg (by decide), if_neg (by decide), if_neg (by decide), if_pos rfl]; exact hM.2.2.2.1.1
  · subst e
    refine x_tableIn 120 (xd DX9_count rfl) (by decide) (by decide) (by decide) rfl rfl ?_
    refine x_aload_n 121 (xd DX9_count rfl) rfl rfl ?_
    refine x_gi 124 0 rfl LX9_75 (xd DX9_count rfl) rfl ⟨Or.inr ⟨rfl, by decide⟩, by decide⟩ rfl ?_
    refine x_ri (xd DX9_count rfl) rfl ?_
    refine ⟨?_, rfl⟩
    unfold countC
    rw [if_neg (by decide), if_neg (by decide), if_neg (by decide), if_neg (by decide), if_neg (by decide), if_neg (by decide), if_neg (by decide), if_pos rfl]; exact h0
  · subst e
    refine x_tableIn 125 (xd DX9_count rfl) (by decide) (by decide) (by decide) rfl rfl ?_
    refine x_aload_n 126 (xd DX9_count rfl) rfl rfl ?_
    refine x_gz 129 15 rfl LX9_109 (xd DX9_count rfl) rfl ⟨Or.inr ⟨rfl, by decide⟩, by decide⟩ rfl ?_
    refine x_if_eq 132 136 (xd DX9_count rfl) rfl (by have := hC.2.2.2.2.1; omega) rfl (fun c129 => ?_) (fun c129 => ?_)
    · refine x_iconst 137 (xd DX9_count rfl) rfl ?_
      refine x_ri (xd DX9_count rfl) rfl ?_
      refine ⟨?_, rfl⟩
      unfold countC
      rw [if_neg (by decide), if_neg (by decide), if_neg (by decide), if_neg (by decide), if_neg (by decide), if_neg (by decide), if_neg (by decide), if_neg (by decide), if_pos rfl]; have := hC.2.2.2.2.1; omega
    · refine x_iconst 133 (xd DX9_count rfl) rfl ?_
      refine x_goto 137 (xd DX9_count rfl) rfl ?_
      refine x_ri (xd DX9_count rfl) rfl ?_
      refine ⟨?_, rfl⟩
      unfold countC
      rw [if_neg (by decide), if_neg (by decide), if_neg (by decide), if_neg (by decide), if_neg (by decide), if_neg (by decide), if_neg (by decide), if_neg (by decide), if_pos rfl]; have := hC.2.2.2.2.1; omega
  · refine x_tableOut 138 (xd DX9_count rfl) (by omega) e rfl ?_
    refine x_iconst 139 (xd DX9_count rfl) rfl ?_
    refine x_ri (xd DX9_count rfl) rfl ?_
    refine ⟨?_, rfl⟩
    unfold countC
    (repeat (rw [if_neg (by omega)]))

set_option maxRecDepth 100000 in
set_option maxHeartbeats 4000000 in
theorem pX9_now {K : XK} {n : Nat} {h : XH} (g : XH) (w : Int) (hC : CI g) (hR : RR g h) (hw : xrg w) : MI K mX9_now 1 n [vr 259, vi w] h (fun zr h' => zr = nowC g w ∧ h' = h) := by
  refine xMeth FX9_now (Nat.le_of_ble_eq_true rfl) ?_
  have h15 := hR.1
  have h50 := hC.2.2.2.2.1
  refine x_iload_n 1 (xd DX9_now rfl) rfl rfl ?_
  refine x_i2l 2 (by omega) (xd DX9_now rfl) rfl ?_
  refine x_lconst 3 (xd DX9_now rfl) (z := 0) rfl rfl ?_
  refine x_ldc2 6 (xd DX9_now rfl) KX9_176 rfl ?_
  refine x_Si 9 (pX9_in w 0 8 (by omega) (by omega) (by omega)) FX9_in VX9_in CX9_71 (xd DX9_now rfl) rfl rfl (by decide) (Nat.le_of_ble_eq_true rfl) (by decide) rfl ?_
  rintro z9 h9 ⟨q1, q2⟩
  rw [q1, q2]
  clear q1 q2 z9 h9
  refine x_ifp_ne 12 14 (xd DX9_now rfl) rfl rfl (fun c9 => ?_) (fun c9 => ?_)
  · refine x_aload_n 15 (xd DX9_now rfl) rfl rfl ?_
    refine x_gz 18 15 rfl LX9_109 (xd DX9_now rfl) rfl ⟨Or.inr ⟨rfl, by decide⟩, by decide⟩ rfl ?_
    refine x_if_ne 21 24 (xd DX9_now rfl) rfl (by omega) rfl (fun c18 => ?_) (fun c18 => ?_)
    · have h51 : g 255 5 = 1 := by omega
      have hr := hR.2 h51
      refine x_iload_n 25 (xd DX9_now rfl) rfl rfl ?_
      have hsw : w = 0 ∨ w = 1 ∨ w = 2 ∨ w = 3 ∨ w = 4 ∨ w = 5 ∨ w = 6 ∨ w = 7 ∨ (w < 0 ∨ 7 < w) := by omega
      rcases hsw with e | e | e | e | e | e | e | e | e
      · subst e
        refine x_tableIn 72 (xd DX9_now rfl) (by decide) (by decide) (by decide) rfl rfl ?_
        refine x_aload_n 73 (xd DX9_now rfl) rfl rfl ?_
        refine x_gi 76 17 rfl LX9_211 (xd DX9_now rfl) rfl ⟨Or.inr ⟨rfl, by decide⟩, by decide⟩ rfl ?_
        refine x_ri (xd DX9_now rfl) rfl ?_
        refine ⟨?_, rfl⟩
        unfold nowC
        rw [if_pos (by omega), if_neg (by omega)]
        unfold tellF
        rw [if_pos rfl]
        exact hr.2.2.1
      · subst e
        refine x_tableIn 77 (xd DX9_now rfl) (by decide) (by decide) (by decide) rfl rfl ?_
        refine x_aload_n 78 (xd DX9_now rfl) rfl rfl ?_
        refine x_gi 81 18 rfl LX9_214 (xd DX9_now rfl) rfl ⟨Or.inr ⟨rfl, by decide⟩, by decide⟩ rfl ?_
        refine x_ri (xd DX9_now rfl) rfl ?_
        refine ⟨?_, rfl⟩
        unfold nowC
        rw [if_pos (by omega), if_neg (by omega)]
        unfold tellF
        rw [if_neg (by decide), if_pos rfl]
        exact hr.1.2.1
      · subst e
        refine x_tableIn 82 (xd DX9_now rfl) (by decide) (by decide) (by decide) rfl rfl ?_
        refine x_aload_n 83 (xd DX9_now rfl) rfl rfl ?_
        refine x_gi 86 19 rfl LX9_217 (xd DX9_now rfl) rfl ⟨Or.inr ⟨rfl, by decide⟩, by decide⟩ rfl ?_
        refine x_ri (xd DX9_now rfl) rfl ?_
        refine ⟨?_, rfl⟩
        unfold nowC
        rw [if_pos (by omega), if_neg (by omega)]
        unfold tellF
        rw [if_neg (by decide), if_neg (by decide), if_pos rfl]
        exact hr.2.2.2.1
      · subst e
        refine x_tableIn 87 (xd DX9_now rfl) (by decide) (by decide) (by decide) rfl rfl ?_
        refine x_aload_n 88 (xd DX9_now rfl) rfl rfl ?_
        refine x_gi 91 20 rfl LX9_220 (xd DX9_now rfl) rfl ⟨Or.inr ⟨rfl, by decide⟩, by decide⟩ rfl ?_
        refine x_ri (xd DX9_now rfl) rfl ?_
        refine ⟨?_, rfl⟩
        unfold nowC
        rw [if_pos (by omega), if_neg (by omega)]
        unfold tellF
        rw [if_neg (by decide), if_neg (by decide), if_neg (by decide), if_pos rfl]
        exact hr.1.2.2.1
      · subst e
        refine x_tableIn 92 (xd DX9_now rfl) (by decide) (by decide) (by decide) rfl rfl ?_
        refine x_aload_n 93 (xd DX9_now rfl) rfl rfl ?_
        refine x_gi 96 21 rfl LX9_223 (xd DX9_now rfl) rfl ⟨Or.inr ⟨rfl, by decide⟩, by decide⟩ rfl ?_
        refine x_ri (xd DX9_now rfl) rfl ?_
        refine ⟨?_, rfl⟩
        unfold nowC
        rw [if_pos (by omega), if_neg (by omega)]
        unfold tellF
        rw [if_neg (by decide), if_neg (by decide), if_neg (by decide), if_neg (by decide), if_pos rfl]
        rw [hr.1.2.2.2.1]; have := (hC.2.2.2.2.2.1 h51).2.2.2.1; split <;> omega
      · subst e
        refine x_tableIn 97 (xd DX9_now rfl) (by decide) (by decide) (by decide) rfl rfl ?_
        refine x_aload_n 98 (xd DX9_now rfl) rfl rfl ?_
        refine x_gi 101 22 rfl LX9_226 (xd DX9_now rfl) rfl ⟨Or.inr ⟨rfl, by decide⟩, by decide⟩ rfl ?_
        refine x_ri (xd DX9_now rfl) rfl ?_
        refine ⟨?_, rfl⟩
        unfold nowC
        rw [if_pos (by omega), if_neg (by omega)]
        unfold tellF
        rw [if_neg (by decide), if_neg (by decide), if_neg (by decide), if_neg (by decide), if_neg (by decide), if_pos rfl]
        exact hr.1.2.2.2.2.1
      · subst e
        refine x_tableIn 102 (xd DX9_now rfl) (by decide) (by decide) (by decide) rfl rfl ?_
        refine x_aload_n 103 (xd DX9_now rfl) rfl rfl ?_
        refine x_gi 106 23 rfl LX9_229 (xd DX9_now rfl) rfl ⟨Or.inr ⟨rfl, by decide⟩, by decide⟩ rfl ?_
        refine x_ri (xd DX9_now rfl) rfl ?_
        refine ⟨?_, rfl⟩
        unfold nowC
        rw [if_pos (by omega), if_neg (by omega)]
        unfold tellF
        rw [if_neg (by decide), if_neg (by decide), if_neg (by decide), if_neg (by decide), if_neg (by decide), if_neg (by decide), if_pos rfl]
        exact hr.1.2.2.2.2.2.1
      · subst e
        refine x_tableIn 107 (xd DX9_now rfl) (by decide) (by decide) (by decide) rfl rfl ?_
        refine x_aload_n 108 (xd DX9_now rfl) rfl rfl ?_
        refine x_gi 111 26 rfl LX9_232 (xd DX9_now rfl) rfl ⟨Or.inr ⟨rfl, by decide⟩, by decide⟩ rfl ?_
        refine x_ri (xd DX9_now rfl) rfl ?_
        refine ⟨?_, rfl⟩
        unfold nowC
        rw [if_pos (by omega), if_neg (by omega)]
        unfold tellF
        rw [if_neg (by decide), if_neg (by decide), if_neg (by decide), if_neg (by decide), if_neg (by decide), if_neg (by decide), if_neg (by decide), if_pos rfl]
        exact hr.1.2.2.2.2.2.2.1
      · refine x_tableOut 112 (xd DX9_now rfl) (by omega) e rfl ?_
        refine x_aload_n 113 (xd DX9_now rfl) rfl rfl ?_
        refine x_gi 116 16 rfl LX9_208 (xd DX9_now rfl) rfl ⟨Or.inr ⟨rfl, by decide⟩, by decide⟩ rfl ?_
        refine x_ri (xd DX9_now rfl) rfl ?_
        refine ⟨?_, rfl⟩
        unfold nowC
        rw [if_pos (by omega), if_neg (by omega)]
        unfold tellF
        rw [if_neg (by omega), if_neg (by omega), if_neg (by omega), if_neg (by omega), if_neg (by omega), if_neg (by omega), if_neg (by omega), if_neg (by omega), hr.1.1]; have := (hC.2.2.2.2.2.1 h51).2.2.1; split <;> omega
    · refine x_bipush 23 (xd DX9_now rfl) rfl rfl ?_
      refine x_ri (xd DX9_now rfl) rfl ?_
      refine ⟨?_, rfl⟩
      unfold nowC
      rw [if_pos c9, if_pos (by omega)]
  · refine x_iconst 13 (xd DX9_now rfl) rfl ?_
    refine x_ri (xd DX9_now rfl) rfl ?_
    refine ⟨?_, rfl⟩
    unfold nowC
    rw [if_neg c9]

set_option maxRecDepth 100000 in
set_option maxHeartbeats 4000000 in
theorem pX9_start {K : XK} {n : Nat} {h : XH} (p : Int) (hp : xrg p) : MI K mX9_start 1 n [vr 259, vi p] h (fun zr h' => (¬ (0 ≤ p ∧ p ≤ 1) → zr = -1 ∧ h' = h) ∧ ((0 ≤ p ∧ p ≤ 1) → zr = 0 ∧ Off (fun c => c = 259 ∨ c = 271) h h' ∧ (∀ j, (j ≤ 14 ∨ 27 ≤ j) → h' 259 j = h 259 j) ∧ (h' 259 15 = 1 ∧ h' 259 16 = p ∧ h' 259 17 = 0 ∧ h' 259 18 = 0 ∧ h' 259 19 = 0 ∧ h' 259 20 = 0 ∧ h' 259 21 = 0 ∧ h' 259 22 = 0 ∧ h' 259 23 = 0 ∧ h' 259 26 = 0) ∧ ∀ j, 0 ≤ j → j < 10 → h' 271 j = 0)) := by
  refine xMeth FX9_start (Nat.le_of_ble_eq_true rfl) ?_
  have loop : ∀ (xb : XH), (0 ≤ p ∧ p ≤ 1) → Off (fun c => c = 259) h xb → (∀ j, (j ≤ 14 ∨ 27 ≤ j) → xb 259 j = h 259 j) → (xb 259 15 = 1 ∧ xb 259 16 = p ∧ xb 259 17 = 0 ∧ xb 259 18 = 0 ∧ xb 259 19 = 0 ∧ xb 259 20 = 0 ∧ xb 259 21 = 0 ∧ xb 259 22 = 0 ∧ xb 259 23 = 0 ∧ xb 259 26 = 0) → ∀ (f : Nat) (xk : Int) (xg : XH), 0 ≤ xk → xk ≤ 10 → 10 - xk < (f : Int) → Off (fun c => c = 271) xb xg → (∀ j, 0 ≤ j → j < xk → xg 271 j = 0) → WI K mX9_start 1 n (qI n (fun zr h' => (¬ (0 ≤ p ∧ p ≤ 1) → zr = -1 ∧ h' = h) ∧ ((0 ≤ p ∧ p ≤ 1) → zr = 0 ∧ Off (fun c => c = 259 ∨ c = 271) h h' ∧ (∀ j, (j ≤ 14 ∨ 27 ≤ j) → h' 259 j = h 259 j) ∧ (h' 259 15 = 1 ∧ h' 259 16 = p ∧ h' 259 17 = 0 ∧ h' 259 18 = 0 ∧ h' 259 19 = 0 ∧ h' 259 20 = 0 ∧ h' 259 21 = 0 ∧ h' 259 22 = 0 ∧ h' 259 23 = 0 ∧ h' 259 26 = 0) ∧ ∀ j, 0 ≤ j → j < 10 → h' 271 j = 0))) 64 [(0, vr 259), (1, vi p), (2, vi xk)] [] xg := by
    intro xb hp01 hb1 hb2 hb3 f
    induction f with
    | zero => intro xk xg a b c; exact absurd c (by omega)
    | succ f ih =>
      intro xk xg h0 h1 hf hO hz
      refine x_iload_n 65 (xd DX9_start rfl) rfl rfl ?_
      refine x_bipush 67 (xd DX9_start rfl) rfl rfl ?_
      refine x_icmp_ge 70 83 (xd DX9_start rfl) rfl (by omega) (by omega) rfl (fun c67 => ?_) (fun c67 => ?_)
      · refine x_iconst 84 (xd DX9_start rfl) rfl ?_
        refine x_ri (xd DX9_start rfl) rfl ?_
        have e259 : xg 259 = xb 259 := hO 259 (by decide)
        refine ⟨fun q => absurd hp01 q, fun _ => ⟨rfl, fun c hc => ?_, fun j hj => ?_, ?_, fun j a b => hz j a (by omega)⟩⟩
        · rw [hO c (fun q => hc (Or.inr q))]
          exact hb1 c (fun q => hc (Or.inl q))
        · rw [e259]; exact hb2 j hj
        · rw [e259]; exact hb3
      · refine x_aload_n 71 (xd DX9_start rfl) rfl rfl ?_
        refine x_gr 74 _ LX9_43 (xd DX9_start rfl) rfl rfl ⟨by decide, by decide⟩ (by decide) rfl rfl ?_
        refine x_iload_n 75 (xd DX9_start rfl) rfl rfl ?_
        refine x_iconst 76 (xd DX9_start rfl) rfl ?_
        refine x_iastore 77 (xd DX9_start rfl) rfl ⟨Or.inr ⟨rfl, by decide⟩, by decide⟩ (by decide) (by omega) (by omega) rfl ?_
        refine x_iinc 80 (L' := [(0, _), (1, _), (2, _)]) (xd DX9_start rfl) rfl (by decide) rfl rfl rfl ?_
        refine x_goto 64 (xd DX9_start rfl) rfl ?_
        refine ih (xk + 1) _ (by omega) (by omega) (by omega) (hO.tr (Off.set rfl)) (fun j a b => ?_)
        rw [hset_at]
        split
        · rfl
        · exact hz j a (by omega)
  refine x_iload_n 1 (xd DX9_start rfl) rfl rfl ?_
  refine x_i2l 2 (by omega) (xd DX9_start rfl) rfl ?_
  refine x_lconst 3 (xd DX9_start rfl) (z := 0) rfl rfl ?_
  refine x_lconst 4 (xd DX9_start rfl) (z := 1) rfl rfl ?_
  refine x_Si 7 (pX9_in p 0 1 (by omega) (by omega) (by omega)) FX9_in VX9_in CX9_71 (xd DX9_start rfl) rfl rfl (by decide) (Nat.le_of_ble_eq_true rfl) (by decide) rfl ?_
  rintro z9 h9 ⟨q1, q2⟩
  rw [q1, q2]
  clear q1 q2 z9 h9
  refine x_ifp_ne 10 12 (xd DX9_start rfl) rfl rfl (fun c7 => ?_) (fun c7 => ?_)
  · refine x_aload_n 13 (xd DX9_start rfl) rfl rfl ?_
    refine x_iconst 14 (xd DX9_start rfl) rfl ?_
    refine x_pz 17 15 rfl LX9_109 (xd DX9_start rfl) rfl rfl ⟨Or.inr ⟨rfl, by decide⟩, by decide⟩ (by omega) rfl ?_
    refine x_aload_n 18 (xd DX9_start rfl) rfl rfl ?_
    refine x_iload_n 19 (xd DX9_start rfl) rfl rfl ?_
    refine x_pi 22 16 rfl LX9_208 (xd DX9_start rfl) rfl rfl ⟨Or.inr ⟨rfl, by decide⟩, by decide⟩ rfl ?_
    refine x_aload_n 23 (xd DX9_start rfl) rfl rfl ?_
    refine x_iconst 24 (xd DX9_start rfl) rfl ?_
    refine x_pi 27 17 rfl LX9_211 (xd DX9_start rfl) rfl rfl ⟨Or.inr ⟨rfl, by decide⟩, by decide⟩ rfl ?_
    refine x_aload_n 28 (xd DX9_start rfl) rfl rfl ?_
    refine x_iconst 29 (xd DX9_start rfl) rfl ?_
    refine x_pi 32 18 rfl LX9_214 (xd DX9_start rfl) rfl rfl ⟨Or.inr ⟨rfl, by decide⟩, by decide⟩ rfl ?_
    refine x_aload_n 33 (xd DX9_start rfl) rfl rfl ?_
    refine x_iconst 34 (xd DX9_start rfl) rfl ?_
    refine x_pi 37 19 rfl LX9_217 (xd DX9_start rfl) rfl rfl ⟨Or.inr ⟨rfl, by decide⟩, by decide⟩ rfl ?_
    refine x_aload_n 38 (xd DX9_start rfl) rfl rfl ?_
    refine x_iconst 39 (xd DX9_start rfl) rfl ?_
    refine x_pi 42 20 rfl LX9_220 (xd DX9_start rfl) rfl rfl ⟨Or.inr ⟨rfl, by decide⟩, by decide⟩ rfl ?_
    refine x_aload_n 43 (xd DX9_start rfl) rfl rfl ?_
    refine x_iconst 44 (xd DX9_start rfl) rfl ?_
    refine x_pi 47 21 rfl LX9_223 (xd DX9_start rfl) rfl rfl ⟨Or.inr ⟨rfl, by decide⟩, by decide⟩ rfl ?_
    refine x_aload_n 48 (xd DX9_start rfl) rfl rfl ?_
    refine x_iconst 49 (xd DX9_start rfl) rfl ?_
    refine x_pi 52 22 rfl LX9_226 (xd DX9_start rfl) rfl rfl ⟨Or.inr ⟨rfl, by decide⟩, by decide⟩ rfl ?_
    refine x_aload_n 53 (xd DX9_start rfl) rfl rfl ?_
    refine x_iconst 54 (xd DX9_start rfl) rfl ?_
    refine x_pi 57 23 rfl LX9_229 (xd DX9_start rfl) rfl rfl ⟨Or.inr ⟨rfl, by decide⟩, by decide⟩ rfl ?_
    refine x_aload_n 58 (xd DX9_start rfl) rfl rfl ?_
    refine x_iconst 59 (xd DX9_start rfl) rfl ?_
    refine x_pi 62 26 rfl LX9_232 (xd DX9_start rfl) rfl rfl ⟨Or.inr ⟨rfl, by decide⟩, by decide⟩ rfl ?_
    refine x_iconst 63 (xd DX9_start rfl) rfl ?_
    refine x_istore_n 64 (L' := [(0, _), (1, _), (2, _)]) (xd DX9_start rfl) (by decide) rfl rfl rfl ?_
    refine loop _ c7 ?_ ?_ ?_ 20 0 _ (by omega) (by omega) (by omega) Off.rf (fun j a b => absurd b (by omega))
    · exact fun c hc => by rw [hset_c hc, hset_c hc, hset_c hc, hset_c hc, hset_c hc, hset_c hc, hset_c hc, hset_c hc, hset_c hc, hset_c hc]
    · exact fun j hj => by rw [hset_i (by omega), hset_i (by omega), hset_i (by omega), hset_i (by omega), hset_i (by omega), hset_i (by omega), hset_i (by omega), hset_i (by omega), hset_i (by omega), hset_i (by omega)]
    · refine ⟨?_, ?_, ?_, ?_, ?_, ?_, ?_, ?_, ?_, ?_⟩ <;> (repeat (first | rw [hset_s] | rw [hset_i (by decide)]))
  · refine x_iconst 11 (xd DX9_start rfl) rfl ?_
    refine x_ri (xd DX9_start rfl) rfl ?_
    exact ⟨fun _ => ⟨rfl, rfl⟩, fun q => absurd q c7⟩

