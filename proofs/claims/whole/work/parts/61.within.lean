/-! SqueezedCodeModel: within, table size, going on -/
set_option maxRecDepth 100000 in
set_option maxHeartbeats 4000000 in
theorem pX9_in {K : XK} {n : Nat} {h : XH} (a b c : Int) (ha : xrg a) (hb : xrg b) (hc : xrg c) : MI K mX9_in 0 n [vl a, vl b, vl c] h (fun zr h' => zr = xp (b ≤ a ∧ a ≤ c) ∧ h' = h) := by
  refine xMeth FX9_in (Nat.le_of_ble_eq_true rfl) ?_
  refine x_lload_n 1 (xd DX9_in rfl) rfl rfl ?_
  refine x_lload_n 2 (xd DX9_in rfl) rfl rfl ?_
  refine x_lcmp 3 (by omega) (by omega) (xd DX9_in rfl) rfl ?_
  refine x_if_lt 6 17 (xd DX9_in rfl) rfl (by omega) rfl (fun c3 => ?_) (fun c3 => ?_)
  · refine x_iconst 18 (xd DX9_in rfl) rfl ?_
    refine x_rz (xd DX9_in rfl) rfl (by omega) ?_
    first | exact ⟨xp_t (by omega), rfl⟩ | exact ⟨xp_f (by omega), rfl⟩
  · refine x_lload_n 7 (xd DX9_in rfl) rfl rfl ?_
    refine x_lload 9 (xd DX9_in rfl) rfl rfl ?_
    refine x_lcmp 10 (by omega) (by omega) (xd DX9_in rfl) rfl ?_
    refine x_if_gt 13 17 (xd DX9_in rfl) rfl (by omega) rfl (fun c10 => ?_) (fun c10 => ?_)
    · refine x_iconst 18 (xd DX9_in rfl) rfl ?_
      refine x_rz (xd DX9_in rfl) rfl (by omega) ?_
      first | exact ⟨xp_t (by omega), rfl⟩ | exact ⟨xp_f (by omega), rfl⟩
    · refine x_iconst 14 (xd DX9_in rfl) rfl ?_
      refine x_goto 18 (xd DX9_in rfl) rfl ?_
      refine x_rz (xd DX9_in rfl) rfl (by omega) ?_
      first | exact ⟨xp_t (by omega), rfl⟩ | exact ⟨xp_f (by omega), rfl⟩

set_option maxRecDepth 100000 in
set_option maxHeartbeats 4000000 in
theorem pX9_isCode {K : XK} {n : Nat} {h : XH} (i : Int) (hi : xrg i) (h5 : 0 ≤ h 259 5 ∧ h 259 5 ≤ 48) : MI K mX9_isCode 1 n [vr 259, vi i] h (fun zr h' => zr = xp (0 ≤ i ∧ i ≤ h 259 5 - 1) ∧ h' = h) := by
  refine xMeth FX9_isCode (Nat.le_of_ble_eq_true rfl) ?_
  refine x_iload_n 1 (xd DX9_isCode rfl) rfl rfl ?_
  refine x_i2l 2 (by omega) (xd DX9_isCode rfl) rfl ?_
  refine x_lconst 3 (xd DX9_isCode rfl) (z := 0) rfl rfl ?_
  refine x_aload_n 4 (xd DX9_isCode rfl) rfl rfl ?_
  refine x_gi 7 5 rfl LX9_103 (xd DX9_isCode rfl) rfl ⟨Or.inr ⟨rfl, by decide⟩, by decide⟩ rfl ?_
  refine x_iconst 8 (xd DX9_isCode rfl) rfl ?_
  refine x_isub 9 (xd DX9_isCode rfl) rfl ?_
  refine x_i2l 10 (by omega) (xd DX9_isCode rfl) rfl ?_
  refine x_Si 13 (pX9_in i 0 (h 259 5 - 1) hi (by decide) (by omega)) FX9_in VX9_in CX9_71 (xd DX9_isCode rfl) rfl rfl (by decide) (Nat.le_of_ble_eq_true rfl) (by decide) rfl ?_
  rintro z9 h9 ⟨q1, q2⟩
  rw [q1, q2]
  clear q1 q2 z9 h9
  refine x_rz (xd DX9_isCode rfl) rfl (by have := xp01 (0 ≤ i ∧ i ≤ h 259 5 - 1); omega) ?_
  exact ⟨rfl, rfl⟩

set_option maxRecDepth 100000 in
set_option maxHeartbeats 4000000 in
theorem pX9_isEntry {K : XK} {n : Nat} {h : XH} (i : Int) (hi : xrg i) (h5 : 0 ≤ h 266 82 ∧ h 266 82 ≤ 8) : MI K mX9_isEntry 1 n [vr 259, vi i] h (fun zr h' => zr = xp (0 ≤ i ∧ i ≤ h 266 82 - 1) ∧ h' = h) := by
  refine xMeth FX9_isEntry (Nat.le_of_ble_eq_true rfl) ?_
  refine x_iload_n 1 (xd DX9_isEntry rfl) rfl rfl ?_
  refine x_i2l 2 (by omega) (xd DX9_isEntry rfl) rfl ?_
  refine x_lconst 3 (xd DX9_isEntry rfl) (z := 0) rfl rfl ?_
  refine x_aload_n 4 (xd DX9_isEntry rfl) rfl rfl ?_
  refine x_gr 7 _ LX9_28 (xd DX9_isEntry rfl) rfl rfl ⟨by decide, by decide⟩ (by decide) rfl rfl ?_
  refine x_bipush 9 (xd DX9_isEntry rfl) rfl rfl ?_
  refine x_iaload 10 (xd DX9_isEntry rfl) rfl ⟨Or.inr ⟨rfl, by decide⟩, by decide⟩ (by decide) (by omega) (by omega) rfl ?_
  refine x_iconst 11 (xd DX9_isEntry rfl) rfl ?_
  refine x_isub 12 (xd DX9_isEntry rfl) rfl ?_
  refine x_i2l 13 (by omega) (xd DX9_isEntry rfl) rfl ?_
  refine x_Si 16 (pX9_in i 0 (h 266 82 - 1) hi (by decide) (by omega)) FX9_in VX9_in CX9_71 (xd DX9_isEntry rfl) rfl rfl (by decide) (Nat.le_of_ble_eq_true rfl) (by decide) rfl ?_
  rintro z9 h9 ⟨q1, q2⟩
  rw [q1, q2]
  clear q1 q2 z9 h9
  refine x_rz (xd DX9_isEntry rfl) rfl (by have := xp01 (0 ≤ i ∧ i ≤ h 266 82 - 1); omega) ?_
  exact ⟨rfl, rfl⟩

set_option maxRecDepth 100000 in
set_option maxHeartbeats 4000000 in
theorem pX9_tableSize {K : XK} {n : Nat} {h : XH} (hE : 0 ≤ h 266 82 ∧ h 266 82 ≤ 8) : MI K mX9_tableSize 0 n [vr 259] h (fun zr h' => zr = mTbN h (h 266 82).toNat ∧ h' = h) := by
  refine xMeth FX9_tableSize (Nat.le_of_ble_eq_true rfl) ?_
  have loop : ∀ (m : Nat) (xi : Nat) (xz : Int), (xi : Int) ≤ h 266 82 → h 266 82 - xi < (m : Int) → xz = mTbN h xi → WI K mX9_tableSize 0 n (qI n (fun zr h' => zr = mTbN h (h 266 82).toNat ∧ h' = h)) 4 [(0, vr 259), (1, vi xz), (2, vi (xi : Int))] [] h := by
    intro m
    induction m with
    | zero => intro xi xz a b; exact absurd b (by omega)
    | succ m ih =>
      intro xi xz h0 hm hz
      refine x_iload_n 5 (xd DX9_tableSize rfl) rfl rfl ?_
      refine x_aload_n 6 (xd DX9_tableSize rfl) rfl rfl ?_
      refine x_gr 9 _ LX9_28 (xd DX9_tableSize rfl) rfl rfl ⟨by decide, by decide⟩ (by decide) rfl rfl ?_
      refine x_bipush 11 (xd DX9_tableSize rfl) rfl rfl ?_
      refine x_iaload 12 (xd DX9_tableSize rfl) rfl ⟨Or.inr ⟨rfl, by decide⟩, by decide⟩ (by decide) (by omega) (by omega) rfl ?_
      refine x_icmp_ge 15 37 (xd DX9_tableSize rfl) rfl (by omega) (by omega) rfl (fun c12 => ?_) (fun c12 => ?_)
      · refine x_iload_n 38 (xd DX9_tableSize rfl) rfl rfl ?_
        refine x_ri (xd DX9_tableSize rfl) rfl ?_
        refine ⟨?_, rfl⟩
        rw [hz, show (h 266 82).toNat = xi by omega]
      · refine x_iload_n 16 (xd DX9_tableSize rfl) rfl rfl ?_
        refine x_iconst 17 (xd DX9_tableSize rfl) rfl ?_
        refine x_iconst 18 (xd DX9_tableSize rfl) rfl ?_
        refine x_aload_n 19 (xd DX9_tableSize rfl) rfl rfl ?_
        refine x_gr 22 _ LX9_28 (xd DX9_tableSize rfl) rfl rfl ⟨by decide, by decide⟩ (by decide) rfl rfl ?_
        refine x_bipush 24 (xd DX9_tableSize rfl) rfl rfl ?_
        refine x_iload_n 25 (xd DX9_tableSize rfl) rfl rfl ?_
        refine x_imul 26 (xd DX9_tableSize rfl) rfl ?_
        refine x_iaload 27 (xd DX9_tableSize rfl) rfl ⟨Or.inr ⟨rfl, by decide⟩, by decide⟩ (by decide) (by omega) (by omega) rfl ?_
        refine x_imul 28 (xd DX9_tableSize rfl) rfl ?_
        refine x_iadd 29 (xd DX9_tableSize rfl) rfl ?_
        refine x_iadd 30 (xd DX9_tableSize rfl) rfl ?_
        refine x_istore_n 31 (L' := [(0, _), (1, _), (2, _)]) (xd DX9_tableSize rfl) (by decide) rfl rfl rfl ?_
        refine x_iinc 34 (L' := [(0, _), (1, _), (2, _)]) (xd DX9_tableSize rfl) rfl (by decide) rfl rfl rfl ?_
        refine x_goto 4 (xd DX9_tableSize rfl) rfl ?_
        refine ih (xi + 1) _ (by omega) (by omega) ?_
        unfold mTbN
        rw [hz]
  refine x_iconst 1 (xd DX9_tableSize rfl) rfl ?_
  refine x_istore_n 2 (L' := [(0, _), (1, _)]) (xd DX9_tableSize rfl) (by decide) rfl rfl rfl ?_
  refine x_iconst 3 (xd DX9_tableSize rfl) rfl ?_
  refine x_istore_n 4 (L' := [(0, _), (1, _), (2, _)]) (xd DX9_tableSize rfl) (by decide) rfl rfl rfl ?_
  exact loop 100 0 0 (by omega) (by omega) rfl

