/-! SqueezedCodeModel: letters, entries -/
def mSim (k : Int) : Prop := k = 97 ∨ k = 109 ∨ k = 120 ∨ k = 115 ∨ k = 108 ∨ k = 112 ∨ k = 119
def mPl (k : Int) : Prop := k = 106 ∨ k = 122 ∨ k = 107
noncomputable def mOwn (k : Int) : Int := pik (mSim k) 2 (pik (mPl k) 4 1)
noncomputable def mLet (k : Int) : Int := pik (mSim k) 2 (pik (mPl k) 3 1)
def mEnt (e : Int) : Int := if e < 8 then 10 * e else 83
def mRef (h : XH) (e : Int) : Int := if h 266 (mEnt e + 1) = -4 then 2 else 3
def mTbN (h : XH) : Nat → Int
  | 0 => 0
  | e + 1 => mTbN h e + (1 + 2 * h 266 (10 * (e : Int)))
set_option maxRecDepth 100000 in
set_option maxHeartbeats 4000000 in
theorem pX9_isSimple {K : XK} {n : Nat} {h : XH} (k : Int) (hk : xrg k) : MI K mX9_isSimple 0 n [vi k] h (fun zr h' => zr = xp (mSim k) ∧ h' = h) := by
  refine xMeth FX9_isSimple (Nat.le_of_ble_eq_true rfl) ?_
  refine x_iload_n 1 (xd DX9_isSimple rfl) rfl rfl ?_
  refine x_bipush 3 (xd DX9_isSimple rfl) rfl rfl ?_
  refine x_icmp_eq 6 42 (xd DX9_isSimple rfl) rfl (by omega) (by omega) rfl (fun c3 => ?_) (fun c3 => ?_)
  · refine x_iconst 43 (xd DX9_isSimple rfl) rfl ?_
    refine x_goto 47 (xd DX9_isSimple rfl) rfl ?_
    refine x_rz (xd DX9_isSimple rfl) rfl (by omega) ?_
    first | exact ⟨xp_t (by unfold mSim; omega), rfl⟩ | exact ⟨xp_f (by unfold mSim; omega), rfl⟩
  · refine x_iload_n 7 (xd DX9_isSimple rfl) rfl rfl ?_
    refine x_bipush 9 (xd DX9_isSimple rfl) rfl rfl ?_
    refine x_icmp_eq 12 42 (xd DX9_isSimple rfl) rfl (by omega) (by omega) rfl (fun c9 => ?_) (fun c9 => ?_)
    · refine x_iconst 43 (xd DX9_isSimple rfl) rfl ?_
      refine x_goto 47 (xd DX9_isSimple rfl) rfl ?_
      refine x_rz (xd DX9_isSimple rfl) rfl (by omega) ?_
      first | exact ⟨xp_t (by unfold mSim; omega), rfl⟩ | exact ⟨xp_f (by unfold mSim; omega), rfl⟩
    · refine x_iload_n 13 (xd DX9_isSimple rfl) rfl rfl ?_
      refine x_bipush 15 (xd DX9_isSimple rfl) rfl rfl ?_
      refine x_icmp_eq 18 42 (xd DX9_isSimple rfl) rfl (by omega) (by omega) rfl (fun c15 => ?_) (fun c15 => ?_)
      · refine x_iconst 43 (xd DX9_isSimple rfl) rfl ?_
        refine x_goto 47 (xd DX9_isSimple rfl) rfl ?_
        refine x_rz (xd DX9_isSimple rfl) rfl (by omega) ?_
        first | exact ⟨xp_t (by unfold mSim; omega), rfl⟩ | exact ⟨xp_f (by unfold mSim; omega), rfl⟩
      · refine x_iload_n 19 (xd DX9_isSimple rfl) rfl rfl ?_
        refine x_bipush 21 (xd DX9_isSimple rfl) rfl rfl ?_
        refine x_icmp_eq 24 42 (xd DX9_isSimple rfl) rfl (by omega) (by omega) rfl (fun c21 => ?_) (fun c21 => ?_)
        · refine x_iconst 43 (xd DX9_isSimple rfl) rfl ?_
          refine x_goto 47 (xd DX9_isSimple rfl) rfl ?_
          refine x_rz (xd DX9_isSimple rfl) rfl (by omega) ?_
          first | exact ⟨xp_t (by unfold mSim; omega), rfl⟩ | exact ⟨xp_f (by unfold mSim; omega), rfl⟩
        · refine x_iload_n 25 (xd DX9_isSimple rfl) rfl rfl ?_
          refine x_bipush 27 (xd DX9_isSimple rfl) rfl rfl ?_
          refine x_icmp_eq 30 42 (xd DX9_isSimple rfl) rfl (by omega) (by omega) rfl (fun c27 => ?_) (fun c27 => ?_)
          · refine x_iconst 43 (xd DX9_isSimple rfl) rfl ?_
            refine x_goto 47 (xd DX9_isSimple rfl) rfl ?_
            refine x_rz (xd DX9_isSimple rfl) rfl (by omega) ?_
            first | exact ⟨xp_t (by unfold mSim; omega), rfl⟩ | exact ⟨xp_f (by unfold mSim; omega), rfl⟩
          · refine x_iload_n 31 (xd DX9_isSimple rfl) rfl rfl ?_
            refine x_bipush 33 (xd DX9_isSimple rfl) rfl rfl ?_
            refine x_icmp_eq 36 42 (xd DX9_isSimple rfl) rfl (by omega) (by omega) rfl (fun c33 => ?_) (fun c33 => ?_)
            · refine x_iconst 43 (xd DX9_isSimple rfl) rfl ?_
              refine x_goto 47 (xd DX9_isSimple rfl) rfl ?_
              refine x_rz (xd DX9_isSimple rfl) rfl (by omega) ?_
              first | exact ⟨xp_t (by unfold mSim; omega), rfl⟩ | exact ⟨xp_f (by unfold mSim; omega), rfl⟩
            · refine x_iload_n 37 (xd DX9_isSimple rfl) rfl rfl ?_
              refine x_bipush 39 (xd DX9_isSimple rfl) rfl rfl ?_
              refine x_icmp_ne 42 46 (xd DX9_isSimple rfl) rfl (by omega) (by omega) rfl (fun c39 => ?_) (fun c39 => ?_)
              · refine x_iconst 47 (xd DX9_isSimple rfl) rfl ?_
                refine x_rz (xd DX9_isSimple rfl) rfl (by omega) ?_
                first | exact ⟨xp_t (by unfold mSim; omega), rfl⟩ | exact ⟨xp_f (by unfold mSim; omega), rfl⟩
              · refine x_iconst 43 (xd DX9_isSimple rfl) rfl ?_
                refine x_goto 47 (xd DX9_isSimple rfl) rfl ?_
                refine x_rz (xd DX9_isSimple rfl) rfl (by omega) ?_
                first | exact ⟨xp_t (by unfold mSim; omega), rfl⟩ | exact ⟨xp_f (by unfold mSim; omega), rfl⟩

set_option maxRecDepth 100000 in
set_option maxHeartbeats 4000000 in
theorem pX9_hasPlace {K : XK} {n : Nat} {h : XH} (k : Int) (hk : xrg k) : MI K mX9_hasPlace 0 n [vi k] h (fun zr h' => zr = xp (mPl k) ∧ h' = h) := by
  refine xMeth FX9_hasPlace (Nat.le_of_ble_eq_true rfl) ?_
  refine x_iload_n 1 (xd DX9_hasPlace rfl) rfl rfl ?_
  refine x_bipush 3 (xd DX9_hasPlace rfl) rfl rfl ?_
  refine x_icmp_eq 6 18 (xd DX9_hasPlace rfl) rfl (by omega) (by omega) rfl (fun c3 => ?_) (fun c3 => ?_)
  · refine x_iconst 19 (xd DX9_hasPlace rfl) rfl ?_
    refine x_goto 23 (xd DX9_hasPlace rfl) rfl ?_
    refine x_rz (xd DX9_hasPlace rfl) rfl (by omega) ?_
    first | exact ⟨xp_t (by unfold mPl; omega), rfl⟩ | exact ⟨xp_f (by unfold mPl; omega), rfl⟩
  · refine x_iload_n 7 (xd DX9_hasPlace rfl) rfl rfl ?_
    refine x_bipush 9 (xd DX9_hasPlace rfl) rfl rfl ?_
    refine x_icmp_eq 12 18 (xd DX9_hasPlace rfl) rfl (by omega) (by omega) rfl (fun c9 => ?_) (fun c9 => ?_)
    · refine x_iconst 19 (xd DX9_hasPlace rfl) rfl ?_
      refine x_goto 23 (xd DX9_hasPlace rfl) rfl ?_
      refine x_rz (xd DX9_hasPlace rfl) rfl (by omega) ?_
      first | exact ⟨xp_t (by unfold mPl; omega), rfl⟩ | exact ⟨xp_f (by unfold mPl; omega), rfl⟩
    · refine x_iload_n 13 (xd DX9_hasPlace rfl) rfl rfl ?_
      refine x_bipush 15 (xd DX9_hasPlace rfl) rfl rfl ?_
      refine x_icmp_ne 18 22 (xd DX9_hasPlace rfl) rfl (by omega) (by omega) rfl (fun c15 => ?_) (fun c15 => ?_)
      · refine x_iconst 23 (xd DX9_hasPlace rfl) rfl ?_
        refine x_rz (xd DX9_hasPlace rfl) rfl (by omega) ?_
        first | exact ⟨xp_t (by unfold mPl; omega), rfl⟩ | exact ⟨xp_f (by unfold mPl; omega), rfl⟩
      · refine x_iconst 19 (xd DX9_hasPlace rfl) rfl ?_
        refine x_goto 23 (xd DX9_hasPlace rfl) rfl ?_
        refine x_rz (xd DX9_hasPlace rfl) rfl (by omega) ?_
        first | exact ⟨xp_t (by unfold mPl; omega), rfl⟩ | exact ⟨xp_f (by unfold mPl; omega), rfl⟩

set_option maxRecDepth 100000 in
set_option maxHeartbeats 4000000 in
theorem pX9_lettersOf {K : XK} {n : Nat} {h : XH} (k : Int) (hk : xrg k) : MI K mX9_lettersOf 1 n [vi k] h (fun zr h' => zr = mLet k ∧ h' = h) := by
  refine xMeth FX9_lettersOf (Nat.le_of_ble_eq_true rfl) ?_
  refine x_iload_n 1 (xd DX9_lettersOf rfl) rfl rfl ?_
  refine x_Si 4 (pX9_isSimple k hk) FX9_isSimple VX9_isSimple CX9_86 (xd DX9_lettersOf rfl) rfl rfl (by decide) (Nat.le_of_ble_eq_true rfl) (by decide) rfl ?_
  rintro z9 h9 ⟨q1, q2⟩
  rw [q1, q2]
  clear q1 q2 z9 h9
  refine x_ifp_eq 7 11 (xd DX9_lettersOf rfl) rfl rfl (fun c4 => ?_) (fun c4 => ?_)
  · refine x_iload_n 12 (xd DX9_lettersOf rfl) rfl rfl ?_
    refine x_Si 15 (pX9_hasPlace k hk) FX9_hasPlace VX9_hasPlace CX9_90 (xd DX9_lettersOf rfl) rfl rfl (by decide) (Nat.le_of_ble_eq_true rfl) (by decide) rfl ?_
    rintro z9 h9 ⟨q1, q2⟩
    rw [q1, q2]
    clear q1 q2 z9 h9
    refine x_ifp_eq 18 22 (xd DX9_lettersOf rfl) rfl rfl (fun c15 => ?_) (fun c15 => ?_)
    · refine x_iconst 23 (xd DX9_lettersOf rfl) rfl ?_
      refine x_ri (xd DX9_lettersOf rfl) rfl ?_
      refine ⟨?_, rfl⟩
      unfold mLet
      simp only [*, pik_t, pik_f, not_true, not_false_iff]
    · refine x_iconst 19 (xd DX9_lettersOf rfl) rfl ?_
      refine x_goto 23 (xd DX9_lettersOf rfl) rfl ?_
      refine x_ri (xd DX9_lettersOf rfl) rfl ?_
      refine ⟨?_, rfl⟩
      unfold mLet
      simp only [*, pik_t, pik_f, not_true, not_false_iff]
  · refine x_iconst 8 (xd DX9_lettersOf rfl) rfl ?_
    refine x_goto 23 (xd DX9_lettersOf rfl) rfl ?_
    refine x_ri (xd DX9_lettersOf rfl) rfl ?_
    refine ⟨?_, rfl⟩
    unfold mLet
    simp only [*, pik_t, pik_f, not_true, not_false_iff]

set_option maxRecDepth 100000 in
set_option maxHeartbeats 4000000 in
theorem pX9_own {K : XK} {n : Nat} {h : XH} (k : Int) (hk : xrg k) : MI K mX9_own 1 n [vi k] h (fun zr h' => zr = mOwn k ∧ h' = h) := by
  refine xMeth FX9_own (Nat.le_of_ble_eq_true rfl) ?_
  refine x_iload_n 1 (xd DX9_own rfl) rfl rfl ?_
  refine x_Si 4 (pX9_isSimple k hk) FX9_isSimple VX9_isSimple CX9_86 (xd DX9_own rfl) rfl rfl (by decide) (Nat.le_of_ble_eq_true rfl) (by decide) rfl ?_
  rintro z9 h9 ⟨q1, q2⟩
  rw [q1, q2]
  clear q1 q2 z9 h9
  refine x_ifp_eq 7 11 (xd DX9_own rfl) rfl rfl (fun c4 => ?_) (fun c4 => ?_)
  · refine x_iload_n 12 (xd DX9_own rfl) rfl rfl ?_
    refine x_Si 15 (pX9_hasPlace k hk) FX9_hasPlace VX9_hasPlace CX9_90 (xd DX9_own rfl) rfl rfl (by decide) (Nat.le_of_ble_eq_true rfl) (by decide) rfl ?_
    rintro z9 h9 ⟨q1, q2⟩
    rw [q1, q2]
    clear q1 q2 z9 h9
    refine x_ifp_eq 18 22 (xd DX9_own rfl) rfl rfl (fun c15 => ?_) (fun c15 => ?_)
    · refine x_iconst 23 (xd DX9_own rfl) rfl ?_
      refine x_ri (xd DX9_own rfl) rfl ?_
      refine ⟨?_, rfl⟩
      unfold mOwn
      simp only [*, pik_t, pik_f, not_true, not_false_iff]
    · refine x_iconst 19 (xd DX9_own rfl) rfl ?_
      refine x_goto 23 (xd DX9_own rfl) rfl ?_
      refine x_ri (xd DX9_own rfl) rfl ?_
      refine ⟨?_, rfl⟩
      unfold mOwn
      simp only [*, pik_t, pik_f, not_true, not_false_iff]
  · refine x_iconst 8 (xd DX9_own rfl) rfl ?_
    refine x_goto 23 (xd DX9_own rfl) rfl ?_
    refine x_ri (xd DX9_own rfl) rfl ?_
    refine ⟨?_, rfl⟩
    unfold mOwn
    simp only [*, pik_t, pik_f, not_true, not_false_iff]

set_option maxRecDepth 100000 in
set_option maxHeartbeats 4000000 in
theorem pX9_entryAt {K : XK} {n : Nat} {h : XH} (e : Int) (he : xrg e) : MI K mX9_entryAt 0 n [vr 259, vi e] h (fun zr h' => zr = mEnt e ∧ h' = h) := by
  refine xMeth FX9_entryAt (Nat.le_of_ble_eq_true rfl) ?_
  refine x_iload_n 1 (xd DX9_entryAt rfl) rfl rfl ?_
  refine x_bipush 3 (xd DX9_entryAt rfl) rfl rfl ?_
  refine x_icmp_ge 6 13 (xd DX9_entryAt rfl) rfl (by omega) (by omega) rfl (fun c3 => ?_) (fun c3 => ?_)
  · refine x_bipush 15 (xd DX9_entryAt rfl) rfl rfl ?_
    refine x_ri (xd DX9_entryAt rfl) rfl ?_
    refine ⟨?_, rfl⟩
    unfold mEnt
    first | rw [if_pos (by omega)] | rw [if_neg (by omega)]
  · refine x_bipush 8 (xd DX9_entryAt rfl) rfl rfl ?_
    refine x_iload_n 9 (xd DX9_entryAt rfl) rfl rfl ?_
    refine x_imul 10 (xd DX9_entryAt rfl) rfl ?_
    refine x_goto 15 (xd DX9_entryAt rfl) rfl ?_
    refine x_ri (xd DX9_entryAt rfl) rfl ?_
    refine ⟨?_, rfl⟩
    unfold mEnt
    first | rw [if_pos (by omega)] | rw [if_neg (by omega)]

set_option maxRecDepth 100000 in
set_option maxHeartbeats 4000000 in
theorem pX9_refers {K : XK} {n : Nat} {h : XH} (e : Int) (he : 0 ≤ e ∧ e ≤ 8) (hh : xrg (h 266 (mEnt e + 1))) : MI K mX9_refers 1 n [vr 259, vi e] h (fun zr h' => zr = mRef h e ∧ h' = h) := by
  refine xMeth FX9_refers (Nat.le_of_ble_eq_true rfl) ?_
  have hM : 0 ≤ mEnt e ∧ mEnt e ≤ 83 := by unfold mEnt; split <;> omega
  refine x_aload_n 1 (xd DX9_refers rfl) rfl rfl ?_
  refine x_gr 4 _ LX9_28 (xd DX9_refers rfl) rfl rfl ⟨by decide, by decide⟩ (by decide) rfl rfl ?_
  refine x_aload_n 5 (xd DX9_refers rfl) rfl rfl ?_
  refine x_iload_n 6 (xd DX9_refers rfl) rfl rfl ?_
  refine x_Vi 9 (pX9_entryAt e (by omega)) FX9_entryAt VX9_entryAt CX9_116 (xd DX9_refers rfl) rfl rfl rfl ⟨by decide, rfl⟩ ⟨by decide, by decide⟩ (by decide) (Nat.le_of_ble_eq_true rfl) (by decide) rfl ?_
  rintro z9 h9 ⟨q1, q2⟩
  rw [q1, q2]
  clear q1 q2 z9 h9
  refine x_iconst 10 (xd DX9_refers rfl) rfl ?_
  refine x_iadd 11 (xd DX9_refers rfl) rfl ?_
  refine x_iaload 12 (xd DX9_refers rfl) rfl ⟨Or.inr ⟨rfl, by decide⟩, by decide⟩ (by decide) (by omega) (by omega) rfl ?_
  refine x_bipush 14 (xd DX9_refers rfl) rfl rfl ?_
  refine x_icmp_ne 17 21 (xd DX9_refers rfl) rfl (by omega) (by omega) rfl (fun c14 => ?_) (fun c14 => ?_)
  · refine x_iconst 22 (xd DX9_refers rfl) rfl ?_
    refine x_ri (xd DX9_refers rfl) rfl ?_
    refine ⟨?_, rfl⟩
    unfold mRef
    first | rw [if_pos (by omega)] | rw [if_neg (by omega)]
  · refine x_iconst 18 (xd DX9_refers rfl) rfl ?_
    refine x_goto 22 (xd DX9_refers rfl) rfl ?_
    refine x_ri (xd DX9_refers rfl) rfl ?_
    refine ⟨?_, rfl⟩
    unfold mRef
    first | rw [if_pos (by omega)] | rw [if_neg (by omega)]

set_option maxRecDepth 100000 in
set_option maxHeartbeats 4000000 in
theorem pX9_lines {K : XK} {n : Nat} {h : XH} (h5 : 0 ≤ h 259 5 ∧ h 259 5 ≤ 48) (h8 : 1 ≤ h 266 80 ∧ h 266 80 ≤ 16) : MI K mX9_lines 0 n [vr 259] h (fun zr h' => zr = (h 259 5 + h 266 80 - 1) / h 266 80 ∧ h' = h) := by
  refine xMeth FX9_lines (Nat.le_of_ble_eq_true rfl) ?_
  refine x_aload_n 1 (xd DX9_lines rfl) rfl rfl ?_
  refine x_gi 4 5 rfl LX9_103 (xd DX9_lines rfl) rfl ⟨Or.inr ⟨rfl, by decide⟩, by decide⟩ rfl ?_
  refine x_aload_n 5 (xd DX9_lines rfl) rfl rfl ?_
  refine x_gr 8 _ LX9_28 (xd DX9_lines rfl) rfl rfl ⟨by decide, by decide⟩ (by decide) rfl rfl ?_
  refine x_bipush 10 (xd DX9_lines rfl) rfl rfl ?_
  refine x_iaload 11 (xd DX9_lines rfl) rfl ⟨Or.inr ⟨rfl, by decide⟩, by decide⟩ (by decide) (by omega) (by omega) rfl ?_
  refine x_iadd 12 (xd DX9_lines rfl) rfl ?_
  refine x_iconst 13 (xd DX9_lines rfl) rfl ?_
  refine x_isub 14 (xd DX9_lines rfl) rfl ?_
  refine x_aload_n 15 (xd DX9_lines rfl) rfl rfl ?_
  refine x_gr 18 _ LX9_28 (xd DX9_lines rfl) rfl rfl ⟨by decide, by decide⟩ (by decide) rfl rfl ?_
  refine x_bipush 20 (xd DX9_lines rfl) rfl rfl ?_
  refine x_iaload 21 (xd DX9_lines rfl) rfl ⟨Or.inr ⟨rfl, by decide⟩, by decide⟩ (by decide) (by omega) (by omega) rfl ?_
  refine x_idiv 22 (by omega) (by omega) (by omega) (by omega) (xd DX9_lines rfl) rfl ?_
  refine x_ri (xd DX9_lines rfl) rfl ?_
  exact ⟨rfl, rfl⟩

set_option maxRecDepth 100000 in
set_option maxHeartbeats 4000000 in
theorem pX9_wipe {K : XK} {n : Nat} {h : XH}  : MI K mX9_wipe 0 n [vr 259] h (fun zr h' => zr = h 259 0 ∧ h' = hset h 259 0 0) := by
  refine xMeth FX9_wipe (Nat.le_of_ble_eq_true rfl) ?_
  refine x_aload_n 1 (xd DX9_wipe rfl) rfl rfl ?_
  refine x_gi 4 0 rfl LX9_75 (xd DX9_wipe rfl) rfl ⟨Or.inr ⟨rfl, by decide⟩, by decide⟩ rfl ?_
  refine x_istore_n 5 (L' := [(0, _), (1, _)]) (xd DX9_wipe rfl) (by decide) rfl rfl rfl ?_
  refine x_aload_n 6 (xd DX9_wipe rfl) rfl rfl ?_
  refine x_iconst 7 (xd DX9_wipe rfl) rfl ?_
  refine x_pi 10 0 rfl LX9_75 (xd DX9_wipe rfl) rfl rfl ⟨Or.inr ⟨rfl, by decide⟩, by decide⟩ rfl ?_
  refine x_iload_n 11 (xd DX9_wipe rfl) rfl rfl ?_
  refine x_ri (xd DX9_wipe rfl) rfl ?_
  exact ⟨rfl, rfl⟩

