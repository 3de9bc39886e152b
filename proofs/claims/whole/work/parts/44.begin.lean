/-! Run: begin, tell -/
def SBg (x : Nat) : Prop := x = 255 ∨ x = 256
def Begun (h' : XH) (sq mh : Int) : Prop := h' 255 5 = 1 ∧ h' 255 6 = 0 ∧ h' 255 7 = sq ∧ h' 255 8 = 0 ∧ h' 255 9 = 0 ∧ h' 255 10 = 0 ∧ h' 255 11 = 0 ∧ h' 255 12 = 0 ∧ h' 255 13 = mh ∧ h' 255 14 = 0 ∧ h' 255 15 = 0 ∧ h' 255 16 = 0
def tellF (h : XH) (w : Int) : Int :=
  if w = 0 then (if h 255 6 = 0 then h 255 9 else -4) else if w = 1 then h 255 10 else if w = 2 then h 255 11 else if w = 3 then h 255 12 else if w = 4 then (if h 255 8 = 0 then 0 else 1)
  else if w = 5 then h 255 15 else if w = 6 then h 255 16 else if w = 7 then h 255 14 else (if h 255 7 = 0 then 0 else 1)
set_option maxRecDepth 100000 in
set_option maxHeartbeats 4000000 in
theorem pX5_begin {K : XK} {n : Nat} {h : XH} (sq mh : Int) (hq : sq = 0 ∨ sq = 1) (hm : 1 ≤ mh ∧ mh ≤ 4) : MV K mX5_begin 2 n [vr 255, vi sq, vi mh] h (fun h' => Off SBg h h' ∧ Begun h' sq mh ∧ ∀ j, 0 ≤ j → j < 10 → h' 256 j = 0) := by
  refine xMeth FX5_begin (Nat.le_of_ble_eq_true rfl) ?_
  have loop : ∀ (m : Nat) (xk : Nat) (xg : XH), (xk : Int) ≤ 10 → 10 - xk < (m : Int) → Off SBg h xg → Begun xg sq mh → (∀ j, 0 ≤ j → j < (xk : Int) → xg 256 j = 0) → WI K mX5_begin 2 n (qV n fun h' => Off SBg h h' ∧ Begun h' sq mh ∧ ∀ j, 0 ≤ j → j < 10 → h' 256 j = 0) 66 [(0, vr 255), (1, vi sq), (2, vi mh), (3, vi (xk : Int))] [] xg := by
    intro m
    induction m with
    | zero => intro xk xg a b; exact absurd b (by omega)
    | succ m ih =>
      intro xk xg h0 hm1 hO hB hk
      refine x_iload_n 67 (xd DX5_begin rfl) rfl rfl ?_
      refine x_bipush 69 (xd DX5_begin rfl) rfl rfl ?_
      refine x_icmp_ge 72 85 (xd DX5_begin rfl) rfl (by omega) (by omega) rfl (fun c69 => ?_) (fun c69 => ?_)
      · refine x_rv (xd DX5_begin rfl) rfl ?_
        exact ⟨hO, hB, fun j a b => hk j a (by omega)⟩
      · refine x_aload_n 73 (xd DX5_begin rfl) rfl rfl ?_
        refine x_gr 76 _ LX5_9 (xd DX5_begin rfl) rfl rfl ⟨by decide, by decide⟩ (by decide) rfl rfl ?_
        refine x_iload_n 77 (xd DX5_begin rfl) rfl rfl ?_
        refine x_iconst 78 (xd DX5_begin rfl) rfl ?_
        refine x_iastore 79 (xd DX5_begin rfl) rfl ⟨Or.inr ⟨rfl, by decide⟩, by decide⟩ (by decide) (by omega) (by omega) rfl ?_
        refine x_iinc 82 (L' := [(0, _), (1, _), (2, _), (3, _)]) (xd DX5_begin rfl) rfl (by decide) rfl rfl rfl ?_
        refine x_goto 66 (xd DX5_begin rfl) rfl ?_
        refine ih (xk + 1) _ (by omega) (by omega) (hO.tr (Off.set (by unfold SBg; omega))) ?_ (fun j a b => ?_)
        · unfold Begun at *
          rw [hset_c (d := 255) (c := 256) (by decide)]
          exact hB
        · by_cases q : j = (xk : Int)
          · subst q; exact hset_s
          · rw [hset_i q]; exact hk j a (by omega)
  refine x_aload_n 1 (xd DX5_begin rfl) rfl rfl ?_
  refine x_iconst 2 (xd DX5_begin rfl) rfl ?_
  refine x_pz 5 5 rfl LX5_29 (xd DX5_begin rfl) rfl rfl ⟨Or.inr ⟨rfl, by decide⟩, by decide⟩ (by omega) rfl ?_
  refine x_aload_n 6 (xd DX5_begin rfl) rfl rfl ?_
  refine x_iconst 7 (xd DX5_begin rfl) rfl ?_
  refine x_pz 10 6 rfl LX5_33 (xd DX5_begin rfl) rfl rfl ⟨Or.inr ⟨rfl, by decide⟩, by decide⟩ (by omega) rfl ?_
  refine x_aload_n 11 (xd DX5_begin rfl) rfl rfl ?_
  refine x_iload_n 12 (xd DX5_begin rfl) rfl rfl ?_
  refine x_pz 15 7 rfl LX5_36 (xd DX5_begin rfl) rfl rfl ⟨Or.inr ⟨rfl, by decide⟩, by decide⟩ (by omega) rfl ?_
  refine x_aload_n 16 (xd DX5_begin rfl) rfl rfl ?_
  refine x_iconst 17 (xd DX5_begin rfl) rfl ?_
  refine x_pz 20 8 rfl LX5_39 (xd DX5_begin rfl) rfl rfl ⟨Or.inr ⟨rfl, by decide⟩, by decide⟩ (by omega) rfl ?_
  refine x_aload_n 21 (xd DX5_begin rfl) rfl rfl ?_
  refine x_iconst 22 (xd DX5_begin rfl) rfl ?_
  refine x_pi 25 9 rfl LX5_42 (xd DX5_begin rfl) rfl rfl ⟨Or.inr ⟨rfl, by decide⟩, by decide⟩ rfl ?_
  refine x_aload_n 26 (xd DX5_begin rfl) rfl rfl ?_
  refine x_iconst 27 (xd DX5_begin rfl) rfl ?_
  refine x_pi 30 10 rfl LX5_46 (xd DX5_begin rfl) rfl rfl ⟨Or.inr ⟨rfl, by decide⟩, by decide⟩ rfl ?_
  refine x_aload_n 31 (xd DX5_begin rfl) rfl rfl ?_
  refine x_iconst 32 (xd DX5_begin rfl) rfl ?_
  refine x_pi 35 11 rfl LX5_49 (xd DX5_begin rfl) rfl rfl ⟨Or.inr ⟨rfl, by decide⟩, by decide⟩ rfl ?_
  refine x_aload_n 36 (xd DX5_begin rfl) rfl rfl ?_
  refine x_iconst 37 (xd DX5_begin rfl) rfl ?_
  refine x_pi 40 12 rfl LX5_52 (xd DX5_begin rfl) rfl rfl ⟨Or.inr ⟨rfl, by decide⟩, by decide⟩ rfl ?_
  refine x_aload_n 41 (xd DX5_begin rfl) rfl rfl ?_
  refine x_iload_n 42 (xd DX5_begin rfl) rfl rfl ?_
  refine x_iconst 43 (xd DX5_begin rfl) rfl ?_
  refine x_min 46 mmLX5_55 mmS mmI mmC (xd DX5_begin rfl) ⟨by decide, Nat.le_refl _, Nat.le_refl _⟩ (Nat.le_of_ble_eq_true rfl) (by omega) (by omega) rfl ?_
  rw [show (if (4 : Int) < mh then 4 else mh) = mh by split <;> omega]
  refine x_pi 49 13 rfl LX5_61 (xd DX5_begin rfl) rfl rfl ⟨Or.inr ⟨rfl, by decide⟩, by decide⟩ rfl ?_
  refine x_aload_n 50 (xd DX5_begin rfl) rfl rfl ?_
  refine x_iconst 51 (xd DX5_begin rfl) rfl ?_
  refine x_pi 54 14 rfl LX5_64 (xd DX5_begin rfl) rfl rfl ⟨Or.inr ⟨rfl, by decide⟩, by decide⟩ rfl ?_
  refine x_aload_n 55 (xd DX5_begin rfl) rfl rfl ?_
  refine x_iconst 56 (xd DX5_begin rfl) rfl ?_
  refine x_pi 59 15 rfl LX5_67 (xd DX5_begin rfl) rfl rfl ⟨Or.inr ⟨rfl, by decide⟩, by decide⟩ rfl ?_
  refine x_aload_n 60 (xd DX5_begin rfl) rfl rfl ?_
  refine x_iconst 61 (xd DX5_begin rfl) rfl ?_
  refine x_pi 64 16 rfl LX5_70 (xd DX5_begin rfl) rfl rfl ⟨Or.inr ⟨rfl, by decide⟩, by decide⟩ rfl ?_
  refine x_iconst 65 (xd DX5_begin rfl) rfl ?_
  refine x_istore_n 66 (L' := [(0, _), (1, _), (2, _), (3, _)]) (xd DX5_begin rfl) (by decide) rfl rfl rfl ?_
  refine loop 100 0 _ (by omega) (by omega) ?_ ?_ (fun j a b => absurd b (by omega))
  · intro x hx
    have h255 : x ≠ 255 := fun q => hx (Or.inl q)
    rw [hset_c h255, hset_c h255, hset_c h255, hset_c h255, hset_c h255, hset_c h255, hset_c h255, hset_c h255, hset_c h255, hset_c h255, hset_c h255, hset_c h255]
  · unfold Begun hset
    simp

set_option maxRecDepth 100000 in
set_option maxHeartbeats 4000000 in
theorem pX5_tell {K : XK} {n : Nat} {h : XH} (w : Int) (hw : 0 ≤ w ∧ w ≤ 8) (hR : RW h) : MI K mX5_tell 0 n [vr 255, vi w] h (fun z h' => z = tellF h w ∧ h' = h) := by
  refine xMeth FX5_tell (Nat.le_of_ble_eq_true rfl) ?_
  have hk9 : w = 0 ∨ w = 1 ∨ w = 2 ∨ w = 3 ∨ w = 4 ∨ w = 5 ∨ w = 6 ∨ w = 7 ∨ w = 8 := by omega
  refine x_iload_n 1 (xd DX5_tell rfl) rfl rfl ?_
  rcases hk9 with e | e | e | e | e | e | e | e | e <;> subst e
  · refine x_tableIn 48 (xd DX5_tell rfl) (by decide) (by decide) (by decide) rfl rfl ?_
    refine x_aload_n 49 (xd DX5_tell rfl) rfl rfl ?_
    refine x_gz 52 6 rfl LX5_33 (xd DX5_tell rfl) rfl ⟨Or.inr ⟨rfl, by decide⟩, by decide⟩ rfl ?_
    refine x_if_eq 55 60 (xd DX5_tell rfl) rfl (by have := hR.2.1; omega) rfl (fun c52 => ?_) (fun c52 => ?_)
    · refine x_aload_n 61 (xd DX5_tell rfl) rfl rfl ?_
      refine x_gi 64 9 rfl LX5_42 (xd DX5_tell rfl) rfl ⟨Or.inr ⟨rfl, by decide⟩, by decide⟩ rfl ?_
      refine x_ri (xd DX5_tell rfl) rfl ?_
      refine ⟨?_, rfl⟩
      unfold tellF
      first | rfl | (rw [if_pos rfl, if_pos c52]) | (rw [if_pos rfl, if_neg c52]) | (show _ = (if h 255 8 = 0 then 0 else 1); first | rw [if_pos c84] | rw [if_neg c84]) | (show _ = (if h 255 7 = 0 then 0 else 1); first | rw [if_pos c112] | rw [if_neg c112])
    · refine x_bipush 57 (xd DX5_tell rfl) rfl rfl ?_
      refine x_goto 64 (xd DX5_tell rfl) rfl ?_
      refine x_ri (xd DX5_tell rfl) rfl ?_
      refine ⟨?_, rfl⟩
      unfold tellF
      first | rfl | (rw [if_pos rfl, if_pos c52]) | (rw [if_pos rfl, if_neg c52]) | (show _ = (if h 255 8 = 0 then 0 else 1); first | rw [if_pos c84] | rw [if_neg c84]) | (show _ = (if h 255 7 = 0 then 0 else 1); first | rw [if_pos c112] | rw [if_neg c112])
  · refine x_tableIn 65 (xd DX5_tell rfl) (by decide) (by decide) (by decide) rfl rfl ?_
    refine x_aload_n 66 (xd DX5_tell rfl) rfl rfl ?_
    refine x_gi 69 10 rfl LX5_46 (xd DX5_tell rfl) rfl ⟨Or.inr ⟨rfl, by decide⟩, by decide⟩ rfl ?_
    refine x_ri (xd DX5_tell rfl) rfl ?_
    refine ⟨?_, rfl⟩
    unfold tellF
    first | rfl | (rw [if_pos rfl, if_pos c52]) | (rw [if_pos rfl, if_neg c52]) | (show _ = (if h 255 8 = 0 then 0 else 1); first | rw [if_pos c84] | rw [if_neg c84]) | (show _ = (if h 255 7 = 0 then 0 else 1); first | rw [if_pos c112] | rw [if_neg c112])
  · refine x_tableIn 70 (xd DX5_tell rfl) (by decide) (by decide) (by decide) rfl rfl ?_
    refine x_aload_n 71 (xd DX5_tell rfl) rfl rfl ?_
    refine x_gi 74 11 rfl LX5_49 (xd DX5_tell rfl) rfl ⟨Or.inr ⟨rfl, by decide⟩, by decide⟩ rfl ?_
    refine x_ri (xd DX5_tell rfl) rfl ?_
    refine ⟨?_, rfl⟩
    unfold tellF
    first | rfl | (rw [if_pos rfl, if_pos c52]) | (rw [if_pos rfl, if_neg c52]) | (show _ = (if h 255 8 = 0 then 0 else 1); first | rw [if_pos c84] | rw [if_neg c84]) | (show _ = (if h 255 7 = 0 then 0 else 1); first | rw [if_pos c112] | rw [if_neg c112])
  · refine x_tableIn 75 (xd DX5_tell rfl) (by decide) (by decide) (by decide) rfl rfl ?_
    refine x_aload_n 76 (xd DX5_tell rfl) rfl rfl ?_
    refine x_gi 79 12 rfl LX5_52 (xd DX5_tell rfl) rfl ⟨Or.inr ⟨rfl, by decide⟩, by decide⟩ rfl ?_
    refine x_ri (xd DX5_tell rfl) rfl ?_
    refine ⟨?_, rfl⟩
    unfold tellF
    first | rfl | (rw [if_pos rfl, if_pos c52]) | (rw [if_pos rfl, if_neg c52]) | (show _ = (if h 255 8 = 0 then 0 else 1); first | rw [if_pos c84] | rw [if_neg c84]) | (show _ = (if h 255 7 = 0 then 0 else 1); first | rw [if_pos c112] | rw [if_neg c112])
  · refine x_tableIn 80 (xd DX5_tell rfl) (by decide) (by decide) (by decide) rfl rfl ?_
    refine x_aload_n 81 (xd DX5_tell rfl) rfl rfl ?_
    refine x_gz 84 8 rfl LX5_39 (xd DX5_tell rfl) rfl ⟨Or.inr ⟨rfl, by decide⟩, by decide⟩ rfl ?_
    refine x_if_eq 87 91 (xd DX5_tell rfl) rfl (by have := hR.2.2.2.1; omega) rfl (fun c84 => ?_) (fun c84 => ?_)
    · refine x_iconst 92 (xd DX5_tell rfl) rfl ?_
      refine x_ri (xd DX5_tell rfl) rfl ?_
      refine ⟨?_, rfl⟩
      unfold tellF
      first | rfl | (rw [if_pos rfl, if_pos c52]) | (rw [if_pos rfl, if_neg c52]) | (show _ = (if h 255 8 = 0 then 0 else 1); first | rw [if_pos c84] | rw [if_neg c84]) | (show _ = (if h 255 7 = 0 then 0 else 1); first | rw [if_pos c112] | rw [if_neg c112])
    · refine x_iconst 88 (xd DX5_tell rfl) rfl ?_
      refine x_goto 92 (xd DX5_tell rfl) rfl ?_
      refine x_ri (xd DX5_tell rfl) rfl ?_
      refine ⟨?_, rfl⟩
      unfold tellF
      first | rfl | (rw [if_pos rfl, if_pos c52]) | (rw [if_pos rfl, if_neg c52]) | (show _ = (if h 255 8 = 0 then 0 else 1); first | rw [if_pos c84] | rw [if_neg c84]) | (show _ = (if h 255 7 = 0 then 0 else 1); first | rw [if_pos c112] | rw [if_neg c112])
  · refine x_tableIn 93 (xd DX5_tell rfl) (by decide) (by decide) (by decide) rfl rfl ?_
    refine x_aload_n 94 (xd DX5_tell rfl) rfl rfl ?_
    refine x_gi 97 15 rfl LX5_67 (xd DX5_tell rfl) rfl ⟨Or.inr ⟨rfl, by decide⟩, by decide⟩ rfl ?_
    refine x_ri (xd DX5_tell rfl) rfl ?_
    refine ⟨?_, rfl⟩
    unfold tellF
    first | rfl | (rw [if_pos rfl, if_pos c52]) | (rw [if_pos rfl, if_neg c52]) | (show _ = (if h 255 8 = 0 then 0 else 1); first | rw [if_pos c84] | rw [if_neg c84]) | (show _ = (if h 255 7 = 0 then 0 else 1); first | rw [if_pos c112] | rw [if_neg c112])
  · refine x_tableIn 98 (xd DX5_tell rfl) (by decide) (by decide) (by decide) rfl rfl ?_
    refine x_aload_n 99 (xd DX5_tell rfl) rfl rfl ?_
    refine x_gi 102 16 rfl LX5_70 (xd DX5_tell rfl) rfl ⟨Or.inr ⟨rfl, by decide⟩, by decide⟩ rfl ?_
    refine x_ri (xd DX5_tell rfl) rfl ?_
    refine ⟨?_, rfl⟩
    unfold tellF
    first | rfl | (rw [if_pos rfl, if_pos c52]) | (rw [if_pos rfl, if_neg c52]) | (show _ = (if h 255 8 = 0 then 0 else 1); first | rw [if_pos c84] | rw [if_neg c84]) | (show _ = (if h 255 7 = 0 then 0 else 1); first | rw [if_pos c112] | rw [if_neg c112])
  · refine x_tableIn 103 (xd DX5_tell rfl) (by decide) (by decide) (by decide) rfl rfl ?_
    refine x_aload_n 104 (xd DX5_tell rfl) rfl rfl ?_
    refine x_gi 107 14 rfl LX5_64 (xd DX5_tell rfl) rfl ⟨Or.inr ⟨rfl, by decide⟩, by decide⟩ rfl ?_
    refine x_ri (xd DX5_tell rfl) rfl ?_
    refine ⟨?_, rfl⟩
    unfold tellF
    first | rfl | (rw [if_pos rfl, if_pos c52]) | (rw [if_pos rfl, if_neg c52]) | (show _ = (if h 255 8 = 0 then 0 else 1); first | rw [if_pos c84] | rw [if_neg c84]) | (show _ = (if h 255 7 = 0 then 0 else 1); first | rw [if_pos c112] | rw [if_neg c112])
  · refine x_tableOut 108 (xd DX5_tell rfl) (by decide) (Or.inr (by decide)) rfl ?_
    refine x_aload_n 109 (xd DX5_tell rfl) rfl rfl ?_
    refine x_gz 112 7 rfl LX5_36 (xd DX5_tell rfl) rfl ⟨Or.inr ⟨rfl, by decide⟩, by decide⟩ rfl ?_
    refine x_if_eq 115 119 (xd DX5_tell rfl) rfl (by have := hR.2.2.1; omega) rfl (fun c112 => ?_) (fun c112 => ?_)
    · refine x_iconst 120 (xd DX5_tell rfl) rfl ?_
      refine x_ri (xd DX5_tell rfl) rfl ?_
      refine ⟨?_, rfl⟩
      unfold tellF
      first | rfl | (rw [if_pos rfl, if_pos c52]) | (rw [if_pos rfl, if_neg c52]) | (show _ = (if h 255 8 = 0 then 0 else 1); first | rw [if_pos c84] | rw [if_neg c84]) | (show _ = (if h 255 7 = 0 then 0 else 1); first | rw [if_pos c112] | rw [if_neg c112])
    · refine x_iconst 116 (xd DX5_tell rfl) rfl ?_
      refine x_goto 120 (xd DX5_tell rfl) rfl ?_
      refine x_ri (xd DX5_tell rfl) rfl ?_
      refine ⟨?_, rfl⟩
      unfold tellF
      first | rfl | (rw [if_pos rfl, if_pos c52]) | (rw [if_pos rfl, if_neg c52]) | (show _ = (if h 255 8 = 0 then 0 else 1); first | rw [if_pos c84] | rw [if_neg c84]) | (show _ = (if h 255 7 = 0 then 0 else 1); first | rw [if_pos c112] | rw [if_neg c112])


