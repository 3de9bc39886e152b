/-! SqueezedCode: settle, hindranceTo, add, drop, wide, hold, undo -/
def SSe (x : Nat) : Prop := SL x ∨ x = 255
def SCh (x : Nat) : Prop := 8 ≤ x ∧ x ≤ 255
noncomputable def hindC (h : XH) (i m z : Int) : Int := pik ((0 ≤ i ∧ i < h 4 3) ∧ 2 ≤ m ∧ m ≤ 4 ∧ -1 ≤ z ∧ z < m) (pik (SqR h i m ∧ ¬ Alike h i m (if z < 0 then -4 else z)) (if h 8 1 < 8 then 0 else -3) (-2)) (-1)
/-- the history as a change leaves it -/
def KeptR (h h' : XH) : Prop := h' 34 1 = (if h 34 1 = 6 then 6 else h 34 1 + 1) ∧ (∀ k : Nat, (k : Int) < h' 34 1 - 1 → SEq h' (36 + 26 * k) h (36 + 26 * (if h 34 1 = 6 then k + 1 else k))) ∧ SEq h' (36 + 26 * (h' 34 1 - 1).toNat) h 8
def Chg (h h' : XH) : Prop := Off SCh h h' ∧ LY h' ∧ h' 255 5 = 0
theorem KeptR.off {S : Nat → Prop} {h h1 h2 : XH} (hH : HW h) (hS : SW h 8) (hK : KeptR h h1) (hO : Off S h1 h2) (hs : ∀ x, 34 ≤ x → x < 192 → ¬ S x) : KeptR h h2 := by
  obtain ⟨a, b, c⟩ := hK
  have hH1 := hH.1
  have e34 : h2 34 = h1 34 := hO 34 (hs 34 (by omega) (by omega))
  have key : ∀ k : Nat, k < 6 → h1 (36 + 26 * k) 1 ≤ 8 → SEq h2 (36 + 26 * k) h1 (36 + 26 * k) := fun k q q2 => SEq.off hO (fun x z => hs x (by unfold S26 at z; omega) (by unfold S26 at z; omega)) q2
  refine ⟨by rw [e34]; exact a, fun k q => ?_, ?_⟩
  · rw [e34] at q
    have b1 := b k q
    refine (key k (by split at a <;> omega) ?_).tr b1
    rw [b1.1]
    by_cases z : h 34 1 = 6
    · rw [if_pos z]; exact (hH.2 (k + 1) (by rw [if_pos z] at a; omega)).1.2
    · rw [if_neg z]; exact (hH.2 k (by rw [if_neg z] at a; omega)).1.2
  · rw [e34]
    refine (key _ (by split at a <;> omega) ?_).tr c
    rw [c.1]
    exact hS.1.2
set_option maxRecDepth 100000 in
set_option maxHeartbeats 4000000 in
theorem pX8_settle {K : XK} {n : Nat} {h : XH} (hP : PW h) (hS : SW h 8) : MV K mX8_settle 5 n [vr 0] h (fun h' => Off SSe h h' ∧ LY h' ∧ h' 255 5 = 0) := by
  refine xMeth FX8_settle (Nat.le_of_ble_eq_true rfl) ?_
  refine x_aload_n 1 (xd DX8_settle rfl) rfl rfl ?_
  refine x_gr 4 _ LX8_42 (xd DX8_settle rfl) rfl rfl ⟨by decide, by decide⟩ (by decide) rfl rfl ?_
  refine x_Vv 7 (pX3_reckon hP hS) FX3_reckon VX3_reckon CX8_90 (xd DX8_settle rfl) rfl rfl rfl ⟨by decide, rfl⟩ ⟨by decide, by decide⟩ (by decide) (Nat.le_of_ble_eq_true rfl) (by decide) rfl ?_
  rintro h1 ⟨o1, l1⟩
  refine x_aload_n 8 (xd DX8_settle rfl) rfl rfl ?_
  refine x_gr 11 _ LX8_60 (xd DX8_settle rfl) rfl rfl ⟨by decide, by decide⟩ (by decide) rfl rfl ?_
  refine x_Vv 14 (pX5_end) FX5_end VX5_end CX8_166 (xd DX8_settle rfl) rfl rfl rfl ⟨by decide, rfl⟩ ⟨by decide, by decide⟩ (by decide) (Nat.le_of_ble_eq_true rfl) (by decide) rfl ?_
  rintro h2 q2
  rw [q2]
  clear q2 h2
  refine x_rv (xd DX8_settle rfl) rfl ?_
  have P1 : PW h1 := hP.off o1 (by unfold SL; omega) (by unfold SL; omega) (by unfold SL; omega) (by unfold SL; omega)
  have S1 : SW h1 8 := by
    obtain ⟨a, b, c, d⟩ := hS
    have e8 : h1 8 = h 8 := o1 8 (by unfold SL; omega)
    refine ⟨by rw [e8]; exact a, by rw [e8]; exact b, by rw [e8]; exact c, fun e he => ?_⟩
    rw [e8] at he
    exact (d e he).off o1 (by unfold SL; omega) (by unfold SL; omega) (by unfold SL; omega)
  exact ⟨(o1.mono (fun x q => Or.inl q)).tr (Off.set (Or.inr rfl)), l1.off (ocell (c := 255)) (fun c q => by omega) P1 S1, hset_s⟩

set_option maxRecDepth 100000 in
set_option maxHeartbeats 4000000 in
theorem pX8_hindranceTo {K : XK} {n : Nat} {h : XH} (i m z : Int) (hP : PW h) (hS : SW h 8) (hL : LY h) (hi : xrg i) (hm : xrg m) (hz : xrg z) : MI K mX8_hindranceTo 2 n [vr 0, vi i, vi m, vi z] h (fun zr h' => zr = hindC h i m z ∧ h' = h) := by
  refine xMeth FX8_hindranceTo (Nat.le_of_ble_eq_true rfl) ?_
  have hP1 := hP.1
  have hS1 := hS.1
  refine x_aload_n 1 (xd DX8_hindranceTo rfl) rfl rfl ?_
  refine x_gr 4 _ LX8_19 (xd DX8_hindranceTo rfl) rfl rfl ⟨by decide, by decide⟩ (by decide) rfl rfl ?_
  refine x_iload_n 5 (xd DX8_hindranceTo rfl) rfl rfl ?_
  refine x_Vi 8 (pX4_has i hi (by omega)) FX4_has VX4_has CX8_108 (xd DX8_hindranceTo rfl) rfl rfl rfl ⟨by decide, rfl⟩ ⟨by decide, by decide⟩ (by decide) (Nat.le_of_ble_eq_true rfl) (by decide) rfl ?_
  rintro z9 h9 ⟨q1, q2⟩
  rw [q1, q2]
  clear q1 q2 z9 h9
  refine x_ifp_eq 11 31 (xd DX8_hindranceTo rfl) rfl rfl (fun c8 => ?_) (fun c8 => ?_)
  · refine x_iconst 32 (xd DX8_hindranceTo rfl) rfl ?_
    refine x_ri (xd DX8_hindranceTo rfl) rfl ?_
    refine ⟨?_, rfl⟩
    unfold hindC
    rw [pik_f (by omega)]
  · refine x_iload_n 12 (xd DX8_hindranceTo rfl) rfl rfl ?_
    refine x_iconst 13 (xd DX8_hindranceTo rfl) rfl ?_
    refine x_icmp_lt 16 31 (xd DX8_hindranceTo rfl) rfl (by omega) (by omega) rfl (fun c13 => ?_) (fun c13 => ?_)
    · refine x_iconst 32 (xd DX8_hindranceTo rfl) rfl ?_
      refine x_ri (xd DX8_hindranceTo rfl) rfl ?_
      refine ⟨?_, rfl⟩
      unfold hindC
      rw [pik_f (by omega)]
    · refine x_iload_n 17 (xd DX8_hindranceTo rfl) rfl rfl ?_
      refine x_iconst 18 (xd DX8_hindranceTo rfl) rfl ?_
      refine x_icmp_gt 21 31 (xd DX8_hindranceTo rfl) rfl (by omega) (by omega) rfl (fun c18 => ?_) (fun c18 => ?_)
      · refine x_iconst 32 (xd DX8_hindranceTo rfl) rfl ?_
        refine x_ri (xd DX8_hindranceTo rfl) rfl ?_
        refine ⟨?_, rfl⟩
        unfold hindC
        rw [pik_f (by omega)]
      · refine x_iload_n 22 (xd DX8_hindranceTo rfl) rfl rfl ?_
        refine x_iconst 23 (xd DX8_hindranceTo rfl) rfl ?_
        refine x_icmp_lt 26 31 (xd DX8_hindranceTo rfl) rfl (by omega) (by omega) rfl (fun c23 => ?_) (fun c23 => ?_)
        · refine x_iconst 32 (xd DX8_hindranceTo rfl) rfl ?_
          refine x_ri (xd DX8_hindranceTo rfl) rfl ?_
          refine ⟨?_, rfl⟩
          unfold hindC
          rw [pik_f (by omega)]
        · refine x_iload_n 27 (xd DX8_hindranceTo rfl) rfl rfl ?_
          refine x_iload_n 28 (xd DX8_hindranceTo rfl) rfl rfl ?_
          refine x_icmp_lt 31 33 (xd DX8_hindranceTo rfl) rfl (by omega) (by omega) rfl (fun c28 => ?_) (fun c28 => ?_)
          · refine x_aload_n 34 (xd DX8_hindranceTo rfl) rfl rfl ?_
            refine x_gr 37 _ LX8_42 (xd DX8_hindranceTo rfl) rfl rfl ⟨by decide, by decide⟩ (by decide) rfl rfl ?_
            refine x_iload_n 38 (xd DX8_hindranceTo rfl) rfl rfl ?_
            refine x_iload_n 39 (xd DX8_hindranceTo rfl) rfl rfl ?_
            refine x_Vi 42 (pX3_isSequence i m hP hi hm hL.hr) FX3_isSequence VX3_isSequence CX8_269 (xd DX8_hindranceTo rfl) rfl rfl rfl ⟨by decide, rfl⟩ ⟨by decide, by decide⟩ (by decide) (Nat.le_of_ble_eq_true rfl) (by decide) rfl ?_
            rintro z9 h9 ⟨q1, q2⟩
            rw [q1, q2]
            clear q1 q2 z9 h9
            rw [show ((0 ≤ i ∧ i < h 4 3) ∧ 2 ≤ m ∧ m ≤ h 193 i) = SqR h i m from rfl]
            refine x_ifp_eq 45 62 (xd DX8_hindranceTo rfl) rfl rfl (fun c42 => ?_) (fun c42 => ?_)
            · have hno : ¬ (SqR h i m ∧ ¬ Alike h i m (if z < 0 then -4 else z)) := fun q => c42 q.1
              
              refine x_bipush 64 (xd DX8_hindranceTo rfl) rfl rfl ?_
              refine x_ri (xd DX8_hindranceTo rfl) rfl ?_
              refine ⟨?_, rfl⟩
              unfold hindC
              rw [pik_t ⟨c8, by omega, by omega, by omega, by omega⟩, pik_f hno]
            · refine x_aload_n 46 (xd DX8_hindranceTo rfl) rfl rfl ?_
              refine x_gr 49 _ LX8_26 (xd DX8_hindranceTo rfl) rfl rfl ⟨by decide, by decide⟩ (by decide) rfl rfl ?_
              refine x_aload_n 50 (xd DX8_hindranceTo rfl) rfl rfl ?_
              refine x_gr 53 _ LX8_19 (xd DX8_hindranceTo rfl) rfl rfl ⟨by decide, by decide⟩ (by decide) rfl rfl ?_
              refine x_iload_n 54 (xd DX8_hindranceTo rfl) rfl rfl ?_
              refine x_iload_n 55 (xd DX8_hindranceTo rfl) rfl rfl ?_
              refine x_iload_n 56 (xd DX8_hindranceTo rfl) rfl rfl ?_
              refine x_Vi 59 (pX6_hasAlike i m z hP hS hi hm hz) FX6_hasAlike VX6_hasAlike CX8_273 (xd DX8_hindranceTo rfl) rfl rfl rfl ⟨by decide, rfl⟩ ⟨by decide, by decide⟩ (by decide) (Nat.le_of_ble_eq_true rfl) (by decide) rfl ?_
              rintro z9 h9 ⟨q1, q2⟩
              rw [q1, q2]
              clear q1 q2 z9 h9
              refine x_ifp_eq 62 65 (xd DX8_hindranceTo rfl) rfl rfl (fun c59 => ?_) (fun c59 => ?_)
              · refine x_aload_n 66 (xd DX8_hindranceTo rfl) rfl rfl ?_
                refine x_gr 69 _ LX8_26 (xd DX8_hindranceTo rfl) rfl rfl ⟨by decide, by decide⟩ (by decide) rfl rfl ?_
                refine x_gi 72 1 rfl LX8_97 (xd DX8_hindranceTo rfl) rfl ⟨Or.inr ⟨rfl, by decide⟩, by decide⟩ rfl ?_
                refine x_bipush 74 (xd DX8_hindranceTo rfl) rfl rfl ?_
                refine x_icmp_ge 77 81 (xd DX8_hindranceTo rfl) rfl (by omega) (by omega) rfl (fun c74 => ?_) (fun c74 => ?_)
                · refine x_bipush 83 (xd DX8_hindranceTo rfl) rfl rfl ?_
                  refine x_ri (xd DX8_hindranceTo rfl) rfl ?_
                  refine ⟨?_, rfl⟩
                  unfold hindC
                  rw [pik_t ⟨c8, by omega, by omega, by omega, by omega⟩, pik_t ⟨c42, c59⟩]
                  first | rw [if_pos c74] | rw [if_neg (by omega)]
                · refine x_iconst 78 (xd DX8_hindranceTo rfl) rfl ?_
                  refine x_goto 83 (xd DX8_hindranceTo rfl) rfl ?_
                  refine x_ri (xd DX8_hindranceTo rfl) rfl ?_
                  refine ⟨?_, rfl⟩
                  unfold hindC
                  rw [pik_t ⟨c8, by omega, by omega, by omega, by omega⟩, pik_t ⟨c42, c59⟩]
                  first | rw [if_pos c74] | rw [if_neg (by omega)]
              · have hno : ¬ (SqR h i m ∧ ¬ Alike h i m (if z < 0 then -4 else z)) := fun q => q.2 c59
                
                refine x_bipush 64 (xd DX8_hindranceTo rfl) rfl rfl ?_
                refine x_ri (xd DX8_hindranceTo rfl) rfl ?_
                refine ⟨?_, rfl⟩
                unfold hindC
                rw [pik_t ⟨c8, by omega, by omega, by omega, by omega⟩, pik_f hno]
          · refine x_iconst 32 (xd DX8_hindranceTo rfl) rfl ?_
            refine x_ri (xd DX8_hindranceTo rfl) rfl ?_
            refine ⟨?_, rfl⟩
            unfold hindC
            rw [pik_f (by omega)]

