/-! Layout: the nibbles laid -/
theorem kOwn_s {k : Int} (q : kSim k) : kOwn k = 2 := by unfold kOwn; exact if_pos q
theorem kOwn_t {k : Int} (q : ¬ kSim k) (q2 : kTgt k) : kOwn k = 4 := by unfold kOwn; rw [if_neg (show ¬ (0 ≤ k ∧ k ≤ 6) from q)]; exact if_pos q2
theorem kOwn_o {k : Int} (q : ¬ kSim k) (q2 : ¬ kTgt k) : kOwn k = 1 := by unfold kOwn; rw [if_neg (show ¬ (0 ≤ k ∧ k ≤ 6) from q)]; exact if_neg q2
theorem kRef_n {k : Int} (q : k < 0) : kRef k = 2 := by unfold kRef; exact if_pos q
theorem kRef_p {k : Int} (q : 0 ≤ k) : kRef k = 3 := by unfold kRef; exact if_neg (by omega)
theorem o253 {h : XH} {k z : Int} : Off (fun c => c = 253) h (hset h 253 k z) := Off.set rfl
/-- the t-th nibble of what begins at instruction i -/
def nib (h : XH) (i : Nat) (t : Int) : Int :=
  if h 249 i < 0 then (if t = 0 then h 5 i else if h 5 i ≤ 6 then h 6 i else if t = 1 then h 251 (h 6 i) / 256 % 16 else if t = 2 then h 251 (h 6 i) / 16 % 16 else h 251 (h 6 i) % 16)
  else if t = 0 then 15 else if t = 1 then h 249 i else h 6 (i + h (10 + 3 * (h 249 i).toNat) 3)
def wid (h : XH) (i : Nat) : Int := if h 249 i < 0 then kOwn (h 5 i) else kRef (h (10 + 3 * (h 249 i).toNat) 3)
def Laid (h h' : XH) (i : Nat) : Prop := Off (fun c => c = 253) h h' ∧ (∀ t, 0 ≤ t → t < wid h i → h' 253 (h 251 i + t) = nib h i t) ∧ ∀ x, (x < h 251 i ∨ h 251 i + wid h i ≤ x) → h' 253 x = h 253 x
set_option maxRecDepth 100000 in
set_option maxHeartbeats 4000000 in
theorem pX3_layReference {K : XK} {n : Nat} {h : XH} (i xe : Nat) (hi : i < 48) (hxe : xe < 8) (ho : h 249 i = (xe : Int)) (ha : 0 ≤ h 251 i) (hb : h 251 i + kRef (h (10 + 3 * xe) 3) ≤ 192) (hh : h (10 + 3 * xe) 3 = -4 ∨ (0 ≤ h (10 + 3 * xe) 3 ∧ i + h (10 + 3 * xe) 3 < 48)) : MV K mX3_layReference 0 n [vr 192, vi (i : Int)] h (fun h' => Laid h h' i) := by
  refine xMeth FX3_layReference (Nat.le_of_ble_eq_true rfl) ?_
  have hkr := kRef_rg (h (10 + 3 * xe) 3)
  have hb3 : 0 ≤ h (10 + 3 * xe) 3 → h 251 i + 3 ≤ 192 := fun q => by rw [kRef_p q] at hb; exact hb
  refine x_aload_n 1 (xd DX3_layReference rfl) rfl rfl ?_
  refine x_gr 4 _ LX3_42 (xd DX3_layReference rfl) rfl rfl ⟨by decide, by decide⟩ (by decide) rfl rfl ?_
  refine x_iload_n 5 (xd DX3_layReference rfl) rfl rfl ?_
  refine x_iaload 6 (xd DX3_layReference rfl) rfl ⟨Or.inr ⟨rfl, by decide⟩, by decide⟩ (by decide) (by omega) (by omega) rfl ?_
  refine x_istore_n 7 (L' := [(0, _), (1, _), (2, _)]) (xd DX3_layReference rfl) (by decide) rfl rfl rfl ?_
  refine x_aload_n 8 (xd DX3_layReference rfl) rfl rfl ?_
  refine x_gr 11 _ LX3_55 (xd DX3_layReference rfl) rfl rfl ⟨by decide, by decide⟩ (by decide) rfl rfl ?_
  refine x_gr 14 _ LX3_125 (xd DX3_layReference rfl) rfl rfl ⟨by decide, by decide⟩ (by decide) rfl rfl ?_
  refine x_aload_n 15 (xd DX3_layReference rfl) rfl rfl ?_
  refine x_gr 18 _ LX3_36 (xd DX3_layReference rfl) rfl rfl ⟨by decide, by decide⟩ (by decide) rfl rfl ?_
  refine x_iload_n 19 (xd DX3_layReference rfl) rfl rfl ?_
  refine x_iaload 20 (xd DX3_layReference rfl) rfl ⟨Or.inr ⟨rfl, by decide⟩, by decide⟩ (by decide) (by omega) (by omega) rfl ?_
  rw [ho]
  refine x_aaload 21 (10 + 3 * xe) (xd DX3_layReference rfl) rfl (by decide) ⟨by decide, by decide⟩ (by decide) rfl (by omega) (xRF_9 ⟨xe, hxe⟩) (by omega) rfl rfl ?_
  refine x_gi 24 3 rfl LX3_133 (xd DX3_layReference rfl) (xEnt_10 ⟨xe, hxe⟩).1 ⟨Or.inr ⟨rfl, by show 10 + 3 * xe < 259; omega⟩, by omega⟩ rfl ?_
  refine x_istore_n 25 (L' := [(0, _), (1, _), (2, _), (3, _)]) (xd DX3_layReference rfl) (by decide) rfl rfl rfl ?_
  refine x_aload_n 26 (xd DX3_layReference rfl) rfl rfl ?_
  refine x_gr 29 _ LX3_48 (xd DX3_layReference rfl) rfl rfl ⟨by decide, by decide⟩ (by decide) rfl rfl ?_
  refine x_iload_n 30 (xd DX3_layReference rfl) rfl rfl ?_
  refine x_bipush 32 (xd DX3_layReference rfl) rfl rfl ?_
  refine x_iastore 33 (xd DX3_layReference rfl) rfl ⟨Or.inr ⟨rfl, by decide⟩, by decide⟩ (by decide) (by omega) (by omega) rfl ?_
  refine x_aload_n 34 (xd DX3_layReference rfl) rfl rfl ?_
  refine x_gr 37 _ LX3_48 (xd DX3_layReference rfl) rfl rfl ⟨by decide, by decide⟩ (by decide) rfl rfl ?_
  refine x_iload_n 38 (xd DX3_layReference rfl) rfl rfl ?_
  refine x_iconst 39 (xd DX3_layReference rfl) rfl ?_
  refine x_iadd 40 (xd DX3_layReference rfl) rfl ?_
  refine x_aload_n 41 (xd DX3_layReference rfl) rfl rfl ?_
  refine x_gr 44 _ LX3_36 (xd DX3_layReference rfl) rfl rfl ⟨by decide, by decide⟩ (by decide) rfl rfl ?_
  refine x_iload_n 45 (xd DX3_layReference rfl) rfl rfl ?_
  refine x_iaload 46 (xd DX3_layReference rfl) rfl ⟨Or.inr ⟨rfl, by decide⟩, by decide⟩ (by decide) (by omega) (by omega) rfl ?_
  rw [hset_c (d := 249) (c := 253) (by decide), ho]
  refine x_iastore 47 (xd DX3_layReference rfl) rfl ⟨Or.inr ⟨rfl, by decide⟩, by decide⟩ (by decide) (by omega) (by omega) rfl ?_
  refine x_iload_n 48 (xd DX3_layReference rfl) rfl rfl ?_
  refine x_if_lt 51 70 (xd DX3_layReference rfl) rfl (by omega) rfl (fun c48 => ?_) (fun c48 => ?_)
  · refine x_rv (xd DX3_layReference rfl) rfl ?_
    refine ⟨?_, ?_, ?_⟩
    · first | exact (o253.tr o253).tr o253 | exact o253.tr o253
    · intro t t0 t1
      unfold wid at t1
      rw [ho, if_neg (by omega), Int.toNat_natCast] at t1
      unfold nib
      rw [ho, if_neg (by omega), Int.toNat_natCast]
      by_cases q0 : t = 0
      · subst q0
        rw [if_pos rfl]
        first | rw [hset_i (by omega), hset_i (by omega), show h 251 i + 0 = h 251 i by omega, hset_s] | rw [hset_i (by omega), show h 251 i + 0 = h 251 i by omega, hset_s]
      · rw [if_neg q0]
        by_cases q1 : t = 1
        · subst q1
          rw [if_pos rfl]
          first | rw [hset_i (by omega), hset_s] | rw [hset_s]
        · rw [if_neg q1]
          first
            | (exfalso; rw [kRef_n c48] at t1; omega)
            | (rw [kRef_p c48] at t1; rw [show t = 2 by omega, hset_s])
    · intro x hx
      unfold wid at hx
      rw [ho, if_neg (by omega), Int.toNat_natCast] at hx
      first | (rw [kRef_n c48] at hx; rw [hset_i (by omega), hset_i (by omega)]) | (rw [kRef_p c48] at hx; rw [hset_i (by omega), hset_i (by omega), hset_i (by omega)])
  · refine x_aload_n 52 (xd DX3_layReference rfl) rfl rfl ?_
    refine x_gr 55 _ LX3_48 (xd DX3_layReference rfl) rfl rfl ⟨by decide, by decide⟩ (by decide) rfl rfl ?_
    refine x_iload_n 56 (xd DX3_layReference rfl) rfl rfl ?_
    refine x_iconst 57 (xd DX3_layReference rfl) rfl ?_
    refine x_iadd 58 (xd DX3_layReference rfl) rfl ?_
    refine x_aload_n 59 (xd DX3_layReference rfl) rfl rfl ?_
    refine x_gr 62 _ LX3_51 (xd DX3_layReference rfl) rfl rfl ⟨by decide, by decide⟩ (by decide) rfl rfl ?_
    refine x_gr 65 _ LX3_150 (xd DX3_layReference rfl) rfl rfl ⟨by decide, by decide⟩ (by decide) rfl rfl ?_
    refine x_iload_n 66 (xd DX3_layReference rfl) rfl rfl ?_
    refine x_iload_n 67 (xd DX3_layReference rfl) rfl rfl ?_
    refine x_iadd 68 (xd DX3_layReference rfl) rfl ?_
    refine x_iaload 69 (xd DX3_layReference rfl) rfl ⟨Or.inr ⟨rfl, by decide⟩, by decide⟩ (by decide) (by omega) (by omega) rfl ?_
    rw [hset_c (d := 6) (c := 253) (by decide), hset_c (d := 6) (c := 253) (by decide)]
    refine x_iastore 70 (xd DX3_layReference rfl) rfl ⟨Or.inr ⟨rfl, by decide⟩, by decide⟩ (by decide) (by omega) (by omega) rfl ?_
    refine x_rv (xd DX3_layReference rfl) rfl ?_
    refine ⟨?_, ?_, ?_⟩
    · first | exact (o253.tr o253).tr o253 | exact o253.tr o253
    · intro t t0 t1
      unfold wid at t1
      rw [ho, if_neg (by omega), Int.toNat_natCast] at t1
      unfold nib
      rw [ho, if_neg (by omega), Int.toNat_natCast]
      by_cases q0 : t = 0
      · subst q0
        rw [if_pos rfl]
        first | rw [hset_i (by omega), hset_i (by omega), show h 251 i + 0 = h 251 i by omega, hset_s] | rw [hset_i (by omega), show h 251 i + 0 = h 251 i by omega, hset_s]
      · rw [if_neg q0]
        by_cases q1 : t = 1
        · subst q1
          rw [if_pos rfl]
          first | rw [hset_i (by omega), hset_s] | rw [hset_s]
        · rw [if_neg q1]
          first
            | (exfalso; rw [kRef_n c48] at t1; omega)
            | (rw [kRef_p c48] at t1; rw [show t = 2 by omega, hset_s])
    · intro x hx
      unfold wid at hx
      rw [ho, if_neg (by omega), Int.toNat_natCast] at hx
      first | (rw [kRef_n c48] at hx; rw [hset_i (by omega), hset_i (by omega)]) | (rw [kRef_p c48] at hx; rw [hset_i (by omega), hset_i (by omega), hset_i (by omega)])

set_option maxRecDepth 100000 in
set_option maxHeartbeats 4000000 in
theorem pX3_layAlone {K : XK} {n : Nat} {h : XH} (i : Nat) (hP : PW h) (hi : (i : Int) < h 4 3) (ho : h 249 i < 0) (ha : 0 ≤ h 251 i) (hb : h 251 i + kOwn (h 5 i) ≤ 192) (hq : ∀ j, 0 ≤ j → j < h 4 3 → xrg (h 251 j)) : MV K mX3_layAlone 1 n [vr 192, vi (i : Int)] h (fun h' => Laid h h' i) := by
  refine xMeth FX3_layAlone (Nat.le_of_ble_eq_true rfl) ?_
  have hP1 := hP.1
  obtain ⟨⟨k1, k2⟩, v1, v2⟩ := hP.v (i := (i : Int)) (by omega) hi
  have hv1 := (hP.2 (i : Int) (by omega) hi).2.1
  have hv2 := (hP.2 (i : Int) (by omega) hi).2.2.1
  have hko : kSim (h 5 i) → h 251 i + 2 ≤ 192 := fun q => by rw [kOwn_s q] at hb; exact hb
  have hkt : ¬ kSim (h 5 i) → kTgt (h 5 i) → h 251 i + 4 ≤ 192 := fun q q2 => by rw [kOwn_t q q2] at hb; exact hb
  have hk1 := kOwn_rg (h 5 i)
  refine x_aload_n 1 (xd DX3_layAlone rfl) rfl rfl ?_
  refine x_gr 4 _ LX3_42 (xd DX3_layAlone rfl) rfl rfl ⟨by decide, by decide⟩ (by decide) rfl rfl ?_
  refine x_iload_n 5 (xd DX3_layAlone rfl) rfl rfl ?_
  refine x_iaload 6 (xd DX3_layAlone rfl) rfl ⟨Or.inr ⟨rfl, by decide⟩, by decide⟩ (by decide) (by omega) (by omega) rfl ?_
  refine x_istore_n 7 (L' := [(0, _), (1, _), (2, _)]) (xd DX3_layAlone rfl) (by decide) rfl rfl rfl ?_
  refine x_aload_n 8 (xd DX3_layAlone rfl) rfl rfl ?_
  refine x_gr 11 _ LX3_51 (xd DX3_layAlone rfl) rfl rfl ⟨by decide, by decide⟩ (by decide) rfl rfl ?_
  refine x_gr 14 _ LX3_88 (xd DX3_layAlone rfl) rfl rfl ⟨by decide, by decide⟩ (by decide) rfl rfl ?_
  refine x_iload_n 15 (xd DX3_layAlone rfl) rfl rfl ?_
  refine x_iaload 16 (xd DX3_layAlone rfl) rfl ⟨Or.inr ⟨rfl, by decide⟩, by decide⟩ (by decide) (by omega) (by omega) rfl ?_
  refine x_istore_n 17 (L' := [(0, _), (1, _), (2, _), (3, _)]) (xd DX3_layAlone rfl) (by decide) rfl rfl rfl ?_
  refine x_aload_n 18 (xd DX3_layAlone rfl) rfl rfl ?_
  refine x_gr 21 _ LX3_48 (xd DX3_layAlone rfl) rfl rfl ⟨by decide, by decide⟩ (by decide) rfl rfl ?_
  refine x_iload_n 22 (xd DX3_layAlone rfl) rfl rfl ?_
  refine x_iload_n 23 (xd DX3_layAlone rfl) rfl rfl ?_
  refine x_iastore 24 (xd DX3_layAlone rfl) rfl ⟨Or.inr ⟨rfl, by decide⟩, by decide⟩ (by decide) (by omega) (by omega) rfl ?_
  refine x_iload_n 25 (xd DX3_layAlone rfl) rfl rfl ?_
  refine x_Si 28 (pX8_isSimple _ (by omega)) FX8_isSimple VX8_isSimple CX3_91 (xd DX3_layAlone rfl) rfl rfl (by decide) (Nat.le_of_ble_eq_true rfl) (by decide) rfl ?_
  rintro z9 h9 ⟨q1, q2⟩
  rw [q1, q2]
  clear q1 q2 z9 h9
  refine x_ifp_eq 31 51 (xd DX3_layAlone rfl) rfl rfl (fun c28 => ?_) (fun c28 => ?_)
  · refine x_iload_n 52 (xd DX3_layAlone rfl) rfl rfl ?_
    refine x_Si 55 (pX8_hasTarget _ (by omega)) FX8_hasTarget VX8_hasTarget CX3_153 (xd DX3_layAlone rfl) rfl rfl (by decide) (Nat.le_of_ble_eq_true rfl) (by decide) rfl ?_
    rintro z9 h9 ⟨q1, q2⟩
    rw [q1, q2]
    clear q1 q2 z9 h9
    refine x_ifp_eq 58 137 (xd DX3_layAlone rfl) rfl rfl (fun c55 => ?_) (fun c55 => ?_)
    · refine x_rv (xd DX3_layAlone rfl) rfl ?_
      refine ⟨?_, ?_, ?_⟩
      · first | exact ((o253.tr o253).tr o253).tr o253 | exact o253.tr o253 | exact o253
      · intro t t0 t1
        unfold wid at t1
        rw [if_pos ho] at t1
        unfold nib
        rw [if_pos ho]
        by_cases q0 : t = 0
        · subst q0
          rw [if_pos rfl, show h 251 i + 0 = h 251 i by omega]
          (repeat rw [hset_i (by omega)])
          rw [hset_s]
        · rw [if_neg q0]
          first
            | (rw [kOwn_s c28] at t1; rw [if_pos c28.2]; rw [show t = 1 by omega, hset_s])
            | (rw [kOwn_t c28 c55] at t1
               rw [if_neg (fun z => c28 ⟨by omega, z⟩)]
               by_cases q1 : t = 1
               · subst q1; rw [if_pos rfl, hset_i (by omega), hset_i (by omega), hset_s]; rfl
               · rw [if_neg q1]
                 by_cases q2 : t = 2
                 · subst q2; rw [if_pos rfl, hset_i (by omega), hset_s]; rfl
                 · rw [if_neg q2, show t = 3 by omega, hset_s])
            | (exfalso; rw [kOwn_o c28 c55] at t1; omega)
      · intro x hx
        unfold wid at hx
        rw [if_pos ho] at hx
        first
          | (rw [kOwn_s c28] at hx; rw [hset_i (by omega), hset_i (by omega)])
          | (rw [kOwn_t c28 c55] at hx; rw [hset_i (by omega), hset_i (by omega), hset_i (by omega), hset_i (by omega)])
          | (rw [kOwn_o c28 c55] at hx; rw [hset_i (by omega)])
    · have hk4 := hkt c28 c55
      refine x_aload_n 59 (xd DX3_layAlone rfl) rfl rfl ?_
      refine x_gr 62 _ LX3_51 (xd DX3_layAlone rfl) rfl rfl ⟨by decide, by decide⟩ (by decide) rfl rfl ?_
      refine x_aload_n 63 (xd DX3_layAlone rfl) rfl rfl ?_
      refine x_gr 66 _ LX3_51 (xd DX3_layAlone rfl) rfl rfl ⟨by decide, by decide⟩ (by decide) rfl rfl ?_
      refine x_gr 69 _ LX3_150 (xd DX3_layAlone rfl) rfl rfl ⟨by decide, by decide⟩ (by decide) rfl rfl ?_
      refine x_iload_n 70 (xd DX3_layAlone rfl) rfl rfl ?_
      refine x_iaload 71 (xd DX3_layAlone rfl) rfl ⟨Or.inr ⟨rfl, by decide⟩, by decide⟩ (by decide) (by omega) (by omega) rfl ?_
      rw [hset_c (d := 6) (c := 253) (by decide)]
      refine x_Vi 74 (pX4_has (h 6 i) (by omega) (by rw [hset_c (d := 4) (c := 253) (by decide)]; omega)) FX4_has VX4_has CX3_104 (xd DX3_layAlone rfl) rfl rfl rfl ⟨by decide, rfl⟩ ⟨by decide, by decide⟩ (by decide) (Nat.le_of_ble_eq_true rfl) (by decide) rfl ?_
      rintro z9 h9 ⟨q1, q2⟩
      rw [q1, q2]
      clear q1 q2 z9 h9
      rw [hset_c (d := 4) (c := 253) (by decide)]
      refine x_ifp_eq 77 137 (xd DX3_layAlone rfl) rfl rfl (fun c74 => ?_) (fun c74 => ?_)
      · exact absurd (hv2 c55.1 c55.2) c74
      · refine x_aload_n 78 (xd DX3_layAlone rfl) rfl rfl ?_
        refine x_gr 81 _ LX3_42 (xd DX3_layAlone rfl) rfl rfl ⟨by decide, by decide⟩ (by decide) rfl rfl ?_
        refine x_aload_n 82 (xd DX3_layAlone rfl) rfl rfl ?_
        refine x_gr 85 _ LX3_51 (xd DX3_layAlone rfl) rfl rfl ⟨by decide, by decide⟩ (by decide) rfl rfl ?_
        refine x_gr 88 _ LX3_150 (xd DX3_layAlone rfl) rfl rfl ⟨by decide, by decide⟩ (by decide) rfl rfl ?_
        refine x_iload_n 89 (xd DX3_layAlone rfl) rfl rfl ?_
        refine x_iaload 90 (xd DX3_layAlone rfl) rfl ⟨Or.inr ⟨rfl, by decide⟩, by decide⟩ (by decide) (by omega) (by omega) rfl ?_
        (try rw [hset_c (d := 6) (c := 253) (by decide)])
        refine x_iaload 91 (xd DX3_layAlone rfl) rfl ⟨Or.inr ⟨rfl, by decide⟩, by decide⟩ (by decide) (by omega) (by omega) rfl ?_
        rw [hset_c (d := 251) (c := 253) (by decide)]
        (try rw [hset_c (d := 6) (c := 253) (by decide)])
        refine x_istore 93 (L' := [(0, _), (1, _), (2, _), (3, _), (4, _)]) (xd DX3_layAlone rfl) (by decide) rfl rfl rfl ?_
        refine x_aload_n 94 (xd DX3_layAlone rfl) rfl rfl ?_
        refine x_gr 97 _ LX3_48 (xd DX3_layAlone rfl) rfl rfl ⟨by decide, by decide⟩ (by decide) rfl rfl ?_
        refine x_iload_n 98 (xd DX3_layAlone rfl) rfl rfl ?_
        refine x_iconst 99 (xd DX3_layAlone rfl) rfl ?_
        refine x_iadd 100 (xd DX3_layAlone rfl) rfl ?_
        refine x_iload 102 (xd DX3_layAlone rfl) rfl rfl ?_
        refine x_bipush 104 (xd DX3_layAlone rfl) rfl rfl ?_
        refine x_ishr 105 (k := 8) (by first | omega | exact hq _ (by omega) (by omega)) (by omega) (xd DX3_layAlone rfl) rfl ?_
        refine x_bipush 107 (xd DX3_layAlone rfl) rfl rfl ?_
        refine x_iand15 108 (xd DX3_layAlone rfl) rfl ?_
        refine x_iastore 109 (xd DX3_layAlone rfl) rfl ⟨Or.inr ⟨rfl, by decide⟩, by decide⟩ (by decide) (by omega) (by omega) rfl ?_
        refine x_aload_n 110 (xd DX3_layAlone rfl) rfl rfl ?_
        refine x_gr 113 _ LX3_48 (xd DX3_layAlone rfl) rfl rfl ⟨by decide, by decide⟩ (by decide) rfl rfl ?_
        refine x_iload_n 114 (xd DX3_layAlone rfl) rfl rfl ?_
        refine x_iconst 115 (xd DX3_layAlone rfl) rfl ?_
        refine x_iadd 116 (xd DX3_layAlone rfl) rfl ?_
        refine x_iload 118 (xd DX3_layAlone rfl) rfl rfl ?_
        refine x_iconst 119 (xd DX3_layAlone rfl) rfl ?_
        refine x_ishr 120 (k := 4) (by first | omega | exact hq _ (by omega) (by omega)) (by omega) (xd DX3_layAlone rfl) rfl ?_
        refine x_bipush 122 (xd DX3_layAlone rfl) rfl rfl ?_
        refine x_iand15 123 (xd DX3_layAlone rfl) rfl ?_
        refine x_iastore 124 (xd DX3_layAlone rfl) rfl ⟨Or.inr ⟨rfl, by decide⟩, by decide⟩ (by decide) (by omega) (by omega) rfl ?_
        refine x_aload_n 125 (xd DX3_layAlone rfl) rfl rfl ?_
        refine x_gr 128 _ LX3_48 (xd DX3_layAlone rfl) rfl rfl ⟨by decide, by decide⟩ (by decide) rfl rfl ?_
        refine x_iload_n 129 (xd DX3_layAlone rfl) rfl rfl ?_
        refine x_iconst 130 (xd DX3_layAlone rfl) rfl ?_
        refine x_iadd 131 (xd DX3_layAlone rfl) rfl ?_
        refine x_iload 133 (xd DX3_layAlone rfl) rfl rfl ?_
        refine x_bipush 135 (xd DX3_layAlone rfl) rfl rfl ?_
        refine x_iand15 136 (xd DX3_layAlone rfl) rfl ?_
        refine x_iastore 137 (xd DX3_layAlone rfl) rfl ⟨Or.inr ⟨rfl, by decide⟩, by decide⟩ (by decide) (by omega) (by omega) rfl ?_
        refine x_rv (xd DX3_layAlone rfl) rfl ?_
        refine ⟨?_, ?_, ?_⟩
        · first | exact ((o253.tr o253).tr o253).tr o253 | exact o253.tr o253 | exact o253
        · intro t t0 t1
          unfold wid at t1
          rw [if_pos ho] at t1
          unfold nib
          rw [if_pos ho]
          by_cases q0 : t = 0
          · subst q0
            rw [if_pos rfl, show h 251 i + 0 = h 251 i by omega]
            (repeat rw [hset_i (by omega)])
            rw [hset_s]
          · rw [if_neg q0]
            first
              | (rw [kOwn_s c28] at t1; rw [if_pos c28.2]; rw [show t = 1 by omega, hset_s])
              | (rw [kOwn_t c28 c55] at t1
                 rw [if_neg (fun z => c28 ⟨by omega, z⟩)]
                 by_cases q1 : t = 1
                 · subst q1; rw [if_pos rfl, hset_i (by omega), hset_i (by omega), hset_s]; rfl
                 · rw [if_neg q1]
                   by_cases q2 : t = 2
                   · subst q2; rw [if_pos rfl, hset_i (by omega), hset_s]; rfl
                   · rw [if_neg q2, show t = 3 by omega, hset_s])
              | (exfalso; rw [kOwn_o c28 c55] at t1; omega)
        · intro x hx
          unfold wid at hx
          rw [if_pos ho] at hx
          first
            | (rw [kOwn_s c28] at hx; rw [hset_i (by omega), hset_i (by omega)])
            | (rw [kOwn_t c28 c55] at hx; rw [hset_i (by omega), hset_i (by omega), hset_i (by omega), hset_i (by omega)])
            | (rw [kOwn_o c28 c55] at hx; rw [hset_i (by omega)])
  · have hk2 := hko c28
    refine x_aload_n 32 (xd DX3_layAlone rfl) rfl rfl ?_
    refine x_gr 35 _ LX3_48 (xd DX3_layAlone rfl) rfl rfl ⟨by decide, by decide⟩ (by decide) rfl rfl ?_
    refine x_iload_n 36 (xd DX3_layAlone rfl) rfl rfl ?_
    refine x_iconst 37 (xd DX3_layAlone rfl) rfl ?_
    refine x_iadd 38 (xd DX3_layAlone rfl) rfl ?_
    refine x_aload_n 39 (xd DX3_layAlone rfl) rfl rfl ?_
    refine x_gr 42 _ LX3_51 (xd DX3_layAlone rfl) rfl rfl ⟨by decide, by decide⟩ (by decide) rfl rfl ?_
    refine x_gr 45 _ LX3_150 (xd DX3_layAlone rfl) rfl rfl ⟨by decide, by decide⟩ (by decide) rfl rfl ?_
    refine x_iload_n 46 (xd DX3_layAlone rfl) rfl rfl ?_
    refine x_iaload 47 (xd DX3_layAlone rfl) rfl ⟨Or.inr ⟨rfl, by decide⟩, by decide⟩ (by decide) (by omega) (by omega) rfl ?_
    rw [hset_c (d := 6) (c := 253) (by decide)]
    refine x_iastore 48 (xd DX3_layAlone rfl) rfl ⟨Or.inr ⟨rfl, by decide⟩, by decide⟩ (by decide) (by omega) (by omega) rfl ?_
    refine x_goto 137 (xd DX3_layAlone rfl) rfl ?_
    refine x_rv (xd DX3_layAlone rfl) rfl ?_
    refine ⟨?_, ?_, ?_⟩
    · first | exact ((o253.tr o253).tr o253).tr o253 | exact o253.tr o253 | exact o253
    · intro t t0 t1
      unfold wid at t1
      rw [if_pos ho] at t1
      unfold nib
      rw [if_pos ho]
      by_cases q0 : t = 0
      · subst q0
        rw [if_pos rfl, show h 251 i + 0 = h 251 i by omega]
        (repeat rw [hset_i (by omega)])
        rw [hset_s]
      · rw [if_neg q0]
        first
          | (rw [kOwn_s c28] at t1; rw [if_pos c28.2]; rw [show t = 1 by omega, hset_s])
          | (rw [kOwn_t c28 c55] at t1
             rw [if_neg (fun z => c28 ⟨by omega, z⟩)]
             by_cases q1 : t = 1
             · subst q1; rw [if_pos rfl, hset_i (by omega), hset_i (by omega), hset_s]; rfl
             · rw [if_neg q1]
               by_cases q2 : t = 2
               · subst q2; rw [if_pos rfl, hset_i (by omega), hset_s]; rfl
               · rw [if_neg q2, show t = 3 by omega, hset_s])
          | (exfalso; rw [kOwn_o c28 c55] at t1; omega)
    · intro x hx
      unfold wid at hx
      rw [if_pos ho] at hx
      first
        | (rw [kOwn_s c28] at hx; rw [hset_i (by omega), hset_i (by omega)])
        | (rw [kOwn_t c28 c55] at hx; rw [hset_i (by omega), hset_i (by omega), hset_i (by omega), hset_i (by omega)])
        | (rw [kOwn_o c28 c55] at hx; rw [hset_i (by omega)])

