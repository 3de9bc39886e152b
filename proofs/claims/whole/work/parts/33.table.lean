/-! Setup: the table; History -/
noncomputable def Alike (h : XH) (i m z : Int) : Prop := ∃ e : Nat, (e : Int) < h 8 1 ∧ h (10 + 3 * e) 2 = m ∧ h (10 + 3 * e) 3 = z ∧ Fits h (10 + 3 * e) i
def tbN (h : XH) : Nat → Int
  | 0 => 0
  | e + 1 => tbN h e + (1 + 2 * h (10 + 3 * e) 2)
def ST (x : Nat) : Prop := 8 ≤ x ∧ x < 34
theorem SW.ew {h : XH} (hS : SW h 8) {e : Nat} (he : (e : Int) < h 8 1) : EW h (10 + 3 * e) := by
  have := hS.2.2.2 e he
  rwa [show 8 + 2 + 3 * e = 10 + 3 * e by omega] at this
set_option maxRecDepth 100000 in
set_option maxHeartbeats 4000000 in
theorem pX6_has {K : XK} {n : Nat} {h : XH} (e : Int) (he : xrg e) (hE : xrg (h 8 1)) : MI K mX6_has 0 n [vr 8, vi e] h (fun z h' => z = xp (0 ≤ e ∧ e < h 8 1) ∧ h' = h) := by
  refine xMeth FX6_has (Nat.le_of_ble_eq_true rfl) ?_
  refine x_iload_n 1 (xd DX6_has rfl) rfl rfl ?_
  refine x_if_lt 4 16 (xd DX6_has rfl) rfl (by omega) rfl (fun c1 => ?_) (fun c1 => ?_)
  · refine x_iconst 17 (xd DX6_has rfl) rfl ?_
    refine x_rz (xd DX6_has rfl) rfl (by omega) ?_
    first | exact ⟨xp_t (by omega), rfl⟩ | exact ⟨xp_f (by omega), rfl⟩
  · refine x_iload_n 5 (xd DX6_has rfl) rfl rfl ?_
    refine x_aload_n 6 (xd DX6_has rfl) rfl rfl ?_
    refine x_gi 9 1 rfl LX6_25 (xd DX6_has rfl) rfl ⟨Or.inr ⟨rfl, by decide⟩, by decide⟩ rfl ?_
    refine x_icmp_ge 12 16 (xd DX6_has rfl) rfl (by omega) (by omega) rfl (fun c9 => ?_) (fun c9 => ?_)
    · refine x_iconst 17 (xd DX6_has rfl) rfl ?_
      refine x_rz (xd DX6_has rfl) rfl (by omega) ?_
      first | exact ⟨xp_t (by omega), rfl⟩ | exact ⟨xp_f (by omega), rfl⟩
    · refine x_iconst 13 (xd DX6_has rfl) rfl ?_
      refine x_goto 17 (xd DX6_has rfl) rfl ?_
      refine x_rz (xd DX6_has rfl) rfl (by omega) ?_
      first | exact ⟨xp_t (by omega), rfl⟩ | exact ⟨xp_f (by omega), rfl⟩

set_option maxRecDepth 100000 in
set_option maxHeartbeats 4000000 in
theorem pX6_tableNibbles {K : XK} {n : Nat} {h : XH} (hE : 0 ≤ h 8 1 ∧ h 8 1 ≤ 8) : MI K mX6_tableNibbles 1 n [vr 8] h (fun z h' => z = tbN h (h 8 1).toNat ∧ h' = h) := by
  refine xMeth FX6_tableNibbles (Nat.le_of_ble_eq_true rfl) ?_
  have loop : ∀ (m : Nat) (xe : Nat) (xz : Int), (xe : Int) ≤ h 8 1 → h 8 1 - xe < (m : Int) → xz = tbN h xe → WI K mX6_tableNibbles 1 n (qI n fun z h' => z = tbN h (h 8 1).toNat ∧ h' = h) 4 [(0, vr 8), (1, vi xz), (2, vi (xe : Int))] [] h := by
    intro m
    induction m with
    | zero => intro xe xz a b; exact absurd b (by omega)
    | succ m ih =>
      intro xe xz h0 hm hz
      refine x_iload_n 5 (xd DX6_tableNibbles rfl) rfl rfl ?_
      refine x_aload_n 6 (xd DX6_tableNibbles rfl) rfl rfl ?_
      refine x_gi 9 1 rfl LX6_25 (xd DX6_tableNibbles rfl) rfl ⟨Or.inr ⟨rfl, by decide⟩, by decide⟩ rfl ?_
      refine x_icmp_ge 12 33 (xd DX6_tableNibbles rfl) rfl (by omega) (by omega) rfl (fun c9 => ?_) (fun c9 => ?_)
      · refine x_iload_n 34 (xd DX6_tableNibbles rfl) rfl rfl ?_
        refine x_ri (xd DX6_tableNibbles rfl) rfl ?_
        refine ⟨?_, rfl⟩
        rw [hz, show (h 8 1).toNat = xe by omega]
      · refine x_iload_n 13 (xd DX6_tableNibbles rfl) rfl rfl ?_
        refine x_aload_n 14 (xd DX6_tableNibbles rfl) rfl rfl ?_
        refine x_gr 17 _ LX6_11 (xd DX6_tableNibbles rfl) rfl rfl ⟨by decide, by decide⟩ (by decide) rfl rfl ?_
        refine x_iload_n 18 (xd DX6_tableNibbles rfl) rfl rfl ?_
        refine x_aaload 19 (10 + 3 * xe) (xd DX6_tableNibbles rfl) rfl (by decide) ⟨by decide, by decide⟩ (by decide) rfl (by omega) (xRF_9 ⟨xe, by omega⟩) (by omega) rfl rfl ?_
        refine x_gi 22 2 rfl LX6_36 (xd DX6_tableNibbles rfl) (xEnt_10 ⟨xe, by omega⟩).1 ⟨Or.inr ⟨rfl, by show 10 + 3 * xe < 259; omega⟩, by omega⟩ rfl ?_
        refine x_Si 25 (pX8_entryNibbles _) FX8_entryNibbles VX8_entryNibbles CX6_46 (xd DX6_tableNibbles rfl) rfl rfl (by decide) (Nat.le_of_ble_eq_true rfl) (by decide) rfl ?_
        rintro z9 h9 ⟨q1, q2⟩
        rw [q1, q2]
        clear q1 q2 z9 h9
        refine x_iadd 26 (xd DX6_tableNibbles rfl) rfl ?_
        refine x_istore_n 27 (L' := [(0, _), (1, _), (2, _)]) (xd DX6_tableNibbles rfl) (by decide) rfl rfl rfl ?_
        refine x_iinc 30 (L' := [(0, _), (1, _), (2, _)]) (xd DX6_tableNibbles rfl) rfl (by decide) rfl rfl rfl ?_
        refine x_goto 4 (xd DX6_tableNibbles rfl) rfl ?_
        exact ih (xe + 1) _ (by omega) (by omega) (by rw [hz]; rfl)
  refine x_iconst 1 (xd DX6_tableNibbles rfl) rfl ?_
  refine x_istore_n 2 (L' := [(0, _), (1, _)]) (xd DX6_tableNibbles rfl) (by decide) rfl rfl rfl ?_
  refine x_iconst 3 (xd DX6_tableNibbles rfl) rfl ?_
  refine x_istore_n 4 (L' := [(0, _), (1, _), (2, _)]) (xd DX6_tableNibbles rfl) (by decide) rfl rfl rfl ?_
  exact loop 100 0 0 (by omega) (by omega) rfl

set_option maxRecDepth 100000 in
set_option maxHeartbeats 4000000 in
theorem pX6_hasAlike {K : XK} {n : Nat} {h : XH} (i m z : Int) (hP : PW h) (hS : SW h 8) (hi : xrg i) (hm : xrg m) (hz : xrg z) : MI K mX6_hasAlike 1 n [vr 8, vr 4, vi i, vi m, vi z] h (fun z1 h' => z1 = xp (Alike h i m (if z < 0 then -4 else z)) ∧ h' = h) := by
  refine xMeth FX6_hasAlike (Nat.le_of_ble_eq_true rfl) ?_
  have hS1 := hS.1
  have loop : ∀ zz : Int, zz = (if z < 0 then -4 else z) → xrg zz → ∀ (m1 : Nat) (xe : Nat), (xe : Int) ≤ h 8 1 → h 8 1 - xe < (m1 : Int) → (∀ e : Nat, e < xe → ¬ (h (10 + 3 * e) 2 = m ∧ h (10 + 3 * e) 3 = zz ∧ Fits h (10 + 3 * e) i)) → WI K mX6_hasAlike 1 n (qI n fun z1 h' => z1 = xp (Alike h i m (if z < 0 then -4 else z)) ∧ h' = h) 17 [(0, vr 8), (1, vr 4), (2, vi i), (3, vi m), (4, vi z), (5, vi zz), (6, vi (xe : Int))] [] h := by
    intro zz hzz hzr m1
    rw [← hzz]
    induction m1 with
    | zero => intro xe a b; exact absurd b (by omega)
    | succ m1 ih =>
      intro xe h0 hm1 hn
      refine x_iload 19 (xd DX6_hasAlike rfl) rfl rfl ?_
      refine x_aload_n 20 (xd DX6_hasAlike rfl) rfl rfl ?_
      refine x_gi 23 1 rfl LX6_25 (xd DX6_hasAlike rfl) rfl ⟨Or.inr ⟨rfl, by decide⟩, by decide⟩ rfl ?_
      refine x_icmp_ge 26 72 (xd DX6_hasAlike rfl) rfl (by omega) (by omega) rfl (fun c23 => ?_) (fun c23 => ?_)
      · refine x_iconst 73 (xd DX6_hasAlike rfl) rfl ?_
        refine x_rz (xd DX6_hasAlike rfl) rfl (by omega) ?_
        first | exact ⟨xp_t ⟨xe, by omega, c41, c51, c61⟩, rfl⟩ | exact ⟨xp_f (fun ⟨e, a, b⟩ => hn e (by omega) b), rfl⟩
      · refine x_aload_n 27 (xd DX6_hasAlike rfl) rfl rfl ?_
        refine x_gr 30 _ LX6_11 (xd DX6_hasAlike rfl) rfl rfl ⟨by decide, by decide⟩ (by decide) rfl rfl ?_
        refine x_iload 32 (xd DX6_hasAlike rfl) rfl rfl ?_
        refine x_aaload 33 (10 + 3 * xe) (xd DX6_hasAlike rfl) rfl (by decide) ⟨by decide, by decide⟩ (by decide) rfl (by omega) (xRF_9 ⟨xe, by omega⟩) (by omega) rfl rfl ?_
        refine x_astore 35 (L' := [(0, _), (1, _), (2, _), (3, _), (4, _), (5, _), (6, _), (7, _)]) (xd DX6_hasAlike rfl) (by decide) rfl rfl rfl ?_
        refine x_aload 37 (xd DX6_hasAlike rfl) rfl rfl ?_
        refine x_gi 40 2 rfl LX6_36 (xd DX6_hasAlike rfl) (xEnt_10 ⟨xe, by omega⟩).1 ⟨Or.inr ⟨rfl, by show 10 + 3 * xe < 259; omega⟩, by omega⟩ rfl ?_
        refine x_iload_n 41 (xd DX6_hasAlike rfl) rfl rfl ?_
        refine x_icmp_ne 44 66 (xd DX6_hasAlike rfl) rfl (by have := (hS.ew (e := xe) (by omega)).1; omega) (by have := (hS.ew (e := xe) (by omega)).1; omega) rfl (fun c41 => ?_) (fun c41 => ?_)
        · refine x_iinc 69 (L' := [(0, _), (1, _), (2, _), (3, _), (4, _), (5, _), (6, _), (7, _)]) (xd DX6_hasAlike rfl) rfl (by decide) rfl rfl rfl ?_
          refine x_goto 17 (xd DX6_hasAlike rfl) rfl ?_
          refine WX.locals (L' := [(0, _), (1, _), (2, _), (3, _), (4, _), (5, _), (6, _)]) (fun q hq => List.mem_append_left _ hq) ?_
          refine ih (xe + 1) (by omega) (by omega) (fun e q => ?_)
          by_cases z1 : e = xe
          · subst z1
            first | exact fun q => c41 q.1 | exact fun q => c51 q.2.1 | exact fun q => c61 q.2.2
          · exact hn e (by omega)
        · refine x_aload 46 (xd DX6_hasAlike rfl) rfl rfl ?_
          refine x_gi 49 3 rfl LX6_39 (xd DX6_hasAlike rfl) (xEnt_10 ⟨xe, by omega⟩).1 ⟨Or.inr ⟨rfl, by show 10 + 3 * xe < 259; omega⟩, by omega⟩ rfl ?_
          refine x_iload 51 (xd DX6_hasAlike rfl) rfl rfl ?_
          refine x_icmp_ne 54 66 (xd DX6_hasAlike rfl) rfl (by have := (hS.ew (e := xe) (by omega)).1; have := (hS.ew (e := xe) (by omega)).2.1; omega) (by have := (hS.ew (e := xe) (by omega)).1; have := (hS.ew (e := xe) (by omega)).2.1; omega) rfl (fun c51 => ?_) (fun c51 => ?_)
          · refine x_iinc 69 (L' := [(0, _), (1, _), (2, _), (3, _), (4, _), (5, _), (6, _), (7, _)]) (xd DX6_hasAlike rfl) rfl (by decide) rfl rfl rfl ?_
            refine x_goto 17 (xd DX6_hasAlike rfl) rfl ?_
            refine WX.locals (L' := [(0, _), (1, _), (2, _), (3, _), (4, _), (5, _), (6, _)]) (fun q hq => List.mem_append_left _ hq) ?_
            refine ih (xe + 1) (by omega) (by omega) (fun e q => ?_)
            by_cases z1 : e = xe
            · subst z1
              first | exact fun q => c41 q.1 | exact fun q => c51 q.2.1 | exact fun q => c61 q.2.2
            · exact hn e (by omega)
          · refine x_aload 56 (xd DX6_hasAlike rfl) rfl rfl ?_
            refine x_aload_n 57 (xd DX6_hasAlike rfl) rfl rfl ?_
            refine x_iload_n 58 (xd DX6_hasAlike rfl) rfl rfl ?_
            refine x_Vi 61 (pX1_fits (10 + 3 * xe) i (xEnt_10 ⟨xe, by omega⟩) (hS.ew (by omega)) hP (by omega)) FX1_fits VX1_fits CX6_42 (xd DX6_hasAlike rfl) rfl rfl (xEnt_10 ⟨xe, by omega⟩).1 ⟨by decide, rfl⟩ ⟨by show 10 + 3 * xe < 259; omega, by omega⟩ (by decide) (Nat.le_of_ble_eq_true rfl) (by decide) rfl ?_
            rintro z9 h9 ⟨q1, q2⟩
            rw [q1, q2]
            clear q1 q2 z9 h9
            refine x_ifp_eq 64 66 (xd DX6_hasAlike rfl) rfl rfl (fun c61 => ?_) (fun c61 => ?_)
            · refine x_iinc 69 (L' := [(0, _), (1, _), (2, _), (3, _), (4, _), (5, _), (6, _), (7, _)]) (xd DX6_hasAlike rfl) rfl (by decide) rfl rfl rfl ?_
              refine x_goto 17 (xd DX6_hasAlike rfl) rfl ?_
              refine WX.locals (L' := [(0, _), (1, _), (2, _), (3, _), (4, _), (5, _), (6, _)]) (fun q hq => List.mem_append_left _ hq) ?_
              refine ih (xe + 1) (by omega) (by omega) (fun e q => ?_)
              by_cases z1 : e = xe
              · subst z1
                first | exact fun q => c41 q.1 | exact fun q => c51 q.2.1 | exact fun q => c61 q.2.2
              · exact hn e (by omega)
            · refine x_iconst 65 (xd DX6_hasAlike rfl) rfl ?_
              refine x_rz (xd DX6_hasAlike rfl) rfl (by omega) ?_
              first | exact ⟨xp_t ⟨xe, by omega, c41, c51, c61⟩, rfl⟩ | exact ⟨xp_f (fun ⟨e, a, b⟩ => hn e (by omega) b), rfl⟩
  refine x_iload 2 (xd DX6_hasAlike rfl) rfl rfl ?_
  refine x_if_ge 5 10 (xd DX6_hasAlike rfl) rfl (by omega) rfl (fun c2 => ?_) (fun c2 => ?_)
  · refine x_iload 12 (xd DX6_hasAlike rfl) rfl rfl ?_
    refine x_istore 14 (L' := [(0, _), (1, _), (2, _), (3, _), (4, _), (5, _)]) (xd DX6_hasAlike rfl) (by decide) rfl rfl rfl ?_
    refine x_iconst 15 (xd DX6_hasAlike rfl) rfl ?_
    refine x_istore 17 (L' := [(0, _), (1, _), (2, _), (3, _), (4, _), (5, _), (6, _)]) (xd DX6_hasAlike rfl) (by decide) rfl rfl rfl ?_
    first | exact loop (-4) (by rw [if_pos (by omega)]) (by omega) 100 0 (by omega) (by omega) (fun e q => absurd q (by omega)) | exact loop z (by rw [if_neg (by omega)]) (by omega) 100 0 (by omega) (by omega) (fun e q => absurd q (by omega))
  · refine x_bipush 7 (xd DX6_hasAlike rfl) rfl rfl ?_
    refine x_goto 12 (xd DX6_hasAlike rfl) rfl ?_
    refine x_istore 14 (L' := [(0, _), (1, _), (2, _), (3, _), (4, _), (5, _)]) (xd DX6_hasAlike rfl) (by decide) rfl rfl rfl ?_
    refine x_iconst 15 (xd DX6_hasAlike rfl) rfl ?_
    refine x_istore 17 (L' := [(0, _), (1, _), (2, _), (3, _), (4, _), (5, _), (6, _)]) (xd DX6_hasAlike rfl) (by decide) rfl rfl rfl ?_
    first | exact loop (-4) (by rw [if_pos (by omega)]) (by omega) 100 0 (by omega) (by omega) (fun e q => absurd q (by omega)) | exact loop z (by rw [if_neg (by omega)]) (by omega) 100 0 (by omega) (by omega) (fun e q => absurd q (by omega))

set_option maxRecDepth 100000 in
set_option maxHeartbeats 4000000 in
theorem pX6_append {K : XK} {n : Nat} {h : XH} (i m z : Int) (hE : 0 ≤ h 8 1 ∧ h 8 1 < 8) (hi : 0 ≤ i) (hm : 2 ≤ m ∧ m ≤ 4) (him : i + m ≤ 48) (hz : xrg z) : MV K mX6_append 1 n [vr 8, vr 4, vi i, vi m, vi z] h (fun h' => Off ST h h' ∧ h' 8 1 = h 8 1 + 1 ∧ h' 8 2 = h 8 2 ∧ h' 8 3 = h 8 3 ∧ (∀ e : Nat, (e : Int) < h 8 1 → EEq h' (10 + 3 * e) h (10 + 3 * e)) ∧ Took h' (10 + 3 * (h 8 1).toNat) h i m z) := by
  refine xMeth FX6_append (Nat.le_of_ble_eq_true rfl) ?_
  obtain ⟨xe, he⟩ := Int.eq_ofNat_of_zero_le hE.1
  refine x_aload_n 1 (xd DX6_append rfl) rfl rfl ?_
  refine x_gi 4 1 rfl LX6_25 (xd DX6_append rfl) rfl ⟨Or.inr ⟨rfl, by decide⟩, by decide⟩ rfl ?_
  refine x_bipush 6 (xd DX6_append rfl) rfl rfl ?_
  refine x_icmp_ge 9 36 (xd DX6_append rfl) rfl (by omega) (by omega) rfl (fun c6 => absurd c6 (by omega)) (fun _ => ?_)
  refine x_aload_n 10 (xd DX6_append rfl) rfl rfl ?_
  refine x_gr 13 _ LX6_11 (xd DX6_append rfl) rfl rfl ⟨by decide, by decide⟩ (by decide) rfl rfl ?_
  refine x_aload_n 14 (xd DX6_append rfl) rfl rfl ?_
  refine x_gi 17 1 rfl LX6_25 (xd DX6_append rfl) rfl ⟨Or.inr ⟨rfl, by decide⟩, by decide⟩ rfl ?_
  refine x_aaload 18 (10 + 3 * xe) (xd DX6_append rfl) rfl (by decide) ⟨by decide, by decide⟩ (by decide) he (by omega) (xRF_9 ⟨xe, by omega⟩) (by omega) rfl rfl ?_
  refine x_aload_n 19 (xd DX6_append rfl) rfl rfl ?_
  refine x_iload_n 20 (xd DX6_append rfl) rfl rfl ?_
  refine x_iload_n 21 (xd DX6_append rfl) rfl rfl ?_
  refine x_iload 23 (xd DX6_append rfl) rfl rfl ?_
  refine x_Vv 26 (pX1_take (10 + 3 * xe) i m z (xEnt_10 ⟨xe, by omega⟩) (by omega) hi hm him hz) FX1_take VX1_take CX6_32 (xd DX6_append rfl) rfl rfl (xEnt_10 ⟨xe, by omega⟩).1 ⟨by decide, rfl⟩ ⟨by show 10 + 3 * xe < 259; omega, by omega⟩ (by decide) (Nat.le_of_ble_eq_true rfl) (by decide) rfl ?_
  rintro xq ⟨oq, tk⟩
  refine x_aload_n 27 (xd DX6_append rfl) rfl rfl ?_
  refine x_dupr 28 (xd DX6_append rfl) rfl ?_
  refine x_gi 31 1 rfl LX6_25 (xd DX6_append rfl) rfl ⟨Or.inr ⟨rfl, by decide⟩, by decide⟩ rfl ?_
  refine x_iconst 32 (xd DX6_append rfl) rfl ?_
  refine x_iadd 33 (xd DX6_append rfl) rfl ?_
  refine x_pi 36 1 rfl LX6_25 (xd DX6_append rfl) rfl rfl ⟨Or.inr ⟨rfl, by decide⟩, by decide⟩ rfl ?_
  refine x_rv (xd DX6_append rfl) rfl ?_
  have e8 : xq 8 = h 8 := oq 8 (by unfold S3; omega)
  rw [e8]
  refine ⟨(oq.mono (fun x q => by unfold S3 at q; unfold ST; omega)).tr (Off.set (by unfold ST; omega)), by rw [hset_s], by rw [hset_i (by decide), e8], by rw [hset_i (by decide), e8], fun e q => ?_, ?_⟩
  · exact (EEq.off (ocell (c := 8)) (by omega) (by omega) (by omega)).tr (EEq.off oq (by unfold S3; omega) (by unfold S3; omega) (by unfold S3; omega))
  · have : (h 8 1).toNat = xe := by omega
    rw [this]
    unfold Took
    rw [hset_c (by omega), hset_c (by omega), hset_c (by omega)]
    exact tk

set_option maxRecDepth 100000 in
set_option maxHeartbeats 4000000 in
theorem pX6_remove {K : XK} {n : Nat} {h : XH} (e : Nat) (hE : h 8 1 ≤ 8) (he : (e : Int) < h 8 1) : MV K mX6_remove 1 n [vr 8, vi (e : Int)] h (fun h' => Off ST h h' ∧ h' 8 1 = h 8 1 - 1 ∧ h' 8 2 = h 8 2 ∧ h' 8 3 = h 8 3 ∧ ∀ x : Nat, (x : Int) < h 8 1 - 1 → EEq h' (10 + 3 * x) h (10 + 3 * (if x < e then x else x + 1))) := by
  refine xMeth FX6_remove (Nat.le_of_ble_eq_true rfl) ?_
  have loop : ∀ (m1 : Nat) (xk : Nat) (xg : XH), e ≤ xk → (xk : Int) ≤ h 8 1 - 1 → h 8 1 - xk < (m1 : Int) → Off ST h xg → xg 8 1 = h 8 1 - 1 → xg 8 2 = h 8 2 → xg 8 3 = h 8 3 → (∀ x : Nat, x < xk → EEq xg (10 + 3 * x) h (10 + 3 * (if x < e then x else x + 1))) → (∀ x : Nat, xk ≤ x → (x : Int) < h 8 1 → EEq xg (10 + 3 * x) h (10 + 3 * x)) → WI K mX6_remove 1 n (qV n fun h' => Off ST h h' ∧ h' 8 1 = h 8 1 - 1 ∧ h' 8 2 = h 8 2 ∧ h' 8 3 = h 8 3 ∧ ∀ x : Nat, (x : Int) < h 8 1 - 1 → EEq h' (10 + 3 * x) h (10 + 3 * (if x < e then x else x + 1))) 12 [(0, vr 8), (1, vi (e : Int)), (2, vi (xk : Int))] [] xg := by
    intro m1
    induction m1 with
    | zero => intro xk xg a a2 b; exact absurd b (by omega)
    | succ m1 ih =>
      intro xk xg h00 h0 hm1 hO e1 e2 e3 hk hr
      refine x_iload_n 13 (xd DX6_remove rfl) rfl rfl ?_
      refine x_aload_n 14 (xd DX6_remove rfl) rfl rfl ?_
      refine x_gi 17 1 rfl LX6_25 (xd DX6_remove rfl) rfl ⟨Or.inr ⟨rfl, by decide⟩, by decide⟩ rfl ?_
      refine x_icmp_ge 20 43 (xd DX6_remove rfl) rfl (by omega) (by omega) rfl (fun c17 => ?_) (fun c17 => ?_)
      · refine x_rv (xd DX6_remove rfl) rfl ?_
        exact ⟨hO, e1, e2, e3, fun x q => by first | exact hk x (by omega)⟩
      · refine x_aload_n 21 (xd DX6_remove rfl) rfl rfl ?_
        refine x_gr 24 _ LX6_11 (xd DX6_remove rfl) rfl rfl ⟨by decide, by decide⟩ (by decide) rfl rfl ?_
        refine x_iload_n 25 (xd DX6_remove rfl) rfl rfl ?_
        refine x_aaload 26 (10 + 3 * xk) (xd DX6_remove rfl) rfl (by decide) ⟨by decide, by decide⟩ (by decide) rfl (by omega) (xRF_9 ⟨xk, by omega⟩) (by omega) rfl rfl ?_
        refine x_aload_n 27 (xd DX6_remove rfl) rfl rfl ?_
        refine x_gr 30 _ LX6_11 (xd DX6_remove rfl) rfl rfl ⟨by decide, by decide⟩ (by decide) rfl rfl ?_
        refine x_iload_n 31 (xd DX6_remove rfl) rfl rfl ?_
        refine x_iconst 32 (xd DX6_remove rfl) rfl ?_
        refine x_iadd 33 (xd DX6_remove rfl) rfl ?_
        refine x_aaload 34 (10 + 3 * (xk + 1)) (xd DX6_remove rfl) rfl (by decide) ⟨by decide, by decide⟩ (by decide) (show (xk : Int) + 1 = ((xk + 1 : Nat) : Int) from rfl) (by omega) (xRF_9 ⟨xk + 1, by omega⟩) (by omega) rfl rfl ?_
        refine x_Vv 37 (pX1_copy (10 + 3 * xk) (10 + 3 * (xk + 1)) (xEnt_10 ⟨xk, by omega⟩) (xEnt_10 ⟨xk + 1, by omega⟩) (by omega)) FX1_copy VX1_copy CX6_28 (xd DX6_remove rfl) rfl rfl (xEnt_10 ⟨xk, by omega⟩).1 ⟨by decide, rfl⟩ ⟨by show 10 + 3 * xk < 259; omega, by omega⟩ (by decide) (Nat.le_of_ble_eq_true rfl) (by decide) rfl ?_
        rintro xq ⟨oq, eq⟩
        refine x_iinc 40 (L' := [(0, _), (1, _), (2, _)]) (xd DX6_remove rfl) rfl (by decide) rfl rfl rfl ?_
        refine x_goto 12 (xd DX6_remove rfl) rfl ?_
        refine ih (xk + 1) _ (by omega) (by omega) (by omega) (hO.tr (oq.mono (fun x q => by unfold S3 at q; unfold ST; omega))) (by rw [oq 8 (by unfold S3; omega)]; exact e1) (by rw [oq 8 (by unfold S3; omega)]; exact e2) (by rw [oq 8 (by unfold S3; omega)]; exact e3) (fun x q => ?_) (fun x q q2 => ?_)
        · by_cases z : x = xk
          · subst z
            rw [if_neg (by omega)]
            exact eq.tr (hr (x + 1) (by omega) (by omega))
          · exact (EEq.off oq (by unfold S3; omega) (by unfold S3; omega) (by unfold S3; omega)).tr (hk x (by omega))
        · exact (EEq.off oq (by unfold S3; omega) (by unfold S3; omega) (by unfold S3; omega)).tr (hr x (by omega) q2)
  refine x_aload_n 1 (xd DX6_remove rfl) rfl rfl ?_
  refine x_dupr 2 (xd DX6_remove rfl) rfl ?_
  refine x_gi 5 1 rfl LX6_25 (xd DX6_remove rfl) rfl ⟨Or.inr ⟨rfl, by decide⟩, by decide⟩ rfl ?_
  refine x_iconst 6 (xd DX6_remove rfl) rfl ?_
  refine x_isub 7 (xd DX6_remove rfl) rfl ?_
  refine x_pi 10 1 rfl LX6_25 (xd DX6_remove rfl) rfl rfl ⟨Or.inr ⟨rfl, by decide⟩, by decide⟩ rfl ?_
  refine x_iload_n 11 (xd DX6_remove rfl) rfl rfl ?_
  refine x_istore_n 12 (L' := [(0, _), (1, _), (2, _)]) (xd DX6_remove rfl) (by decide) rfl rfl rfl ?_
  exact loop 100 e _ (by omega) (by omega) (by omega) (Off.set (by unfold ST; omega)) (by rw [hset_s]) (by rw [hset_i (by decide)]) (by rw [hset_i (by decide)]) (fun x q => by rw [if_pos (by omega)]; exact EEq.off (ocell (c := 8)) (by omega) (by omega) (by omega)) (fun x q q2 => EEq.off (ocell (c := 8)) (by omega) (by omega) (by omega))

