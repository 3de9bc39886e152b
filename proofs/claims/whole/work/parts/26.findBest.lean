/-! Layout.findBest -/
theorem EW.off {S : Nat → Prop} {h xg : XH} {c : Nat} (hO : Off S h xg) (hc : ¬ S c) (hc1 : ¬ S (c + 1)) (hc2 : ¬ S (c + 2)) (hw : EW h c) : EW xg c := by
  unfold EW
  rw [hO c hc, hO (c + 1) hc1, hO (c + 2) hc2]
  exact hw
theorem FBAt.zero {h xg : XH} {i : Nat} (hi : i < 48) (hO : Off SFB h xg) (hz : ∀ p, 2 ≤ p → p ≤ 4 → xg (195 + i) p = 0) : FBAt h (hset (hset xg 243 i (kOwn (xg 5 i) + xg 243 (i + 1))) 244 i (-4)) i 0 := by
  have e5 : xg 5 = h 5 := hO 5 (by unfold SFB; omega)
  refine ⟨?_, ?_, fun p a b => ?_⟩
  · unfold bst
    rw [hset_c (by decide), hset_s, hset_i (by omega), e5]
  · unfold bst
    rw [hset_s]
  · unfold shr
    rw [Int.toNat_natCast, hset_c (by omega), hset_c (by omega)]
    exact hz p a b
set_option maxRecDepth 100000 in
set_option maxHeartbeats 4000000 in
theorem pX3_findBest {K : XK} {n : Nat} {h : XH} (hP : PW h) (hS : SW h 8) (hr : ∀ j, 0 ≤ j → j < h 4 3 → 0 ≤ h 193 j ∧ h 193 j ≤ 4) : MV K mX3_findBest 3 n [vr 192] h (fun h' => Off SFB h h' ∧ h' 243 (h 4 3) = 0 ∧ FBEq h h' 0 ∧ ∀ j, 0 ≤ j → j ≤ h 4 3 → 0 ≤ h' 243 j ∧ h' 243 j ≤ 4 * (h 4 3 - j)) := by
  refine xMeth FX3_findBest (Nat.le_of_ble_eq_true rfl) ?_
  have hP1 := hP.1
  have hW : ∀ x : Nat, (x : Int) < h 8 1 → EW h (10 + 3 * x) := fun x q => hS.2.2.2 x q
  have hE : ∀ x : Nat, (x : Int) < h 8 1 → 2 ≤ h (10 + 3 * x) 2 := fun x q => (hW x q).1.1
  have hS1 := hS.1
  have loop : ∀ (m : Nat) (xi : Int) (xg : XH), -1 ≤ xi → xi < h 4 3 → xi + 1 < (m : Int) → Off SFB h xg → xg 243 (h 4 3) = 0 → FBEq h xg (xi + 1) → (∀ j, xi < j → j ≤ h 4 3 → 0 ≤ xg 243 j ∧ xg 243 j ≤ 4 * (h 4 3 - j)) → WI K mX3_findBest 3 n (qV n fun h' => Off SFB h h' ∧ h' 243 (h 4 3) = 0 ∧ FBEq h h' 0 ∧ ∀ j, 0 ≤ j → j ≤ h 4 3 → 0 ≤ h' 243 j ∧ h' 243 j ≤ 4 * (h 4 3 - j)) 23 [(0, vr 192), (1, vi xi)] [] xg := by
    intro m
    induction m with
    | zero => intro xi xg a b c; exact absurd c (by omega)
    | succ m ih =>
      intro xi xg h0 h1 hm hO hz hq hb
      refine x_iload_n 24 (xd DX3_findBest rfl) rfl rfl ?_
      refine x_if_lt 27 115 (xd DX3_findBest rfl) rfl (by omega) rfl (fun c24 => ?_) (fun c24 => ?_)
      · refine x_rv (xd DX3_findBest rfl) rfl ?_
        exact ⟨hO, hz, by rw [show (0 : Int) = xi + 1 by omega]; exact hq, fun j a b => hb j (by omega) b⟩
      · obtain ⟨xj, rfl⟩ := Int.eq_ofNat_of_zero_le c24
        have hj : xj < 48 := by omega
        have loop2 : ∀ (m2 : Nat) (xe : Nat) (xg : XH), (xe : Int) ≤ h 8 1 → h 8 1 - xe < (m2 : Int) → Off SFB h xg → xg 243 (h 4 3) = 0 → FBAt h xg (xj : Int) xe → FBEq h xg ((xj : Int) + 1) → (∀ j, (xj : Int) < j → j ≤ h 4 3 → 0 ≤ xg 243 j ∧ xg 243 j ≤ 4 * (h 4 3 - j)) → WI K mX3_findBest 3 n (qV n fun h' => Off SFB h h' ∧ h' 243 (h 4 3) = 0 ∧ FBEq h h' 0 ∧ ∀ j, 0 ≤ j → j ≤ h 4 3 → 0 ≤ h' 243 j ∧ h' 243 j ≤ 4 * (h 4 3 - j)) 86 [(0, vr 192), (1, vi (xj : Int)), (2, vi (xe : Int))] [] xg := by
          intro m2
          induction m2 with
          | zero => intro xe xg a b; exact absurd b (by omega)
          | succ m2 ih2 =>
            intro xe xg h2 hm2 hO hz hA hq hb
            have e4 : xg 4 3 = h 4 3 := by rw [hO 4 (by unfold SFB; omega)]
            have e8 : xg 8 1 = h 8 1 := by rw [hO 8 (by unfold SFB; omega)]
            have hPg : PW xg := hP.off hO (by unfold SFB; omega) (by unfold SFB; omega) (by unfold SFB; omega) (by unfold SFB; omega)
            refine x_iload_n 87 (xd DX3_findBest rfl) rfl rfl ?_
            refine x_aload_n 88 (xd DX3_findBest rfl) rfl rfl ?_
            refine x_gr 91 _ LX3_55 (xd DX3_findBest rfl) rfl rfl ⟨by decide, by decide⟩ (by decide) rfl rfl ?_
            refine x_gi 94 1 rfl LX3_118 (xd DX3_findBest rfl) rfl ⟨Or.inr ⟨rfl, by decide⟩, by decide⟩ rfl ?_
            refine x_icmp_ge 97 109 (xd DX3_findBest rfl) rfl (by omega) (by omega) rfl (fun c94 => ?_) (fun c94 => ?_)
            · refine x_iinc 112 (L' := [(0, _), (1, _), (2, _)]) (xd DX3_findBest rfl) rfl (by decide) rfl rfl rfl ?_
              refine x_goto 23 (xd DX3_findBest rfl) rfl ?_
              refine WX.locals (L' := [(0, _), (1, _)]) (fun q hq => List.mem_append_left _ hq) ?_
              exact ih _ _ (by omega) (by omega) (by omega) hO hz (fun j a b => by
                by_cases q : j = (xj : Int)
                · subst q
                  rw [show (h 8 1).toNat = xe by omega]
                  exact hA
                · exact hq j (by omega) b) (fun j a b => by
                by_cases q : j = (xj : Int)
                · subst q
                  rw [hA.1]
                  have q2 := bst_rg (h := h) (fw := xg 243) (i := (xj : Int)) (B := 4 * (h 4 3 - xj) - 4) (by omega) (by omega) (fun x a b => by have := hb x a b; omega) xe (fun x q => (hW x (by omega)).1.1)
                  omega
                · exact hb j (by omega) b)
            · refine x_aload_n 98 (xd DX3_findBest rfl) rfl rfl ?_
              refine x_iload_n 99 (xd DX3_findBest rfl) rfl rfl ?_
              refine x_iload_n 100 (xd DX3_findBest rfl) rfl rfl ?_
              refine x_Vv 103 (pX3_offer xj xe hj (by omega) (EW.off hO (by unfold SFB; omega) (by unfold SFB; omega) (by unfold SFB; omega) (hW xe (by omega))) hPg (by rw [hO 193 (by unfold SFB; omega)]; have := hr (xj : Int) (by omega) (by omega); omega) (fun p a b => by have q1 := hA.2.2 p a b; rw [Int.toNat_natCast] at q1; rw [q1]; have q2 := shr_rg (h := h) (i := (xj : Int)) (p := p) xe; omega) (fun j a b => by
                rw [e4] at b
                by_cases q : j = (xj : Int)
                · subst q; rw [hA.1]; have q2 := bst_rg (h := h) (fw := xg 243) (i := (xj : Int)) (B := 4 * (h 4 3 - xj)) (by omega) (by omega) (fun x a b => by have := hb x a b; omega) xe (fun x q => (hW x (by omega)).1.1); omega
                · have := hb j (by omega) b; omega)) FX3_offer VX3_offer CX3_121 (xd DX3_findBest rfl) rfl rfl rfl ⟨by decide, rfl⟩ ⟨by decide, by decide⟩ (by decide) (Nat.le_of_ble_eq_true rfl) (by decide) rfl ?_
              rintro h9 q2
              rw [q2]
              clear q2 h9
              refine x_iinc 106 (L' := [(0, _), (1, _), (2, _)]) (xd DX3_findBest rfl) rfl (by decide) rfl rfl rfl ?_
              refine x_goto 86 (xd DX3_findBest rfl) rfl ?_
              obtain ⟨s1, s2, s3, s4, s5⟩ := FBAt.step (e := xe) hj hO (fun x q => (hW x (by omega)).1) (by omega) hA
              exact ih2 (xe + 1) _ (by omega) (by omega) s2 (by rw [s3 _ (by omega)]; exact hz) s1 (FBEq.keep (by omega) hE hq s3 s4 (fun j a b => s5 j (by omega) (by omega))) (fun j a b => by rw [s3 j a]; exact hb j a b)
        have loop1 : ∀ (m1 : Nat) (xp1 : Int) (xg : XH), 2 ≤ xp1 → xp1 ≤ 5 → 5 - xp1 < (m1 : Int) → Off SFB h xg → xg 243 (h 4 3) = 0 → (∀ p, 2 ≤ p → p < xp1 → xg (195 + xj) p = 0) → FBEq h xg ((xj : Int) + 1) → (∀ j, (xj : Int) < j → j ≤ h 4 3 → 0 ≤ xg 243 j ∧ xg 243 j ≤ 4 * (h 4 3 - j)) → WI K mX3_findBest 3 n (qV n fun h' => Off SFB h h' ∧ h' 243 (h 4 3) = 0 ∧ FBEq h h' 0 ∧ ∀ j, 0 ≤ j → j ≤ h 4 3 → 0 ≤ h' 243 j ∧ h' 243 j ≤ 4 * (h 4 3 - j)) 29 [(0, vr 192), (1, vi (xj : Int)), (2, vi xp1)] [] xg := by
          intro m1
          induction m1 with
          | zero => intro xp1 xg a b c; exact absurd c (by omega)
          | succ m1 ih1 =>
            intro xp1 xg h2 h3 hm1 hO hz hzz hq hb
            have e4 : xg 4 3 = h 4 3 := by rw [hO 4 (by unfold SFB; omega)]
            have hPg : PW xg := hP.off hO (by unfold SFB; omega) (by unfold SFB; omega) (by unfold SFB; omega) (by unfold SFB; omega)
            refine x_iload_n 30 (xd DX3_findBest rfl) rfl rfl ?_
            refine x_iconst 31 (xd DX3_findBest rfl) rfl ?_
            refine x_icmp_gt 34 49 (xd DX3_findBest rfl) rfl (by omega) (by omega) rfl (fun c31 => ?_) (fun c31 => ?_)
            · refine x_aload_n 50 (xd DX3_findBest rfl) rfl rfl ?_
              refine x_gr 53 _ LX3_20 (xd DX3_findBest rfl) rfl rfl ⟨by decide, by decide⟩ (by decide) rfl rfl ?_
              refine x_iload_n 54 (xd DX3_findBest rfl) rfl rfl ?_
              refine x_aload_n 55 (xd DX3_findBest rfl) rfl rfl ?_
              refine x_gr 58 _ LX3_51 (xd DX3_findBest rfl) rfl rfl ⟨by decide, by decide⟩ (by decide) rfl rfl ?_
              refine x_gr 61 _ LX3_88 (xd DX3_findBest rfl) rfl rfl ⟨by decide, by decide⟩ (by decide) rfl rfl ?_
              refine x_iload_n 62 (xd DX3_findBest rfl) rfl rfl ?_
              refine x_iaload 63 (xd DX3_findBest rfl) rfl ⟨Or.inr ⟨rfl, by decide⟩, by decide⟩ (by decide) (by omega) (by omega) rfl ?_
              refine x_Si 66 (pX8_nibblesOf _ (by have := hPg.v (i := (xj : Int)) (by omega) (by omega); omega)) FX8_nibblesOf VX8_nibblesOf CX3_115 (xd DX3_findBest rfl) rfl rfl (by decide) (Nat.le_of_ble_eq_true rfl) (by decide) rfl ?_
              rintro z9 h9 ⟨q1, q2⟩
              rw [q1, q2]
              clear q1 q2 z9 h9
              refine x_aload_n 67 (xd DX3_findBest rfl) rfl rfl ?_
              refine x_gr 70 _ LX3_20 (xd DX3_findBest rfl) rfl rfl ⟨by decide, by decide⟩ (by decide) rfl rfl ?_
              refine x_iload_n 71 (xd DX3_findBest rfl) rfl rfl ?_
              refine x_iconst 72 (xd DX3_findBest rfl) rfl ?_
              refine x_iadd 73 (xd DX3_findBest rfl) rfl ?_
              refine x_iaload 74 (xd DX3_findBest rfl) rfl ⟨Or.inr ⟨rfl, by decide⟩, by decide⟩ (by decide) (by omega) (by omega) rfl ?_
              refine x_iadd 75 (xd DX3_findBest rfl) rfl ?_
              refine x_iastore 76 (xd DX3_findBest rfl) rfl ⟨Or.inr ⟨rfl, by decide⟩, by decide⟩ (by decide) (by omega) (by omega) rfl ?_
              refine x_aload_n 77 (xd DX3_findBest rfl) rfl rfl ?_
              refine x_gr 80 _ LX3_23 (xd DX3_findBest rfl) rfl rfl ⟨by decide, by decide⟩ (by decide) rfl rfl ?_
              refine x_iload_n 81 (xd DX3_findBest rfl) rfl rfl ?_
              refine x_bipush 83 (xd DX3_findBest rfl) rfl rfl ?_
              refine x_iastore 84 (xd DX3_findBest rfl) rfl ⟨Or.inr ⟨rfl, by decide⟩, by decide⟩ (by decide) (by omega) (by omega) rfl ?_
              refine x_iconst 85 (xd DX3_findBest rfl) rfl ?_
              refine x_istore_n 86 (L' := [(0, _), (1, _), (2, _)]) (xd DX3_findBest rfl) (by decide) rfl rfl rfl ?_
              exact loop2 100 0 _ (by omega) (by omega) ((hO.tr (Off.set (by unfold SFB; omega))).tr (Off.set (by unfold SFB; omega))) (by rw [hset_c (by decide), hset_i (by omega)]; exact hz) (FBAt.zero hj hO (fun p a b => hzz p a (by omega))) (FBEq.keep (by omega) hE hq (fun j a => by rw [hset_c (by decide), hset_i (by omega)]) (fun j a => by rw [hset_i (by omega), hset_c (by decide)]) (fun j a b => by rw [hset_c (by omega), hset_c (by omega)])) (fun j a b => by rw [hset_c (by decide), hset_i (by omega)]; exact hb j a b)
            · refine x_aload_n 35 (xd DX3_findBest rfl) rfl rfl ?_
              refine x_gr 38 _ LX3_17 (xd DX3_findBest rfl) rfl rfl ⟨by decide, by decide⟩ (by decide) rfl rfl ?_
              refine x_iload_n 39 (xd DX3_findBest rfl) rfl rfl ?_
              refine x_aaload 40 (195 + xj) (xd DX3_findBest rfl) rfl (by decide) ⟨by decide, by decide⟩ (by decide) rfl (by omega) (xRF_194 ⟨xj, hj⟩) (by omega) rfl rfl ?_
              refine x_iload_n 41 (xd DX3_findBest rfl) rfl rfl ?_
              refine x_iconst 42 (xd DX3_findBest rfl) rfl ?_
              refine x_iastore 43 (xd DX3_findBest rfl) (xTY_row ⟨xj, hj⟩) ⟨Or.inr ⟨rfl, by show 195 + xj < 259; omega⟩, by omega⟩ (by decide) (by omega) (by omega) rfl ?_
              refine x_iinc 46 (L' := [(0, _), (1, _), (2, _)]) (xd DX3_findBest rfl) rfl (by decide) rfl rfl rfl ?_
              refine x_goto 29 (xd DX3_findBest rfl) rfl ?_
              exact ih1 (xp1 + 1) _ (by omega) (by omega) (by omega) (hO.tr (Off.set (by unfold SFB; omega))) (by rw [hset_c (by omega)]; exact hz) (fun p a b => by
                by_cases q : p = xp1
                · subst q; exact hset_s
                · rw [hset_i q]; exact hzz p a (by omega)) (FBEq.keep (by omega) hE hq (fun j a => by rw [hset_c (by omega)]) (fun j a => by rw [hset_c (by omega)]) (fun j a b => by rw [hset_c (by omega)])) (fun j a b => by rw [hset_c (by omega)]; exact hb j a b)
        refine x_iconst 28 (xd DX3_findBest rfl) rfl ?_
        refine x_istore_n 29 (L' := [(0, _), (1, _), (2, _)]) (xd DX3_findBest rfl) (by decide) rfl rfl rfl ?_
        exact loop1 100 2 xg (by omega) (by omega) (by omega) hO hz (fun p a b => absurd b (by omega)) hq hb
  refine x_aload_n 1 (xd DX3_findBest rfl) rfl rfl ?_
  refine x_gr 4 _ LX3_20 (xd DX3_findBest rfl) rfl rfl ⟨by decide, by decide⟩ (by decide) rfl rfl ?_
  refine x_aload_n 5 (xd DX3_findBest rfl) rfl rfl ?_
  refine x_gr 8 _ LX3_51 (xd DX3_findBest rfl) rfl rfl ⟨by decide, by decide⟩ (by decide) rfl rfl ?_
  refine x_gi 11 3 rfl LX3_68 (xd DX3_findBest rfl) rfl ⟨Or.inr ⟨rfl, by decide⟩, by decide⟩ rfl ?_
  refine x_iconst 12 (xd DX3_findBest rfl) rfl ?_
  refine x_iastore 13 (xd DX3_findBest rfl) rfl ⟨Or.inr ⟨rfl, by decide⟩, by decide⟩ (by decide) (by omega) (by omega) rfl ?_
  refine x_aload_n 14 (xd DX3_findBest rfl) rfl rfl ?_
  refine x_gr 17 _ LX3_51 (xd DX3_findBest rfl) rfl rfl ⟨by decide, by decide⟩ (by decide) rfl rfl ?_
  refine x_gi 20 3 rfl LX3_68 (xd DX3_findBest rfl) rfl ⟨Or.inr ⟨rfl, by decide⟩, by decide⟩ rfl ?_
  refine x_iconst 21 (xd DX3_findBest rfl) rfl ?_
  refine x_isub 22 (xd DX3_findBest rfl) rfl ?_
  refine x_istore_n 23 (L' := [(0, _), (1, _)]) (xd DX3_findBest rfl) (by decide) rfl rfl rfl ?_
  have z4 : hset h 243 (h 4 3) 0 4 = h 4 := hset_c (by decide)
  rw [z4]
  exact loop 100 _ _ (by omega) (by omega) (by omega) (Off.set (by unfold SFB; omega)) hset_s (fun j a b => absurd b (by omega)) (fun j a b => by rw [show j = h 4 3 by omega, hset_s]; omega)

