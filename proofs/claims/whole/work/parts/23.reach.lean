/-! Layout: the row of reaches-/
theorem PW.off {S : Nat → Prop} {h g : XH} (hP : PW h) (hO : Off S h g) (h4 : ¬ S 4) (h5 : ¬ S 5) (h6 : ¬ S 6) (h7 : ¬ S 7) : PW g := by
  unfold PW
  rw [hO 4 h4, hO 5 h5, hO 6 h6, hO 7 h7]
  exact hP
theorem Lead.off {S : Nat → Prop} {h xg : XH} {k : Nat} {i : Int} (hO : Off S h xg) (h4 : ¬ S 4) (h5 : ¬ S 5) (h7 : ¬ S 7) : Lead xg k i ↔ Lead h k i := by
  unfold Lead
  rw [hO 4 h4, hO 5 h5, hO 7 h7]
theorem RchEq.step {h g : XH} {k : Nat} {i z : Int} (hr : RchEq h k (g 193) (i + 1)) (hz : z = rchF h k (g 193) i) : RchEq h k (hset g 193 i z 193) i := by
  intro j h1 h2
  by_cases e : j = i
  · subst e
    rw [hset_s, hz]
    unfold rchF
    rw [hset_i (by omega)]
  · rw [hset_i e, hr j (by omega) h2]
    unfold rchF
    rw [hset_i (by omega)]
set_option maxRecDepth 100000 in
set_option maxHeartbeats 4000000 in
theorem pX3_measureReaches {K : XK} {n : Nat} {h : XH} (k : Nat) (hP : PW h) (hk : h 192 15 = (k : Int)) (hk2 : k < 32) : MV K mX3_measureReaches 2 n [vr 192] h (fun h' => Off (fun c => c = 193) h h' ∧ RchEq h k (h' 193) 0 ∧ ∀ j, 0 ≤ j → j < h 4 3 → 0 ≤ h' 193 j ∧ h' 193 j ≤ 4) := by
  refine xMeth FX3_measureReaches (Nat.le_of_ble_eq_true rfl) ?_
  have hP1 := hP.1
  have loop : ∀ (m : Nat) (i : Int) (xg : XH), -1 ≤ i → i < h 4 3 → i + 1 < (m : Int) → Off (fun c => c = 193) h xg → RchEq h k (xg 193) (i + 1) → (∀ j, i < j → j < h 4 3 → 0 ≤ xg 193 j ∧ xg 193 j ≤ 4) → WI K mX3_measureReaches 2 n (qV n fun h' => Off (fun c => c = 193) h h' ∧ RchEq h k (h' 193) 0 ∧ ∀ j, 0 ≤ j → j < h 4 3 → 0 ≤ h' 193 j ∧ h' 193 j ≤ 4) 10 [(0, vr 192), (1, vi i)] [] xg := by
    intro m
    induction m with
    | zero =>
      intro i xg h0 h1 hm
      exact absurd hm (by omega)
    | succ m ih =>
      intro i xg h0 h1 hm hO hr hb
      have e4 : xg 4 3 = h 4 3 := by rw [hO 4 (by decide)]
      have e5 : xg 5 i = h 5 i := by rw [hO 5 (by decide)]
      have hPg : PW xg := hP.off hO (by decide) (by decide) (by decide) (by decide)
      refine x_iload_n 11 (xd DX3_measureReaches rfl) rfl rfl ?_
      refine x_if_lt 14 83 (xd DX3_measureReaches rfl) rfl (by omega) rfl (fun c11 => ?_) (fun c11 => ?_)
      · refine x_rv (xd DX3_measureReaches rfl) rfl ?_
        exact ⟨hO, (by rw [show (0 : Int) = i + 1 by omega]; exact hr), fun j a b => hb j (by omega) b⟩
      · refine x_aload_n 15 (xd DX3_measureReaches rfl) rfl rfl ?_
        refine x_gr 18 _ LX3_51 (xd DX3_measureReaches rfl) rfl rfl ⟨by decide, by decide⟩ (by decide) rfl rfl ?_
        refine x_gr 21 _ LX3_88 (xd DX3_measureReaches rfl) rfl rfl ⟨by decide, by decide⟩ (by decide) rfl rfl ?_
        refine x_iload_n 22 (xd DX3_measureReaches rfl) rfl rfl ?_
        refine x_iaload 23 (xd DX3_measureReaches rfl) rfl ⟨Or.inr ⟨rfl, by decide⟩, by decide⟩ (by decide) (by omega) (by omega) rfl ?_
        refine x_Si 26 (pX8_isSimple _ (by have := hPg.v (i := i) c11 (by omega); omega)) FX8_isSimple VX8_isSimple CX3_91 (xd DX3_measureReaches rfl) rfl rfl (by decide) (Nat.le_of_ble_eq_true rfl) (by decide) rfl ?_
        rintro z9 h9 ⟨q1, q2⟩
        rw [q1, q2]
        clear q1 q2 z9 h9
        refine x_ifp_ne 29 39 (xd DX3_measureReaches rfl) rfl rfl (fun c26 => ?_) (fun c26 => ?_)
        · refine x_aload_n 40 (xd DX3_measureReaches rfl) rfl rfl ?_
          refine x_iload_n 41 (xd DX3_measureReaches rfl) rfl rfl ?_
          refine x_Vi 44 (pX3_leadsOn i k hPg (by omega) (by rw [hO 192 (by decide)]; exact hk) hk2) FX3_leadsOn VX3_leadsOn CX3_95 (xd DX3_measureReaches rfl) rfl rfl rfl ⟨by decide, rfl⟩ ⟨by decide, by decide⟩ (by decide) (Nat.le_of_ble_eq_true rfl) (by decide) rfl ?_
          rw [show Lead xg k i = Lead h k i from propext (Lead.off hO (by decide) (by decide) (by decide))]
          rintro z9 h9 ⟨q1, q2⟩
          rw [q1, q2]
          clear q1 q2 z9 h9
          refine x_ifp_eq 47 70 (xd DX3_measureReaches rfl) rfl rfl (fun c44 => ?_) (fun c44 => ?_)
          · refine x_aload_n 71 (xd DX3_measureReaches rfl) rfl rfl ?_
            refine x_gr 74 _ LX3_9 (xd DX3_measureReaches rfl) rfl rfl ⟨by decide, by decide⟩ (by decide) rfl rfl ?_
            refine x_iload_n 75 (xd DX3_measureReaches rfl) rfl rfl ?_
            refine x_iconst 76 (xd DX3_measureReaches rfl) rfl ?_
            refine x_iastore 77 (xd DX3_measureReaches rfl) rfl ⟨Or.inr ⟨rfl, by decide⟩, by decide⟩ (by decide) (by omega) (by omega) rfl ?_
            refine x_iinc 80 (L' := [(0, _), (1, _)]) (xd DX3_measureReaches rfl) rfl (by decide) rfl rfl rfl ?_
            refine x_goto 10 (xd DX3_measureReaches rfl) rfl ?_
            exact ih (i + -1) _ (by omega) (by omega) (by omega) (hO.tr (Off.set rfl)) (by rw [show i + -1 + 1 = i by omega]; exact RchEq.step hr (by unfold rchF; rw [pik_t (by rw [← e5]; exact c26), pik_f c44])) (fun j a b => by
              by_cases e : j = i
              · subst e; rw [hset_s]; have := fun q => hb (j + 1) (by omega) q; first | omega | (have := this c44.1; split <;> omega)
              · rw [hset_i e]; exact hb j (by omega) b)
          · refine x_aload_n 48 (xd DX3_measureReaches rfl) rfl rfl ?_
            refine x_gr 51 _ LX3_9 (xd DX3_measureReaches rfl) rfl rfl ⟨by decide, by decide⟩ (by decide) rfl rfl ?_
            refine x_iload_n 52 (xd DX3_measureReaches rfl) rfl rfl ?_
            refine x_iconst 53 (xd DX3_measureReaches rfl) rfl ?_
            refine x_iconst 54 (xd DX3_measureReaches rfl) rfl ?_
            refine x_aload_n 55 (xd DX3_measureReaches rfl) rfl rfl ?_
            refine x_gr 58 _ LX3_9 (xd DX3_measureReaches rfl) rfl rfl ⟨by decide, by decide⟩ (by decide) rfl rfl ?_
            refine x_iload_n 59 (xd DX3_measureReaches rfl) rfl rfl ?_
            refine x_iconst 60 (xd DX3_measureReaches rfl) rfl ?_
            refine x_iadd 61 (xd DX3_measureReaches rfl) rfl ?_
            refine x_iaload 62 (xd DX3_measureReaches rfl) rfl ⟨Or.inr ⟨rfl, by decide⟩, by decide⟩ (by decide) (by have := c44.1; omega) (by have := c44.1; omega) rfl ?_
            refine x_iadd 63 (xd DX3_measureReaches rfl) rfl ?_
            refine x_min 66 mmLX3_98 mmS mmI mmC (xd DX3_measureReaches rfl) ⟨by decide, Nat.le_refl _, Nat.le_refl _⟩ (Nat.le_of_ble_eq_true rfl) (by omega) (by have := hb (i + 1) (by omega) c44.1; omega) rfl ?_
            refine x_iastore 67 (xd DX3_measureReaches rfl) rfl ⟨Or.inr ⟨rfl, by decide⟩, by decide⟩ (by decide) (by omega) (by omega) rfl ?_
            refine x_goto 77 (xd DX3_measureReaches rfl) rfl ?_
            refine x_iinc 80 (L' := [(0, _), (1, _)]) (xd DX3_measureReaches rfl) rfl (by decide) rfl rfl rfl ?_
            refine x_goto 10 (xd DX3_measureReaches rfl) rfl ?_
            exact ih (i + -1) _ (by omega) (by omega) (by omega) (hO.tr (Off.set rfl)) (by rw [show i + -1 + 1 = i by omega]; exact RchEq.step hr (by unfold rchF; rw [pik_t (by rw [← e5]; exact c26), pik_t c44])) (fun j a b => by
              by_cases e : j = i
              · subst e; rw [hset_s]; have := fun q => hb (j + 1) (by omega) q; first | omega | (have := this c44.1; split <;> omega)
              · rw [hset_i e]; exact hb j (by omega) b)
        · refine x_aload_n 30 (xd DX3_measureReaches rfl) rfl rfl ?_
          refine x_gr 33 _ LX3_9 (xd DX3_measureReaches rfl) rfl rfl ⟨by decide, by decide⟩ (by decide) rfl rfl ?_
          refine x_iload_n 34 (xd DX3_measureReaches rfl) rfl rfl ?_
          refine x_iconst 35 (xd DX3_measureReaches rfl) rfl ?_
          refine x_iastore 36 (xd DX3_measureReaches rfl) rfl ⟨Or.inr ⟨rfl, by decide⟩, by decide⟩ (by decide) (by omega) (by omega) rfl ?_
          refine x_goto 77 (xd DX3_measureReaches rfl) rfl ?_
          refine x_iinc 80 (L' := [(0, _), (1, _)]) (xd DX3_measureReaches rfl) rfl (by decide) rfl rfl rfl ?_
          refine x_goto 10 (xd DX3_measureReaches rfl) rfl ?_
          exact ih (i + -1) _ (by omega) (by omega) (by omega) (hO.tr (Off.set rfl)) (by rw [show i + -1 + 1 = i by omega]; exact RchEq.step hr (by unfold rchF; rw [pik_f (by rw [← e5]; exact c26)])) (fun j a b => by
            by_cases e : j = i
            · subst e; rw [hset_s]; have := fun q => hb (j + 1) (by omega) q; first | omega | (have := this c44.1; split <;> omega)
            · rw [hset_i e]; exact hb j (by omega) b)
  refine x_aload_n 1 (xd DX3_measureReaches rfl) rfl rfl ?_
  refine x_gr 4 _ LX3_51 (xd DX3_measureReaches rfl) rfl rfl ⟨by decide, by decide⟩ (by decide) rfl rfl ?_
  refine x_gi 7 3 rfl LX3_68 (xd DX3_measureReaches rfl) rfl ⟨Or.inr ⟨rfl, by decide⟩, by decide⟩ rfl ?_
  refine x_iconst 8 (xd DX3_measureReaches rfl) rfl ?_
  refine x_isub 9 (xd DX3_measureReaches rfl) rfl ?_
  refine x_istore_n 10 (L' := [(0, _), (1, _)]) (xd DX3_measureReaches rfl) (by decide) rfl rfl rfl ?_
  exact loop 100 _ h (by omega) (by omega) (by omega) Off.rf (fun j a b => by omega) (fun j a b => by omega)

