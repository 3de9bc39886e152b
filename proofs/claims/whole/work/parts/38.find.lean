/-! Choice.find -/
theorem GainIs.of {h xg : XH} {i m z g : Int} (hO : Off STr h xg) (hg : GainIs xg i m z g) : GainIs h i m z g := by
  obtain ⟨h', a, b, c, d⟩ := hg
  exact ⟨h', hO.tr a, b.of (hO 5 (by unfold STr SGa S3; omega)) (hO 6 (by unfold STr SGa S3; omega)), c, by rw [d, hO 192 (by unfold STr SGa S3; omega)]⟩
theorem MostIs.of {h xg : XH} {i m z g : Int} (hO : Off STr h xg) (hg : MostIs xg i m z g) : MostIs h i m z g := by
  obtain ⟨h', a, b, d⟩ := hg
  exact ⟨h', hO.tr a, b.of (hO 5 (by unfold STr SGa S3; omega)) (hO 6 (by unfold STr SGa S3; omega)), by rw [d, hO 4 (by unfold STr SGa S3; omega)]⟩
theorem SqR.off {h xg : XH} (hO : Off STr h xg) : SqR xg = SqR h := by
  funext i m
  unfold SqR
  rw [hO 4 (by unfold STr SGa S3; omega), hO 193 (by unfold STr SGa S3; omega)]
set_option maxRecDepth 100000 in
set_option maxHeartbeats 4000000 in
theorem pX0_find {K : XK} {n : Nat} {h : XH} (Gf : Int → Int → Int → Int) (hP : PW h) (hS : SW h 8) (hL : LY h) (hG : ∀ i m z g, (2 ≤ m ∧ m ≤ 4) → (-1 ≤ z ∧ z < m) → SqR h i m → GainIs h i m z g → g = Gf i m z) (hM : ∀ i m z g, (2 ≤ m ∧ m ≤ 4) → (-1 ≤ z ∧ z < m) → SqR h i m → MostIs h i m z g → Gf i m z ≤ g) : MI K mX0_find 6 n [vr 254] h (fun zr h' => Off STr h h' ∧ ((8 ≤ h 8 1 ∧ zr = 0) ∨ (h 8 1 < 8 ∧ zr = xp (0 < h' 254 5) ∧ F4 h' = scM (SqR h) Gf (h 4 3).toNat 3 (0, h 254 2, h 254 3, h 254 4)))) := by
  refine xMeth FX0_find (Nat.le_of_ble_eq_true rfl) ?_
  have hS1 := hS.1
  have loop : h 8 1 < 8 → ∀ (m1 : Nat) (xd1 : Nat) (xg : XH), xd1 ≤ 3 → 3 - xd1 < m1 → Off STr h xg → F4 xg = scM (SqR h) Gf (h 4 3).toNat xd1 (0, h 254 2, h 254 3, h 254 4) → (0 ≤ xg 254 5 ∧ xg 254 5 ≤ 192) → WI K mX0_find 6 n (qI n fun zr h' => Off STr h h' ∧ ((8 ≤ h 8 1 ∧ zr = 0) ∨ (h 8 1 < 8 ∧ zr = xp (0 < h' 254 5) ∧ F4 h' = scM (SqR h) Gf (h 4 3).toNat 3 (0, h 254 2, h 254 3, h 254 4)))) 21 [(0, vr 254), (1, vi ((xd1 : Int) + 2))] [] xg := by
    intro c14 m1
    induction m1 with
    | zero => intro xd1 xg a b; exact absurd b (by omega)
    | succ m1 ih =>
      intro xd1 xg h0 hm1 hO hF hg
      have loop2 : xd1 ≤ 2 → ∀ (m2 : Nat) (xe1 : Nat) (xg : XH), xe1 ≤ xd1 + 3 → xd1 + 3 - xe1 < m2 → Off STr h xg → F4 xg = scH (SqR h) Gf (h 4 3).toNat ((xd1 : Int) + 2) xe1 (scM (SqR h) Gf (h 4 3).toNat xd1 (0, h 254 2, h 254 3, h 254 4)) → (0 ≤ xg 254 5 ∧ xg 254 5 ≤ 192) → WI K mX0_find 6 n (qI n fun zr h' => Off STr h h' ∧ ((8 ≤ h 8 1 ∧ zr = 0) ∨ (h 8 1 < 8 ∧ zr = xp (0 < h' 254 5) ∧ F4 h' = scM (SqR h) Gf (h 4 3).toNat 3 (0, h 254 2, h 254 3, h 254 4)))) 28 [(0, vr 254), (1, vi ((xd1 : Int) + 2)), (2, vi ((xe1 : Int) - 1))] [] xg := by
        intro hd1 m2
        induction m2 with
        | zero => intro xe1 xg a b; exact absurd b (by omega)
        | succ m2 ih2 =>
          intro xe1 xg h0 hm2 hO hF hg
          have e4 : xg 4 = h 4 := hO 4 (by unfold STr SGa S3; omega)
          refine x_iload_n 29 (xd DX0_find rfl) rfl rfl ?_
          refine x_iload_n 30 (xd DX0_find rfl) rfl rfl ?_
          refine x_icmp_ge 33 45 (xd DX0_find rfl) rfl (by omega) (by omega) rfl (fun c30 => ?_) (fun c30 => ?_)
          · refine x_iinc 48 (L' := [(0, _), (1, _), (2, _)]) (xd DX0_find rfl) rfl (by decide) rfl rfl rfl ?_
            refine x_goto 21 (xd DX0_find rfl) rfl ?_
            refine WX.locals (L' := [(0, _), (1, _)]) (fun q hq => List.mem_append_left _ hq) ?_
            rw [show (xd1 : Int) + 2 + 1 = ((xd1 + 1 : Nat) : Int) + 2 by omega]
            refine ih (xd1 + 1) _ (by omega) (by omega) hO ?_ hg
            unfold scM
            rw [hF, show xe1 = xd1 + 3 by omega]
          · refine x_aload_n 34 (xd DX0_find rfl) rfl rfl ?_
            refine x_iload_n 35 (xd DX0_find rfl) rfl rfl ?_
            refine x_iload_n 36 (xd DX0_find rfl) rfl rfl ?_
            refine x_Vv 39 (pX0_tryAll ((xd1 : Int) + 2) ((xe1 : Int) - 1) Gf (hP.off hO (by unfold STr SGa S3; omega) (by unfold STr SGa S3; omega) (by unfold STr SGa S3; omega) (by unfold STr SGa S3; omega)) (hS.off hO (fun c q => by unfold STr SGa S3; omega)) (hL.off hO (fun c q => by unfold STr SGa S3; omega) hP hS) (by omega) (by omega) (fun i g a b => by rw [SqR.off hO] at a; exact hG i _ _ g (by omega) (by omega) a (b.of hO)) (fun i g a b => by rw [SqR.off hO] at a; exact hM i _ _ g (by omega) (by omega) a (b.of hO)) hg) FX0_tryAll VX0_tryAll CX0_28 (xd DX0_find rfl) rfl rfl rfl ⟨by decide, rfl⟩ ⟨by decide, by decide⟩ (by decide) (Nat.le_of_ble_eq_true rfl) (by decide) rfl ?_
            rintro xq ⟨oq, fq, gq⟩
            rw [SqR.off hO, e4] at fq
            refine x_iinc 42 (L' := [(0, _), (1, _), (2, _)]) (xd DX0_find rfl) rfl (by decide) rfl rfl rfl ?_
            refine x_goto 28 (xd DX0_find rfl) rfl ?_
            rw [show (xe1 : Int) - 1 + 1 = ((xe1 + 1 : Nat) : Int) - 1 by omega]
            refine ih2 (xe1 + 1) _ (by omega) (by omega) (hO.tr oq) ?_ gq
            unfold scH
            rw [← hF]
            exact fq
      refine x_iload_n 22 (xd DX0_find rfl) rfl rfl ?_
      refine x_iconst 23 (xd DX0_find rfl) rfl ?_
      refine x_icmp_gt 26 51 (xd DX0_find rfl) rfl (by omega) (by omega) rfl (fun c23 => ?_) (fun c23 => ?_)
      · refine x_aload_n 52 (xd DX0_find rfl) rfl rfl ?_
        refine x_gi 55 5 rfl LX0_19 (xd DX0_find rfl) rfl ⟨Or.inr ⟨rfl, by decide⟩, by decide⟩ rfl ?_
        refine x_if_le 58 62 (xd DX0_find rfl) rfl (by omega) rfl (fun c55 => ?_) (fun c55 => ?_)
        · refine x_iconst 63 (xd DX0_find rfl) rfl ?_
          refine x_rz (xd DX0_find rfl) rfl (by omega) ?_
          first
            | exact ⟨ocell.mono (fun x q => Or.inl q), Or.inl ⟨by omega, rfl⟩⟩
            | exact ⟨hO, Or.inr ⟨by omega, xp_t (by omega), by rw [hF, show xd1 = 3 by omega]⟩⟩
            | exact ⟨hO, Or.inr ⟨by omega, xp_f (by omega), by rw [hF, show xd1 = 3 by omega]⟩⟩
        · refine x_iconst 59 (xd DX0_find rfl) rfl ?_
          refine x_goto 63 (xd DX0_find rfl) rfl ?_
          refine x_rz (xd DX0_find rfl) rfl (by omega) ?_
          first
            | exact ⟨ocell.mono (fun x q => Or.inl q), Or.inl ⟨by omega, rfl⟩⟩
            | exact ⟨hO, Or.inr ⟨by omega, xp_t (by omega), by rw [hF, show xd1 = 3 by omega]⟩⟩
            | exact ⟨hO, Or.inr ⟨by omega, xp_f (by omega), by rw [hF, show xd1 = 3 by omega]⟩⟩
      · refine x_iconst 27 (xd DX0_find rfl) rfl ?_
        refine x_istore_n 28 (L' := [(0, _), (1, _), (2, _)]) (xd DX0_find rfl) (by decide) rfl rfl rfl ?_
        exact loop2 (by omega) 100 0 xg (by omega) (by omega) hO hF hg
  refine x_aload_n 1 (xd DX0_find rfl) rfl rfl ?_
  refine x_iconst 2 (xd DX0_find rfl) rfl ?_
  refine x_pi 5 5 rfl LX0_19 (xd DX0_find rfl) rfl rfl ⟨Or.inr ⟨rfl, by decide⟩, by decide⟩ rfl ?_
  refine x_aload_n 6 (xd DX0_find rfl) rfl rfl ?_
  refine x_gr 9 _ LX0_15 (xd DX0_find rfl) rfl rfl ⟨by decide, by decide⟩ (by decide) rfl rfl ?_
  refine x_gi 12 1 rfl LX0_23 (xd DX0_find rfl) rfl ⟨Or.inr ⟨rfl, by decide⟩, by decide⟩ rfl ?_
  rw [hset_c (d := 8) (by decide)]
  refine x_bipush 14 (xd DX0_find rfl) rfl rfl ?_
  refine x_icmp_lt 17 19 (xd DX0_find rfl) rfl (by omega) (by omega) rfl (fun c14 => ?_) (fun c14 => ?_)
  · refine x_iconst 20 (xd DX0_find rfl) rfl ?_
    refine x_istore_n 21 (L' := [(0, _), (1, _)]) (xd DX0_find rfl) (by decide) rfl rfl rfl ?_
    refine loop (by omega) 100 0 _ (by omega) (by omega) (ocell.mono (fun x q => Or.inl q)) ?_ (by rw [hset_s]; omega)
    unfold F4 scM
    rw [hset_s, hset_i (by decide), hset_i (by decide), hset_i (by decide)]
  · refine x_iconst 18 (xd DX0_find rfl) rfl ?_
    refine x_rz (xd DX0_find rfl) rfl (by omega) ?_
    first
      | exact ⟨ocell.mono (fun x q => Or.inl q), Or.inl ⟨by omega, rfl⟩⟩
      | exact ⟨hO, Or.inr ⟨by omega, xp_t (by omega), by rw [hF, show xd1 = 3 by omega]⟩⟩
      | exact ⟨hO, Or.inr ⟨by omega, xp_f (by omega), by rw [hF, show xd1 = 3 by omega]⟩⟩

