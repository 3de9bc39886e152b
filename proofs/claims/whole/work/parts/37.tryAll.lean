/-! Choice -/
theorem LY.off {S : Nat → Prop} {h xg : XH} (hO : Off S h xg) (hs : ∀ c, ((4 ≤ c ∧ c ≤ 33) ∨ (192 ≤ c ∧ c ≤ 244) ∨ (249 ≤ c ∧ c ≤ 253)) → ¬ S c) (hP : PW h) (hS : SW h 8) (hL : LY h) : LY xg := by
  have kb : KeepB S := fun c q => hs c (by omega)
  obtain ⟨⟨k, k1, k2, k3, k4⟩, l1, l2, l3, l4, l5, l6, l7, l8⟩ := hL
  obtain ⟨hK, -⟩ := FB_PK hS.1 l4
  have hP1 := hP.1
  have hS1 := hS.1
  have e4 : xg 4 = h 4 := hO 4 (hs 4 (by omega))
  have e8 : xg 8 = h 8 := hO 8 (hs 8 (by omega))
  have e192 : xg 192 = h 192 := hO 192 (hs _ (by omega))
  have e193 : xg 193 = h 193 := hO 193 (hs _ (by omega))
  have e243 : xg 243 = h 243 := hO 243 (hs _ (by omega))
  have e244 : xg 244 = h 244 := hO 244 (hs _ (by omega))
  have e249 : xg 249 = h 249 := hO 249 (hs _ (by omega))
  have e250 : xg 250 = h 250 := hO 250 (hs _ (by omega))
  have e251 : xg 251 = h 251 := hO 251 (hs _ (by omega))
  have e252 : xg 252 = h 252 := hO 252 (hs _ (by omega))
  have e253 : xg 253 = h 253 := hO 253 (hs _ (by omega))
  have cs : ∀ i : Nat, (i : Int) ≤ h 4 3 → csN xg i = csN h i := fun i q => csN_off hO kb (hs _ (by omega)) (h 4 3).toNat (fun x q => by have := hK x (by omega) (by omega); omega) i (by omega)
  refine ⟨⟨k, k1, by rw [e192]; exact k2, by rw [e8]; exact k3, ?_⟩, by rw [e192, e4, e8]; exact l1, by rw [e4, e193]; exact l2, by rw [e243, e4]; exact l3, ?_, by rw [e243, e4]; exact l5, by rw [e192, e4, cs _ (by omega)]; exact l6, ?_, ?_⟩
  · intro j a b
    rw [e4] at b
    rw [e193, k4 j a b]
    unfold rchF Lead
    rw [hO 5 (kb 5 (by omega)), e4, hO 7 (kb 7 (by omega))]
  · intro j a b
    rw [e4] at b
    have erow : xg (195 + j.toNat) = h (195 + j.toNat) := hO _ (hs _ (by omega))
    rw [e8, e243, e244, erow, bst_off hO kb _ (by omega)]
    obtain ⟨q1, q2, q3⟩ := l4 j a b
    refine ⟨q1, q2, fun p a b => ?_⟩
    rw [shr_off hO kb _ (by omega)]
    exact q3 p a b
  · intro j q
    rw [e4] at q
    have := l7 j q
    unfold PF at this ⊢
    rw [cs (j + 1) (by omega), cs j (by omega), e249, e250, e251, e252]
    exact this
  · intro j hj aj t t0 t1
    rw [e4] at hj
    rw [e251] at aj ⊢
    have hx := (head_facts (l7 j (by omega)) aj).2.2.1
    have k9 := hK j (by omega) (by omega)
    have en : h 249 j < 0 ∨ (h 249 j).toNat < 8 := by omega
    have ew : wid xg j = wid h j := by
      unfold wid
      rw [e249, hO 5 (kb 5 (by omega))]
      rcases en with q | q
      · rw [if_pos q, if_pos q]
      · rw [hO (10 + 3 * (h 249 j).toNat) (kb _ (by omega))]
    have eb : nib xg j t = nib h j t := by
      unfold nib
      rw [e249, hO 5 (kb 5 (by omega)), hO 6 (kb 6 (by omega)), e251]
      rcases en with q | q
      · rw [if_pos q, if_pos q]
      · rw [hO (10 + 3 * (h 249 j).toNat) (kb _ (by omega))]
    rw [ew] at t1
    rw [eb, e253]
    exact l8 j hj aj t t0 t1
def STr (x : Nat) : Prop := x = 254 ∨ SGa x
def SqR (h : XH) (i m : Int) : Prop := (0 ≤ i ∧ i < h 4 3) ∧ 2 ≤ m ∧ m ≤ h 193 i
theorem SqR.ok {h : XH} (hL : LY h) {i m : Int} (hm : m ≤ 4) (hs : SqR h i m) : SqOk h i m := by
  have hr9 := hL.hr
  obtain ⟨⟨k, k1, k2, k3, k4⟩, -⟩ := hL
  have := (rch_seq k4 hr9 m.toNat i hs.1.1 hs.1.2 (by have := hs.2.1; omega) (by omega)).mp (by have := hs.2.1; have := hs.2.2; omega)
  rw [Int.toNat_of_nonneg (by have := hs.2.1; omega)] at this
  exact ⟨hs.1.1, hs.2.1, hm, this.1, fun x a b => (this.2.2 x a b).1⟩
def GainIs (h : XH) (i m z g : Int) : Prop := ∃ h' : XH, Off STr h h' ∧ Took h' 246 h i m z ∧ TrEq h' (h' 245) 0 ∧ g = h 192 13 - h' 245 0 - (1 + 2 * m)
def MostIs (h : XH) (i m z g : Int) : Prop := ∃ h' : XH, Off STr h h' ∧ Took h' 246 h i m z ∧ g = (2 * m - kRef (h' 246 3)) * cntR (fun j => Mt h' 246 j) 0 (h 4 3).toNat - (1 + 2 * m)
theorem Took.of {g h h0 : XH} {c : Nat} {i m z : Int} (ht : Took g c h i m z) (h5 : h 5 = h0 5) (h6 : h 6 = h0 6) : Took g c h0 i m z := by
  unfold Took at *
  rw [h5, h6] at ht
  exact ht
/-- the search through the instructions, of m letters and the hole z -/
noncomputable def scI (sq : Int → Int → Prop) (G : Int → Int → Int → Int) (m z : Int) : Nat → (Int × Int × Int × Int) → (Int × Int × Int × Int)
  | 0, s => s
  | i + 1, s => pik (sq i m ∧ (scI sq G m z i s).1 < G i m z) (G i m z, (i : Int), m, z) (scI sq G m z i s)
noncomputable def scH (sq : Int → Int → Prop) (G : Int → Int → Int → Int) (N : Nat) (m : Int) : Nat → (Int × Int × Int × Int) → (Int × Int × Int × Int)
  | 0, s => s
  | d + 1, s => scI sq G m ((d : Int) - 1) N (scH sq G N m d s)
noncomputable def scM (sq : Int → Int → Prop) (G : Int → Int → Int → Int) (N : Nat) : Nat → (Int × Int × Int × Int) → (Int × Int × Int × Int)
  | 0, s => s
  | d + 1, s => scH sq G N ((d : Int) + 2) (d + 3) (scM sq G N d s)
def F4 (g : XH) : Int × Int × Int × Int := (g 254 5, g 254 2, g 254 3, g 254 4)
theorem F4.off {S : Nat → Prop} {h xg : XH} (hO : Off S h xg) (hs : ¬ S 254) : F4 xg = F4 h := by
  unfold F4
  rw [hO 254 hs]
theorem F4.set {xg : XH} {a b c d : Int} : F4 (hset (hset (hset (hset xg 254 5 a) 254 2 b) 254 3 c) 254 4 d) = (a, b, c, d) := by
  unfold F4 hset
  simp
set_option maxRecDepth 100000 in
set_option maxHeartbeats 4000000 in
theorem pX0_tryAll {K : XK} {n : Nat} {h : XH} (m z : Int) (Gf : Int → Int → Int → Int) (hP : PW h) (hS : SW h 8) (hL : LY h) (hm : 2 ≤ m ∧ m ≤ 4) (hz : -1 ≤ z ∧ z < m) (hG : ∀ i g, SqR h i m → GainIs h i m z g → g = Gf i m z) (hM : ∀ i g, SqR h i m → MostIs h i m z g → Gf i m z ≤ g) (hg0 : 0 ≤ h 254 5 ∧ h 254 5 ≤ 192) : MV K mX0_tryAll 5 n [vr 254, vi m, vi z] h (fun h' => Off STr h h' ∧ F4 h' = scI (SqR h) Gf m z (h 4 3).toNat (F4 h) ∧ 0 ≤ h' 254 5 ∧ h' 254 5 ≤ 192) := by
  refine xMeth FX0_tryAll (Nat.le_of_ble_eq_true rfl) ?_
  have hP1 := hP.1
  have h192 : 0 ≤ h 192 13 ∧ h 192 13 ≤ 192 := by
    obtain ⟨K1, -⟩ := FB_PK hS.1 hL.2.2.2.2.1
    rw [hL.2.2.2.2.2.2.1]
    have := (csN_rg hP hS K1 (h 4 3).toNat (by omega)).2.2.2
    omega
  have loop : ∀ (m1 : Nat) (xi : Nat) (xg : XH), (xi : Int) ≤ h 4 3 → h 4 3 - xi < (m1 : Int) → Off STr h xg → F4 xg = scI (SqR h) Gf m z xi (F4 h) → (0 ≤ xg 254 5 ∧ xg 254 5 ≤ 192) → WI K mX0_tryAll 5 n (qV n fun h' => Off STr h h' ∧ F4 h' = scI (SqR h) Gf m z (h 4 3).toNat (F4 h) ∧ 0 ≤ h' 254 5 ∧ h' 254 5 ≤ 192) 2 [(0, vr 254), (1, vi m), (2, vi z), (3, vi (xi : Int))] [] xg := by
    intro m1
    induction m1 with
    | zero => intro xi xg a b; exact absurd b (by omega)
    | succ m1 ih =>
      intro xi xg h0 hm1 hO hF hg
      have e4 : xg 4 = h 4 := hO 4 (by unfold STr SGa S3; omega)
      have e43 : xg 4 3 = h 4 3 := by rw [e4]
      have e5 : xg 5 = h 5 := hO 5 (by unfold STr SGa S3; omega)
      have e6 : xg 6 = h 6 := hO 6 (by unfold STr SGa S3; omega)
      have e193 : xg 193 = h 193 := hO 193 (by unfold STr SGa S3; omega)
      have Pg : PW xg := hP.off hO (by unfold STr SGa S3; omega) (by unfold STr SGa S3; omega) (by unfold STr SGa S3; omega) (by unfold STr SGa S3; omega)
      have Lg : LY xg := hL.off hO (fun c q => by unfold STr SGa S3; omega) hP hS
      have sqg : SqR h (xi : Int) m → SqOk xg (xi : Int) m := fun q => by
        have := q.ok hL hm.2
        unfold SqOk at *
        rw [e4, e5]
        exact this
      refine x_iload_n 3 (xd DX0_tryAll rfl) rfl rfl ?_
      refine x_aload_n 4 (xd DX0_tryAll rfl) rfl rfl ?_
      refine x_gr 7 _ LX0_9 (xd DX0_tryAll rfl) rfl rfl ⟨by decide, by decide⟩ (by decide) rfl rfl ?_
      refine x_gr 10 _ LX0_32 (xd DX0_tryAll rfl) rfl rfl ⟨by decide, by decide⟩ (by decide) rfl rfl ?_
      refine x_gi 13 3 rfl LX0_38 (xd DX0_tryAll rfl) rfl ⟨Or.inr ⟨rfl, by decide⟩, by decide⟩ rfl ?_
      refine x_icmp_ge 16 96 (xd DX0_tryAll rfl) rfl (by omega) (by omega) rfl (fun c13 => ?_) (fun c13 => ?_)
      · refine x_rv (xd DX0_tryAll rfl) rfl ?_
        exact ⟨hO, by rw [hF, show (h 4 3).toNat = xi by omega], hg⟩
      · refine x_aload_n 17 (xd DX0_tryAll rfl) rfl rfl ?_
        refine x_gr 20 _ LX0_9 (xd DX0_tryAll rfl) rfl rfl ⟨by decide, by decide⟩ (by decide) rfl rfl ?_
        refine x_iload_n 21 (xd DX0_tryAll rfl) rfl rfl ?_
        refine x_iload_n 22 (xd DX0_tryAll rfl) rfl rfl ?_
        refine x_Vi 25 (pX3_isSequence (xi : Int) m Pg (by omega) (by omega) (by rw [e4, e193]; exact hL.hr)) FX3_isSequence VX3_isSequence CX0_43 (xd DX0_tryAll rfl) rfl rfl rfl ⟨by decide, rfl⟩ ⟨by decide, by decide⟩ (by decide) (Nat.le_of_ble_eq_true rfl) (by decide) rfl ?_
        rintro z9 h9 ⟨q1, q2⟩
        rw [q1, q2]
        clear q1 q2 z9 h9
        rw [show (((0 ≤ (xi : Int) ∧ (xi : Int) < xg 4 3) ∧ 2 ≤ m ∧ m ≤ xg 193 (xi : Int)) = SqR h (xi : Int) m) by unfold SqR; rw [e4, e193]]
        refine x_ifp_eq 28 90 (xd DX0_tryAll rfl) rfl rfl (fun c25 => ?_) (fun c25 => ?_)
        · refine x_iinc 93 (L' := [(0, _), (1, _), (2, _), (3, _)]) (xd DX0_tryAll rfl) rfl (by decide) rfl rfl rfl ?_
          refine x_goto 2 (xd DX0_tryAll rfl) rfl ?_
          first
            | (refine ih (xi + 1) _ (by omega) (by omega) ((((O3.tr (Off.set (by unfold STr; omega))).tr (Off.set (by unfold STr; omega))).tr (Off.set (by unfold STr; omega))).tr (Off.set (by unfold STr; omega))) ?_ ?_
               · rw [F4.set]
                 unfold scI
                 rw [← hF, pik_t ⟨c25, by show xg 254 5 < _; omega⟩]
               · rw [hset_i (by decide), hset_i (by decide), hset_i (by decide), hset_s]; omega)
            | (refine ih (xi + 1) _ (by omega) (by omega) O3 ?_ ?_
               · unfold scI
                 rw [← hF, pik_f (fun q => by have : xg 254 5 < _ := q.2; omega)]
                 exact f3
               · rw [g3]; exact hg)
            | (refine ih (xi + 1) _ (by omega) (by omega) O2 ?_ ?_
               · unfold scI
                 rw [← hF, pik_f (fun q => by have : xg 254 5 < _ := q.2; omega)]
                 exact f2
               · rw [g2]; exact hg)
            | (refine ih (xi + 1) _ (by omega) (by omega) hO ?_ hg
               unfold scI
               rw [← hF, pik_f (fun q => c25 q.1)])
        · refine x_aload_n 29 (xd DX0_tryAll rfl) rfl rfl ?_
          refine x_gr 32 _ LX0_9 (xd DX0_tryAll rfl) rfl rfl ⟨by decide, by decide⟩ (by decide) rfl rfl ?_
          refine x_iload_n 33 (xd DX0_tryAll rfl) rfl rfl ?_
          refine x_iload_n 34 (xd DX0_tryAll rfl) rfl rfl ?_
          refine x_iload_n 35 (xd DX0_tryAll rfl) rfl rfl ?_
          refine x_Vi 38 (pX3_mostGainOf (xi : Int) m z Pg Lg (sqg c25) hz) FX3_mostGainOf VX3_mostGainOf CX0_47 (xd DX0_tryAll rfl) rfl rfl rfl ⟨by decide, rfl⟩ ⟨by decide, by decide⟩ (by decide) (Nat.le_of_ble_eq_true rfl) (by decide) rfl ?_
          rintro zm h2 ⟨o2, t2, rfl, rz⟩
          have O2 : Off STr h h2 := hO.tr (o2.mono (fun x q => Or.inr (Or.inr q)))
          have ec9 : (2 * m - kRef (h2 246 3)) * cntR (fun j => Mt h2 246 j) 0 (xg 4 3).toNat = (2 * m - kRef (h2 246 3)) * cntR (fun j => Mt h2 246 j) 0 (h 4 3).toNat := by rw [e4]
          rw [ec9] at rz ⊢
          have hmost := hM (xi : Int) _ c25 ⟨h2, O2, t2.of e5 e6, rfl⟩
          have f2 : F4 h2 = F4 xg := F4.off o2 (by unfold S3; omega)
          have g2 : h2 254 = xg 254 := o2 254 (by unfold S3; omega)
          refine x_aload_n 39 (xd DX0_tryAll rfl) rfl rfl ?_
          refine x_gi 42 5 rfl LX0_19 (xd DX0_tryAll rfl) rfl ⟨Or.inr ⟨rfl, by decide⟩, by decide⟩ rfl ?_
          rw [g2]
          refine x_icmp_gt 45 48 (xd DX0_tryAll rfl) rfl (by omega) (by omega) rfl (fun c42 => ?_) (fun c42 => ?_)
          · have P2 : PW h2 := hP.off O2 (by unfold STr SGa S3; omega) (by unfold STr SGa S3; omega) (by unfold STr SGa S3; omega) (by unfold STr SGa S3; omega)
            have L2 : LY h2 := hL.off O2 (fun c q => by unfold STr SGa S3; omega) hP hS
            have e52 : h2 5 = h 5 := O2 5 (by unfold STr SGa S3; omega)
            have e62 : h2 6 = h 6 := O2 6 (by unfold STr SGa S3; omega)
            have sq2 : SqR h (xi : Int) m → SqOk h2 (xi : Int) m := fun q => by
              have := q.ok hL hm.2
              unfold SqOk at *
              rw [O2 4 (by unfold STr SGa S3; omega), e52]
              exact this
            refine x_aload_n 49 (xd DX0_tryAll rfl) rfl rfl ?_
            refine x_gr 52 _ LX0_9 (xd DX0_tryAll rfl) rfl rfl ⟨by decide, by decide⟩ (by decide) rfl rfl ?_
            refine x_iload_n 53 (xd DX0_tryAll rfl) rfl rfl ?_
            refine x_iload_n 54 (xd DX0_tryAll rfl) rfl rfl ?_
            refine x_iload_n 55 (xd DX0_tryAll rfl) rfl rfl ?_
            refine x_Vi 58 (pX3_gainOf (xi : Int) m z P2 L2 (sq2 c25) hz) FX3_gainOf VX3_gainOf CX0_51 (xd DX0_tryAll rfl) rfl rfl rfl ⟨by decide, rfl⟩ ⟨by decide, by decide⟩ (by decide) (Nat.le_of_ble_eq_true rfl) (by decide) rfl ?_
            rintro zg h3 ⟨o3, t3, tr3, rfl, b3⟩
            have O3 : Off STr h h3 := O2.tr (o3.mono (fun x q => Or.inr q))
            have b192 : h2 192 13 = h 192 13 := by rw [O2 192 (by unfold STr SGa S3; omega)]
            rw [b192]
            have hgain := hG (xi : Int) _ c25 ⟨h3, O3, t3.of e52 e62, tr3, rfl⟩
            have f3 : F4 h3 = F4 xg := by rw [F4.off o3 (by unfold SGa S3; omega), f2]
            have g3 : h3 254 = xg 254 := by rw [o3 254 (by unfold SGa S3; omega), g2]
            rw [hgain]
            refine x_istore 60 (L' := [(0, _), (1, _), (2, _), (3, _), (4, _)]) (xd DX0_tryAll rfl) (by decide) rfl rfl rfl ?_
            refine x_iload 62 (xd DX0_tryAll rfl) rfl rfl ?_
            refine x_aload_n 63 (xd DX0_tryAll rfl) rfl rfl ?_
            refine x_gi 66 5 rfl LX0_19 (xd DX0_tryAll rfl) rfl ⟨Or.inr ⟨rfl, by decide⟩, by decide⟩ rfl ?_
            rw [g3]
            refine x_icmp_le 69 90 (xd DX0_tryAll rfl) rfl (by omega) (by omega) rfl (fun c66 => ?_) (fun c66 => ?_)
            · refine x_iinc 93 (L' := [(0, _), (1, _), (2, _), (3, _), (4, _)]) (xd DX0_tryAll rfl) rfl (by decide) rfl rfl rfl ?_
              refine x_goto 2 (xd DX0_tryAll rfl) rfl ?_
              refine WX.locals (L' := [(0, _), (1, _), (2, _), (3, _)]) (fun q hq => List.mem_append_left _ hq) ?_
              first
                | (refine ih (xi + 1) _ (by omega) (by omega) ((((O3.tr (Off.set (by unfold STr; omega))).tr (Off.set (by unfold STr; omega))).tr (Off.set (by unfold STr; omega))).tr (Off.set (by unfold STr; omega))) ?_ ?_
                   · rw [F4.set]
                     unfold scI
                     rw [← hF, pik_t ⟨c25, by show xg 254 5 < _; omega⟩]
                   · rw [hset_i (by decide), hset_i (by decide), hset_i (by decide), hset_s]; omega)
                | (refine ih (xi + 1) _ (by omega) (by omega) O3 ?_ ?_
                   · unfold scI
                     rw [← hF, pik_f (fun q => by have : xg 254 5 < _ := q.2; omega)]
                     exact f3
                   · rw [g3]; exact hg)
                | (refine ih (xi + 1) _ (by omega) (by omega) O2 ?_ ?_
                   · unfold scI
                     rw [← hF, pik_f (fun q => by have : xg 254 5 < _ := q.2; omega)]
                     exact f2
                   · rw [g2]; exact hg)
                | (refine ih (xi + 1) _ (by omega) (by omega) hO ?_ hg
                   unfold scI
                   rw [← hF, pik_f (fun q => c25 q.1)])
            · refine x_aload_n 70 (xd DX0_tryAll rfl) rfl rfl ?_
              refine x_iload 72 (xd DX0_tryAll rfl) rfl rfl ?_
              refine x_pi 75 5 rfl LX0_19 (xd DX0_tryAll rfl) rfl rfl ⟨Or.inr ⟨rfl, by decide⟩, by decide⟩ rfl ?_
              refine x_aload_n 76 (xd DX0_tryAll rfl) rfl rfl ?_
              refine x_iload_n 77 (xd DX0_tryAll rfl) rfl rfl ?_
              refine x_pi 80 2 rfl LX0_54 (xd DX0_tryAll rfl) rfl rfl ⟨Or.inr ⟨rfl, by decide⟩, by decide⟩ rfl ?_
              refine x_aload_n 81 (xd DX0_tryAll rfl) rfl rfl ?_
              refine x_iload_n 82 (xd DX0_tryAll rfl) rfl rfl ?_
              refine x_pi 85 3 rfl LX0_57 (xd DX0_tryAll rfl) rfl rfl ⟨Or.inr ⟨rfl, by decide⟩, by decide⟩ rfl ?_
              refine x_aload_n 86 (xd DX0_tryAll rfl) rfl rfl ?_
              refine x_iload_n 87 (xd DX0_tryAll rfl) rfl rfl ?_
              refine x_pi 90 4 rfl LX0_60 (xd DX0_tryAll rfl) rfl rfl ⟨Or.inr ⟨rfl, by decide⟩, by decide⟩ rfl ?_
              refine x_iinc 93 (L' := [(0, _), (1, _), (2, _), (3, _), (4, _)]) (xd DX0_tryAll rfl) rfl (by decide) rfl rfl rfl ?_
              refine x_goto 2 (xd DX0_tryAll rfl) rfl ?_
              refine WX.locals (L' := [(0, _), (1, _), (2, _), (3, _)]) (fun q hq => List.mem_append_left _ hq) ?_
              first
                | (refine ih (xi + 1) _ (by omega) (by omega) ((((O3.tr (Off.set (by unfold STr; omega))).tr (Off.set (by unfold STr; omega))).tr (Off.set (by unfold STr; omega))).tr (Off.set (by unfold STr; omega))) ?_ ?_
                   · rw [F4.set]
                     unfold scI
                     rw [← hF, pik_t ⟨c25, by show xg 254 5 < _; omega⟩]
                   · rw [hset_i (by decide), hset_i (by decide), hset_i (by decide), hset_s]; omega)
                | (refine ih (xi + 1) _ (by omega) (by omega) O3 ?_ ?_
                   · unfold scI
                     rw [← hF, pik_f (fun q => by have : xg 254 5 < _ := q.2; omega)]
                     exact f3
                   · rw [g3]; exact hg)
                | (refine ih (xi + 1) _ (by omega) (by omega) O2 ?_ ?_
                   · unfold scI
                     rw [← hF, pik_f (fun q => by have : xg 254 5 < _ := q.2; omega)]
                     exact f2
                   · rw [g2]; exact hg)
                | (refine ih (xi + 1) _ (by omega) (by omega) hO ?_ hg
                   unfold scI
                   rw [← hF, pik_f (fun q => c25 q.1)])
          · refine x_goto 90 (xd DX0_tryAll rfl) rfl ?_
            refine x_iinc 93 (L' := [(0, _), (1, _), (2, _), (3, _)]) (xd DX0_tryAll rfl) rfl (by decide) rfl rfl rfl ?_
            refine x_goto 2 (xd DX0_tryAll rfl) rfl ?_
            first
              | (refine ih (xi + 1) _ (by omega) (by omega) ((((O3.tr (Off.set (by unfold STr; omega))).tr (Off.set (by unfold STr; omega))).tr (Off.set (by unfold STr; omega))).tr (Off.set (by unfold STr; omega))) ?_ ?_
                 · rw [F4.set]
                   unfold scI
                   rw [← hF, pik_t ⟨c25, by show xg 254 5 < _; omega⟩]
                 · rw [hset_i (by decide), hset_i (by decide), hset_i (by decide), hset_s]; omega)
              | (refine ih (xi + 1) _ (by omega) (by omega) O3 ?_ ?_
                 · unfold scI
                   rw [← hF, pik_f (fun q => by have : xg 254 5 < _ := q.2; omega)]
                   exact f3
                 · rw [g3]; exact hg)
              | (refine ih (xi + 1) _ (by omega) (by omega) O2 ?_ ?_
                 · unfold scI
                   rw [← hF, pik_f (fun q => by have : xg 254 5 < _ := q.2; omega)]
                   exact f2
                 · rw [g2]; exact hg)
              | (refine ih (xi + 1) _ (by omega) (by omega) hO ?_ hg
                 unfold scI
                 rw [← hF, pik_f (fun q => c25 q.1)])
  refine x_iconst 1 (xd DX0_tryAll rfl) rfl ?_
  refine x_istore_n 2 (L' := [(0, _), (1, _), (2, _), (3, _)]) (xd DX0_tryAll rfl) (by decide) rfl rfl rfl ?_
  exact loop 100 0 h (by omega) (by omega) Off.rf rfl hg0

