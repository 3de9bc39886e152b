/-! one layout; SqueezedCodeModel: hold, undo -/
theorem two_pow_one {a b : Nat} (ha : a = 2 ∨ a = 3 ∨ a = 4) (hb : b = 2 ∨ b = 3 ∨ b = 4) (h : ((2 ^ a : Nat) : Int) = ((2 ^ b : Nat) : Int)) : a = b := by
  rcases ha with e | e | e <;> rcases hb with e' | e' | e' <;> subst e <;> subst e' <;> first | rfl | (exfalso; revert h; decide)
theorem EEq.mt {g g' : XH} {c : Nat} {i : Int} (hE : EEq g' c g c) (hw : EW g c) (h4 : g' 4 = g 4) (h5 : g' 5 = g 5) (h6 : g' 6 = g 6) (hr : g' 193 i = g 193 i) : Mt g' c i ↔ Mt g c i := by
  have w1 := hw.1
  unfold Mt Fits
  rw [hE.1, hE.2.1, hr, h4, h5, h6]
  refine and_congr_right fun _ => and_congr_right fun _ => and_congr_right fun _ => ?_
  refine forall_congr' fun j => forall_congr' fun a => forall_congr' fun b => ?_
  rw [(hE.2.2 j a (by omega)).1, (hE.2.2 j a (by omega)).2]
theorem bst_s (h : XH) (fw : Int → Int) (i : Int) (e : Nat) : bst h fw i (e + 1) = pik (Mt h (10 + 3 * e) i ∧ kRef (h (10 + 3 * e) 3) + fw (i + h (10 + 3 * e) 2) < (bst h fw i e).1) (kRef (h (10 + 3 * e) 3) + fw (i + h (10 + 3 * e) 2), (e : Int)) (bst h fw i e) := rfl
/-- the same program and table have the same cover -/
theorem LY_one {g g' : XH} (hP : PW g) (hS : SW g 8) (hL : LY g) (hL' : LY g') (h4 : g' 4 = g 4) (h5 : g' 5 = g 5) (h6 : g' 6 = g 6) (h7 : g' 7 = g 7) (h81 : g' 8 1 = g 8 1) (h82 : g' 8 2 = g 8 2) (hE : ∀ e : Nat, (e : Int) < g 8 1 → EEq g' (10 + 3 * e) g (10 + 3 * e)) :
    (∀ j : Nat, (j : Int) < g 4 3 → g' 249 j = g 249 j ∧ g' 251 j = g 251 j) ∧ g' 192 13 = g 192 13 := by
  obtain ⟨k, k2, -, kw, kr⟩ := hL.1
  obtain ⟨k', k2', -, kw', kr'⟩ := hL'.1
  have ek : k' = k := two_pow_one k2' k2 (by rw [← kw, ← kw', h82])
  subst ek
  have hs8 := hS.1
  have hrch : ∀ i, 0 ≤ i → i < g 4 3 → g' 193 i = g 193 i := fun i a b => by
    have r := hL.hr i a b
    have r' := hL'.hr i a (by rw [h4]; exact b)
    have key : ∀ m : Nat, 1 ≤ m → m ≤ 4 → ((m : Int) ≤ g' 193 i ↔ (m : Int) ≤ g 193 i) := fun m m1 m4 => by
      rw [rch_seq kr hL.hr m i a b m1 m4, rch_seq kr' hL'.hr m i a (by rw [h4]; exact b) m1 m4]
      unfold SeqM
      rw [h4, h5, h7]
    have q1 := key 1 (by omega) (by omega)
    have q2 := key 2 (by omega) (by omega)
    have q3 := key 3 (by omega) (by omega)
    have q4 := key 4 (by omega) (by omega)
    omega
  have hb : ∀ (fw : Int → Int) (i : Int), 0 ≤ i → i < g 4 3 → ∀ e : Nat, (e : Int) ≤ g 8 1 → bst g' fw i e = bst g fw i e := by
    intro fw i a b e
    induction e with
    | zero => intro _; unfold bst; rw [h5]
    | succ e ih =>
      intro he
      have q := hE e (by omega)
      rw [bst_s, bst_s, ih (by omega), q.1, q.2.1]
      by_cases y : Mt g (10 + 3 * e) i ∧ kRef (g (10 + 3 * e) 3) + fw (i + g (10 + 3 * e) 2) < (bst g fw i e).1
      · rw [pik_t y, pik_t ⟨(q.mt (hS.ew (by omega)) h4 h5 h6 (hrch i a b)).mpr y.1, y.2⟩]
      · rw [pik_f y, pik_f (fun z => y ⟨(q.mt (hS.ew (by omega)) h4 h5 h6 (hrch i a b)).mp z.1, z.2⟩)]
  have hEE : ∀ y : Nat, y < (g 8 1).toNat → 2 ≤ g (10 + 3 * y) 2 := fun y hy => (hS.ew (by omega)).1.1
  have hrow : ∀ i, 0 ≤ i → i < g 4 3 → g' 243 i = (bst g (g' 243) i (g 8 1).toNat).1 ∧ g' 244 i = (bst g (g' 243) i (g 8 1).toNat).2 := fun i a b => by
    have := hL'.2.2.2.2.1 i a (by rw [h4]; exact b)
    rw [h81, hb (g' 243) i a b _ (by omega)] at this
    exact ⟨this.1, this.2.1⟩
  have h243 : ∀ (d : Nat) (y : Int), 0 ≤ y → y ≤ g 4 3 → g 4 3 - y ≤ d → g' 243 y = g 243 y := by
    intro d
    induction d with
    | zero =>
      intro y a b c
      have e := hL'.2.2.2.1
      rw [h4] at e
      rw [show y = g 4 3 by omega, e, hL.2.2.2.1]
    | succ d ih =>
      intro y a b c
      by_cases e1 : y = g 4 3
      · have e := hL'.2.2.2.1
        rw [h4] at e
        rw [e1, e, hL.2.2.2.1]
      · rw [(hrow y a (by omega)).1, (hL.2.2.2.2.1 y a (by omega)).1, bst_tb (by omega) (fun w u v => ih w (by omega) v (by omega)) _ hEE]
  have h244 : ∀ y, 0 ≤ y → y < g 4 3 → g' 244 y = g 244 y := fun y a b => by
    rw [(hrow y a b).2, (hL.2.2.2.2.1 y a b).2.1, bst_tb b (fun w u v => h243 (g 4 3).toNat w (by omega) v (by omega)) _ hEE]
  have hPK := (FB_PK hS.1 hL.2.2.2.2.1).1
  have hcs : ∀ i : Nat, (i : Int) ≤ g 4 3 → csN g' i = csN g i := by
    intro i
    induction i with
    | zero => intro _; rfl
    | succ i ih =>
      intro hi
      rw [csN_s, csN_s, ih (by omega), h244 i (by omega) (by omega), h5]
      rcases hPK i (by omega) (by omega) with y | ⟨y1, y2⟩
      · rw [if_pos (c := g 244 (i : Int) < 0) (by omega), if_pos (c := g 244 (i : Int) < 0) (by omega)]
      · have q := hE (g 244 (i : Int)).toNat (by omega)
        rw [q.1, q.2.1]
  refine ⟨fun j hj => ?_, ?_⟩
  · have p := PF.of hL hj
    have p' := PF.of hL' (j := j) (by rw [h4]; exact hj)
    rw [p.1, p.2, p'.1, p'.2, hcs j (by omega), hcs (j + 1) (by omega)]
    exact ⟨rfl, rfl⟩
  · rw [hL'.2.2.2.2.2.2.1, hL.2.2.2.2.2.2.1, h4, hcs _ (by have := hP.1; omega)]
set_option maxRecDepth 100000 in
set_option maxHeartbeats 4000000 in
theorem pX9_hold {K : XK} {n : Nat} {h : XH} (g g' : XH) (w : Int) (hM : MG g h) (hAA : (1 ≤ w ∧ w ≤ 4) → w ≠ g 8 3 → Cgd g g' ∧ KeptR g g' ∧ SetR g g' (g 8 2) w) (hi : xrg w) : MI K mX9_hold 5 n [vr 259, vi w] h (fun zr h' => (¬ (1 ≤ w ∧ w ≤ 4) → zr = -1 ∧ h' = h) ∧ ((1 ≤ w ∧ w ≤ 4) → w = g 8 3 → zr = -2 ∧ h' = h) ∧ ((1 ≤ w ∧ w ≤ 4) → w ≠ g 8 3 → zr = g 8 3 ∧ Chd g' h h')) := by
  refine xMeth FX9_hold (Nat.le_of_ble_eq_true rfl) ?_
  refine x_iload_n 1 (xd DX9_hold rfl) rfl rfl ?_
  refine x_i2l 2 (by omega) (xd DX9_hold rfl) rfl ?_
  refine x_lconst 3 (xd DX9_hold rfl) (z := 1) rfl rfl ?_
  refine x_ldc2 6 (xd DX9_hold rfl) KX9_145 rfl ?_
  refine x_Si 9 (pX9_in w 1 4 (by omega) (by omega) (by omega)) FX9_in VX9_in CX9_71 (xd DX9_hold rfl) rfl rfl (by decide) (Nat.le_of_ble_eq_true rfl) (by decide) rfl ?_
  rintro z9 h9 ⟨q1, q2⟩
  rw [q1, q2]
  clear q1 q2 z9 h9
  refine x_ifp_ne 12 14 (xd DX9_hold rfl) rfl rfl (fun c9 => ?_) (fun c9 => ?_)
  · refine x_aload_n 15 (xd DX9_hold rfl) rfl rfl ?_
    refine x_gr 18 _ LX9_28 (xd DX9_hold rfl) rfl rfl ⟨by decide, by decide⟩ (by decide) rfl rfl ?_
    refine x_bipush 20 (xd DX9_hold rfl) rfl rfl ?_
    refine x_iaload 21 (xd DX9_hold rfl) rfl ⟨Or.inr ⟨rfl, by decide⟩, by decide⟩ (by decide) (by omega) (by omega) rfl ?_
    refine x_istore_n 22 (L' := [(0, _), (1, _), (2, _)]) (xd DX9_hold rfl) (by decide) rfl rfl rfl ?_
    refine x_iload_n 23 (xd DX9_hold rfl) rfl rfl ?_
    refine x_iload_n 24 (xd DX9_hold rfl) rfl rfl ?_
    refine x_icmp_ne 27 30 (xd DX9_hold rfl) rfl (by first | omega | (rw [hM.1.2.2.2.2.1.2.1]; have := hM.1.2.1.2.2.1; omega)) (by first | omega | (rw [hM.1.2.2.2.2.1.2.1]; have := hM.1.2.1.2.2.1; omega)) rfl (fun c24 => ?_) (fun c24 => ?_)
    · rw [hM.1.2.2.2.2.1.2.1] at c24
      have hA := hAA c9 (fun q => c24 q.symm)
      refine x_aload_n 31 (xd DX9_hold rfl) rfl rfl ?_
      refine x_Vv 34 (pX9_note (by have := hM.2.2.2.1.1; have := hM.2.2.1.1; omega) hM.1.2.2.2.2.2 hM.2.2.2.2) FX9_note VX9_note CX9_157 (xd DX9_hold rfl) rfl rfl rfl ⟨by decide, rfl⟩ ⟨by decide, by decide⟩ (by decide) (Nat.le_of_ble_eq_true rfl) (by decide) rfl ?_
      intro h1 hN
      refine x_aload_n 35 (xd DX9_hold rfl) rfl rfl ?_
      refine x_gr 38 _ LX9_28 (xd DX9_hold rfl) rfl rfl ⟨by decide, by decide⟩ (by decide) rfl rfl ?_
      refine x_bipush 40 (xd DX9_hold rfl) rfl rfl ?_
      refine x_iload_n 41 (xd DX9_hold rfl) rfl rfl ?_
      refine x_iastore 42 (xd DX9_hold rfl) rfl ⟨Or.inr ⟨rfl, by decide⟩, by decide⟩ (by decide) (by omega) (by omega) rfl ?_
      refine x_iload_n 43 (xd DX9_hold rfl) rfl rfl ?_
      refine x_ri (xd DX9_hold rfl) rfl ?_
      have hrt := set_rt hM hN hA.2.2 (Or.inr rfl) (v := w) (by rw [hset_i (by decide), (hN.rt hM).1.1]) hset_s hi
      have hG2 := chd_gh hM hA.1 hN.1 (hN.2.1 5 (by decide) (by decide)) (Off.set rfl) hrt.1 hrt.2
      have hk : ∀ c, c < 8 → g' c = g c := fun c q => hA.1.1 c (by unfold SCh; omega)
      have hone := LY_one hM.1.1 hM.1.2.1 hM.1.2.2.1 hA.1.2.1.2.2.2.1 (hk 4 (by omega)) (hk 5 (by omega)) (hk 6 (by omega)) (hk 7 (by omega)) hA.2.2.1 hA.2.2.2.1 hA.2.2.2.2.2
      have hX := chd_mk hM hA.1 hA.2.1 hN (Off.set rfl) hG2 Off.rf (by
        have hRC := hM.2.1
        refine ⟨fun j hj => ?_, ?_⟩
        · rw [hk 4 (by omega)] at hj
          rw [hset_c (by decide), hset_c (by decide), hN.1 270 (by decide), hN.1 269 (by decide), (hone.1 j hj).1, (hone.1 j hj).2]
          exact hRC.1 j hj
        · rw [hset_c (by decide), hN.1 270 (by decide), hk 4 (by omega), hone.2]
          exact hRC.2)
      exact ⟨fun q => absurd c9 q, fun _ q => absurd q.symm c24, fun _ _ => ⟨hM.1.2.2.2.2.1.2.1, hX⟩⟩
    · rw [hM.1.2.2.2.2.1.2.1] at c24
      refine x_bipush 29 (xd DX9_hold rfl) rfl rfl ?_
      refine x_ri (xd DX9_hold rfl) rfl ?_
      exact ⟨fun q => absurd c9 q, fun _ _ => ⟨rfl, rfl⟩, fun _ q => absurd c24.symm q⟩
  · refine x_iconst 13 (xd DX9_hold rfl) rfl ?_
    refine x_ri (xd DX9_hold rfl) rfl ?_
    exact ⟨fun _ => ⟨rfl, rfl⟩, fun q => absurd q c9, fun q => absurd q c9⟩

set_option maxRecDepth 100000 in
set_option maxHeartbeats 4000000 in
theorem pX9_undo {K : XK} {n : Nat} {h : XH} (g g' : XH) (hM : MG g h) (hAA : g 34 1 ≠ 0 → Cgd g g' ∧ UndR g g') : MI K mX9_undo 5 n [vr 259] h (fun zr h' => (g 34 1 = 0 → zr = -2 ∧ h' = h) ∧ (g 34 1 ≠ 0 → zr = g 34 1 - 1 ∧ Chd g' h h')) := by
  refine xMeth FX9_undo (Nat.le_of_ble_eq_true rfl) ?_
  have hd1 := hM.2.2.1.1
  have loop : g 34 1 ≠ 0 → (Cgd g g' ∧ UndR g g') → ∀ (f : Nat) (xk : Int) (xg : XH), 0 ≤ xk → xk ≤ 83 → 83 - xk < (f : Int) → Off (fun c => c = 266 ∨ c = 259) h xg → xg 259 11 = g 34 1 - 1 → (∀ j, j ≠ 11 → xg 259 j = h 259 j) → (∀ j, xg 266 j = if 0 ≤ j ∧ j < xk then h 267 (83 * (g 34 1 - 1) + j) else h 266 j) → WI K mX9_undo 5 n (qI n (fun zr h' => (g 34 1 = 0 → zr = -2 ∧ h' = h) ∧ (g 34 1 ≠ 0 → zr = g 34 1 - 1 ∧ Chd g' h h'))) 22 [(0, vr 259), (1, vi xk)] [] xg := by
    intro c4 hA f
    induction f with
    | zero => intro xk xg a b c; exact absurd c (by omega)
    | succ f ih =>
      intro xk xg h0 h1 hf hO ex11 h9o hI
      refine x_iload_n 23 (xd DX9_undo rfl) rfl rfl ?_
      refine x_bipush 25 (xd DX9_undo rfl) rfl rfl ?_
      refine x_icmp_ge 28 54 (xd DX9_undo rfl) rfl (by omega) (by omega) rfl (fun c25 => ?_) (fun c25 => ?_)
      · refine x_aload_n 55 (xd DX9_undo rfl) rfl rfl ?_
        refine x_iconst 56 (xd DX9_undo rfl) rfl ?_
        refine x_pz 59 15 rfl LX9_109 (xd DX9_undo rfl) rfl rfl ⟨Or.inr ⟨rfl, by decide⟩, by decide⟩ (by omega) rfl ?_
        have e83 : xk = 83 := by omega
        subst e83
        have hd := hM.2.2.2.1.2 (g 34 1 - 1).toNat (by omega)
        rw [show (((g 34 1 - 1).toNat : Nat) : Int) = g 34 1 - 1 by omega] at hd
        have hw := hM.2.2.1.2 (g 34 1 - 1).toNat (by omega)
        have hrt : RT g' (hset xg 259 15 0) := by
          refine RTs.t (RTs.eq ?_ hA.2.2.1)
          refine hd.mv hw.1.2 (fun x a b => ?_)
          rw [hset_c (by decide), hI, if_pos (by omega), Int.zero_add]
        have htr : TRg (hset xg 259 15 0) := fun j a b => by
          rw [hset_c (by decide), hI]
          split
          · exact hM.2.2.2.2 _ (by omega) (by omega)
          · exact hM.1.2.2.2.2.2 j a b
        have hk : ∀ c, c < 8 → g' c = g c := fun c q => hA.1.1 c (by unfold SCh; omega)
        have hP' : RP g' (hset xg 259 15 0) := (hM.1.2.2.2.1.eq (hk 4 (by omega)) (hk 5 (by omega)) (hk 6 (by omega)) (hk 7 (by omega))).mv (by rw [hset_i (by decide)]; exact h9o 5 (by decide)) (by rw [hset_c (by decide), hO 263 (by decide)]) (by rw [hset_c (by decide), hO 264 (by decide)]) (by rw [hset_c (by decide), hO 265 (by decide)])
        have hG2 : GH g' (hset xg 259 15 0) := ⟨hA.1.2.1.1, hA.1.2.1.2.1, hA.1.2.1.2.2.2.1, hP', hrt, htr⟩
        refine x_aload_n 60 (xd DX9_undo rfl) rfl rfl ?_
        refine x_Vv 63 (pX9_cover g' hG2) FX9_cover VX9_cover CX9_113 (xd DX9_undo rfl) rfl rfl rfl ⟨by decide, rfl⟩ ⟨by decide, by decide⟩ (by decide) (Nat.le_of_ble_eq_true rfl) (by decide) rfl ?_
        intro h3 ⟨hO3, hR3⟩
        refine x_aload_n 64 (xd DX9_undo rfl) rfl rfl ?_
        refine x_gi 67 11 rfl LX9_106 (xd DX9_undo rfl) rfl ⟨Or.inr ⟨rfl, by decide⟩, by decide⟩ rfl ?_
        refine x_ri (xd DX9_undo rfl) rfl ?_
        have e9 : h3 259 = hset xg 259 15 0 259 := hO3 259 (by unfold S890; omega)
        have e7 : h3 267 = h 267 := by rw [hO3 267 (by unfold S890; omega), hset_c (by decide), hO 267 (by decide)]
        have e11b : h3 259 11 = g' 34 1 := by rw [e9, hset_i (by decide), ex11, hA.2.1]
        refine ⟨fun q => absurd q c4, fun _ => ⟨by rw [e11b, hA.2.1], ⟨hG2.off hO3 (by unfold S890; omega) (by unfold S890; omega) (by unfold S890; omega) (by unfold S890; omega) (by unfold S890; omega), hR3, hA.1.2.1.2.2.1, ⟨e11b, fun k hk => ?_⟩, hM.2.2.2.2.mv e7⟩, by rw [e9, hset_s], fun c hc => ?_, ?_⟩⟩
        · rw [hA.2.1] at hk
          have hcell : ∀ x, S26 (36 + 26 * k) x → g' x = g x := fun x q => hA.2.2.2 x (by unfold S26 at q; omega) (by unfold S26 at q; omega)
          rw [e7]
          exact (hM.2.2.2.1.2 k (by omega)).eq (SEq.same hcell (hM.2.2.1.2 k (by omega)).1.2)
        · unfold SM at hc
          rw [hO3 c (by unfold S890; omega), hset_c (by omega), hO c (by omega)]
        · rw [e9, hset_i (by decide)]
          exact h9o 0 (by decide)
      · refine x_aload_n 29 (xd DX9_undo rfl) rfl rfl ?_
        refine x_gr 32 _ LX9_28 (xd DX9_undo rfl) rfl rfl ⟨by decide, by decide⟩ (by decide) rfl rfl ?_
        refine x_iload_n 33 (xd DX9_undo rfl) rfl rfl ?_
        refine x_aload_n 34 (xd DX9_undo rfl) rfl rfl ?_
        refine x_gr 37 _ LX9_31 (xd DX9_undo rfl) rfl rfl ⟨by decide, by decide⟩ (by decide) rfl rfl ?_
        refine x_bipush 39 (xd DX9_undo rfl) rfl rfl ?_
        refine x_aload_n 40 (xd DX9_undo rfl) rfl rfl ?_
        refine x_gi 43 11 rfl LX9_106 (xd DX9_undo rfl) rfl ⟨Or.inr ⟨rfl, by decide⟩, by decide⟩ rfl ?_
        refine x_imul 44 (xd DX9_undo rfl) rfl ?_
        refine x_iload_n 45 (xd DX9_undo rfl) rfl rfl ?_
        refine x_iadd 46 (xd DX9_undo rfl) rfl ?_
        refine x_iaload 47 (xd DX9_undo rfl) rfl ⟨Or.inr ⟨rfl, by decide⟩, by decide⟩ (by decide) (by omega) (by omega) rfl ?_
        refine x_iastore 48 (xd DX9_undo rfl) rfl ⟨Or.inr ⟨rfl, by decide⟩, by decide⟩ (by decide) (by omega) (by omega) rfl ?_
        refine x_iinc 51 (L' := [(0, _), (1, _)]) (xd DX9_undo rfl) rfl (by decide) rfl rfl rfl ?_
        refine x_goto 22 (xd DX9_undo rfl) rfl ?_
        refine ih (xk + 1) _ (by omega) (by omega) (by omega) (hO.tr (Off.set (Or.inl rfl))) (by rw [hset_c (by decide)]; exact ex11) (fun j q => by rw [hset_c (by decide)]; exact h9o j q) (fun j => ?_)
        rw [ex11, hset_at]
        by_cases q : j = xk
        · rw [if_pos q, if_pos (by omega), hO 267 (by decide), q]
        · rw [if_neg q, hI]
          by_cases y : 0 ≤ j ∧ j < xk
          · rw [if_pos y, if_pos (by omega)]
          · rw [if_neg y, if_neg (by omega)]
  refine x_aload_n 1 (xd DX9_undo rfl) rfl rfl ?_
  refine x_gi 4 11 rfl LX9_106 (xd DX9_undo rfl) rfl ⟨Or.inr ⟨rfl, by decide⟩, by decide⟩ rfl ?_
  refine x_if_ne 7 10 (xd DX9_undo rfl) rfl (by rw [hM.2.2.2.1.1]; omega) rfl (fun c4 => ?_) (fun c4 => ?_)
  · rw [hM.2.2.2.1.1] at c4
    have hA := hAA c4
    refine x_aload_n 11 (xd DX9_undo rfl) rfl rfl ?_
    refine x_dupr 12 (xd DX9_undo rfl) rfl ?_
    refine x_gi 15 11 rfl LX9_106 (xd DX9_undo rfl) rfl ⟨Or.inr ⟨rfl, by decide⟩, by decide⟩ rfl ?_
    refine x_iconst 16 (xd DX9_undo rfl) rfl ?_
    refine x_isub 17 (xd DX9_undo rfl) rfl ?_
    refine x_pi 20 11 rfl LX9_106 (xd DX9_undo rfl) rfl rfl ⟨Or.inr ⟨rfl, by decide⟩, by decide⟩ rfl ?_
    refine x_iconst 21 (xd DX9_undo rfl) rfl ?_
    refine x_istore_n 22 (L' := [(0, _), (1, _)]) (xd DX9_undo rfl) (by decide) rfl rfl rfl ?_
    refine loop c4 hA 90 0 _ (by omega) (by omega) (by omega) (Off.set (Or.inr rfl)) (by rw [hset_s, hM.2.2.2.1.1]) (fun j q => hset_i q) (fun j => by rw [hset_c (by decide), if_neg (by omega)])
  · rw [hM.2.2.2.1.1] at c4
    refine x_bipush 9 (xd DX9_undo rfl) rfl rfl ?_
    refine x_ri (xd DX9_undo rfl) rfl ?_
    exact ⟨fun _ => ⟨rfl, rfl⟩, fun q => absurd c4 q⟩

