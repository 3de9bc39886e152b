/-! SqueezedCode: gain; a gain is one number -/
theorem Mt_took {h xa xb : XH} {i m z : Int} (oa : Off STr h xa) (ob : Off STr h xb) (ta : Took xa 246 h i m z) (tb : Took xb 246 h i m z) (j : Int) : Mt xa 246 j ↔ Mt xb 246 j := by
  have key : ∀ ya yb : XH, Off STr h ya → Off STr h yb → Took ya 246 h i m z → Took yb 246 h i m z → Mt ya 246 j → Mt yb 246 j := by
    intro ya yb oa ob ta tb q
    obtain ⟨q1, q2, q3, q4⟩ := q
    rw [ta.1, oa 193 (by unfold STr SGa S3; omega)] at q1
    rw [ta.1, oa 4 (by unfold STr SGa S3; omega)] at q3
    refine ⟨by rw [tb.1, ob 193 (by unfold STr SGa S3; omega)]; exact q1, q2, by rw [tb.1, ob 4 (by unfold STr SGa S3; omega)]; exact q3, fun x a b => ?_⟩
    rw [tb.1] at b
    have w1 := q4 x a (by rw [ta.1]; exact b)
    have a1 := ta.2.2 x a b
    have b1 := tb.2.2 x a b
    rw [oa 5 (by unfold STr SGa S3; omega), oa 6 (by unfold STr SGa S3; omega), a1.1, a1.2, ta.2.1] at w1
    rw [ob 5 (by unfold STr SGa S3; omega), ob 6 (by unfold STr SGa S3; omega), b1.1, b1.2, tb.2.1]
    exact w1
  exact ⟨key xa xb oa ob ta tb, key xb xa ob oa tb ta⟩
theorem trp_tb {h : XH} {t t' : Int → Int} {i B : Int} (hf : ∀ j, i < j → j ≤ B → t j = t' j) : ∀ d : Nat, i + 1 + d ≤ B → trp h t i d = trp h t' i d
  | 0, q => by unfold trp; rw [hf (i + 1) (by omega) (by omega)]
  | d + 1, q => by unfold trp; rw [trp_tb hf d (by omega), hf (i + ((d : Int) + 2)) (by omega) (by omega)]
theorem trp_offS {h xg : XH} (hO : Off STr h xg) {i : Int} (hi : i < 48) {t : Int → Int} (d : Nat) : trp xg t i d = trp h t i d :=
  trp_off hO (by unfold STr SGa S3; omega) (by unfold STr SGa S3; omega) d
theorem gain_one {h : XH} {i m z g g' : Int} (hP : PW h) (hL : LY h) (hm : 1 ≤ m) (ha : GainIs h i m z g) (hb : GainIs h i m z g') : g = g' := by
  obtain ⟨xa, oa, ta, ra, ea⟩ := ha
  obtain ⟨xb, ob, tb, rb, eb⟩ := hb
  have hP1 := hP.1
  have a4 := oa 4 (by unfold STr SGa S3; omega)
  have b4 := ob 4 (by unfold STr SGa S3; omega)
  have a193 := oa 193 (by unfold STr SGa S3; omega)
  have b193 := ob 193 (by unfold STr SGa S3; omega)
  obtain ⟨ra0, ra⟩ := ra
  obtain ⟨rb0, rb⟩ := rb
  rw [a4] at ra0 ra
  rw [b4] at rb0 rb
  have key : ∀ (d : Nat) (j : Int), 0 ≤ j → j ≤ h 4 3 → h 4 3 - j ≤ d → xa 245 j = xb 245 j := by
    intro d
    induction d with
    | zero => intro j a b c; rw [show j = h 4 3 by omega, ra0, rb0]
    | succ d ih =>
      intro j a b c
      by_cases q : j = h 4 3
      · rw [q, ra0, rb0]
      · have hf : ∀ x, j < x → x ≤ h 4 3 → xa 245 x = xb 245 x := fun x u v => ih x (by omega) v (by omega)
        have hr := hL.hr j a (by omega)
        have hrl := hL.hrl j a (by omega)
        rw [ra j a (by omega), rb j a (by omega)]
        unfold trF
        rw [a193, b193, trp_offS oa (by omega), trp_offS ob (by omega), trp_tb (B := h 4 3) hf (h 193 j - 1).toNat (by omega), ta.1, tb.1, ta.2.1, tb.2.1, show Mt xa 246 j = Mt xb 246 j from propext (Mt_took oa ob ta tb j)]
        by_cases w : Mt xb 246 j
        · rw [pik_t w, pik_t w, hf (j + m) (by omega) (by have := w.2.2.1; rw [tb.1, b4] at this; omega)]
        · rw [pik_f w, pik_f w]
  rw [ea, eb, key (h 4 3).toNat 0 (by omega) (by omega) (by omega)]
/-- the gain of a sequence, or less than any -/
noncomputable def GfC (h : XH) (i m z : Int) : Int := pik (∃ g, GainIs h i m z g) (Classical.epsilon (fun g => GainIs h i m z g)) (-9)
theorem GfC_one {h : XH} {i m z g : Int} (hP : PW h) (hL : LY h) (hm : 1 ≤ m) (ha : GainIs h i m z g) : g = GfC h i m z := by
  unfold GfC
  rw [pik_t ⟨g, ha⟩]
  exact gain_one hP hL hm ha (Classical.epsilon_spec (p := fun g => GainIs h i m z g) ⟨g, ha⟩)
/-- the class's picture is kept by what is but scratch -/
theorem CI.scr {S : Nat → Prop} {h xg : XH} (hC : CI h) (hO : Off S h xg) (hs : ∀ c, S c → (245 ≤ c ∧ c ≤ 248) ∨ c = 254) : CI xg := by
  have hn : ∀ c, ¬ ((245 ≤ c ∧ c ≤ 248) ∨ c = 254) → xg c = h c := fun c q => hO c (fun y => q (hs c y))
  have e255 := hn 255 (by omega)
  have e1 := hn 1 (by omega)
  have e4 := hn 4 (by omega)
  refine ⟨hC.1.off hO (fun y => by have := hs _ y; omega) (fun y => by have := hs _ y; omega) (fun y => by have := hs _ y; omega) (fun y => by have := hs _ y; omega), hC.2.1.same (fun x z => hn x (by unfold S26 at z; omega)), hC.2.2.1.same (fun x a b => hn x (by omega)), hC.2.2.2.1.off hO (fun c q y => by have := hs _ y; omega) hC.1 hC.2.1, by rw [e255]; exact hC.2.2.2.2.1, fun q => ?_, by rw [e1]; exact hC.2.2.2.2.2.2.1, by rw [e1, hn 2 (by omega)]; exact hC.2.2.2.2.2.2.2⟩
  have r := hC.2.2.2.2.2.1 (by rw [← e255]; exact q)
  unfold RW at r ⊢
  rw [e255, e4, hn 256 (by omega), hn 258 (by omega)]
  exact r
set_option maxRecDepth 100000 in
set_option maxHeartbeats 4000000 in
theorem pX8_gain {K : XK} {n : Nat} {h : XH} (i m z : Int) (hC : CI h) (hi : xrg i) (hm : xrg m) (hz : xrg z) : MI K mX8_gain 6 n [vr 0, vi i, vi m, vi z] h (fun zr h' => (hindC h i m z ≠ 0 → zr = hindC h i m z ∧ h' = h) ∧ (hindC h i m z = 0 → Off STr h h' ∧ CI h' ∧ zr = GfC h i m z + 100000)) := by
  refine xMeth FX8_gain (Nat.le_of_ble_eq_true rfl) ?_
  have hP := hC.1
  have hS := hC.2.1
  have hH := hC.2.2.1
  have hL := hC.2.2.2.1
  have hP1 := hP.1
  have hS1 := hS.1
  have hS2 := hS.2.1
  have hS3 := hS.2.2.1
  have hind := hindC_rg h i m z
  refine x_aload_n 1 (xd DX8_gain rfl) rfl rfl ?_
  refine x_iload_n 2 (xd DX8_gain rfl) rfl rfl ?_
  refine x_iload_n 3 (xd DX8_gain rfl) rfl rfl ?_
  refine x_iload_n 4 (xd DX8_gain rfl) rfl rfl ?_
  refine x_Vi 7 (pX8_hindranceTo i m z hP hS hL hi hm hz) FX8_hindranceTo VX8_hindranceTo CX8_133 (xd DX8_gain rfl) rfl rfl rfl ⟨by decide, rfl⟩ ⟨by decide, by decide⟩ (by decide) (Nat.le_of_ble_eq_true rfl) (by decide) rfl ?_
  rintro z9 h9 ⟨q1, q2⟩
  rw [q1, q2]
  clear q1 q2 z9 h9
  refine x_istore 9 (L' := [(0, _), (1, _), (2, _), (3, _), (4, _)]) (xd DX8_gain rfl) (by decide) rfl rfl rfl ?_
  refine x_iload 11 (xd DX8_gain rfl) rfl rfl ?_
  refine x_if_eq 14 17 (xd DX8_gain rfl) rfl (by omega) rfl (fun c11 => ?_) (fun c11 => ?_)
  · obtain ⟨f1, f2, f3'⟩ := hindC_0 c11
    have sq := f2.1.ok hL f1.2.2.1
    refine x_aload_n 18 (xd DX8_gain rfl) rfl rfl ?_
    refine x_gr 21 _ LX8_42 (xd DX8_gain rfl) rfl rfl ⟨by decide, by decide⟩ (by decide) rfl rfl ?_
    refine x_iload_n 22 (xd DX8_gain rfl) rfl rfl ?_
    refine x_iload_n 23 (xd DX8_gain rfl) rfl rfl ?_
    refine x_iload_n 24 (xd DX8_gain rfl) rfl rfl ?_
    refine x_Vi 27 (pX3_gainOf i m z hP hL sq ⟨by omega, by omega⟩) FX3_gainOf VX3_gainOf CX8_149 (xd DX8_gain rfl) rfl rfl rfl ⟨by decide, rfl⟩ ⟨by decide, by decide⟩ (by decide) (Nat.le_of_ble_eq_true rfl) (by decide) rfl ?_
    rintro zg h1 ⟨o1, t1, r1, g1, -⟩
    refine x_ldc 29 (xd DX8_gain rfl) KX8_152 rfl ?_
    refine x_iadd 30 (xd DX8_gain rfl) rfl ?_
    refine x_ri (xd DX8_gain rfl) rfl ?_
    have o2 : Off STr h h1 := o1.mono (fun x q => Or.inr q)
    refine ⟨fun q => absurd c11 q, fun _ => ⟨o2, hC.scr o2 (fun c q => by unfold STr SGa S3 at q; omega), ?_⟩⟩
    rw [GfC_one hP hL (by omega) ⟨h1, o2, t1, r1, g1⟩]
  · refine x_iload 16 (xd DX8_gain rfl) rfl rfl ?_
    refine x_ri (xd DX8_gain rfl) rfl ?_
    exact ⟨fun _ => ⟨rfl, rfl⟩, fun q => absurd q c11⟩

