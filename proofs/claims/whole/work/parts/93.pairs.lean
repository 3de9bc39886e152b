/-! the operations, class and reference side by side -/
theorem INV.mg1 {h h1 : XH} (hI : INV h) (hO : ∀ c, 259 ≤ c → h1 c = h c) : MG h h1 := hI.2.2.1.hp (fun c a b => hO c (by omega)) (by rw [hO 259 (by omega)]) (by rw [hO 259 (by omega)])
theorem INV.m5 {h : XH} (hI : INV h) : 0 ≤ h 259 5 ∧ h 259 5 ≤ 48 := by
  rw [hI.2.2.1.1.n]
  have := hI.1.1.1
  omega
theorem INV.m15 {h : XH} (hI : INV h) : h 259 15 = 0 ∨ h 259 15 = 1 := by
  rw [hI.2.2.2.2.1]
  exact hI.1.2.2.2.2.1
theorem Pair.rd {K : XK} {n : Nat} {h : XH} {M1 M2 : XM} {d1 d2 : Nat} {as1 as2 : List XV} {xe1 xe2 : Int} (hI : INV h) (h1 : MI K M1 d1 n as1 h (fun z h' => z = xe1 ∧ h' = h)) (h2 : MI K M2 d2 n as2 h (fun z h' => z = xe2 ∧ h' = h)) (he : xe2 = xe1) : Pair K n h M1 d1 as1 M2 d2 as2 :=
  ⟨_, h1, fun z y hA => by
    obtain ⟨a1, a2⟩ := hA
    subst a2
    exact MI.imp h2 (fun z2 y2 hB => ⟨by rw [hB.1, a1, he], by rw [hB.2]; exact hI⟩)⟩
theorem pr_write {K : XK} {n : Nat} {h : XH} (xc : Int) (hI : INV h) (hc : xrg xc) : Pair K n h mX8_write 1 [vr 0, vi xc] mX9_write 1 [vr 259, vi xc] := by
  have hX := hI.2.2.2.1
  have hT := hI.1.tx
  refine ⟨_, pX8_write xc hI.1 hc, fun zr h1 hA => ?_⟩
  by_cases xq : 32 ≤ xc ∧ xc ≤ 126
  · by_cases xq2 : h 1 2 < 200
    · obtain ⟨a, b⟩ := (hA.2 xq).2 xq2
      have h1k : ∀ c, c ≠ 1 → c ≠ 2 → h1 c = h c := fun c p q => by rw [b, hset_c p, hset_c q]
      have e12 : h1 1 2 = h 1 2 + 1 := by rw [b, hset_s]
      have e2 : ∀ j, h1 2 j = if j = h 1 2 then xc else h 2 j := fun j => by
        rw [b, hset_c (by decide)]
        by_cases w : j = h 1 2
        · rw [w, hset_s, if_pos rfl]
        · rw [hset_i w, if_neg w]
      have e259 : h1 259 0 = h 1 2 := by rw [h1k 259 (by omega) (by omega)]; exact hX.1
      have hT1 : TxI h1 := ⟨by rw [e12]; have := hT.1; omega, fun j p q => by
        rw [e12] at q
        rw [e2]
        split
        · exact xq
        · exact hT.2 j p (by omega)⟩
      refine MI.imp (pX9_write xc hc (by rw [e259]; exact hT.1)) (fun z2 h2 hB => ?_)
      obtain ⟨a2, b2⟩ := (hB.2 xq).2 (by rw [e259]; omega)
      have h2k : ∀ c, c ≠ 259 → c ≠ 260 → h2 c = h1 c := fun c p q => by rw [b2, hset_c p, hset_c q]
      have h29 : ∀ j, j ≠ 0 → h2 259 j = h1 259 j := fun j p => by rw [b2, hset_i p, hset_c (by decide)]
      have hC1 : CI h1 := hI.1.txt (fun c p => h1k c (by omega) (by omega)) hT1
      refine ⟨by rw [a2, a, e259], INV.mk2 hC1 (hI.2.1.hp (h1k 4 (by omega) (by omega)) (h1k 5 (by omega) (by omega)) (h1k 6 (by omega) (by omega)) (h1k 7 (by omega) (by omega))) ?_ ⟨?_, fun j p q => ?_⟩ ?_ (fun c p => h2k c (by omega) (by omega))⟩
      · exact ((hI.mg1 (fun c p => h1k c (by omega) (by omega))).gh2 (S := fun c => c = 1 ∨ c = 2) (fun c p => h1k c (by omega) (by omega)) (fun c p => by unfold SGm; omega)).hp (fun c p q => h2k c (by omega) (by omega)) (h29 5 (by decide)) (h29 11 (by decide))
      · rw [b2, hset_s, e259, e12]
      · have e260 : h2 260 j = if j = h 1 2 then xc else h 260 j := by
          rw [b2, hset_c (by decide)]
          by_cases w : j = h 1 2
          · rw [w, e259, hset_s, if_pos rfl]
          · rw [hset_i (by rw [e259]; exact w), if_neg w, h1k 260 (by omega) (by omega)]
        rw [e260, e2]
        rw [e12] at q
        split
        · rfl
        · exact hX.2 j p (by omega)
      · exact (hI.2.2.2.2.gh (h1k 255 (by omega) (by omega)) (h1k 256 (by omega) (by omega)) (h1k 257 (by omega) (by omega)) (h1k 258 (by omega) (by omega)) (by rw [h1k 8 (by omega) (by omega)])).hp (fun j p q => by rw [h29 j (by omega), h1k 259 (by omega) (by omega)]) (by rw [h2k 271 (by omega) (by omega), h1k 271 (by omega) (by omega)]) (by rw [h2k 272 (by omega) (by omega), h1k 272 (by omega) (by omega)]) (by rw [h2k 273 (by omega) (by omega), h1k 273 (by omega) (by omega)])
    · obtain ⟨a, b⟩ := (hA.2 xq).1 (by omega)
      subst b
      refine MI.imp (pX9_write xc hc (by rw [hX.1]; exact hT.1)) (fun z2 h2 hB => ?_)
      obtain ⟨a2, b2⟩ := (hB.2 xq).1 (by rw [hX.1]; omega)
      exact ⟨by rw [a2, a], by rw [b2]; exact hI⟩
  · obtain ⟨a, b⟩ := hA.1 xq
    subst b
    refine MI.imp (pX9_write xc hc (by rw [hX.1]; exact hT.1)) (fun z2 h2 hB => ?_)
    obtain ⟨a2, b2⟩ := hB.1 xq
    exact ⟨by rw [a2, a], by rw [b2]; exact hI⟩
theorem pr_wipe {K : XK} {n : Nat} {h : XH} (hI : INV h) : Pair K n h mX8_wipe 1 [vr 0] mX9_wipe 0 [vr 259] := by
  have hX := hI.2.2.2.1
  refine ⟨_, pX8_wipe, fun zr h1 ⟨a, b⟩ => ?_⟩
  have h1k : ∀ c, c ≠ 1 → h1 c = h c := fun c p => by rw [b, hset_c p]
  have e12 : h1 1 2 = 0 := by rw [b, hset_s]
  refine MI.imp pX9_wipe (fun z2 h2 ⟨a2, b2⟩ => ?_)
  have h2k : ∀ c, c ≠ 259 → h2 c = h1 c := fun c p => by rw [b2, hset_c p]
  have h29 : ∀ j, j ≠ 0 → h2 259 j = h1 259 j := fun j p => by rw [b2, hset_i p]
  refine ⟨by rw [a2, a, h1k 259 (by omega), hX.1], INV.mk2 (hI.1.txt (fun c p => h1k c (by omega)) ⟨by rw [e12]; omega, fun j p q => by rw [e12] at q; omega⟩) (hI.2.1.hp (h1k 4 (by omega)) (h1k 5 (by omega)) (h1k 6 (by omega)) (h1k 7 (by omega))) ?_ ⟨?_, fun j p q => ?_⟩ ?_ (fun c p => h2k c (by omega))⟩
  · exact ((hI.mg1 (fun c p => h1k c (by omega))).gh2 (S := fun c => c = 1) (fun c p => h1k c p) (fun c p => by unfold SGm; omega)).hp (fun c p q => h2k c (by omega)) (h29 5 (by decide)) (h29 11 (by decide))
  · rw [b2, hset_s, e12]
  · rw [e12] at q
    omega
  · exact (hI.2.2.2.2.gh (h1k 255 (by omega)) (h1k 256 (by omega)) (h1k 257 (by omega)) (h1k 258 (by omega)) (by rw [h1k 8 (by omega)])).hp (fun j p q => by rw [h29 j (by omega), h1k 259 (by omega)]) (by rw [h2k 271 (by omega), h1k 271 (by omega)]) (by rw [h2k 272 (by omega), h1k 272 (by omega)]) (by rw [h2k 273 (by omega), h1k 273 (by omega)])
/-- behind the reading of the text on both sides -/
theorem INV.read {h h1 h2 : XH} {n1 n2 : Nat} {zr : Int} (hI : INV h) (hF : FFR h h1 n1 zr) (hD : FdI h h1 h2 n2) : INV h2 := by
  have h1k : ∀ c, c ≠ 1 → c ≠ 3 → h1 c = h c := fun c p q => hF.2.1 c (by unfold STx; omega)
  have h2k : ∀ c, c ≠ 259 → c ≠ 261 → c ≠ 262 → h2 c = h1 c := fun c p q r => hD.1 c (by omega)
  have h29 : ∀ j, j ≠ 2 → h2 259 j = h1 259 j := hD.2.1
  have hX := hI.2.2.2.1
  refine INV.mk2 (hF.ci hI.1) (hI.2.1.hp (h1k 4 (by omega) (by omega)) (h1k 5 (by omega) (by omega)) (h1k 6 (by omega) (by omega)) (h1k 7 (by omega) (by omega))) ?_ ⟨?_, fun j p q => ?_⟩ ?_ (fun c p => h2k c (by omega) (by omega) (by omega))
  · exact ((hI.mg1 (fun c p => h1k c (by omega) (by omega))).gh2 (S := fun c => c = 1 ∨ c = 3) (fun c p => h1k c (by omega) (by omega)) (fun c p => by unfold SGm; omega)).hp (fun c p q => h2k c (by omega) (by omega) (by omega)) (h29 5 (by decide)) (h29 11 (by decide))
  · rw [h29 0 (by decide), h1k 259 (by omega) (by omega), hF.2.2.1 2 (by decide)]
    exact hX.1
  · rw [hF.2.2.1 2 (by decide)] at q
    rw [h2k 260 (by omega) (by omega) (by omega), h1k 260 (by omega) (by omega), h1k 2 (by omega) (by omega)]
    exact hX.2 j p q
  · exact (hI.2.2.2.2.gh (h1k 255 (by omega) (by omega)) (h1k 256 (by omega) (by omega)) (h1k 257 (by omega) (by omega)) (h1k 258 (by omega) (by omega)) (by rw [h1k 8 (by omega) (by omega)])).hp (fun j p q => by rw [h29 j (by omega), h1k 259 (by omega) (by omega)]) (by rw [h2k 271 (by omega) (by omega) (by omega), h1k 271 (by omega) (by omega)]) (by rw [h2k 272 (by omega) (by omega) (by omega), h1k 272 (by omega) (by omega)]) (by rw [h2k 273 (by omega) (by omega) (by omega), h1k 273 (by omega) (by omega)])
theorem FFR.rx {h h1 : XH} {n1 : Nat} {zr : Int} (hF : FFR h h1 n1 zr) (hX : RX h h) : RX h h1 := by
  unfold RX
  rw [hF.2.1 259 (by unfold STx; omega), hF.2.1 260 (by unfold STx; omega)]
  exact hX
theorem pr_fault {K : XK} {n : Nat} {h : XH} (hI : INV h) : Pair K n h mX8_fault 8 [vr 0] mX9_fault 3 [vr 259] := by
  refine ⟨_, pX8_fault hI.1, fun zr h1 ⟨n1, hF⟩ => ?_⟩
  refine MI.imp (pX9_fault h hI.1.tx (hF.rx hI.2.2.2.1)) (fun z2 h2 ⟨n2, hF2, hD⟩ => ?_)
  exact ⟨(hF2.one hF.1).2, hI.read hF hD⟩
theorem pr_lay {K : XK} {n : Nat} {h : XH} (hI : INV h) : Pair K n h mX8_lay 8 [vr 0] mX9_lay 6 [vr 259] := by
  refine ⟨_, pX8_lay hI.1, fun zr h1 ⟨n1, z1, hF, hA, hB⟩ => ?_⟩
  by_cases xq : z1 ≠ -4 ∨ n1 = 0
  · obtain ⟨a, b⟩ := hA xq
    have h1k : ∀ c, c ≠ 1 → c ≠ 3 → h1 c = h c := fun c p q => b.2.1 c (by unfold STx; omega)
    refine MI.imp (pX9_lay h h n1 z1 (hI.mg1 (fun c p => h1k c (by omega) (by omega))) hI.1.tx (b.rx hI.2.2.2.1) hF (fun q1 q2 => by exfalso; rcases xq with q | q <;> contradiction)) (fun z2 h2 hC => ?_)
    obtain ⟨a2, b2⟩ := hC.1 xq
    exact ⟨by rw [a2, a], hI.read b b2⟩
  · have xq1 : z1 = -4 := by omega
    have xq2 : n1 ≠ 0 := by omega
    obtain ⟨a, hL, hO⟩ := hB xq1 xq2
    have h1k : ∀ c, 259 ≤ c → h1 c = h c := fun c p => hO c (by omega)
    refine MI.imp (pX9_lay h h1 n1 z1 (hI.mg1 h1k) hI.1.tx (by unfold RX; rw [h1k 259 (by omega), h1k 260 (by omega)]; exact hI.2.2.2.1) hF (fun _ _ => hL)) (fun z2 h2 hC => ?_)
    obtain ⟨a2, hM2, h15, hO2, h0⟩ := hC.2 xq1 xq2
    have h2k : ∀ c, (c < 259 ∨ c = 260) → h2 c = h1 c := fun c q => hO2 c (by unfold SBn; omega)
    refine ⟨by rw [a2, a], INV.mk2 hL.2.2.2.2.2.2.2.2.2 hL.2.2.2.2.2.2.2.2.1 hM2 ⟨?_, fun j p q => ?_⟩ (RR.no hL.2.2.2.2.2.1 h15) (fun c p => h2k c (by omega))⟩
    · rw [h0, h1k 259 (by omega), hL.2.2.2.2.2.2.1]
      exact hI.2.2.2.1.1
    · rw [hL.2.2.2.2.2.2.1] at q
      rw [h2k 260 (by omega), h1k 260 (by omega), hL.2.2.2.2.2.2.2.1]
      exact hI.2.2.2.1.2 j p q
theorem Cgd.hi {h h1 : XH} (hC : Cgd h h1) : ∀ c, 259 ≤ c → h1 c = h c := fun c p => hC.1 c (by unfold SCh; omega)
theorem pr_add {K : XK} {n : Nat} {h : XH} (xi xm xz : Int) (hI : INV h) (hi : xrg xi) (hm : xrg xm) (hz : xrg xz) : Pair K n h mX8_add 6 [vr 0, vi xi, vi xm, vi xz] mX9_add 5 [vr 259, vi xi, vi xm, vi xz] := by
  refine ⟨_, pX8_add xi xm xz hI.1 hi hm hz, fun zr h1 hA => ?_⟩
  by_cases xq : hindC h xi xm xz = 0
  · obtain ⟨a, b, q, d⟩ := hA.2 xq
    refine MI.imp (pX9_add h h1 xi xm xz (hI.mg1 a.hi) (fun _ => ⟨a, b, d⟩) hi hm hz) (fun z2 h2 hB => ?_)
    obtain ⟨a2, b2⟩ := hB.2 xq
    exact ⟨by rw [a2, q], hI.chg a b2⟩
  · obtain ⟨a, b⟩ := hA.1 xq
    subst b
    refine MI.imp (pX9_add h1 h1 xi xm xz hI.2.2.1 (fun q => absurd q xq) hi hm hz) (fun z2 h2 hB => ?_)
    obtain ⟨a2, b2⟩ := hB.1 xq
    exact ⟨by rw [a2, a], INV.keep (S := STr) hI hI.1 Off.rf (fun c q => by unfold STr SGa S3 at q; omega) b2.1 (fun j _ _ _ => by rw [b2.2 259 (by unfold SN; omega)]) (fun c q => b2.2 c (by unfold SN; omega))⟩
theorem pr_gain {K : XK} {n : Nat} {h : XH} (xi xm xz : Int) (hI : INV h) (hi : xrg xi) (hm : xrg xm) (hz : xrg xz) : Pair K n h mX8_gain 6 [vr 0, vi xi, vi xm, vi xz] mX9_gain 5 [vr 259, vi xi, vi xm, vi xz] := by
  refine ⟨_, pX8_gain xi xm xz hI.1 hi hm hz, fun zr h1 hA => ?_⟩
  by_cases xq : hindC h xi xm xz = 0
  · obtain ⟨hO, hC1, e⟩ := hA.2 xq
    refine MI.imp (pX9_gain h xi xm xz (hI.mg1 (fun c p => hO c (by unfold STr SGa S3; omega))) hi hm hz) (fun z2 h2 hB => ?_)
    obtain ⟨a2, b2⟩ := hB
    rw [pik_f (by rw [xq]; exact fun q => q rfl)] at a2
    exact ⟨by rw [a2, e], INV.keep hI hC1 hO (fun c q => by unfold STr SGa S3 at q; omega) b2.1 (fun j _ _ _ => by rw [b2.2 259 (by unfold SN; omega)]) (fun c q => b2.2 c (by unfold SN; omega))⟩
  · obtain ⟨a, b⟩ := hA.1 xq
    subst b
    refine MI.imp (pX9_gain h1 xi xm xz hI.2.2.1 hi hm hz) (fun z2 h2 hB => ?_)
    obtain ⟨a2, b2⟩ := hB
    rw [pik_t xq] at a2
    exact ⟨by rw [a2, a], INV.keep (S := STr) hI hI.1 Off.rf (fun c q => by unfold STr SGa S3 at q; omega) b2.1 (fun j _ _ _ => by rw [b2.2 259 (by unfold SN; omega)]) (fun c q => b2.2 c (by unfold SN; omega))⟩
theorem pr_drop {K : XK} {n : Nat} {h : XH} (xi : Int) (hI : INV h) (hi : xrg xi) : Pair K n h mX8_drop 6 [vr 0, vi xi] mX9_drop 5 [vr 259, vi xi] := by
  refine ⟨_, pX8_drop xi hI.1 hi, fun zr h1 hA => ?_⟩
  by_cases xq : 0 ≤ xi ∧ xi < h 8 1
  · obtain ⟨a, b, q, d⟩ := hA.2 xq
    refine MI.imp (pX9_drop h h1 xi (hI.mg1 a.hi) (fun _ => ⟨a, b, d⟩) hi) (fun z2 h2 hB => ?_)
    obtain ⟨a2, b2⟩ := hB.2 xq
    exact ⟨by rw [a2, q], hI.chg a b2⟩
  · obtain ⟨a, b⟩ := hA.1 xq
    subst b
    refine MI.imp (pX9_drop h1 h1 xi hI.2.2.1 (fun q => absurd q xq) hi) (fun z2 h2 hB => ?_)
    obtain ⟨a2, b2⟩ := hB.1 xq
    exact ⟨by rw [a2, a], by rw [b2]; exact hI⟩
theorem pr_undo {K : XK} {n : Nat} {h : XH} (hI : INV h) : Pair K n h mX8_undo 6 [vr 0] mX9_undo 5 [vr 259] := by
  refine ⟨_, pX8_undo hI.1, fun zr h1 hA => ?_⟩
  by_cases xq : h 34 1 ≠ 0
  · obtain ⟨a, q, d⟩ := hA.2 xq
    refine MI.imp (pX9_undo h h1 (hI.mg1 a.hi) (fun _ => ⟨a, d⟩)) (fun z2 h2 hB => ?_)
    obtain ⟨a2, b2⟩ := hB.2 xq
    exact ⟨by rw [a2, q], hI.chg a b2⟩
  · obtain ⟨a, b⟩ := hA.1 (by omega)
    subst b
    refine MI.imp (pX9_undo h1 h1 hI.2.2.1 (fun q => absurd q xq)) (fun z2 h2 hB => ?_)
    obtain ⟨a2, b2⟩ := hB.1 (by omega)
    exact ⟨by rw [a2, a], by rw [b2]; exact hI⟩
theorem pr_wide {K : XK} {n : Nat} {h : XH} (xi : Int) (hI : INV h) (hi : xrg xi) : Pair K n h mX8_wide 6 [vr 0, vi xi] mX9_wide 5 [vr 259, vi xi] := by
  refine ⟨_, pX8_wide xi hI.1 hi, fun zr h1 hA => ?_⟩
  by_cases xq : xi = 4 ∨ xi = 8 ∨ xi = 16
  · by_cases xq2 : xi = h 8 2
    · obtain ⟨a, b⟩ := hA.2.1 xq xq2
      subst b
      refine MI.imp (pX9_wide h1 h1 xi hI.2.2.1 (fun _ q => absurd xq2 q) hi) (fun z2 h2 hB => ?_)
      obtain ⟨a2, b2⟩ := hB.2.1 xq xq2
      exact ⟨by rw [a2, a], by rw [b2]; exact hI⟩
    · obtain ⟨a, b, q, d⟩ := hA.2.2 xq xq2
      refine MI.imp (pX9_wide h h1 xi (hI.mg1 a.hi) (fun _ _ => ⟨a, b, d⟩) hi) (fun z2 h2 hB => ?_)
      obtain ⟨a2, b2⟩ := hB.2.2 xq xq2
      exact ⟨by rw [a2, q], hI.chg a b2⟩
  · obtain ⟨a, b⟩ := hA.1 xq
    subst b
    refine MI.imp (pX9_wide h1 h1 xi hI.2.2.1 (fun q _ => absurd q xq) hi) (fun z2 h2 hB => ?_)
    obtain ⟨a2, b2⟩ := hB.1 xq
    exact ⟨by rw [a2, a], by rw [b2]; exact hI⟩
theorem pr_hold {K : XK} {n : Nat} {h : XH} (xi : Int) (hI : INV h) (hi : xrg xi) : Pair K n h mX8_hold 6 [vr 0, vi xi] mX9_hold 5 [vr 259, vi xi] := by
  refine ⟨_, pX8_hold xi hI.1 hi, fun zr h1 hA => ?_⟩
  by_cases xq : 1 ≤ xi ∧ xi ≤ 4
  · by_cases xq2 : xi = h 8 3
    · obtain ⟨a, b⟩ := hA.2.1 xq xq2
      subst b
      refine MI.imp (pX9_hold h1 h1 xi hI.2.2.1 (fun _ q => absurd xq2 q) hi) (fun z2 h2 hB => ?_)
      obtain ⟨a2, b2⟩ := hB.2.1 xq xq2
      exact ⟨by rw [a2, a], by rw [b2]; exact hI⟩
    · obtain ⟨a, b, q, d⟩ := hA.2.2 xq xq2
      refine MI.imp (pX9_hold h h1 xi (hI.mg1 a.hi) (fun _ _ => ⟨a, b, d⟩) hi) (fun z2 h2 hB => ?_)
      obtain ⟨a2, b2⟩ := hB.2.2 xq xq2
      exact ⟨by rw [a2, q], hI.chg a b2⟩
  · obtain ⟨a, b⟩ := hA.1 xq
    subst b
    refine MI.imp (pX9_hold h1 h1 xi hI.2.2.1 (fun q _ => absurd q xq) hi) (fun z2 h2 hB => ?_)
    obtain ⟨a2, b2⟩ := hB.1 xq
    exact ⟨by rw [a2, a], by rw [b2]; exact hI⟩
theorem pr_choose {K : XK} {n : Nat} {h : XH} (xi : Int) (hI : INV h) (hi : xrg xi) : Pair K n h mX8_choose 7 [vr 0, vi xi] mX9_choose 6 [vr 259, vi xi] := by
  refine ⟨_, pX8_choose xi hI.1 hi, fun zr h1 hA => ?_⟩
  by_cases xq : 1 ≤ xi ∧ xi ≤ 8
  · obtain ⟨g0, z0, hF, hC0, hn, hs⟩ := hA.2 xq
    by_cases xq2 : z0 = 0
    · obtain ⟨a, b⟩ := hn xq2
      subst b
      subst xq2
      have hO := hF.1
      refine MI.imp (pX9_choose_none h h1 xi (hI.mg1 (fun c p => hO c (by unfold STr SGa S3; omega))) hi xq hF) (fun z2 h2 hB => ?_)
      obtain ⟨a2, b2⟩ := hB
      exact ⟨by rw [a2, a], INV.keep hI hC0 hO (fun c q => by unfold STr SGa S3 at q; omega) b2.1 b2.2.2 (fun c q => b2.2.1 c (by unfold SN; omega))⟩
    · obtain ⟨g1, gk, k1, k2, k3, k4, k5, k6, k7⟩ := hs xq2
      subst k4
      refine MI.imp (pX9_choose_some h g0 g1 gk z0 xi (hI.mg1 k6.hi) hi xq hF xq2 k2 k3 k7 k6.2.1.2.2.1) (fun z2 h2 hB => ?_)
      obtain ⟨a2, b2⟩ := hB
      exact ⟨by rw [a2, k5], hI.chg k6 b2⟩
  · obtain ⟨a, b⟩ := hA.1 xq
    subst b
    exact MI.imp (pX9_choose_bad xi hi xq) (fun z2 h2 hB => ⟨by rw [hB.1, a], by rw [hB.2]; exact hI⟩)
theorem pr_code {K : XK} {n : Nat} {h : XH} (xi xw : Int) (hI : INV h) (hi : xrg xi) (hw : xrg xw) : Pair K n h mX8_code 5 [vr 0, vi xi, vi xw] mX9_code 2 [vr 259, vi xi, vi xw] := Pair.rd hI (pX8_code xi xw hI.1 hi hw) (pX9_code h xi xw hI.1 hI.2.2.1 hi hw) rfl
theorem pr_entry {K : XK} {n : Nat} {h : XH} (xi xw : Int) (hI : INV h) (hi : xrg xi) (hw : xrg xw) : Pair K n h mX8_entry 3 [vr 0, vi xi, vi xw] mX9_entry 3 [vr 259, vi xi, vi xw] := Pair.rd hI (pX8_entry xi xw hi hw hI.1) (pX9_entry h xi xw hI.1 hI.2.2.1 hi hw) rfl
theorem pr_part {K : XK} {n : Nat} {h : XH} (xe xi xw : Int) (hI : INV h) (he : xrg xe) (hi : xrg xi) (hw : xrg xw) : Pair K n h mX8_part 5 [vr 0, vi xe, vi xi, vi xw] mX9_part 2 [vr 259, vi xe, vi xi, vi xw] := Pair.rd hI (pX8_part xe xi xw hI.1 he hi hw) (pX9_part h xe xi xw hI.2.2.1 he hi hw) rfl
theorem pr_size {K : XK} {n : Nat} {h : XH} (xw : Int) (hI : INV h) (hw : xrg xw) : Pair K n h mX8_size 3 [vr 0, vi xw] mX9_size 2 [vr 259, vi xw] := Pair.rd hI (pX8_size xw hw hI.1) (pX9_size h xw hI.1 hI.2.2.1 hw) rfl
theorem pr_nibble {K : XK} {n : Nat} {h : XH} (xi : Int) (hI : INV h) (hi : xrg xi) : Pair K n h mX8_nibble 0 [vr 0, vi xi] mX9_nibble 2 [vr 259, vi xi] := Pair.rd hI (pX8_nibble xi hi hI.1) (pX9_nibble h xi hI.1 hI.2.2.1 hi) rfl
theorem INV.adr {h : XH} (hI : INV h) : ∀ j : Nat, (j : Int) < h 4 3 → h 270 j = h 251 j := fun j q => (hI.2.2.1.2.1.1 j q).1
theorem pr_address {K : XK} {n : Nat} {h : XH} (xi : Int) (hI : INV h) (hi : xrg xi) : Pair K n h mX8_address 1 [vr 0, vi xi] mX9_address 2 [vr 259, vi xi] := by
  refine Pair.rd hI (pX8_address xi hi hI.1) (pX9_address xi hi hI.m5) ?_
  unfold adrM adrC
  rw [hI.2.2.1.1.n]
  by_cases xq : 0 ≤ xi ∧ xi < h 4 3
  · rw [if_pos (by omega), if_pos xq]
    have e := hI.adr xi.toNat (by omega)
    rw [Int.toNat_of_nonneg xq.1] at e
    exact e
  · rw [if_neg (by omega), if_neg xq]
theorem pr_cell {K : XK} {n : Nat} {h : XH} (xi : Int) (hI : INV h) (hi : xrg xi) : Pair K n h mX8_cell 0 [vr 0, vi xi] mX9_cell 1 [vr 259, vi xi] := by
  refine Pair.rd hI (pX8_cell xi hi hI.1) (pX9_cell xi hi hI.m15) ?_
  obtain ⟨r1, r2⟩ := hI.2.2.2.2
  unfold cellM cellC
  rw [r1]
  by_cases xq : 0 ≤ xi ∧ xi < 10
  · rw [if_pos (by omega), if_pos xq]
    by_cases xq2 : h 255 5 = 0
    · rw [if_pos xq2, if_pos xq2]
    · rw [if_neg xq2, if_neg xq2]
      have r3 := r2 (by have := hI.1.2.2.2.2.1; omega)
      exact r3.1.2.2.2.2.2.2.2.1 xi xq.1 xq.2
  · rw [if_neg (by omega), if_neg xq]
set_option maxRecDepth 100000 in
set_option maxHeartbeats 4000000 in
theorem pX9_out2 {K : XK} {n : Nat} {h : XH} (i : Int) (hi : xrg i) (h15 : h 259 15 = 0 ∨ h 259 15 = 1) (h20 : h 259 15 ≠ 0 → 0 ≤ h 259 20 ∧ h 259 20 ≤ 12) : MI K mX9_out 0 n [vr 259, vi i] h (fun zr h' => zr = outM h i ∧ h' = h) := by
  refine xMeth FX9_out (Nat.le_of_ble_eq_true rfl) ?_
  refine x_iload_n 1 (xd DX9_out rfl) rfl rfl ?_
  refine x_if_ge 4 6 (xd DX9_out rfl) rfl (by omega) rfl (fun kc1 => ?_) (fun kc1 => ?_)
  · refine x_aload_n 7 (xd DX9_out rfl) rfl rfl ?_
    refine x_gz 10 15 rfl LX9_109 (xd DX9_out rfl) rfl ⟨Or.inr ⟨rfl, by decide⟩, by decide⟩ rfl ?_
    refine x_if_ne 13 18 (xd DX9_out rfl) rfl (by omega) rfl (fun kc10 => ?_) (fun kc10 => ?_)
    · have h20 := h20 kc10
      refine x_iload_n 19 (xd DX9_out rfl) rfl rfl ?_
      refine x_aload_n 20 (xd DX9_out rfl) rfl rfl ?_
      refine x_gi 23 20 rfl LX9_220 (xd DX9_out rfl) rfl ⟨Or.inr ⟨rfl, by decide⟩, by decide⟩ rfl ?_
      refine x_icmp_ge 26 35 (xd DX9_out rfl) rfl (by omega) (by omega) rfl (fun kc23 => ?_) (fun kc23 => ?_)
      · refine x_bipush 37 (xd DX9_out rfl) rfl rfl ?_
        refine x_ri (xd DX9_out rfl) rfl ?_
        refine ⟨?_, rfl⟩
        unfold outM
        (repeat' split) <;> first | rfl | (exfalso; omega)
      · refine x_aload_n 27 (xd DX9_out rfl) rfl rfl ?_
        refine x_gr 30 _ LX9_46 (xd DX9_out rfl) rfl rfl ⟨by decide, by decide⟩ (by decide) rfl rfl ?_
        refine x_iload_n 31 (xd DX9_out rfl) rfl rfl ?_
        refine x_iaload 32 (xd DX9_out rfl) rfl ⟨Or.inr ⟨rfl, by decide⟩, by decide⟩ (by decide) (by omega) (by omega) rfl ?_
        refine x_goto 37 (xd DX9_out rfl) rfl ?_
        refine x_ri (xd DX9_out rfl) rfl ?_
        refine ⟨?_, rfl⟩
        unfold outM
        (repeat' split) <;> first | rfl | (exfalso; omega)
    · refine x_bipush 15 (xd DX9_out rfl) rfl rfl ?_
      refine x_goto 37 (xd DX9_out rfl) rfl ?_
      refine x_ri (xd DX9_out rfl) rfl ?_
      refine ⟨?_, rfl⟩
      unfold outM
      (repeat' split) <;> first | rfl | (exfalso; omega)
  · refine x_iconst 5 (xd DX9_out rfl) rfl ?_
    refine x_ri (xd DX9_out rfl) rfl ?_
    refine ⟨?_, rfl⟩
    unfold outM
    (repeat' split) <;> first | rfl | (exfalso; omega)
theorem pr_out {K : XK} {n : Nat} {h : XH} (xi : Int) (hI : INV h) (hi : xrg xi) : Pair K n h mX8_out 0 [vr 0, vi xi] mX9_out 0 [vr 259, vi xi] := by
  have r0 := hI.2.2.2.2
  obtain ⟨r1, r2⟩ := r0
  have hrw := hI.1.2.2.2.2.2.1
  have h01 := hI.1.2.2.2.2.1
  refine Pair.rd hI (pX8_out xi hi hI.1) (pX9_out2 xi hi hI.m15 (fun xq => ?_)) ?_
  · rw [r1] at xq
    have r3 := r2 (by omega)
    have r4 := hrw (by omega)
    unfold RW at r4
    rw [r3.1.2.2.1]
    omega
  · unfold outM outC
    rw [r1]
    split
    · rfl
    split
    · rfl
    have r3 := r2 (by omega)
    rw [r3.1.2.2.1]
    split
    · exact r3.1.2.2.2.2.2.2.2.2.1 xi (by omega) (by omega)
    · rfl
set_option maxRecDepth 100000 in
set_option maxHeartbeats 4000000 in
theorem pX9_held2 {K : XK} {n : Nat} {h : XH} (i : Int) (hi : xrg i) (h15 : h 259 15 = 0 ∨ h 259 15 = 1) (h26 : h 259 15 ≠ 0 → 0 ≤ h 259 26 ∧ h 259 26 ≤ 4) : MI K mX9_held 0 n [vr 259, vi i] h (fun zr h' => zr = heldM h i ∧ h' = h) := by
  refine xMeth FX9_held (Nat.le_of_ble_eq_true rfl) ?_
  refine x_iload_n 1 (xd DX9_held rfl) rfl rfl ?_
  refine x_if_ge 4 6 (xd DX9_held rfl) rfl (by omega) rfl (fun kc1 => ?_) (fun kc1 => ?_)
  · refine x_aload_n 7 (xd DX9_held rfl) rfl rfl ?_
    refine x_gz 10 15 rfl LX9_109 (xd DX9_held rfl) rfl ⟨Or.inr ⟨rfl, by decide⟩, by decide⟩ rfl ?_
    refine x_if_ne 13 18 (xd DX9_held rfl) rfl (by omega) rfl (fun kc10 => ?_) (fun kc10 => ?_)
    · have h26 := h26 kc10
      refine x_iload_n 19 (xd DX9_held rfl) rfl rfl ?_
      refine x_aload_n 20 (xd DX9_held rfl) rfl rfl ?_
      refine x_gi 23 26 rfl LX9_232 (xd DX9_held rfl) rfl ⟨Or.inr ⟨rfl, by decide⟩, by decide⟩ rfl ?_
      refine x_icmp_ge 26 35 (xd DX9_held rfl) rfl (by omega) (by omega) rfl (fun kc23 => ?_) (fun kc23 => ?_)
      · refine x_bipush 37 (xd DX9_held rfl) rfl rfl ?_
        refine x_ri (xd DX9_held rfl) rfl ?_
        refine ⟨?_, rfl⟩
        unfold heldM
        (repeat' split) <;> first | rfl | (exfalso; omega)
      · refine x_aload_n 27 (xd DX9_held rfl) rfl rfl ?_
        refine x_gr 30 _ LX9_49 (xd DX9_held rfl) rfl rfl ⟨by decide, by decide⟩ (by decide) rfl rfl ?_
        refine x_iload_n 31 (xd DX9_held rfl) rfl rfl ?_
        refine x_iaload 32 (xd DX9_held rfl) rfl ⟨Or.inr ⟨rfl, by decide⟩, by decide⟩ (by decide) (by omega) (by omega) rfl ?_
        refine x_goto 37 (xd DX9_held rfl) rfl ?_
        refine x_ri (xd DX9_held rfl) rfl ?_
        refine ⟨?_, rfl⟩
        unfold heldM
        (repeat' split) <;> first | rfl | (exfalso; omega)
    · refine x_bipush 15 (xd DX9_held rfl) rfl rfl ?_
      refine x_goto 37 (xd DX9_held rfl) rfl ?_
      refine x_ri (xd DX9_held rfl) rfl ?_
      refine ⟨?_, rfl⟩
      unfold heldM
      (repeat' split) <;> first | rfl | (exfalso; omega)
  · refine x_iconst 5 (xd DX9_held rfl) rfl ?_
    refine x_ri (xd DX9_held rfl) rfl ?_
    refine ⟨?_, rfl⟩
    unfold heldM
    (repeat' split) <;> first | rfl | (exfalso; omega)

theorem pr_held {K : XK} {n : Nat} {h : XH} (xi : Int) (hI : INV h) (hi : xrg xi) : Pair K n h mX8_held 0 [vr 0, vi xi] mX9_held 0 [vr 259, vi xi] := by
  have r0 := hI.2.2.2.2
  obtain ⟨r1, r2⟩ := r0
  have hrw := hI.1.2.2.2.2.2.1
  have h01 := hI.1.2.2.2.2.1
  refine Pair.rd hI (pX8_held xi hi hI.1) (pX9_held2 xi hi hI.m15 (fun xq => ?_)) ?_
  · rw [r1] at xq
    have r3 := r2 (by omega)
    have r4 := hrw (by omega)
    unfold RW at r4
    rw [r3.1.2.2.2.2.2.2.1]
    omega
  · unfold heldM heldC
    rw [r1]
    split
    · rfl
    split
    · rfl
    have r3 := r2 (by omega)
    rw [r3.1.2.2.2.2.2.2.1]
    split
    · exact r3.1.2.2.2.2.2.2.2.2.2 xi (by omega) (by omega)
    · rfl
theorem pr_at {K : XK} {n : Nat} {h : XH} (xi : Int) (hI : INV h) (hi : xrg xi) : Pair K n h mX8_at 1 [vr 0, vi xi] mX9_at 0 [vr 259, vi xi] := by
  refine ⟨_, pX8_at xi hi hI.1, fun z1 h1 ⟨hA, e⟩ => ?_⟩
  subst e
  refine MI.imp (pX9_at xi hi hI.m5 (fun j p q => ?_)) (fun z2 h2 ⟨hB, e2⟩ => ⟨?_, by rw [e2]; exact hI⟩)
  · rw [hI.2.2.1.1.n] at q
    have e := hI.adr j.toNat (by omega)
    rw [Int.toNat_of_nonneg p] at e
    rw [e]
    have := (hI.1.rows p q).2.2.1
    omega
  · rcases hA with ⟨a, b⟩ | ⟨a, b⟩
    · rcases hB with ⟨a2, b2⟩ | ⟨a2, b2⟩
      · rw [b2, b]
      · exact absurd a (by omega)
    · rcases hB with ⟨a2, b2⟩ | ⟨a2, b2⟩
      · exact absurd a (by omega)
      · rw [hI.2.2.1.1.n] at b2
        exact FirstAt.one (fun j q => hI.adr j q) b2 b
theorem pr_line {K : XK} {n : Nat} {h : XH} (xl xw : Int) (hI : INV h) (hl : xrg xl) (hw : xrg xw) : Pair K n h mX8_line 4 [vr 0, vi xl, vi xw] mX9_line 2 [vr 259, vi xl, vi xw] := by
  refine ⟨_, pX8_line xl xw hl hw hI.1, fun z1 h1 ⟨⟨k, a, b⟩, e⟩ => ?_⟩
  subst e
  exact MI.imp (pX9_line h1 k xl xw hI.1 hI.2.2.1 a hl hw) (fun z2 h2 ⟨hB, e2⟩ => ⟨by rw [hB, b], by rw [e2]; exact hI⟩)
theorem pr_seek {K : XK} {n : Nat} {h : XH} (xi : Int) (hI : INV h) (hi : xrg xi) : Pair K n h mX8_seek 3 [vr 0, vi xi] mX9_seek 2 [vr 259, vi xi] := by
  refine ⟨_, pX8_seek xi hi hI.1, fun z1 h1 ⟨⟨k, a, b⟩, e⟩ => ?_⟩
  subst e
  exact MI.imp (pX9_seek h1 k xi hI.1 hI.2.2.1 a hi) (fun z2 h2 ⟨hB, e2⟩ => ⟨by rw [hB, b], by rw [e2]; exact hI⟩)
theorem pr_now {K : XK} {n : Nat} {h : XH} (xw : Int) (hI : INV h) (hw : xrg xw) : Pair K n h mX8_now 1 [vr 0, vi xw] mX9_now 1 [vr 259, vi xw] := Pair.rd hI (pX8_now xw hw hI.1) (pX9_now h xw hI.1 hI.2.2.2.2 hw) rfl
theorem pr_count {K : XK} {n : Nat} {h : XH} (xw : Int) (hI : INV h) (hw : xrg xw) : Pair K n h mX8_count 1 [vr 0, vi xw] mX9_count 1 [vr 259, vi xw] := Pair.rd hI (pX8_count xw hw hI.1) (pX9_count h xw hI.1 hI.2.2.1 hI.2.2.2.1.1 hI.2.2.2.2.1 hw) rfl
theorem pr_start {K : XK} {n : Nat} {h : XH} (xi : Int) (hI : INV h) (hi : xrg xi) : Pair K n h mX8_start 3 [vr 0, vi xi] mX9_start 1 [vr 259, vi xi] := by
  refine ⟨_, pX8_start xi hi hI.1, fun zr h1 hA => ?_⟩
  by_cases xq : 0 ≤ xi ∧ xi ≤ 1
  · obtain ⟨hO, ⟨b5, b6, b7, b8, b9, b10, b11, b12, b13, b14, b15, b16⟩, hz, hC1, e⟩ := hA.2 xq
    have h1k : ∀ c, c ≠ 255 → c ≠ 256 → h1 c = h c := fun c p q => hO c (by unfold SBg; omega)
    refine MI.imp (pX9_start xi hi) (fun z2 h2 hB => ?_)
    obtain ⟨a2, hO2, h9, ⟨m15, m16, m17, m18, m19, m20, m21, m22, m23, m26⟩, hz2⟩ := hB.2 xq
    have h2k : ∀ c, c ≠ 259 → c ≠ 271 → h2 c = h1 c := fun c p q => hO2 c (by omega)
    refine ⟨by rw [a2, e], INV.mk2 hC1 (hI.2.1.hp (h1k 4 (by omega) (by omega)) (h1k 5 (by omega) (by omega)) (h1k 6 (by omega) (by omega)) (h1k 7 (by omega) (by omega))) ?_ ⟨?_, fun j p q => ?_⟩ ?_ (fun c p => h2k c (by omega) (by omega))⟩
    · exact ((hI.mg1 (fun c p => h1k c (by omega) (by omega))).gh2 (S := fun c => c = 255 ∨ c = 256) (fun c p => h1k c (by omega) (by omega)) (fun c p => by unfold SGm; omega)).hp (fun c p q => h2k c (by omega) (by omega)) (h9 5 (by omega)) (h9 11 (by omega))
    · rw [h9 0 (by omega), h1k 259 (by omega) (by omega), h1k 1 (by omega) (by omega)]
      exact hI.2.2.2.1.1
    · rw [h1k 1 (by omega) (by omega)] at q
      rw [h2k 260 (by omega) (by omega), h1k 260 (by omega) (by omega), h1k 2 (by omega) (by omega)]
      exact hI.2.2.2.1.2 j p q
    · refine ⟨by rw [m15, b5], fun _ => ⟨⟨by rw [m16, b7], by rw [m18, b10], by rw [m20, b12], by rw [m21, b8], by rw [m22, b15], by rw [m23, b16], by rw [m26, b14], fun j p q => by rw [hz j p q, hz2 j p q], fun j p q => ?_, fun j p q => ?_⟩, ⟨by rw [b10]; omega, fun j p q => by rw [hz j p q]; omega⟩, by rw [b6, if_pos rfl, b9, m17], by rw [m19, b11], by rw [b13, h1k 8 (by omega) (by omega)]⟩⟩
      · rw [b12] at q
        omega
      · rw [b14] at q
        omega
  · obtain ⟨a, b⟩ := hA.1 xq
    subst b
    refine MI.imp (pX9_start xi hi) (fun z2 h2 hB => ?_)
    obtain ⟨a2, b2⟩ := hB.1 xq
    exact ⟨by rw [a2, a], by rw [b2]; exact hI⟩
theorem stpH_5 (x : XH) (k : Nat) : stpH x k 255 5 = x 255 5 := by
  rw [stpH_k x k (by decide) (by decide) (by decide) (by decide) (by decide)]
  unfold stpB
  rw [hset_i (by decide), hset_i (by decide)]
  exact stpA_255 x k (by decide) (by decide) (by decide)
theorem goH_k (k m : Nat) : ∀ x : XH, goH x k m 255 5 = x 255 5 ∧ goH x k m 255 13 = x 255 13 := by
  induction m with
  | zero => intro x; exact ⟨rfl, rfl⟩
  | succ m ih =>
    intro x
    rw [goH_s]
    by_cases q : x 255 6 = 0
    · rw [pik_t q]
      by_cases q2 : x 5 (x 255 9) = 6 ∧ x 255 12 = 12
      · rw [pik_t q2, hset_i (by decide), hset_i (by decide)]
        exact ⟨rfl, rfl⟩
      · rw [pik_f q2, (ih _).1, (ih _).2, stpH_5, stpH_13]
        exact ⟨rfl, rfl⟩
    · rw [pik_f q]
      exact ⟨rfl, rfl⟩
theorem pr_step {K : XK} {n : Nat} {h : XH} (xi : Int) (hI : INV h) (hi : xrg xi) : Pair K n h mX8_step 6 [vr 0, vi xi] mX9_step 5 [vr 259, vi xi] := by
  have hk0 : ∃ k : Nat, h 8 2 = (2 ^ k : Nat) := by
    rcases hI.1.2.1.2.1 with q | q | q
    · exact ⟨2, by rw [q]; rfl⟩
    · exact ⟨3, by rw [q]; rfl⟩
    · exact ⟨4, by rw [q]; rfl⟩
  refine ⟨_, pX8_step xi hi hI.1, fun zr h1 hA => ?_⟩
  by_cases xq : 1 ≤ xi ∧ xi ≤ 400
  · by_cases xq2 : h 255 5 = 1 ∧ h 255 6 = 0
    · obtain ⟨k, hk, hg, hz, hC1⟩ := (hA.2 xq).2 xq2
      have hO := (goH_keeps (k := k) xi.toNat hI.1.1 (hI.1.2.2.2.2.2.1 xq2.1) (fun j p q => by have := (hI.1.rows p q).2.2.1; omega)).1
      have h1k : ∀ c, (c < 255 ∨ 258 < c) → h1 c = h c := fun c p => by rw [hg]; exact hO c (by unfold SRu; omega)
      refine MI.imp (pX9_step h k xi hI.1 hI.2.1 (hI.mg1 (fun c p => h1k c (by omega))) (hI.2.2.2.2.hp (fun j _ _ => by rw [h1k 259 (by omega)]) (h1k 271 (by omega)) (h1k 272 (by omega)) (h1k 273 (by omega))) hk hi) (fun z2 h2 hB => ?_)
      obtain ⟨hS, hO2, hz2⟩ := (hB.2 xq).2 xq2
      rw [← hg] at hS hz2
      have h2k : ∀ c, c ≠ 259 → (c < 271 ∨ 273 < c) → h2 c = h1 c := fun c p q => hO2.1 c (by omega)
      have g5 : h1 255 5 = 1 := by rw [hg, (goH_k k _ h).1]; exact xq2.1
      have g13 : h1 255 13 = h1 8 3 := by
        rw [h1k 8 (by omega), hg, (goH_k k _ h).2]
        exact (hI.2.2.2.2.2 xq2.1).2.2.2.2
      refine ⟨by rw [hz2, hz], INV.mk2 hC1 (hI.2.1.hp (h1k 4 (by omega)) (h1k 5 (by omega)) (h1k 6 (by omega)) (h1k 7 (by omega))) ?_ ⟨?_, fun j p q => ?_⟩ ?_ (fun c p => h2k c (by omega) (by omega))⟩
      · exact ((hI.mg1 (fun c p => h1k c (by omega))).gh2 (S := SRu) (fun c p => h1k c (by unfold SRu at p; omega)) (fun c p => by unfold SRu at p; unfold SGm; omega)).hp (fun c p q => h2k c (by omega) (by omega)) (hO2.2 5 (by omega)) (hO2.2 11 (by omega))
      · rw [hO2.2 0 (by omega), h1k 259 (by omega), h1k 1 (by omega)]
        exact hI.2.2.2.1.1
      · rw [h1k 1 (by omega)] at q
        rw [h2k 260 (by omega) (by omega), h1k 260 (by omega), h1k 2 (by omega)]
        exact hI.2.2.2.1.2 j p q
      · refine ⟨?_, fun _ => ⟨hS.1, hS.2.1, hS.2.2.1, hS.2.2.2, g13⟩⟩
        rw [hO2.2 15 (by omega), h1k 259 (by omega), hI.2.2.2.2.1, g5, xq2.1]
    · have xq3 : h 255 5 = 0 ∨ h 255 6 ≠ 0 := by
        have := hI.1.2.2.2.2.1
        omega
      obtain ⟨a, b⟩ := (hA.2 xq).1 xq3
      subst b
      obtain ⟨k, hk⟩ := hk0
      refine MI.imp (pX9_step h1 k xi hI.1 hI.2.1 hI.2.2.1 hI.2.2.2.2 hk hi) (fun z2 h2 hB => ?_)
      obtain ⟨a2, b2⟩ := (hB.2 xq).1 xq3
      exact ⟨by rw [a2, a], by rw [b2]; exact hI⟩
  · obtain ⟨a, b⟩ := hA.1 xq
    subst b
    obtain ⟨k, hk⟩ := hk0
    refine MI.imp (pX9_step h1 k xi hI.1 hI.2.1 hI.2.2.1 hI.2.2.2.2 hk hi) (fun z2 h2 hB => ?_)
    obtain ⟨a2, b2⟩ := hB.1 xq
    exact ⟨by rw [a2, a], by rw [b2]; exact hI⟩
