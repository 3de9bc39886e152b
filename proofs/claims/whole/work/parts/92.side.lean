/-! SqueezedCodeModel: lay; class and reference side by side -/
theorem LdP.tg {f : Int → Int} {N : Int} {g : XH} {n : Nat} (hL : LdP f N g n) : TgE g := fun k hk => by
  rw [hL.1] at hk
  have q := hL.2 k (by omega)
  rw [q.2.2]
  refine xp_c ⟨fun ⟨j, a, b, c⟩ => ⟨j, by rw [hL.1]; omega, ?_, ?_⟩, fun ⟨j, a, b, c⟩ => ?_⟩
  · rw [(hL.2 j a).1]; exact b
  · rw [(hL.2 j a).2.1]; exact c
  · rw [hL.1] at a
    have r := hL.2 j (by omega)
    rw [r.1] at b
    rw [r.2.1] at c
    exact ⟨j, by omega, b, c⟩
set_option maxRecDepth 100000 in
set_option maxHeartbeats 4000000 in
theorem pX9_lay {K : XK} {n : Nat} {h : XH} (g g' : XH) (n1 : Nat) (z1 : Int) (hM : MG g h) (hT : TxI g) (hX : RX g h) (hF : FltR (g 2) (g 1 2) n1 z1) (hL : z1 = -4 → n1 ≠ 0 → LdR g g' n1) : MI K mX9_lay 6 n [vr 259] h (fun zr h' => ((z1 ≠ -4 ∨ n1 = 0) → zr = -2 ∧ FdI g h h' n1) ∧ (z1 = -4 → n1 ≠ 0 → zr = (n1 : Int) ∧ MG g' h' ∧ h' 259 15 = 0 ∧ Off (fun c => SBn c ∨ c = 261 ∨ c = 262) h h' ∧ h' 259 0 = h 259 0)) := by
  refine xMeth FX9_lay (Nat.le_of_ble_eq_true rfl) ?_
  have hn48 : n1 ≤ 48 := by
    obtain ⟨p, p1, -⟩ := hF
    exact p1.2.1
  have hz1 : -4 ≤ z1 ∧ z1 ≤ 200 := by
    have hT1 := hT.1
    obtain ⟨p, p1, p2, p3⟩ := hF
    have pl := p1.le hT1.1
    have pn := Prs.nn (f := g 2) (N := g 1 2) n1
    rw [← p1.1] at pn
    rcases p3 with ⟨a, b⟩ | ⟨a, ⟨k, b1, b2, b3, b4⟩ | ⟨b1, b2⟩⟩
    · omega
    · have := Prs.nn (f := g 2) (N := g 1 2) k
      have := (p1.2.2 k b1).1
      omega
    · omega
  refine x_aload_n 1 (xd DX9_lay rfl) rfl rfl ?_
  refine x_Vi 4 (pX9_fault g hT hX) FX9_fault VX9_fault CX9_99 (xd DX9_lay rfl) rfl rfl rfl ⟨by decide, rfl⟩ ⟨by decide, by decide⟩ (by decide) (Nat.le_of_ble_eq_true rfl) (by decide) rfl ?_
  rintro z9 y ⟨n2, hF2, hI⟩
  obtain ⟨e1, e2⟩ := hF.one hF2
  subst e1; subst e2
  refine x_bipush 6 (xd DX9_lay rfl) rfl rfl ?_
  refine x_icmp_ne 9 16 (xd DX9_lay rfl) rfl (by omega) (by omega) rfl (fun kc6 => ?_) (fun kc6 => ?_)
  · refine x_bipush 18 (xd DX9_lay rfl) rfl rfl ?_
    refine x_ri (xd DX9_lay rfl) rfl ?_
    exact ⟨fun _ => ⟨rfl, hI⟩, fun q1 q2 => by have := hI.2.2.1; omega⟩
  · refine x_aload_n 10 (xd DX9_lay rfl) rfl rfl ?_
    refine x_gi 13 2 rfl LX9_52 (xd DX9_lay rfl) rfl ⟨Or.inr ⟨rfl, by decide⟩, by decide⟩ rfl ?_
    refine x_if_ne 16 19 (xd DX9_lay rfl) rfl (by rw [hI.2.2.1]; omega) rfl (fun kc13 => ?_) (fun kc13 => ?_)
    · have hn0 : n1 ≠ 0 := fun q => by rw [hI.2.2.1] at kc13; omega
      have hL1 := hL kc6 hn0
      have hrd : ∀ k : Nat, (k : Int) < g' 4 3 → y 261 k = ltr (g' 5 k) ∧ y 262 k = g' 6 k := fun k hk => by
        rw [hL1.1.1] at hk
        have r := hL1.1.2 k (by omega)
        obtain ⟨p, hPr, -⟩ := FltR.ok (by rw [← kc6]; exact hF)
        have q := hPr.2.2 k (by omega)
        have w := wdt_in q.1 q.2
        have i4 := hI.2.2.2 k (by omega)
        rw [r.1, r.2.1, w.2.2.1]
        exact i4
      refine x_aload_n 20 (xd DX9_lay rfl) rfl rfl ?_
      refine x_Vv 23 (pX9_begin g' hL1.2.2.2.2.2.2.2.2.2 hL1.1.tg (by rw [hI.2.2.1, hL1.1.1]) hrd hL1.2.1 hL1.2.2.2.2.1 (by rw [hI.1 266 (by decide), hM.w.1, hL1.2.2.1]) (by rw [hI.1 266 (by decide), hM.1.2.2.2.2.1.2.1, hL1.2.2.2.1]) (by unfold TRg; rw [hI.1 266 (by decide)]; exact hM.1.2.2.2.2.2) (hM.2.2.2.2.mv (hI.1 267 (by decide)))) FX9_begin VX9_begin CX9_60 (xd DX9_lay rfl) rfl rfl rfl ⟨by decide, rfl⟩ ⟨by decide, by decide⟩ (by decide) (Nat.le_of_ble_eq_true rfl) (by decide) rfl ?_
      rintro h3 ⟨hB1, hB2, hB3, hB4⟩
      refine x_aload_n 24 (xd DX9_lay rfl) rfl rfl ?_
      refine x_gi 27 5 rfl LX9_103 (xd DX9_lay rfl) rfl ⟨Or.inr ⟨rfl, by decide⟩, by decide⟩ rfl ?_
      refine x_ri (xd DX9_lay rfl) rfl ?_
      refine ⟨fun q => by exfalso; have := hI.2.2.1; rcases q with q | q <;> omega, fun _ _ => ⟨?_, hB1, hB2, fun c hc => ?_, ?_⟩⟩
      · rw [hB1.1.n, hL1.1.1]
      · unfold SBn at hc
        rw [hB3 c (by unfold SBn; omega), hI.1 c (by omega)]
      · rw [hB4 0 (by decide) (by decide) (by decide), hI.2.1 0 (by decide)]
    · refine x_bipush 18 (xd DX9_lay rfl) rfl rfl ?_
      refine x_ri (xd DX9_lay rfl) rfl ?_
      exact ⟨fun _ => ⟨rfl, hI⟩, fun q1 q2 => by have := hI.2.2.1; omega⟩

/-- a contract's end told more loosely -/
theorem MX.imp {K : XK} {M : XM} {R : XR} {n : Nat} {as : List XV} {h : XH} {Q Q' : Option XV → Nat → XH → Prop} (hM : MX K M R n as h Q) (hq : ∀ v n' h', Q v n' h' → Q' v n' h') : MX K M R n as h Q' := by
  intro p e ha hc hk s m args below hf happ hP ht
  obtain ⟨k, o, h1, h2, h3, ⟨⟨v, n', h', a1, a2, a3, a4, a5⟩, a6⟩, L, hF, hL⟩ := hM p e ha hc hk s m args below hf happ hP ht
  exact ⟨k, o, h1, h2, h3, ⟨⟨v, n', h', a1, hq _ _ _ a2, a3, a4, a5⟩, a6⟩, L, hF, hL⟩
theorem MI.imp {K : XK} {M : XM} {d n : Nat} {as : List XV} {h : XH} {P P' : Int → XH → Prop} (hM : MI K M d n as h P) (hp : ∀ z h', P z h' → P' z h') : MI K M d n as h P' :=
  MX.imp hM (fun v n' h' ⟨a, z, b, c⟩ => ⟨a, z, b, hp z h' c⟩)
def INV (h : XH) : Prop := CI h ∧ TgI h ∧ MG h h ∧ RX h h ∧ RR h h
def SGm (c : Nat) : Prop := c < 4 ∨ (245 ≤ c ∧ c ≤ 248) ∨ 254 ≤ c
/-- another ghost, the same where it counts -/
theorem MG.gh2 {S : Nat → Prop} {g g' h : XH} (hM : MG g h) (hO : Off S g g') (hs : ∀ c, S c → SGm c) : MG g' h := by
  obtain ⟨⟨a1, a2, a3, a4, a5, a6⟩, b1, b2, b3, b4⟩ := hM
  have hn : ∀ c, ((4 ≤ c ∧ c ≤ 244) ∨ (249 ≤ c ∧ c ≤ 253)) → ¬ S c := fun c q z => by have := hs c z; unfold SGm at this; omega
  have hk : ∀ c, ((4 ≤ c ∧ c ≤ 244) ∨ (249 ≤ c ∧ c ≤ 253)) → g' c = g c := fun c q => hO c (hn c q)
  have hs8 : ∀ x, S26 8 x → g' x = g x := fun x q => hk x (by unfold S26 at q; omega)
  refine ⟨⟨a1.off hO (hn 4 (by omega)) (hn 5 (by omega)) (hn 6 (by omega)) (hn 7 (by omega)), SW.same hs8 a2, a3.off hO (fun c q => hn c (by omega)) a1 a2, a4.eq (hk 4 (by omega)) (hk 5 (by omega)) (hk 6 (by omega)) (hk 7 (by omega)), a5.eq (SEq.same hs8 a2.1.2), a6⟩, ?_, b2.same (fun x p q => hk x (by omega)), ?_, b4⟩
  · unfold RC
    rw [hk 4 (by omega), hk 251 (by omega), hk 249 (by omega), hk 192 (by omega)]
    exact b1
  · refine ⟨by rw [hk 34 (by omega)]; exact b3.1, fun k q => ?_⟩
    rw [hk 34 (by omega)] at q
    have hw := b2.1
    exact (b3.2 k q).eq (SEq.same (fun x p => hk x (by unfold S26 at p; omega)) (b2.2 k q).1.2)
/-- another heap, the same where it counts -/
theorem MG.hp {g h h' : XH} (hM : MG g h) (hk : ∀ c, 263 ≤ c → c ≤ 270 → h' c = h c) (h5 : h' 259 5 = h 259 5) (h11 : h' 259 11 = h 259 11) : MG g h' :=
  ⟨hM.1.mv h5 (hk _ (by omega) (by omega)) (hk _ (by omega) (by omega)) (hk _ (by omega) (by omega)) (hk _ (by omega) (by omega)), hM.2.1.mv (hk _ (by omega) (by omega)) (hk _ (by omega) (by omega)), hM.2.2.1, hM.2.2.2.1.mv h11 (hk _ (by omega) (by omega)), hM.2.2.2.2.mv (hk _ (by omega) (by omega))⟩
theorem CI.hp {h h' : XH} (hC : CI h) (hO : ∀ c, c < 259 → h' c = h c) : CI h' := by
  obtain ⟨a1, a2, a3, a4, a5, a6, a7⟩ := hC
  have hO2 : Off (fun c => 259 ≤ c) h h' := fun c q => hO c (by omega)
  refine ⟨a1.off hO2 (by omega) (by omega) (by omega) (by omega), SW.same (fun x q => hO x (by unfold S26 at q; omega)) a2, a3.same (fun x p q => hO x (by omega)), a4.off hO2 (fun c q => by omega) a1 a2, by rw [hO 255 (by omega)]; exact a5, fun q => ?_, by rw [hO 1 (by omega), hO 2 (by omega)]; exact a7⟩
  rw [hO 255 (by omega)] at q
  have := a6 q
  unfold RW at this ⊢
  rw [hO 255 (by omega), hO 256 (by omega), hO 258 (by omega), hO 4 (by omega)]
  exact this
theorem TgI.hp {h h' : XH} (hT : TgI h) (h4 : h' 4 = h 4) (h5 : h' 5 = h 5) (h6 : h' 6 = h 6) (h7 : h' 7 = h 7) : TgI h' := by
  unfold TgI
  rw [h4, h5, h6, h7]
  exact hT
theorem RR.gh {g g' h : XH} (hR : RR g h) (h5 : g' 255 = g 255) (h6 : g' 256 = g 256) (h7 : g' 257 = g 257) (h8 : g' 258 = g 258) (h3 : g' 8 3 = g 8 3) : RR g' h := by
  unfold RR RRc RNx
  rw [h5, h6, h7, h8, h3]
  exact hR
theorem RR.hp {g h h' : XH} (hR : RR g h) (hk : ∀ j, 15 ≤ j → j ≤ 26 → h' 259 j = h 259 j) (h1 : h' 271 = h 271) (h2 : h' 272 = h 272) (h3 : h' 273 = h 273) : RR g h' := by
  unfold RR RRc
  rw [hk 15 (by omega) (by omega), hk 16 (by omega) (by omega), hk 17 (by omega) (by omega), hk 18 (by omega) (by omega), hk 19 (by omega) (by omega), hk 20 (by omega) (by omega), hk 21 (by omega) (by omega), hk 22 (by omega) (by omega), hk 23 (by omega) (by omega), hk 26 (by omega) (by omega), h1, h2, h3]
  exact hR
/-- no run -/
theorem RR.no {g h : XH} (h5 : g 255 5 = 0) (h15 : h 259 15 = 0) : RR g h := ⟨by rw [h15, h5], fun q => by rw [h5] at q; exact absurd q (by decide)⟩
/-- the class's cells in the ghost, the reference's in the heap: both in one -/
theorem INV.mk2 {h1 h2 : XH} (hC : CI h1) (hT : TgI h1) (hM : MG h1 h2) (hX : RX h1 h2) (hR : RR h1 h2) (hO : ∀ c, c < 259 → h2 c = h1 c) : INV h2 := by
  refine ⟨hC.hp hO, hT.hp (hO 4 (by omega)) (hO 5 (by omega)) (hO 6 (by omega)) (hO 7 (by omega)), hM.gh2 (S := fun c => 259 ≤ c) (fun c q => hO c (by omega)) (fun c q => by unfold SGm; omega), ?_, hR.gh (hO 255 (by omega)) (hO 256 (by omega)) (hO 257 (by omega)) (hO 258 (by omega)) (by rw [hO 8 (by omega)])⟩
  unfold RX
  rw [hO 1 (by omega), hO 2 (by omega)]
  exact hX
/-- behind a change of both -/
theorem INV.chg {h h1 h2 : XH} (hI : INV h) (hC : Cgd h h1) (hD : Chd h1 h1 h2) : INV h2 := by
  have hk : ∀ c, (c < 8 ∨ 255 < c) → h1 c = h c := fun c q => hC.1 c (by unfold SCh; omega)
  refine INV.mk2 hC.2.1 (hI.2.1.hp (hk 4 (by omega)) (hk 5 (by omega)) (hk 6 (by omega)) (hk 7 (by omega))) hD.1 ⟨?_, ?_⟩ (RR.no hC.2.2 hD.2.1) (fun c q => hD.2.2.1 c (by unfold SM; omega))
  · rw [hD.2.2.2, hk 259 (by omega), hk 1 (by omega)]; exact hI.2.2.2.1.1
  · rw [hD.2.2.1 260 (by unfold SM; omega), hk 260 (by omega), hk 1 (by omega), hk 2 (by omega)]
    exact hI.2.2.2.1.2
/-- behind a call that changed but what is scratch -/
theorem INV.keep {S : Nat → Prop} {h h1 h2 : XH} (hI : INV h) (hC : CI h1) (hO : Off S h h1) (hs : ∀ c, S c → (245 ≤ c ∧ c ≤ 248) ∨ c = 254) (hM : MG h h2) (h9 : ∀ j, j ≠ 28 → j ≠ 29 → j ≠ 30 → h2 259 j = h1 259 j) (hk : ∀ c, (c < 259 ∨ c = 260 ∨ 271 ≤ c) → h2 c = h1 c) : INV h2 := by
  have h1k : ∀ c, (c < 245 ∨ (249 ≤ c ∧ c < 254) ∨ 255 ≤ c) → h1 c = h c := fun c q => hO c (fun z => by have := hs c z; omega)
  refine INV.mk2 hC (hI.2.1.hp (h1k 4 (by omega)) (h1k 5 (by omega)) (h1k 6 (by omega)) (h1k 7 (by omega))) (hM.gh2 hO (fun c q => by have := hs c q; unfold SGm; omega)) ⟨?_, ?_⟩ ?_ (fun c q => hk c (by omega))
  · rw [h9 0 (by decide) (by decide) (by decide), h1k 259 (by omega), h1k 1 (by omega)]; exact hI.2.2.2.1.1
  · rw [hk 260 (by omega), h1k 260 (by omega), h1k 1 (by omega), h1k 2 (by omega)]; exact hI.2.2.2.1.2
  · refine ((hI.2.2.2.2.gh (h1k 255 (by omega)) (h1k 256 (by omega)) (h1k 257 (by omega)) (h1k 258 (by omega)) (by rw [h1k 8 (by omega)])).hp (fun j a b => ?_) ?_ ?_ ?_)
    · rw [h9 j (by omega) (by omega) (by omega), h1k 259 (by omega)]
    · rw [hk 271 (by omega), h1k 271 (by omega)]
    · rw [hk 272 (by omega), h1k 272 (by omega)]
    · rw [hk 273 (by omega), h1k 273 (by omega)]
/-- the two, one behind the other, with one answer -/
def Pair (K : XK) (n : Nat) (h : XH) (M1 : XM) (d1 : Nat) (as1 : List XV) (M2 : XM) (d2 : Nat) (as2 : List XV) : Prop := ∃ A : Int → XH → Prop, MI K M1 d1 n as1 h A ∧ ∀ z h1, A z h1 → MI K M2 d2 n as2 h1 (fun z2 h2 => z2 = z ∧ INV h2)
