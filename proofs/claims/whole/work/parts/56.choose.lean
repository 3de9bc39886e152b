/-! SqueezedCode: choose -/
/-- what a search has found is a sequence with a hole in it, or none -/
def FndG (sq : Int → Int → Prop) (r : Int × Int × Int × Int) : Prop := 0 < r.1 → sq r.2.1 r.2.2.1 ∧ (2 ≤ r.2.2.1 ∧ r.2.2.1 ≤ 4) ∧ (-1 ≤ r.2.2.2 ∧ r.2.2.2 < r.2.2.1)
theorem scI_good {sq : Int → Int → Prop} {G : Int → Int → Int → Int} {m z : Int} (hm : 2 ≤ m ∧ m ≤ 4) (hz : -1 ≤ z ∧ z < m) {s : Int × Int × Int × Int} (hs : FndG sq s) : ∀ i : Nat, FndG sq (scI sq G m z i s)
  | 0 => hs
  | i + 1 => by
    have ih := scI_good (G := G) hm hz hs i
    unfold scI
    by_cases q : sq i m ∧ (scI sq G m z i s).1 < G i m z
    · rw [pik_t q]; exact fun _ => ⟨q.1, hm, hz⟩
    · rw [pik_f q]; exact ih
theorem scH_good {sq : Int → Int → Prop} {G : Int → Int → Int → Int} {N : Nat} {m : Int} (hm : 2 ≤ m ∧ m ≤ 4) {s : Int × Int × Int × Int} (hs : FndG sq s) : ∀ d : Nat, (d : Int) ≤ m + 1 → FndG sq (scH sq G N m d s)
  | 0, _ => hs
  | d + 1, q => scI_good hm ⟨by omega, by omega⟩ (scH_good hm hs d (by omega)) N
theorem scM_good {sq : Int → Int → Prop} {G : Int → Int → Int → Int} {N : Nat} {s : Int × Int × Int × Int} (hs : FndG sq s) : ∀ d : Nat, d ≤ 3 → FndG sq (scM sq G N d s)
  | 0, _ => hs
  | d + 1, q => scH_good ⟨by omega, by omega⟩ (scM_good hs d (by omega)) (d + 3) (by omega)
/-- a search's outcome -/
def FndR (h g : XH) (z : Int) : Prop := Off STr h g ∧ ((8 ≤ h 8 1 ∧ z = 0) ∨ (h 8 1 < 8 ∧ z = xp (0 < g 254 5) ∧ F4 g = scM (SqR h) (GfC h) (h 4 3).toNat 3 (0, h 254 2, h 254 3, h 254 4)))
/-- what was found, put into the table, and the layout reckoned again -/
def NxtR (g g3 : XH) : Prop := Off (fun x => ST x ∨ SL x) g g3 ∧ AddR g g3 (g 254 2) (g 254 3) (g 254 4) ∧ LY g3
def ChR : Nat → Int → XH → XH → Prop
  | 0, _, g, g' => g' = g
  | n + 1, z, g, g' => (z = 0 ∧ g' = g) ∨ (z ≠ 0 ∧ ∃ g3 g4 z4, NxtR g g3 ∧ FndR g3 g4 z4 ∧ ChR n z4 g4 g')
theorem ChR.done {z : Int} {g : XH} : ChR 0 z g g := rfl
theorem ChR.none {n : Nat} {g : XH} : ChR (n + 1) 0 g g := Or.inl ⟨rfl, rfl⟩
theorem ChR.next {n : Nat} {g g3 g4 g' : XH} {z z4 : Int} (a : z ≠ 0) (b : NxtR g g3) (c : FndR g3 g4 z4) (d : ChR n z4 g4 g') : ChR (n + 1) z g g' := Or.inr ⟨a, g3, g4, z4, b, c, d⟩
def PicC (g : XH) : Prop := PW g ∧ SW g 8 ∧ HW g ∧ LY g
/-- what the next turn may rest on -/
def RdyC (z : Int) (g : XH) : Prop := (z = 0 ∨ z = 1) ∧ (z ≠ 0 → g 8 1 < 8 ∧ SqR g (g 254 2) (g 254 3) ∧ (2 ≤ g 254 3 ∧ g 254 3 ≤ 4) ∧ (-1 ≤ g 254 4 ∧ g 254 4 < g 254 3))
theorem PicC.scr {S : Nat → Prop} {h xg : XH} (hC : PicC h) (hO : Off S h xg) (hs : ∀ c, S c → (245 ≤ c ∧ c ≤ 248) ∨ 254 ≤ c) : PicC xg := by
  have hn : ∀ c, ¬ ((245 ≤ c ∧ c ≤ 248) ∨ 254 ≤ c) → xg c = h c := fun c q => hO c (fun y => q (hs c y))
  exact ⟨hC.1.off hO (fun y => by have := hs _ y; omega) (fun y => by have := hs _ y; omega) (fun y => by have := hs _ y; omega) (fun y => by have := hs _ y; omega), hC.2.1.same (fun x z => hn x (by unfold S26 at z; omega)), hC.2.2.1.same (fun x a b => hn x (by omega)), hC.2.2.2.off hO (fun c q y => by have := hs _ y; omega) hC.1 hC.2.1⟩
theorem FndR.pic {h g : XH} {z : Int} (hf : FndR h g z) (hp : PicC h) : PicC g := hp.scr hf.1 (fun c q => by unfold STr SGa S3 at q; omega)
theorem FndR.rdy {h g : XH} {z : Int} (hf : FndR h g z) : RdyC z g := by
  obtain ⟨o, q⟩ := hf
  rcases q with ⟨a, b⟩ | ⟨a, b, c⟩
  · exact ⟨Or.inl b, fun q => absurd b q⟩
  · refine ⟨by rw [b]; exact xp01 _, fun q => ?_⟩
    have p5 : 0 < g 254 5 := Classical.byContradiction (fun y => q (by rw [b]; exact xp_0.mpr y))
    have gd := scM_good (sq := SqR h) (G := GfC h) (N := (h 4 3).toNat) (s := (0, h 254 2, h 254 3, h 254 4)) (fun y => absurd (show (0 : Int) < 0 from y) (by decide)) 3 (Nat.le_refl _)
    rw [← c] at gd
    have gd := gd p5
    rw [o 8 (by unfold STr SGa S3; omega), SqR.off o]
    exact ⟨a, gd⟩
theorem KeptR.of {h g0 h' : XH} (hh : ∀ x, x < 192 → g0 x = h x) (hH : HW h) (hS : SW h 8) (hK : KeptR g0 h') : KeptR h h' := by
  obtain ⟨a, b, c⟩ := hK
  have hH1 := hH.1
  have e34 := hh 34 (by omega)
  rw [e34] at a b
  refine ⟨a, fun k q => ?_, c.tr (SEq.same (fun x z => hh x (by unfold S26 at z; omega)) hS.1.2)⟩
  refine (b k q).tr (SEq.same (fun x z => hh x (by unfold S26 at z; split at z <;> split at a <;> omega)) ?_)
  by_cases y : h 34 1 = 6
  · rw [if_pos y]; rw [if_pos y] at a; exact (hH.2 (k + 1) (by omega)).1.2
  · rw [if_neg y]; rw [if_neg y] at a; exact (hH.2 k (by omega)).1.2
theorem RdyC.ok {z : Int} {g : XH} (hr : RdyC z g) (hp : PicC g) (hz : z ≠ 0) : g 8 1 < 8 ∧ SqOk g (g 254 2) (g 254 3) ∧ (-1 ≤ g 254 4 ∧ g 254 4 < g 254 3) := by
  obtain ⟨a, b, c, d⟩ := hr.2 hz
  exact ⟨a, b.ok hp.2.2.2 c.2, d⟩
def SCc (x : Nat) : Prop := (8 ≤ x ∧ x < 34) ∨ (192 ≤ x ∧ x ≤ 254)
set_option maxRecDepth 100000 in
set_option maxHeartbeats 4000000 in
theorem pX8_choose_loop {K : XK} {n : Nat} (c c0 zz : Int) (nn : Nat) (xs : XH) (hc : 1 ≤ c ∧ c ≤ 8) (h0 : xrg c0) (PP : Int → XH → Prop) (hPP : ∀ gk, ChR nn zz xs gk → Off SCc xs gk → PicC gk → PP (gk 8 1 - c0) (hset gk 255 5 0)) : ∀ (m : Nat) (xi : Nat) (xg : XH) (xz : Int), (xi : Int) ≤ c → c - xi < (m : Int) → PicC xg → RdyC xz xg → Off SCc xs xg → (∀ gk, ChR (c.toNat - xi) xz xg gk → ChR nn zz xs gk) → WI K mX8_choose 7 n (qI n PP) 50 [(0, vr 0), (1, vi c), (2, vi xz), (3, vi c0), (4, vi (xi : Int))] [] xg := by
    intro m
    induction m with
    | zero => intro xi xg xz a b; exact absurd b (by omega)
    | succ m ih =>
      intro xi xg xz hx hm Pg hr hO hk
      have hr1 := hr.1
      have gE := Pg.2.1.1
      refine x_iload 52 (xd DX8_choose rfl) rfl rfl ?_
      refine x_iload_n 53 (xd DX8_choose rfl) rfl rfl ?_
      refine x_icmp_ge 56 113 (xd DX8_choose rfl) rfl (by omega) (by omega) rfl (fun c53 => ?_) (fun c53 => ?_)
      · refine x_aload_n 114 (xd DX8_choose rfl) rfl rfl ?_
        refine x_gr 117 _ LX8_60 (xd DX8_choose rfl) rfl rfl ⟨by decide, by decide⟩ (by decide) rfl rfl ?_
        refine x_Vv 120 (pX5_end) FX5_end VX5_end CX8_166 (xd DX8_choose rfl) rfl rfl rfl ⟨by decide, rfl⟩ ⟨by decide, by decide⟩ (by decide) (Nat.le_of_ble_eq_true rfl) (by decide) rfl ?_
        rintro h9 q2
        rw [q2]
        clear q2 h9
        refine x_aload_n 121 (xd DX8_choose rfl) rfl rfl ?_
        refine x_gr 124 _ LX8_26 (xd DX8_choose rfl) rfl rfl ⟨by decide, by decide⟩ (by decide) rfl rfl ?_
        refine x_gi 127 1 rfl LX8_97 (xd DX8_choose rfl) rfl ⟨Or.inr ⟨rfl, by decide⟩, by decide⟩ rfl ?_
        refine x_iload_n 128 (xd DX8_choose rfl) rfl rfl ?_
        refine x_isub 129 (xd DX8_choose rfl) rfl ?_
        refine x_ri (xd DX8_choose rfl) rfl ?_
        have hs := hset_c (h := xg) (c := 255) (d := 8) (k := 5) (z := 0) (by decide)
        rw [hs]
        refine hPP xg ?_ hO Pg
        first
          | (refine hk _ ?_; rw [show c.toNat - xi = 0 by omega]; exact ChR.done)
          | (refine hk _ ?_; rw [show c.toNat - xi = (c.toNat - (xi + 1)) + 1 by omega, show xz = 0 by omega]; exact ChR.none)
      · refine x_iload_n 57 (xd DX8_choose rfl) rfl rfl ?_
        refine x_if_eq 60 113 (xd DX8_choose rfl) rfl (by have := hr.1; omega) rfl (fun c57 => ?_) (fun c57 => ?_)
        · refine x_aload_n 114 (xd DX8_choose rfl) rfl rfl ?_
          refine x_gr 117 _ LX8_60 (xd DX8_choose rfl) rfl rfl ⟨by decide, by decide⟩ (by decide) rfl rfl ?_
          refine x_Vv 120 (pX5_end) FX5_end VX5_end CX8_166 (xd DX8_choose rfl) rfl rfl rfl ⟨by decide, rfl⟩ ⟨by decide, by decide⟩ (by decide) (Nat.le_of_ble_eq_true rfl) (by decide) rfl ?_
          rintro h9 q2
          rw [q2]
          clear q2 h9
          refine x_aload_n 121 (xd DX8_choose rfl) rfl rfl ?_
          refine x_gr 124 _ LX8_26 (xd DX8_choose rfl) rfl rfl ⟨by decide, by decide⟩ (by decide) rfl rfl ?_
          refine x_gi 127 1 rfl LX8_97 (xd DX8_choose rfl) rfl ⟨Or.inr ⟨rfl, by decide⟩, by decide⟩ rfl ?_
          refine x_iload_n 128 (xd DX8_choose rfl) rfl rfl ?_
          refine x_isub 129 (xd DX8_choose rfl) rfl ?_
          refine x_ri (xd DX8_choose rfl) rfl ?_
          have hs := hset_c (h := xg) (c := 255) (d := 8) (k := 5) (z := 0) (by decide)
          rw [hs]
          refine hPP xg ?_ hO Pg
          first
            | (refine hk _ ?_; rw [show c.toNat - xi = 0 by omega]; exact ChR.done)
            | (refine hk _ ?_; rw [show c.toNat - xi = (c.toNat - (xi + 1)) + 1 by omega, show xz = 0 by omega]; exact ChR.none)
        · have ok := hr.ok Pg c57
          refine x_aload_n 61 (xd DX8_choose rfl) rfl rfl ?_
          refine x_gr 64 _ LX8_26 (xd DX8_choose rfl) rfl rfl ⟨by decide, by decide⟩ (by decide) rfl rfl ?_
          refine x_aload_n 65 (xd DX8_choose rfl) rfl rfl ?_
          refine x_gr 68 _ LX8_19 (xd DX8_choose rfl) rfl rfl ⟨by decide, by decide⟩ (by decide) rfl rfl ?_
          refine x_aload_n 69 (xd DX8_choose rfl) rfl rfl ?_
          refine x_gr 72 _ LX8_51 (xd DX8_choose rfl) rfl rfl ⟨by decide, by decide⟩ (by decide) rfl rfl ?_
          refine x_gi 75 2 rfl LX8_157 (xd DX8_choose rfl) rfl ⟨Or.inr ⟨rfl, by decide⟩, by decide⟩ rfl ?_
          refine x_aload_n 76 (xd DX8_choose rfl) rfl rfl ?_
          refine x_gr 79 _ LX8_51 (xd DX8_choose rfl) rfl rfl ⟨by decide, by decide⟩ (by decide) rfl rfl ?_
          refine x_gi 82 3 rfl LX8_160 (xd DX8_choose rfl) rfl ⟨Or.inr ⟨rfl, by decide⟩, by decide⟩ rfl ?_
          refine x_aload_n 83 (xd DX8_choose rfl) rfl rfl ?_
          refine x_gr 86 _ LX8_51 (xd DX8_choose rfl) rfl rfl ⟨by decide, by decide⟩ (by decide) rfl rfl ?_
          refine x_gi 89 4 rfl LX8_163 (xd DX8_choose rfl) rfl ⟨Or.inr ⟨rfl, by decide⟩, by decide⟩ rfl ?_
          refine x_Vv 92 (pX6_append (xg 254 2) (xg 254 3) (xg 254 4) (by have := Pg.2.1.1; omega) ok.2.1.1 (by have := ok.2.1.2.1; have := ok.2.1.2.2.1; omega) (by have := ok.2.1.2.2.2.1; have := Pg.1.1; omega) (by have := ok.2.1.2.2.1; have := ok.2.2; omega)) FX6_append VX6_append CX8_141 (xd DX8_choose rfl) rfl rfl rfl ⟨by decide, rfl⟩ ⟨by decide, by decide⟩ (by decide) (Nat.le_of_ble_eq_true rfl) (by decide) rfl ?_
          rintro g2 ⟨o2, a2⟩
          have a2 : AddR xg g2 (xg 254 2) (xg 254 3) (xg 254 4) := a2
          have S2 : SW g2 8 := a2.sw Pg.2.1 Pg.1 ok.2.1 ok.1 ok.2.2
          have P2 : PW g2 := Pg.1.off o2 (by unfold ST; omega) (by unfold ST; omega) (by unfold ST; omega) (by unfold ST; omega)
          have H2 : HW g2 := Pg.2.2.1.same (fun x a b => o2 x (by unfold ST; omega))
          refine x_aload_n 93 (xd DX8_choose rfl) rfl rfl ?_
          refine x_gr 96 _ LX8_42 (xd DX8_choose rfl) rfl rfl ⟨by decide, by decide⟩ (by decide) rfl rfl ?_
          refine x_Vv 99 (pX3_reckon P2 S2) FX3_reckon VX3_reckon CX8_90 (xd DX8_choose rfl) rfl rfl rfl ⟨by decide, rfl⟩ ⟨by decide, by decide⟩ (by decide) (Nat.le_of_ble_eq_true rfl) (by decide) rfl ?_
          rintro g3 ⟨o3, l3⟩
          have q3 : ∀ x, x < 192 → g3 x = g2 x := fun x q => o3 x (by unfold SL; omega)
          have P3 : PicC g3 := ⟨P2.off o3 (by unfold SL; omega) (by unfold SL; omega) (by unfold SL; omega) (by unfold SL; omega), S2.same (fun x q => q3 x (by unfold S26 at q; omega)), H2.same (fun x a b => q3 x b), l3⟩
          have s3 : SEq g3 8 g2 8 := SEq.same (fun x q => q3 x (by unfold S26 at q; omega)) S2.1.2
          have nx : NxtR xg g3 := ⟨(o2.mono (fun x q => Or.inl q)).tr (o3.mono (fun x q => Or.inr q)), AddR.off (fun x _ => rfl) Pg.2.1 ok.1 a2 s3 (by have := ok.2.1.2.2.1; omega), l3⟩
          refine x_aload_n 100 (xd DX8_choose rfl) rfl rfl ?_
          refine x_gr 103 _ LX8_51 (xd DX8_choose rfl) rfl rfl ⟨by decide, by decide⟩ (by decide) rfl rfl ?_
          refine x_Vi 106 (pX0_find (GfC g3) P3.1 P3.2.1 P3.2.2.2 (fun i m z g a b c d => GfC_one P3.1 P3.2.2.2 (by omega) d) (fun i m z g a b c d => GfC_le P3.1 P3.2.1 P3.2.2.2 (c.ok P3.2.2.2 a.2) d)) FX0_find VX0_find CX8_153 (xd DX8_choose rfl) rfl rfl rfl ⟨by decide, rfl⟩ ⟨by decide, by decide⟩ (by decide) (Nat.le_of_ble_eq_true rfl) (by decide) rfl ?_
          rintro z4 g4 fr
          have fr : FndR g3 g4 z4 := fr
          refine x_istore_n 107 (L' := [(0, _), (1, _), (2, _), (3, _), (4, _)]) (xd DX8_choose rfl) (by decide) rfl rfl rfl ?_
          refine x_iinc 110 (L' := [(0, _), (1, _), (2, _), (3, _), (4, _)]) (xd DX8_choose rfl) rfl (by decide) rfl rfl rfl ?_
          refine x_goto 50 (xd DX8_choose rfl) rfl ?_
          exact ih (xi + 1) g4 z4 (by omega) (by omega) (fr.pic P3) fr.rdy ((hO.tr (nx.1.mono (fun x q => by unfold ST SL at q; unfold SCc; omega))).tr (fr.1.mono (fun x q => by unfold STr SGa S3 at q; unfold SCc; omega))) (fun gk q => hk gk (by
            rw [show c.toNat - xi = (c.toNat - (xi + 1)) + 1 by omega]
            exact ChR.next c57 nx fr q))
set_option maxRecDepth 100000 in
set_option maxHeartbeats 4000000 in
theorem pX8_choose {K : XK} {n : Nat} {h : XH} (c : Int) (hC : CI h) (hc : xrg c) : MI K mX8_choose 7 n [vr 0, vi c] h (fun zr h' => (¬ (1 ≤ c ∧ c ≤ 8) → zr = -1 ∧ h' = h) ∧ ((1 ≤ c ∧ c ≤ 8) → ∃ g0 z0, FndR h g0 z0 ∧ CI g0 ∧ (z0 = 0 → zr = -2 ∧ h' = g0) ∧ (z0 ≠ 0 → ∃ g1 gk, KeptR g0 g1 ∧ Off SHi g0 g1 ∧ ChR c.toNat z0 g1 gk ∧ h' = hset gk 255 5 0 ∧ zr = gk 8 1 - h 8 1 ∧ Cgd h h' ∧ KeptR h h'))) := by
  refine xMeth FX8_choose (Nat.le_of_ble_eq_true rfl) ?_
  have hP := hC.1
  have hS := hC.2.1
  have hH := hC.2.2.1
  have hL := hC.2.2.2.1
  have hP1 := hP.1
  have hS1 := hS.1
  have hS2 := hS.2.1
  have hS3 := hS.2.2.1
  have hp : PicC h := ⟨hP, hS, hH, hL⟩
  refine x_iload_n 1 (xd DX8_choose rfl) rfl rfl ?_
  refine x_iconst 2 (xd DX8_choose rfl) rfl ?_
  refine x_icmp_lt 5 11 (xd DX8_choose rfl) rfl (by omega) (by omega) rfl (fun c2 => ?_) (fun c2 => ?_)
  · refine x_iconst 12 (xd DX8_choose rfl) rfl ?_
    refine x_ri (xd DX8_choose rfl) rfl ?_
    exact ⟨fun _ => ⟨rfl, rfl⟩, fun q => absurd q (by omega)⟩
  · refine x_iload_n 6 (xd DX8_choose rfl) rfl rfl ?_
    refine x_bipush 8 (xd DX8_choose rfl) rfl rfl ?_
    refine x_icmp_le 11 13 (xd DX8_choose rfl) rfl (by omega) (by omega) rfl (fun c8 => ?_) (fun c8 => ?_)
    · refine x_aload_n 14 (xd DX8_choose rfl) rfl rfl ?_
      refine x_gr 17 _ LX8_51 (xd DX8_choose rfl) rfl rfl ⟨by decide, by decide⟩ (by decide) rfl rfl ?_
      refine x_Vi 20 (pX0_find (GfC h) hp.1 hp.2.1 hp.2.2.2 (fun i m z g a b c d => GfC_one hp.1 hp.2.2.2 (by omega) d) (fun i m z g a b c d => GfC_le hp.1 hp.2.1 hp.2.2.2 (c.ok hp.2.2.2 a.2) d)) FX0_find VX0_find CX8_153 (xd DX8_choose rfl) rfl rfl rfl ⟨by decide, rfl⟩ ⟨by decide, by decide⟩ (by decide) (Nat.le_of_ble_eq_true rfl) (by decide) rfl ?_
      rintro zf g0 fr
      have fr : FndR h g0 zf := fr
      have rdy := fr.rdy
      have z01 := rdy.1
      have hp0 := fr.pic hp
      have hC0 : CI g0 := hC.scr fr.1 (fun c q => by unfold STr SGa S3 at q; omega)
      have e80 : g0 8 = h 8 := fr.1 8 (by unfold STr SGa S3; omega)
      refine x_istore_n 21 (L' := [(0, _), (1, _), (2, _)]) (xd DX8_choose rfl) (by decide) rfl rfl rfl ?_
      refine x_iload_n 22 (xd DX8_choose rfl) rfl rfl ?_
      refine x_if_ne 25 28 (xd DX8_choose rfl) rfl (by omega) rfl (fun c22 => ?_) (fun c22 => ?_)
      · refine x_aload_n 29 (xd DX8_choose rfl) rfl rfl ?_
        refine x_gr 32 _ LX8_33 (xd DX8_choose rfl) rfl rfl ⟨by decide, by decide⟩ (by decide) rfl rfl ?_
        refine x_aload_n 33 (xd DX8_choose rfl) rfl rfl ?_
        refine x_gr 36 _ LX8_26 (xd DX8_choose rfl) rfl rfl ⟨by decide, by decide⟩ (by decide) rfl rfl ?_
        refine x_Vv 39 (pX2_keep hp0.2.2.1 hp0.2.1) FX2_keep VX2_keep CX8_137 (xd DX8_choose rfl) rfl rfl rfl ⟨by decide, rfl⟩ ⟨by decide, by decide⟩ (by decide) (Nat.le_of_ble_eq_true rfl) (by decide) rfl ?_
        rintro g1 ⟨o1, k1⟩
        have k1 : KeptR g0 g1 := k1
        have l1 : ∀ x, x < 34 → g1 x = g0 x := fun x q => o1 x (by unfold SHi; omega)
        have e8 : g1 8 = h 8 := (l1 8 (by omega)).trans e80
        have hp1 : PicC g1 := by
          have S1 : SW g1 8 := hp0.2.1.same (fun x q => l1 x (by unfold S26 at q; omega))
          exact ⟨hp0.1.off o1 (by unfold SHi; omega) (by unfold SHi; omega) (by unfold SHi; omega) (by unfold SHi; omega), S1, k1.hw hp0.2.2.1 hp0.2.1, hp0.2.2.2.off o1 (fun c q => by unfold SHi; omega) hp0.1 hp0.2.1⟩
        have r1 : RdyC zf g1 := by
          have b := rdy.2
          refine ⟨z01, fun q => ?_⟩
          have b := b q
          unfold SqR at b ⊢
          rw [o1 254 (by unfold SHi; omega), o1 4 (by unfold SHi; omega), o1 193 (by unfold SHi; omega), l1 8 (by omega)]
          exact b
        refine x_aload_n 40 (xd DX8_choose rfl) rfl rfl ?_
        refine x_gr 43 _ LX8_26 (xd DX8_choose rfl) rfl rfl ⟨by decide, by decide⟩ (by decide) rfl rfl ?_
        refine x_gi 46 1 rfl LX8_97 (xd DX8_choose rfl) rfl ⟨Or.inr ⟨rfl, by decide⟩, by decide⟩ rfl ?_
        refine x_istore_n 47 (L' := [(0, _), (1, _), (2, _), (3, _)]) (xd DX8_choose rfl) (by decide) rfl rfl rfl ?_
        refine x_iconst 48 (xd DX8_choose rfl) rfl ?_
        refine x_istore 50 (L' := [(0, _), (1, _), (2, _), (3, _), (4, _)]) (xd DX8_choose rfl) (by decide) rfl rfl rfl ?_
        refine pX8_choose_loop c (g1 8 1) zf c.toNat g1 ⟨by omega, by omega⟩ (by rw [e8]; omega) _ (fun gk b1 b2 b3 => ?_) 100 0 g1 zf (by omega) (by omega) hp1 r1 Off.rf (fun gk q => by rw [Nat.sub_zero] at q; exact q)
        have oo : Off SCh h (hset gk 255 5 0) := (((fr.1.mono (fun x q => by unfold STr SGa S3 at q; unfold SCh; omega)).tr (o1.mono (fun x q => by unfold SHi at q; unfold SCh; omega))).tr (b2.mono (fun x q => by unfold SCc at q; unfold SCh; omega))).tr (Off.set (c := 255) (by unfold SCh; omega))
        have pp : PicC (hset gk 255 5 0) := b3.scr (ocell (c := 255)) (fun c q => by omega)
        have kk : KeptR g0 (hset gk 255 5 0) := k1.off hp0.2.2.1 hp0.2.1 ((b2.mono (fun x q => Or.inl q)).tr (Off.set (S := fun x => SCc x ∨ x = 255) (Or.inr rfl))) (fun x a b => by unfold SCc; omega)
        refine ⟨fun q => absurd ⟨by omega, by omega⟩ q, fun _ => ⟨g0, zf, fr, hC0, fun q => absurd q c22, fun _ => ⟨g1, gk, k1, o1, b1, rfl, by rw [e8], ⟨oo, ⟨pp.1, pp.2.1, pp.2.2.1, pp.2.2.2, Or.inl hset_s, fun q => ?_, ?_, ?_⟩, hset_s⟩, KeptR.of (fun x q => fr.1 x (by unfold STr SGa S3; omega)) hH hS kk⟩⟩⟩
        · rw [hset_s] at q; exact absurd q (by decide)
        · rw [oo 1 (by unfold SCh; omega)]; exact hC.2.2.2.2.2.2.1
        · rw [oo 1 (by unfold SCh; omega), oo 2 (by unfold SCh; omega)]; exact hC.2.2.2.2.2.2.2
      · refine x_bipush 27 (xd DX8_choose rfl) rfl rfl ?_
        refine x_ri (xd DX8_choose rfl) rfl ?_
        exact ⟨fun q => absurd ⟨by omega, by omega⟩ q, fun _ => ⟨g0, zf, fr, hC0, fun _ => ⟨rfl, rfl⟩, fun q => absurd c22 q⟩⟩
    · refine x_iconst 12 (xd DX8_choose rfl) rfl ?_
      refine x_ri (xd DX8_choose rfl) rfl ?_
      exact ⟨fun _ => ⟨rfl, rfl⟩, fun q => absurd q (by omega)⟩

