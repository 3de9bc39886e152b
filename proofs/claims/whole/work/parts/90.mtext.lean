/-! SqueezedCodeModel: the text -/
def RX (g h : XH) : Prop := h 259 0 = g 1 2 ∧ ∀ j, 0 ≤ j → j < g 1 2 → h 260 j = g 2 j
theorem kix_sim (c : Int) : mSim c ↔ kSim (kix c) := by
  rcases kix_cs c with e | ⟨a, b, e⟩
  · refine ⟨fun q => ?_, fun q => by rw [e] at q; unfold kSim at q; omega⟩
    unfold mSim at q
    rcases q with q | q | q | q | q | q | q <;> subst q <;> exact absurd e (by decide)
  · have := ltr_sim ⟨a, b⟩
    rw [e] at this
    exact this
theorem kix_pl (c : Int) : mPl c ↔ kTgt (kix c) := by
  rcases kix_cs c with e | ⟨a, b, e⟩
  · refine ⟨fun q => ?_, fun q => by rw [e] at q; unfold kTgt at q; omega⟩
    unfold mPl at q
    rcases q with q | q | q <;> subst q <;> exact absurd e (by decide)
  · have := ltr_pl ⟨a, b⟩
    rw [e] at this
    exact this
noncomputable def figF (f : Int → Int) (N k : Int) : Int := pik (dgt f N k) (f k - 48) (-4)
theorem figF_no (f : Int → Int) (N k : Int) : figF f N k = -4 ↔ ¬ dgt f N k := by
  unfold figF
  by_cases q : dgt f N k
  · rw [pik_t q]
    unfold dgt at q
    constructor
    · intro y; omega
    · intro y; exact absurd q y
  · rw [pik_f q]
    exact ⟨fun _ => q, fun _ => rfl⟩
theorem figF_rg (f : Int → Int) (N k : Int) : -4 ≤ figF f N k ∧ figF f N k ≤ 9 := by
  unfold figF
  by_cases q : dgt f N k
  · rw [pik_t q]
    unfold dgt at q
    omega
  · rw [pik_f q]; decide
theorem mLet_w {f : Int → Int} {N p : Int} (hp : p < N) (hw : 0 < wdt f N p) : mLet (f p) = wdt f N p := by
  have w := wdt_in hp hw
  unfold mLet
  by_cases a : mSim (f p)
  · rw [pik_t a, (w.2.2.2.2.2.1 ((kix_sim _).mp a)).1]
  · rw [pik_f a]
    by_cases b : mPl (f p)
    · rw [pik_t b, (w.2.2.2.2.1 ((kix_pl _).mp b)).1]
    · rw [pik_f b, w.2.2.2.2.2.2 (fun q => b ((kix_pl _).mpr q)) (fun q => a ((kix_sim _).mpr q))]
def oneH (h : XH) (c v : Int) : XH := hset (hset (hset h 261 (h 259 2) c) 262 (h 259 2) v) 259 2 (h 259 2 + 1)
set_option maxRecDepth 100000 in
set_option maxHeartbeats 4000000 in
theorem pX9_write {K : XK} {n : Nat} {h : XH} (c : Int) (hc : xrg c) (h0 : 0 ≤ h 259 0 ∧ h 259 0 ≤ 200) : MI K mX9_write 1 n [vr 259, vi c] h (fun zr h' => (¬ (32 ≤ c ∧ c ≤ 126) → zr = -1 ∧ h' = h) ∧ ((32 ≤ c ∧ c ≤ 126) → (200 ≤ h 259 0 → zr = -3 ∧ h' = h) ∧ (h 259 0 < 200 → zr = h 259 0 + 1 ∧ h' = hset (hset h 260 (h 259 0) c) 259 0 (h 259 0 + 1)))) := by
  refine xMeth FX9_write (Nat.le_of_ble_eq_true rfl) ?_
  refine x_iload_n 1 (xd DX9_write rfl) rfl rfl ?_
  refine x_i2l 2 (by omega) (xd DX9_write rfl) rfl ?_
  refine x_ldc2 5 (xd DX9_write rfl) KX9_67 rfl ?_
  refine x_ldc2 8 (xd DX9_write rfl) KX9_69 rfl ?_
  refine x_Si 11 (pX9_in c 32 126 (by omega) (by omega) (by omega)) FX9_in VX9_in CX9_71 (xd DX9_write rfl) rfl rfl (by decide) (Nat.le_of_ble_eq_true rfl) (by decide) rfl ?_
  rintro z9 h9 ⟨q1, q2⟩
  rw [q1, q2]
  clear q1 q2 z9 h9
  refine x_ifp_ne 14 16 (xd DX9_write rfl) rfl rfl (fun kc11 => ?_) (fun kc11 => ?_)
  · refine x_aload_n 17 (xd DX9_write rfl) rfl rfl ?_
    refine x_gi 20 0 rfl LX9_75 (xd DX9_write rfl) rfl ⟨Or.inr ⟨rfl, by decide⟩, by decide⟩ rfl ?_
    refine x_sipush 23 (xd DX9_write rfl) rfl rfl ?_
    refine x_icmp_ne 26 29 (xd DX9_write rfl) rfl (by omega) (by omega) rfl (fun kc23 => ?_) (fun kc23 => ?_)
    · refine x_aload_n 30 (xd DX9_write rfl) rfl rfl ?_
      refine x_gr 33 _ LX9_7 (xd DX9_write rfl) rfl rfl ⟨by decide, by decide⟩ (by decide) rfl rfl ?_
      refine x_aload_n 34 (xd DX9_write rfl) rfl rfl ?_
      refine x_gi 37 0 rfl LX9_75 (xd DX9_write rfl) rfl ⟨Or.inr ⟨rfl, by decide⟩, by decide⟩ rfl ?_
      refine x_iload_n 38 (xd DX9_write rfl) rfl rfl ?_
      refine x_iastore 39 (xd DX9_write rfl) rfl ⟨Or.inr ⟨rfl, by decide⟩, by decide⟩ (by decide) (by omega) (by omega) rfl ?_
      refine x_aload_n 40 (xd DX9_write rfl) rfl rfl ?_
      refine x_dupr 41 (xd DX9_write rfl) rfl ?_
      refine x_gi 44 0 rfl LX9_75 (xd DX9_write rfl) rfl ⟨Or.inr ⟨rfl, by decide⟩, by decide⟩ rfl ?_
      refine x_iconst 45 (xd DX9_write rfl) rfl ?_
      refine x_iadd 46 (xd DX9_write rfl) rfl ?_
      refine x_pi 49 0 rfl LX9_75 (xd DX9_write rfl) rfl rfl ⟨Or.inr ⟨rfl, by decide⟩, by decide⟩ rfl ?_
      refine x_aload_n 50 (xd DX9_write rfl) rfl rfl ?_
      refine x_gi 53 0 rfl LX9_75 (xd DX9_write rfl) rfl ⟨Or.inr ⟨rfl, by decide⟩, by decide⟩ rfl ?_
      refine x_ri (xd DX9_write rfl) rfl ?_
      rw [hset_s, hset_c (by decide)]
      exact ⟨fun q => absurd kc11 q, fun _ => ⟨fun q => by omega, fun _ => ⟨rfl, rfl⟩⟩⟩
    · refine x_bipush 28 (xd DX9_write rfl) rfl rfl ?_
      refine x_ri (xd DX9_write rfl) rfl ?_
      exact ⟨fun q => absurd kc11 q, fun _ => ⟨fun _ => ⟨rfl, rfl⟩, fun q => by omega⟩⟩
  · refine x_iconst 15 (xd DX9_write rfl) rfl ?_
    refine x_ri (xd DX9_write rfl) rfl ?_
    exact ⟨fun _ => ⟨rfl, rfl⟩, fun q => absurd q kc11⟩

set_option maxRecDepth 100000 in
set_option maxHeartbeats 4000000 in
theorem pX9_figureAt {K : XK} {n : Nat} {h : XH} (g : XH) (k : Int) (hT : TxI g) (hX : RX g h) (hk : 0 ≤ k ∧ k ≤ 1000) : MI K mX9_figureAt 1 n [vr 259, vi k] h (fun zr h' => zr = figF (g 2) (g 1 2) k ∧ h' = h) := by
  refine xMeth FX9_figureAt (Nat.le_of_ble_eq_true rfl) ?_
  have hT1 := hT.1
  refine x_iload_n 1 (xd DX9_figureAt rfl) rfl rfl ?_
  refine x_aload_n 2 (xd DX9_figureAt rfl) rfl rfl ?_
  refine x_gi 5 0 rfl LX9_75 (xd DX9_figureAt rfl) rfl ⟨Or.inr ⟨rfl, by decide⟩, by decide⟩ rfl ?_
  refine x_icmp_ge 8 39 (xd DX9_figureAt rfl) rfl (by first | omega | (rw [hX.1]; omega)) (by first | omega | (rw [hX.1]; omega)) rfl (fun kc5 => ?_) (fun kc5 => ?_)
  · rw [hX.1] at kc5
    refine x_bipush 41 (xd DX9_figureAt rfl) rfl rfl ?_
    refine x_ri (xd DX9_figureAt rfl) rfl ?_
    refine ⟨?_, rfl⟩
    unfold figF dgt
    first
      | (rw [hxk] at kc24 ⊢; rw [pik_t ⟨hlt, kc24⟩]; done)
      | (rw [hxk] at kc24; rw [pik_f (fun q => kc24 q.2)]; done)
      | rw [pik_f (fun q => by omega)]
  · rw [hX.1] at kc5
    have hlt : k < g 1 2 := kc5
    have xqtk := hT.2 k hk.1 hlt
    have hxk := hX.2 k hk.1 hlt
    refine x_aload_n 9 (xd DX9_figureAt rfl) rfl rfl ?_
    refine x_gr 12 _ LX9_7 (xd DX9_figureAt rfl) rfl rfl ⟨by decide, by decide⟩ (by decide) rfl rfl ?_
    refine x_iload_n 13 (xd DX9_figureAt rfl) rfl rfl ?_
    refine x_iaload 14 (xd DX9_figureAt rfl) rfl ⟨Or.inr ⟨rfl, by decide⟩, by decide⟩ (by decide) (by omega) (by omega) rfl ?_
    refine x_i2l 15 (by rw [hxk]; omega) (xd DX9_figureAt rfl) rfl ?_
    refine x_ldc2 18 (xd DX9_figureAt rfl) KX9_78 rfl ?_
    refine x_ldc2 21 (xd DX9_figureAt rfl) KX9_80 rfl ?_
    refine x_Si 24 (pX9_in (h 260 k) 48 57 (by rw [hX.2 k hk.1 hlt]; have := hT.2 k hk.1 hlt; omega) (by omega) (by omega)) FX9_in VX9_in CX9_71 (xd DX9_figureAt rfl) rfl rfl (by decide) (Nat.le_of_ble_eq_true rfl) (by decide) rfl ?_
    rintro z9 h9 ⟨q1, q2⟩
    rw [q1, q2]
    clear q1 q2 z9 h9
    refine x_ifp_eq 27 39 (xd DX9_figureAt rfl) rfl rfl (fun kc24 => ?_) (fun kc24 => ?_)
    · refine x_bipush 41 (xd DX9_figureAt rfl) rfl rfl ?_
      refine x_ri (xd DX9_figureAt rfl) rfl ?_
      refine ⟨?_, rfl⟩
      unfold figF dgt
      first
        | (rw [hxk] at kc24 ⊢; rw [pik_t ⟨hlt, kc24⟩]; done)
        | (rw [hxk] at kc24; rw [pik_f (fun q => kc24 q.2)]; done)
        | rw [pik_f (fun q => by omega)]
    · refine x_aload_n 28 (xd DX9_figureAt rfl) rfl rfl ?_
      refine x_gr 31 _ LX9_7 (xd DX9_figureAt rfl) rfl rfl ⟨by decide, by decide⟩ (by decide) rfl rfl ?_
      refine x_iload_n 32 (xd DX9_figureAt rfl) rfl rfl ?_
      refine x_iaload 33 (xd DX9_figureAt rfl) rfl ⟨Or.inr ⟨rfl, by decide⟩, by decide⟩ (by decide) (by omega) (by omega) rfl ?_
      refine x_bipush 35 (xd DX9_figureAt rfl) rfl rfl ?_
      refine x_isub 36 (xd DX9_figureAt rfl) rfl ?_
      refine x_goto 41 (xd DX9_figureAt rfl) rfl ?_
      refine x_ri (xd DX9_figureAt rfl) rfl ?_
      refine ⟨?_, rfl⟩
      unfold figF dgt
      first
        | (rw [hxk] at kc24 ⊢; rw [pik_t ⟨hlt, kc24⟩]; done)
        | (rw [hxk] at kc24; rw [pik_f (fun q => kc24 q.2)]; done)
        | rw [pik_f (fun q => by omega)]

set_option maxRecDepth 100000 in
set_option maxHeartbeats 4000000 in
theorem pX9_oneIs {K : XK} {n : Nat} {h : XH} (c v : Int) (hn : 0 ≤ h 259 2 ∧ h 259 2 < 48) : MV K mX9_oneIs 0 n [vr 259, vi c, vi v] h (fun h' => h' = oneH h c v) := by
  refine xMeth FX9_oneIs (Nat.le_of_ble_eq_true rfl) ?_
  refine x_aload_n 1 (xd DX9_oneIs rfl) rfl rfl ?_
  refine x_gr 4 _ LX9_13 (xd DX9_oneIs rfl) rfl rfl ⟨by decide, by decide⟩ (by decide) rfl rfl ?_
  refine x_aload_n 5 (xd DX9_oneIs rfl) rfl rfl ?_
  refine x_gi 8 2 rfl LX9_52 (xd DX9_oneIs rfl) rfl ⟨Or.inr ⟨rfl, by decide⟩, by decide⟩ rfl ?_
  refine x_iload_n 9 (xd DX9_oneIs rfl) rfl rfl ?_
  refine x_iastore 10 (xd DX9_oneIs rfl) rfl ⟨Or.inr ⟨rfl, by decide⟩, by decide⟩ (by decide) (by omega) (by omega) rfl ?_
  refine x_aload_n 11 (xd DX9_oneIs rfl) rfl rfl ?_
  refine x_gr 14 _ LX9_16 (xd DX9_oneIs rfl) rfl rfl ⟨by decide, by decide⟩ (by decide) rfl rfl ?_
  refine x_aload_n 15 (xd DX9_oneIs rfl) rfl rfl ?_
  refine x_gi 18 2 rfl LX9_52 (xd DX9_oneIs rfl) rfl ⟨Or.inr ⟨rfl, by decide⟩, by decide⟩ rfl ?_
  refine x_iload_n 19 (xd DX9_oneIs rfl) rfl rfl ?_
  refine x_iastore 20 (xd DX9_oneIs rfl) rfl ⟨Or.inr ⟨rfl, by decide⟩, by decide⟩ (by decide) (by rw [hset_c (by decide)]; omega) (by rw [hset_c (by decide)]; omega) rfl ?_
  refine x_aload_n 21 (xd DX9_oneIs rfl) rfl rfl ?_
  refine x_dupr 22 (xd DX9_oneIs rfl) rfl ?_
  refine x_gi 25 2 rfl LX9_52 (xd DX9_oneIs rfl) rfl ⟨Or.inr ⟨rfl, by decide⟩, by decide⟩ rfl ?_
  refine x_iconst 26 (xd DX9_oneIs rfl) rfl ?_
  refine x_iadd 27 (xd DX9_oneIs rfl) rfl ?_
  refine x_pi 30 2 rfl LX9_52 (xd DX9_oneIs rfl) rfl rfl ⟨Or.inr ⟨rfl, by decide⟩, by decide⟩ rfl ?_
  refine x_rv (xd DX9_oneIs rfl) rfl ?_
  unfold oneH
  rw [hset_c (c := 261) (d := 259) (by decide), hset_c (c := 262) (d := 259) (by decide), hset_c (c := 261) (d := 259) (by decide)]

set_option maxRecDepth 100000 in
set_option maxHeartbeats 4000000 in
theorem pX9_readOne {K : XK} {n : Nat} {h : XH} (g : XH) (p : Int) (hT : TxI g) (hX : RX g h) (hp : 0 ≤ p ∧ p < g 1 2) (hn : 0 ≤ h 259 2 ∧ h 259 2 ≤ 48) : MI K mX9_readOne 2 n [vr 259, vi p] h (fun zr h' => ((h 259 2 = 48 ∨ wdt (g 2) (g 1 2) p = 0) → zr = -4 ∧ h' = h) ∧ (h 259 2 < 48 → 0 < wdt (g 2) (g 1 2) p → zr = wdt (g 2) (g 1 2) p ∧ h' = oneH h (g 2 p) (vlF (g 2) p))) := by
  refine xMeth FX9_readOne (Nat.le_of_ble_eq_true rfl) ?_
  have hT1 := hT.1
  have hxp := hX.2 p hp.1 hp.2
  have htp := hT.2 p hp.1 hp.2
  refine x_aload_n 1 (xd DX9_readOne rfl) rfl rfl ?_
  refine x_gr 4 _ LX9_7 (xd DX9_readOne rfl) rfl rfl ⟨by decide, by decide⟩ (by decide) rfl rfl ?_
  refine x_iload_n 5 (xd DX9_readOne rfl) rfl rfl ?_
  refine x_iaload 6 (xd DX9_readOne rfl) rfl ⟨Or.inr ⟨rfl, by decide⟩, by decide⟩ (by decide) (by omega) (by omega) rfl ?_
  refine WX.stk (st' := [vi (g 2 p)]) (by rw [hxp]) ?_
  refine x_istore_n 7 (L' := [(0, _), (1, _), (2, _)]) (xd DX9_readOne rfl) (by decide) rfl rfl rfl ?_
  refine x_aload_n 8 (xd DX9_readOne rfl) rfl rfl ?_
  refine x_iload_n 9 (xd DX9_readOne rfl) rfl rfl ?_
  refine x_iconst 10 (xd DX9_readOne rfl) rfl ?_
  refine x_iadd 11 (xd DX9_readOne rfl) rfl ?_
  refine x_Vi 14 (pX9_figureAt g (p + 1) hT hX (by omega)) FX9_figureAt VX9_figureAt CX9_82 (xd DX9_readOne rfl) rfl rfl rfl ⟨by decide, rfl⟩ ⟨by decide, by decide⟩ (by decide) (Nat.le_of_ble_eq_true rfl) (by decide) rfl ?_
  rintro z9 h9 ⟨q1, q2⟩
  rw [q1, q2]
  clear q1 q2 z9 h9
  refine x_istore_n 15 (L' := [(0, _), (1, _), (2, _), (3, _)]) (xd DX9_readOne rfl) (by decide) rfl rfl rfl ?_
  refine x_aload_n 16 (xd DX9_readOne rfl) rfl rfl ?_
  refine x_iload_n 17 (xd DX9_readOne rfl) rfl rfl ?_
  refine x_iconst 18 (xd DX9_readOne rfl) rfl ?_
  refine x_iadd 19 (xd DX9_readOne rfl) rfl ?_
  refine x_Vi 22 (pX9_figureAt g (p + 2) hT hX (by omega)) FX9_figureAt VX9_figureAt CX9_82 (xd DX9_readOne rfl) rfl rfl rfl ⟨by decide, rfl⟩ ⟨by decide, by decide⟩ (by decide) (Nat.le_of_ble_eq_true rfl) (by decide) rfl ?_
  rintro z9 h9 ⟨q1, q2⟩
  rw [q1, q2]
  clear q1 q2 z9 h9
  refine x_istore 24 (L' := [(0, _), (1, _), (2, _), (3, _), (4, _)]) (xd DX9_readOne rfl) (by decide) rfl rfl rfl ?_
  refine x_aload_n 25 (xd DX9_readOne rfl) rfl rfl ?_
  refine x_gi 28 2 rfl LX9_52 (xd DX9_readOne rfl) rfl ⟨Or.inr ⟨rfl, by decide⟩, by decide⟩ rfl ?_
  refine x_bipush 30 (xd DX9_readOne rfl) rfl rfl ?_
  refine x_icmp_ne 33 36 (xd DX9_readOne rfl) rfl (by omega) (by omega) rfl (fun kc30 => ?_) (fun kc30 => ?_)
  · refine x_iload_n 37 (xd DX9_readOne rfl) rfl rfl ?_
    refine x_Si 40 (pX9_isSimple (g 2 p) (by omega)) FX9_isSimple VX9_isSimple CX9_86 (xd DX9_readOne rfl) rfl rfl (by decide) (Nat.le_of_ble_eq_true rfl) (by decide) rfl ?_
    rintro z9 h9 ⟨q1, q2⟩
    rw [q1, q2]
    clear q1 q2 z9 h9
    refine x_ifp_eq 43 57 (xd DX9_readOne rfl) rfl rfl (fun kc40 => ?_) (fun kc40 => ?_)
    · have xqns : ¬ kSim (kix (g 2 p)) := fun q => kc40 ((kix_sim _).mpr q)
      refine x_iload_n 58 (xd DX9_readOne rfl) rfl rfl ?_
      refine x_Si 61 (pX9_hasPlace (g 2 p) (by omega)) FX9_hasPlace VX9_hasPlace CX9_90 (xd DX9_readOne rfl) rfl rfl (by decide) (Nat.le_of_ble_eq_true rfl) (by decide) rfl ?_
      rintro z9 h9 ⟨q1, q2⟩
      rw [q1, q2]
      clear q1 q2 z9 h9
      refine x_ifp_eq 64 91 (xd DX9_readOne rfl) rfl rfl (fun kc61 => ?_) (fun kc61 => ?_)
      · have xqnt : ¬ kTgt (kix (g 2 p)) := fun q => kc61 ((kix_pl _).mpr q)
        refine x_iload_n 92 (xd DX9_readOne rfl) rfl rfl ?_
        refine x_bipush 94 (xd DX9_readOne rfl) rfl rfl ?_
        refine x_icmp_eq 97 103 (xd DX9_readOne rfl) rfl (by omega) (by omega) rfl (fun kc94 => ?_) (fun kc94 => ?_)
        · refine x_aload_n 104 (xd DX9_readOne rfl) rfl rfl ?_
          refine x_iload_n 105 (xd DX9_readOne rfl) rfl rfl ?_
          refine x_bipush 107 (xd DX9_readOne rfl) rfl rfl ?_
          refine x_Vv 110 (pX9_oneIs (g 2 p) (-4) (by omega)) FX9_oneIs VX9_oneIs CX9_63 (xd DX9_readOne rfl) rfl rfl rfl ⟨by decide, rfl⟩ ⟨by decide, by decide⟩ (by decide) (Nat.le_of_ble_eq_true rfl) (by decide) rfl ?_
          intro h9 q2
          rw [q2]
          clear q2 h9
          refine x_iconst 111 (xd DX9_readOne rfl) rfl ?_
          refine x_ri (xd DX9_readOne rfl) rfl ?_
          have hkk : kix (g 2 p) = 10 ∨ kix (g 2 p) = 11 := by
            first
              | (rw [kc94]; exact Or.inl rfl)
              | (rw [kc100]; exact Or.inr rfl)
          have hwy : wdt (g 2) (g 1 2) p = 1 := by
            unfold wdt
            rw [if_neg (by omega), if_neg (by omega), if_neg (by omega)]
          have hvl : vlF (g 2) p = -4 := by
            unfold vlF
            rw [if_neg (by omega), if_neg (by omega)]
          exact ⟨fun q => by omega, fun _ _ => ⟨hwy.symm, by rw [hvl]⟩⟩
        · refine x_iload_n 98 (xd DX9_readOne rfl) rfl rfl ?_
          refine x_bipush 100 (xd DX9_readOne rfl) rfl rfl ?_
          refine x_icmp_ne 103 112 (xd DX9_readOne rfl) rfl (by omega) (by omega) rfl (fun kc100 => ?_) (fun kc100 => ?_)
          · refine x_bipush 114 (xd DX9_readOne rfl) rfl rfl ?_
            refine x_ri (xd DX9_readOne rfl) rfl ?_
            have hwn : wdt (g 2) (g 1 2) p = 0 := by
              have hkc := kix_cs (g 2 p)
              unfold wdt
              first
                | (have hnd : ¬ dgt (g 2) (g 1 2) (p + 1) := (figF_no _ _ _).mp kc46
                   unfold kSim at xqsk
                   rw [if_neg (by omega), if_neg (by omega), if_pos (by omega), pik_f hnd]
                   done)
                | (have hnd : ¬ dgt (g 2) (g 1 2) (p + 1) := (figF_no _ _ _).mp kc67
                   unfold kTgt at xqtk
                   rw [if_neg (by omega), if_pos xqtk, pik_f (fun q => hnd q.1)]
                   done)
                | (have hnd : ¬ dgt (g 2) (g 1 2) (p + 2) := (figF_no _ _ _).mp kc74
                   unfold kTgt at xqtk
                   rw [if_neg (by omega), if_pos xqtk, pik_f (fun q => hnd q.2)]
                   done)
                | (rcases hkc with e | ⟨a, b, e⟩
                   · rw [if_pos (by omega)]
                   · exfalso
                     unfold kSim at xqns
                     unfold kTgt at xqnt
                     have h2 : kix (g 2 p) = 10 ∨ kix (g 2 p) = 11 := by omega
                     rcases h2 with y | y
                     · rw [y] at e; exact kc94 e.symm
                     · rw [y] at e; exact kc100 e.symm)
            exact ⟨fun _ => ⟨rfl, rfl⟩, fun _ q => by omega⟩
          · refine x_aload_n 104 (xd DX9_readOne rfl) rfl rfl ?_
            refine x_iload_n 105 (xd DX9_readOne rfl) rfl rfl ?_
            refine x_bipush 107 (xd DX9_readOne rfl) rfl rfl ?_
            refine x_Vv 110 (pX9_oneIs (g 2 p) (-4) (by omega)) FX9_oneIs VX9_oneIs CX9_63 (xd DX9_readOne rfl) rfl rfl rfl ⟨by decide, rfl⟩ ⟨by decide, by decide⟩ (by decide) (Nat.le_of_ble_eq_true rfl) (by decide) rfl ?_
            intro h9 q2
            rw [q2]
            clear q2 h9
            refine x_iconst 111 (xd DX9_readOne rfl) rfl ?_
            refine x_ri (xd DX9_readOne rfl) rfl ?_
            have hkk : kix (g 2 p) = 10 ∨ kix (g 2 p) = 11 := by
              first
                | (rw [kc94]; exact Or.inl rfl)
                | (rw [kc100]; exact Or.inr rfl)
            have hwy : wdt (g 2) (g 1 2) p = 1 := by
              unfold wdt
              rw [if_neg (by omega), if_neg (by omega), if_neg (by omega)]
            have hvl : vlF (g 2) p = -4 := by
              unfold vlF
              rw [if_neg (by omega), if_neg (by omega)]
            exact ⟨fun q => by omega, fun _ _ => ⟨hwy.symm, by rw [hvl]⟩⟩
      · have xqtk := (kix_pl _).mp kc61
        refine x_iload_n 65 (xd DX9_readOne rfl) rfl rfl ?_
        refine x_bipush 67 (xd DX9_readOne rfl) rfl rfl ?_
        refine x_icmp_eq 70 91 (xd DX9_readOne rfl) rfl (by first | decide | (have := figF_rg (g 2) (g 1 2) (p + 1); omega)) (by first | decide | (have := figF_rg (g 2) (g 1 2) (p + 1); omega)) rfl (fun kc67 => ?_) (fun kc67 => ?_)
        · refine x_iload_n 92 (xd DX9_readOne rfl) rfl rfl ?_
          refine x_bipush 94 (xd DX9_readOne rfl) rfl rfl ?_
          refine x_icmp_eq 97 103 (xd DX9_readOne rfl) rfl (by omega) (by omega) rfl (fun kc94 => ?_) (fun kc94 => ?_)
          · refine x_aload_n 104 (xd DX9_readOne rfl) rfl rfl ?_
            refine x_iload_n 105 (xd DX9_readOne rfl) rfl rfl ?_
            refine x_bipush 107 (xd DX9_readOne rfl) rfl rfl ?_
            refine x_Vv 110 (pX9_oneIs (g 2 p) (-4) (by omega)) FX9_oneIs VX9_oneIs CX9_63 (xd DX9_readOne rfl) rfl rfl rfl ⟨by decide, rfl⟩ ⟨by decide, by decide⟩ (by decide) (Nat.le_of_ble_eq_true rfl) (by decide) rfl ?_
            intro h9 q2
            rw [q2]
            clear q2 h9
            refine x_iconst 111 (xd DX9_readOne rfl) rfl ?_
            refine x_ri (xd DX9_readOne rfl) rfl ?_
            have hkk : kix (g 2 p) = 10 ∨ kix (g 2 p) = 11 := by
              first
                | (rw [kc94]; exact Or.inl rfl)
                | (rw [kc100]; exact Or.inr rfl)
            have hwy : wdt (g 2) (g 1 2) p = 1 := by
              unfold wdt
              rw [if_neg (by omega), if_neg (by omega), if_neg (by omega)]
            have hvl : vlF (g 2) p = -4 := by
              unfold vlF
              rw [if_neg (by omega), if_neg (by omega)]
            exact ⟨fun q => by omega, fun _ _ => ⟨hwy.symm, by rw [hvl]⟩⟩
          · refine x_iload_n 98 (xd DX9_readOne rfl) rfl rfl ?_
            refine x_bipush 100 (xd DX9_readOne rfl) rfl rfl ?_
            refine x_icmp_ne 103 112 (xd DX9_readOne rfl) rfl (by omega) (by omega) rfl (fun kc100 => ?_) (fun kc100 => ?_)
            · refine x_bipush 114 (xd DX9_readOne rfl) rfl rfl ?_
              refine x_ri (xd DX9_readOne rfl) rfl ?_
              have hwn : wdt (g 2) (g 1 2) p = 0 := by
                have hkc := kix_cs (g 2 p)
                unfold wdt
                first
                  | (have hnd : ¬ dgt (g 2) (g 1 2) (p + 1) := (figF_no _ _ _).mp kc46
                     unfold kSim at xqsk
                     rw [if_neg (by omega), if_neg (by omega), if_pos (by omega), pik_f hnd]
                     done)
                  | (have hnd : ¬ dgt (g 2) (g 1 2) (p + 1) := (figF_no _ _ _).mp kc67
                     unfold kTgt at xqtk
                     rw [if_neg (by omega), if_pos xqtk, pik_f (fun q => hnd q.1)]
                     done)
                  | (have hnd : ¬ dgt (g 2) (g 1 2) (p + 2) := (figF_no _ _ _).mp kc74
                     unfold kTgt at xqtk
                     rw [if_neg (by omega), if_pos xqtk, pik_f (fun q => hnd q.2)]
                     done)
                  | (rcases hkc with e | ⟨a, b, e⟩
                     · rw [if_pos (by omega)]
                     · exfalso
                       unfold kSim at xqns
                       unfold kTgt at xqnt
                       have h2 : kix (g 2 p) = 10 ∨ kix (g 2 p) = 11 := by omega
                       rcases h2 with y | y
                       · rw [y] at e; exact kc94 e.symm
                       · rw [y] at e; exact kc100 e.symm)
              exact ⟨fun _ => ⟨rfl, rfl⟩, fun _ q => by omega⟩
            · refine x_aload_n 104 (xd DX9_readOne rfl) rfl rfl ?_
              refine x_iload_n 105 (xd DX9_readOne rfl) rfl rfl ?_
              refine x_bipush 107 (xd DX9_readOne rfl) rfl rfl ?_
              refine x_Vv 110 (pX9_oneIs (g 2 p) (-4) (by omega)) FX9_oneIs VX9_oneIs CX9_63 (xd DX9_readOne rfl) rfl rfl rfl ⟨by decide, rfl⟩ ⟨by decide, by decide⟩ (by decide) (Nat.le_of_ble_eq_true rfl) (by decide) rfl ?_
              intro h9 q2
              rw [q2]
              clear q2 h9
              refine x_iconst 111 (xd DX9_readOne rfl) rfl ?_
              refine x_ri (xd DX9_readOne rfl) rfl ?_
              have hkk : kix (g 2 p) = 10 ∨ kix (g 2 p) = 11 := by
                first
                  | (rw [kc94]; exact Or.inl rfl)
                  | (rw [kc100]; exact Or.inr rfl)
              have hwy : wdt (g 2) (g 1 2) p = 1 := by
                unfold wdt
                rw [if_neg (by omega), if_neg (by omega), if_neg (by omega)]
              have hvl : vlF (g 2) p = -4 := by
                unfold vlF
                rw [if_neg (by omega), if_neg (by omega)]
              exact ⟨fun q => by omega, fun _ _ => ⟨hwy.symm, by rw [hvl]⟩⟩
        · refine x_iload 72 (xd DX9_readOne rfl) rfl rfl ?_
          refine x_bipush 74 (xd DX9_readOne rfl) rfl rfl ?_
          refine x_icmp_eq 77 91 (xd DX9_readOne rfl) rfl (by first | decide | (have := figF_rg (g 2) (g 1 2) (p + 2); omega)) (by first | decide | (have := figF_rg (g 2) (g 1 2) (p + 2); omega)) rfl (fun kc74 => ?_) (fun kc74 => ?_)
          · refine x_iload_n 92 (xd DX9_readOne rfl) rfl rfl ?_
            refine x_bipush 94 (xd DX9_readOne rfl) rfl rfl ?_
            refine x_icmp_eq 97 103 (xd DX9_readOne rfl) rfl (by omega) (by omega) rfl (fun kc94 => ?_) (fun kc94 => ?_)
            · refine x_aload_n 104 (xd DX9_readOne rfl) rfl rfl ?_
              refine x_iload_n 105 (xd DX9_readOne rfl) rfl rfl ?_
              refine x_bipush 107 (xd DX9_readOne rfl) rfl rfl ?_
              refine x_Vv 110 (pX9_oneIs (g 2 p) (-4) (by omega)) FX9_oneIs VX9_oneIs CX9_63 (xd DX9_readOne rfl) rfl rfl rfl ⟨by decide, rfl⟩ ⟨by decide, by decide⟩ (by decide) (Nat.le_of_ble_eq_true rfl) (by decide) rfl ?_
              intro h9 q2
              rw [q2]
              clear q2 h9
              refine x_iconst 111 (xd DX9_readOne rfl) rfl ?_
              refine x_ri (xd DX9_readOne rfl) rfl ?_
              have hkk : kix (g 2 p) = 10 ∨ kix (g 2 p) = 11 := by
                first
                  | (rw [kc94]; exact Or.inl rfl)
                  | (rw [kc100]; exact Or.inr rfl)
              have hwy : wdt (g 2) (g 1 2) p = 1 := by
                unfold wdt
                rw [if_neg (by omega), if_neg (by omega), if_neg (by omega)]
              have hvl : vlF (g 2) p = -4 := by
                unfold vlF
                rw [if_neg (by omega), if_neg (by omega)]
              exact ⟨fun q => by omega, fun _ _ => ⟨hwy.symm, by rw [hvl]⟩⟩
            · refine x_iload_n 98 (xd DX9_readOne rfl) rfl rfl ?_
              refine x_bipush 100 (xd DX9_readOne rfl) rfl rfl ?_
              refine x_icmp_ne 103 112 (xd DX9_readOne rfl) rfl (by omega) (by omega) rfl (fun kc100 => ?_) (fun kc100 => ?_)
              · refine x_bipush 114 (xd DX9_readOne rfl) rfl rfl ?_
                refine x_ri (xd DX9_readOne rfl) rfl ?_
                have hwn : wdt (g 2) (g 1 2) p = 0 := by
                  have hkc := kix_cs (g 2 p)
                  unfold wdt
                  first
                    | (have hnd : ¬ dgt (g 2) (g 1 2) (p + 1) := (figF_no _ _ _).mp kc46
                       unfold kSim at xqsk
                       rw [if_neg (by omega), if_neg (by omega), if_pos (by omega), pik_f hnd]
                       done)
                    | (have hnd : ¬ dgt (g 2) (g 1 2) (p + 1) := (figF_no _ _ _).mp kc67
                       unfold kTgt at xqtk
                       rw [if_neg (by omega), if_pos xqtk, pik_f (fun q => hnd q.1)]
                       done)
                    | (have hnd : ¬ dgt (g 2) (g 1 2) (p + 2) := (figF_no _ _ _).mp kc74
                       unfold kTgt at xqtk
                       rw [if_neg (by omega), if_pos xqtk, pik_f (fun q => hnd q.2)]
                       done)
                    | (rcases hkc with e | ⟨a, b, e⟩
                       · rw [if_pos (by omega)]
                       · exfalso
                         unfold kSim at xqns
                         unfold kTgt at xqnt
                         have h2 : kix (g 2 p) = 10 ∨ kix (g 2 p) = 11 := by omega
                         rcases h2 with y | y
                         · rw [y] at e; exact kc94 e.symm
                         · rw [y] at e; exact kc100 e.symm)
                exact ⟨fun _ => ⟨rfl, rfl⟩, fun _ q => by omega⟩
              · refine x_aload_n 104 (xd DX9_readOne rfl) rfl rfl ?_
                refine x_iload_n 105 (xd DX9_readOne rfl) rfl rfl ?_
                refine x_bipush 107 (xd DX9_readOne rfl) rfl rfl ?_
                refine x_Vv 110 (pX9_oneIs (g 2 p) (-4) (by omega)) FX9_oneIs VX9_oneIs CX9_63 (xd DX9_readOne rfl) rfl rfl rfl ⟨by decide, rfl⟩ ⟨by decide, by decide⟩ (by decide) (Nat.le_of_ble_eq_true rfl) (by decide) rfl ?_
                intro h9 q2
                rw [q2]
                clear q2 h9
                refine x_iconst 111 (xd DX9_readOne rfl) rfl ?_
                refine x_ri (xd DX9_readOne rfl) rfl ?_
                have hkk : kix (g 2 p) = 10 ∨ kix (g 2 p) = 11 := by
                  first
                    | (rw [kc94]; exact Or.inl rfl)
                    | (rw [kc100]; exact Or.inr rfl)
                have hwy : wdt (g 2) (g 1 2) p = 1 := by
                  unfold wdt
                  rw [if_neg (by omega), if_neg (by omega), if_neg (by omega)]
                have hvl : vlF (g 2) p = -4 := by
                  unfold vlF
                  rw [if_neg (by omega), if_neg (by omega)]
                exact ⟨fun q => by omega, fun _ _ => ⟨hwy.symm, by rw [hvl]⟩⟩
          · refine x_aload_n 78 (xd DX9_readOne rfl) rfl rfl ?_
            refine x_iload_n 79 (xd DX9_readOne rfl) rfl rfl ?_
            refine x_bipush 81 (xd DX9_readOne rfl) rfl rfl ?_
            refine x_iload_n 82 (xd DX9_readOne rfl) rfl rfl ?_
            refine x_imul 83 (xd DX9_readOne rfl) rfl ?_
            refine x_iload 85 (xd DX9_readOne rfl) rfl rfl ?_
            refine x_iadd 86 (xd DX9_readOne rfl) rfl ?_
            refine x_Vv 89 (pX9_oneIs (g 2 p) (10 * figF (g 2) (g 1 2) (p + 1) + figF (g 2) (g 1 2) (p + 2)) (by omega)) FX9_oneIs VX9_oneIs CX9_63 (xd DX9_readOne rfl) rfl rfl rfl ⟨by decide, rfl⟩ ⟨by decide, by decide⟩ (by decide) (Nat.le_of_ble_eq_true rfl) (by decide) rfl ?_
            intro h9 q2
            rw [q2]
            clear q2 h9
            refine x_iconst 90 (xd DX9_readOne rfl) rfl ?_
            refine x_ri (xd DX9_readOne rfl) rfl ?_
            have hd : dgt (g 2) (g 1 2) (p + 1) := Classical.byContradiction (fun q => kc67 ((figF_no _ _ _).mpr q))
            have hd2 : dgt (g 2) (g 1 2) (p + 2) := Classical.byContradiction (fun q => kc74 ((figF_no _ _ _).mpr q))
            have hwy : wdt (g 2) (g 1 2) p = 3 := by
              unfold kTgt at xqtk
              unfold wdt
              rw [if_neg (by omega), if_pos xqtk, pik_t ⟨hd, hd2⟩]
            have hvl : vlF (g 2) p = 10 * figF (g 2) (g 1 2) (p + 1) + figF (g 2) (g 1 2) (p + 2) := by
              unfold kTgt at xqtk
              unfold vlF figF
              rw [if_neg (by omega), if_pos xqtk, pik_t hd, pik_t hd2]
              omega
            exact ⟨fun q => by omega, fun _ _ => ⟨hwy.symm, by rw [hvl]⟩⟩
    · have xqsk := (kix_sim _).mp kc40
      refine x_iload_n 44 (xd DX9_readOne rfl) rfl rfl ?_
      refine x_bipush 46 (xd DX9_readOne rfl) rfl rfl ?_
      refine x_icmp_eq 49 57 (xd DX9_readOne rfl) rfl (by first | decide | (have := figF_rg (g 2) (g 1 2) (p + 1); omega)) (by first | decide | (have := figF_rg (g 2) (g 1 2) (p + 1); omega)) rfl (fun kc46 => ?_) (fun kc46 => ?_)
      · refine x_iload_n 58 (xd DX9_readOne rfl) rfl rfl ?_
        refine x_Si 61 (pX9_hasPlace (g 2 p) (by omega)) FX9_hasPlace VX9_hasPlace CX9_90 (xd DX9_readOne rfl) rfl rfl (by decide) (Nat.le_of_ble_eq_true rfl) (by decide) rfl ?_
        rintro z9 h9 ⟨q1, q2⟩
        rw [q1, q2]
        clear q1 q2 z9 h9
        refine x_ifp_eq 64 91 (xd DX9_readOne rfl) rfl rfl (fun kc61 => ?_) (fun kc61 => ?_)
        · have xqnt : ¬ kTgt (kix (g 2 p)) := fun q => kc61 ((kix_pl _).mpr q)
          refine x_iload_n 92 (xd DX9_readOne rfl) rfl rfl ?_
          refine x_bipush 94 (xd DX9_readOne rfl) rfl rfl ?_
          refine x_icmp_eq 97 103 (xd DX9_readOne rfl) rfl (by omega) (by omega) rfl (fun kc94 => ?_) (fun kc94 => ?_)
          · refine x_aload_n 104 (xd DX9_readOne rfl) rfl rfl ?_
            refine x_iload_n 105 (xd DX9_readOne rfl) rfl rfl ?_
            refine x_bipush 107 (xd DX9_readOne rfl) rfl rfl ?_
            refine x_Vv 110 (pX9_oneIs (g 2 p) (-4) (by omega)) FX9_oneIs VX9_oneIs CX9_63 (xd DX9_readOne rfl) rfl rfl rfl ⟨by decide, rfl⟩ ⟨by decide, by decide⟩ (by decide) (Nat.le_of_ble_eq_true rfl) (by decide) rfl ?_
            intro h9 q2
            rw [q2]
            clear q2 h9
            refine x_iconst 111 (xd DX9_readOne rfl) rfl ?_
            refine x_ri (xd DX9_readOne rfl) rfl ?_
            have hkk : kix (g 2 p) = 10 ∨ kix (g 2 p) = 11 := by
              first
                | (rw [kc94]; exact Or.inl rfl)
                | (rw [kc100]; exact Or.inr rfl)
            have hwy : wdt (g 2) (g 1 2) p = 1 := by
              unfold wdt
              rw [if_neg (by omega), if_neg (by omega), if_neg (by omega)]
            have hvl : vlF (g 2) p = -4 := by
              unfold vlF
              rw [if_neg (by omega), if_neg (by omega)]
            exact ⟨fun q => by omega, fun _ _ => ⟨hwy.symm, by rw [hvl]⟩⟩
          · refine x_iload_n 98 (xd DX9_readOne rfl) rfl rfl ?_
            refine x_bipush 100 (xd DX9_readOne rfl) rfl rfl ?_
            refine x_icmp_ne 103 112 (xd DX9_readOne rfl) rfl (by omega) (by omega) rfl (fun kc100 => ?_) (fun kc100 => ?_)
            · refine x_bipush 114 (xd DX9_readOne rfl) rfl rfl ?_
              refine x_ri (xd DX9_readOne rfl) rfl ?_
              have hwn : wdt (g 2) (g 1 2) p = 0 := by
                have hkc := kix_cs (g 2 p)
                unfold wdt
                first
                  | (have hnd : ¬ dgt (g 2) (g 1 2) (p + 1) := (figF_no _ _ _).mp kc46
                     unfold kSim at xqsk
                     rw [if_neg (by omega), if_neg (by omega), if_pos (by omega), pik_f hnd]
                     done)
                  | (have hnd : ¬ dgt (g 2) (g 1 2) (p + 1) := (figF_no _ _ _).mp kc67
                     unfold kTgt at xqtk
                     rw [if_neg (by omega), if_pos xqtk, pik_f (fun q => hnd q.1)]
                     done)
                  | (have hnd : ¬ dgt (g 2) (g 1 2) (p + 2) := (figF_no _ _ _).mp kc74
                     unfold kTgt at xqtk
                     rw [if_neg (by omega), if_pos xqtk, pik_f (fun q => hnd q.2)]
                     done)
                  | (rcases hkc with e | ⟨a, b, e⟩
                     · rw [if_pos (by omega)]
                     · exfalso
                       unfold kSim at xqns
                       unfold kTgt at xqnt
                       have h2 : kix (g 2 p) = 10 ∨ kix (g 2 p) = 11 := by omega
                       rcases h2 with y | y
                       · rw [y] at e; exact kc94 e.symm
                       · rw [y] at e; exact kc100 e.symm)
              exact ⟨fun _ => ⟨rfl, rfl⟩, fun _ q => by omega⟩
            · refine x_aload_n 104 (xd DX9_readOne rfl) rfl rfl ?_
              refine x_iload_n 105 (xd DX9_readOne rfl) rfl rfl ?_
              refine x_bipush 107 (xd DX9_readOne rfl) rfl rfl ?_
              refine x_Vv 110 (pX9_oneIs (g 2 p) (-4) (by omega)) FX9_oneIs VX9_oneIs CX9_63 (xd DX9_readOne rfl) rfl rfl rfl ⟨by decide, rfl⟩ ⟨by decide, by decide⟩ (by decide) (Nat.le_of_ble_eq_true rfl) (by decide) rfl ?_
              intro h9 q2
              rw [q2]
              clear q2 h9
              refine x_iconst 111 (xd DX9_readOne rfl) rfl ?_
              refine x_ri (xd DX9_readOne rfl) rfl ?_
              have hkk : kix (g 2 p) = 10 ∨ kix (g 2 p) = 11 := by
                first
                  | (rw [kc94]; exact Or.inl rfl)
                  | (rw [kc100]; exact Or.inr rfl)
              have hwy : wdt (g 2) (g 1 2) p = 1 := by
                unfold wdt
                rw [if_neg (by omega), if_neg (by omega), if_neg (by omega)]
              have hvl : vlF (g 2) p = -4 := by
                unfold vlF
                rw [if_neg (by omega), if_neg (by omega)]
              exact ⟨fun q => by omega, fun _ _ => ⟨hwy.symm, by rw [hvl]⟩⟩
        · have xqtk := (kix_pl _).mp kc61
          refine x_iload_n 65 (xd DX9_readOne rfl) rfl rfl ?_
          refine x_bipush 67 (xd DX9_readOne rfl) rfl rfl ?_
          refine x_icmp_eq 70 91 (xd DX9_readOne rfl) rfl (by first | decide | (have := figF_rg (g 2) (g 1 2) (p + 1); omega)) (by first | decide | (have := figF_rg (g 2) (g 1 2) (p + 1); omega)) rfl (fun kc67 => ?_) (fun kc67 => ?_)
          · refine x_iload_n 92 (xd DX9_readOne rfl) rfl rfl ?_
            refine x_bipush 94 (xd DX9_readOne rfl) rfl rfl ?_
            refine x_icmp_eq 97 103 (xd DX9_readOne rfl) rfl (by omega) (by omega) rfl (fun kc94 => ?_) (fun kc94 => ?_)
            · refine x_aload_n 104 (xd DX9_readOne rfl) rfl rfl ?_
              refine x_iload_n 105 (xd DX9_readOne rfl) rfl rfl ?_
              refine x_bipush 107 (xd DX9_readOne rfl) rfl rfl ?_
              refine x_Vv 110 (pX9_oneIs (g 2 p) (-4) (by omega)) FX9_oneIs VX9_oneIs CX9_63 (xd DX9_readOne rfl) rfl rfl rfl ⟨by decide, rfl⟩ ⟨by decide, by decide⟩ (by decide) (Nat.le_of_ble_eq_true rfl) (by decide) rfl ?_
              intro h9 q2
              rw [q2]
              clear q2 h9
              refine x_iconst 111 (xd DX9_readOne rfl) rfl ?_
              refine x_ri (xd DX9_readOne rfl) rfl ?_
              have hkk : kix (g 2 p) = 10 ∨ kix (g 2 p) = 11 := by
                first
                  | (rw [kc94]; exact Or.inl rfl)
                  | (rw [kc100]; exact Or.inr rfl)
              have hwy : wdt (g 2) (g 1 2) p = 1 := by
                unfold wdt
                rw [if_neg (by omega), if_neg (by omega), if_neg (by omega)]
              have hvl : vlF (g 2) p = -4 := by
                unfold vlF
                rw [if_neg (by omega), if_neg (by omega)]
              exact ⟨fun q => by omega, fun _ _ => ⟨hwy.symm, by rw [hvl]⟩⟩
            · refine x_iload_n 98 (xd DX9_readOne rfl) rfl rfl ?_
              refine x_bipush 100 (xd DX9_readOne rfl) rfl rfl ?_
              refine x_icmp_ne 103 112 (xd DX9_readOne rfl) rfl (by omega) (by omega) rfl (fun kc100 => ?_) (fun kc100 => ?_)
              · refine x_bipush 114 (xd DX9_readOne rfl) rfl rfl ?_
                refine x_ri (xd DX9_readOne rfl) rfl ?_
                have hwn : wdt (g 2) (g 1 2) p = 0 := by
                  have hkc := kix_cs (g 2 p)
                  unfold wdt
                  first
                    | (have hnd : ¬ dgt (g 2) (g 1 2) (p + 1) := (figF_no _ _ _).mp kc46
                       unfold kSim at xqsk
                       rw [if_neg (by omega), if_neg (by omega), if_pos (by omega), pik_f hnd]
                       done)
                    | (have hnd : ¬ dgt (g 2) (g 1 2) (p + 1) := (figF_no _ _ _).mp kc67
                       unfold kTgt at xqtk
                       rw [if_neg (by omega), if_pos xqtk, pik_f (fun q => hnd q.1)]
                       done)
                    | (have hnd : ¬ dgt (g 2) (g 1 2) (p + 2) := (figF_no _ _ _).mp kc74
                       unfold kTgt at xqtk
                       rw [if_neg (by omega), if_pos xqtk, pik_f (fun q => hnd q.2)]
                       done)
                    | (rcases hkc with e | ⟨a, b, e⟩
                       · rw [if_pos (by omega)]
                       · exfalso
                         unfold kSim at xqns
                         unfold kTgt at xqnt
                         have h2 : kix (g 2 p) = 10 ∨ kix (g 2 p) = 11 := by omega
                         rcases h2 with y | y
                         · rw [y] at e; exact kc94 e.symm
                         · rw [y] at e; exact kc100 e.symm)
                exact ⟨fun _ => ⟨rfl, rfl⟩, fun _ q => by omega⟩
              · refine x_aload_n 104 (xd DX9_readOne rfl) rfl rfl ?_
                refine x_iload_n 105 (xd DX9_readOne rfl) rfl rfl ?_
                refine x_bipush 107 (xd DX9_readOne rfl) rfl rfl ?_
                refine x_Vv 110 (pX9_oneIs (g 2 p) (-4) (by omega)) FX9_oneIs VX9_oneIs CX9_63 (xd DX9_readOne rfl) rfl rfl rfl ⟨by decide, rfl⟩ ⟨by decide, by decide⟩ (by decide) (Nat.le_of_ble_eq_true rfl) (by decide) rfl ?_
                intro h9 q2
                rw [q2]
                clear q2 h9
                refine x_iconst 111 (xd DX9_readOne rfl) rfl ?_
                refine x_ri (xd DX9_readOne rfl) rfl ?_
                have hkk : kix (g 2 p) = 10 ∨ kix (g 2 p) = 11 := by
                  first
                    | (rw [kc94]; exact Or.inl rfl)
                    | (rw [kc100]; exact Or.inr rfl)
                have hwy : wdt (g 2) (g 1 2) p = 1 := by
                  unfold wdt
                  rw [if_neg (by omega), if_neg (by omega), if_neg (by omega)]
                have hvl : vlF (g 2) p = -4 := by
                  unfold vlF
                  rw [if_neg (by omega), if_neg (by omega)]
                exact ⟨fun q => by omega, fun _ _ => ⟨hwy.symm, by rw [hvl]⟩⟩
          · refine x_iload 72 (xd DX9_readOne rfl) rfl rfl ?_
            refine x_bipush 74 (xd DX9_readOne rfl) rfl rfl ?_
            refine x_icmp_eq 77 91 (xd DX9_readOne rfl) rfl (by first | decide | (have := figF_rg (g 2) (g 1 2) (p + 2); omega)) (by first | decide | (have := figF_rg (g 2) (g 1 2) (p + 2); omega)) rfl (fun kc74 => ?_) (fun kc74 => ?_)
            · refine x_iload_n 92 (xd DX9_readOne rfl) rfl rfl ?_
              refine x_bipush 94 (xd DX9_readOne rfl) rfl rfl ?_
              refine x_icmp_eq 97 103 (xd DX9_readOne rfl) rfl (by omega) (by omega) rfl (fun kc94 => ?_) (fun kc94 => ?_)
              · refine x_aload_n 104 (xd DX9_readOne rfl) rfl rfl ?_
                refine x_iload_n 105 (xd DX9_readOne rfl) rfl rfl ?_
                refine x_bipush 107 (xd DX9_readOne rfl) rfl rfl ?_
                refine x_Vv 110 (pX9_oneIs (g 2 p) (-4) (by omega)) FX9_oneIs VX9_oneIs CX9_63 (xd DX9_readOne rfl) rfl rfl rfl ⟨by decide, rfl⟩ ⟨by decide, by decide⟩ (by decide) (Nat.le_of_ble_eq_true rfl) (by decide) rfl ?_
                intro h9 q2
                rw [q2]
                clear q2 h9
                refine x_iconst 111 (xd DX9_readOne rfl) rfl ?_
                refine x_ri (xd DX9_readOne rfl) rfl ?_
                have hkk : kix (g 2 p) = 10 ∨ kix (g 2 p) = 11 := by
                  first
                    | (rw [kc94]; exact Or.inl rfl)
                    | (rw [kc100]; exact Or.inr rfl)
                have hwy : wdt (g 2) (g 1 2) p = 1 := by
                  unfold wdt
                  rw [if_neg (by omega), if_neg (by omega), if_neg (by omega)]
                have hvl : vlF (g 2) p = -4 := by
                  unfold vlF
                  rw [if_neg (by omega), if_neg (by omega)]
                exact ⟨fun q => by omega, fun _ _ => ⟨hwy.symm, by rw [hvl]⟩⟩
              · refine x_iload_n 98 (xd DX9_readOne rfl) rfl rfl ?_
                refine x_bipush 100 (xd DX9_readOne rfl) rfl rfl ?_
                refine x_icmp_ne 103 112 (xd DX9_readOne rfl) rfl (by omega) (by omega) rfl (fun kc100 => ?_) (fun kc100 => ?_)
                · refine x_bipush 114 (xd DX9_readOne rfl) rfl rfl ?_
                  refine x_ri (xd DX9_readOne rfl) rfl ?_
                  have hwn : wdt (g 2) (g 1 2) p = 0 := by
                    have hkc := kix_cs (g 2 p)
                    unfold wdt
                    first
                      | (have hnd : ¬ dgt (g 2) (g 1 2) (p + 1) := (figF_no _ _ _).mp kc46
                         unfold kSim at xqsk
                         rw [if_neg (by omega), if_neg (by omega), if_pos (by omega), pik_f hnd]
                         done)
                      | (have hnd : ¬ dgt (g 2) (g 1 2) (p + 1) := (figF_no _ _ _).mp kc67
                         unfold kTgt at xqtk
                         rw [if_neg (by omega), if_pos xqtk, pik_f (fun q => hnd q.1)]
                         done)
                      | (have hnd : ¬ dgt (g 2) (g 1 2) (p + 2) := (figF_no _ _ _).mp kc74
                         unfold kTgt at xqtk
                         rw [if_neg (by omega), if_pos xqtk, pik_f (fun q => hnd q.2)]
                         done)
                      | (rcases hkc with e | ⟨a, b, e⟩
                         · rw [if_pos (by omega)]
                         · exfalso
                           unfold kSim at xqns
                           unfold kTgt at xqnt
                           have h2 : kix (g 2 p) = 10 ∨ kix (g 2 p) = 11 := by omega
                           rcases h2 with y | y
                           · rw [y] at e; exact kc94 e.symm
                           · rw [y] at e; exact kc100 e.symm)
                  exact ⟨fun _ => ⟨rfl, rfl⟩, fun _ q => by omega⟩
                · refine x_aload_n 104 (xd DX9_readOne rfl) rfl rfl ?_
                  refine x_iload_n 105 (xd DX9_readOne rfl) rfl rfl ?_
                  refine x_bipush 107 (xd DX9_readOne rfl) rfl rfl ?_
                  refine x_Vv 110 (pX9_oneIs (g 2 p) (-4) (by omega)) FX9_oneIs VX9_oneIs CX9_63 (xd DX9_readOne rfl) rfl rfl rfl ⟨by decide, rfl⟩ ⟨by decide, by decide⟩ (by decide) (Nat.le_of_ble_eq_true rfl) (by decide) rfl ?_
                  intro h9 q2
                  rw [q2]
                  clear q2 h9
                  refine x_iconst 111 (xd DX9_readOne rfl) rfl ?_
                  refine x_ri (xd DX9_readOne rfl) rfl ?_
                  have hkk : kix (g 2 p) = 10 ∨ kix (g 2 p) = 11 := by
                    first
                      | (rw [kc94]; exact Or.inl rfl)
                      | (rw [kc100]; exact Or.inr rfl)
                  have hwy : wdt (g 2) (g 1 2) p = 1 := by
                    unfold wdt
                    rw [if_neg (by omega), if_neg (by omega), if_neg (by omega)]
                  have hvl : vlF (g 2) p = -4 := by
                    unfold vlF
                    rw [if_neg (by omega), if_neg (by omega)]
                  exact ⟨fun q => by omega, fun _ _ => ⟨hwy.symm, by rw [hvl]⟩⟩
            · refine x_aload_n 78 (xd DX9_readOne rfl) rfl rfl ?_
              refine x_iload_n 79 (xd DX9_readOne rfl) rfl rfl ?_
              refine x_bipush 81 (xd DX9_readOne rfl) rfl rfl ?_
              refine x_iload_n 82 (xd DX9_readOne rfl) rfl rfl ?_
              refine x_imul 83 (xd DX9_readOne rfl) rfl ?_
              refine x_iload 85 (xd DX9_readOne rfl) rfl rfl ?_
              refine x_iadd 86 (xd DX9_readOne rfl) rfl ?_
              refine x_Vv 89 (pX9_oneIs (g 2 p) (10 * figF (g 2) (g 1 2) (p + 1) + figF (g 2) (g 1 2) (p + 2)) (by omega)) FX9_oneIs VX9_oneIs CX9_63 (xd DX9_readOne rfl) rfl rfl rfl ⟨by decide, rfl⟩ ⟨by decide, by decide⟩ (by decide) (Nat.le_of_ble_eq_true rfl) (by decide) rfl ?_
              intro h9 q2
              rw [q2]
              clear q2 h9
              refine x_iconst 90 (xd DX9_readOne rfl) rfl ?_
              refine x_ri (xd DX9_readOne rfl) rfl ?_
              have hd : dgt (g 2) (g 1 2) (p + 1) := Classical.byContradiction (fun q => kc67 ((figF_no _ _ _).mpr q))
              have hd2 : dgt (g 2) (g 1 2) (p + 2) := Classical.byContradiction (fun q => kc74 ((figF_no _ _ _).mpr q))
              have hwy : wdt (g 2) (g 1 2) p = 3 := by
                unfold kTgt at xqtk
                unfold wdt
                rw [if_neg (by omega), if_pos xqtk, pik_t ⟨hd, hd2⟩]
              have hvl : vlF (g 2) p = 10 * figF (g 2) (g 1 2) (p + 1) + figF (g 2) (g 1 2) (p + 2) := by
                unfold kTgt at xqtk
                unfold vlF figF
                rw [if_neg (by omega), if_pos xqtk, pik_t hd, pik_t hd2]
                omega
              exact ⟨fun q => by omega, fun _ _ => ⟨hwy.symm, by rw [hvl]⟩⟩
      · refine x_aload_n 50 (xd DX9_readOne rfl) rfl rfl ?_
        refine x_iload_n 51 (xd DX9_readOne rfl) rfl rfl ?_
        refine x_iload_n 52 (xd DX9_readOne rfl) rfl rfl ?_
        refine x_Vv 55 (pX9_oneIs (g 2 p) (figF (g 2) (g 1 2) (p + 1)) (by omega)) FX9_oneIs VX9_oneIs CX9_63 (xd DX9_readOne rfl) rfl rfl rfl ⟨by decide, rfl⟩ ⟨by decide, by decide⟩ (by decide) (Nat.le_of_ble_eq_true rfl) (by decide) rfl ?_
        intro h9 q2
        rw [q2]
        clear q2 h9
        refine x_iconst 56 (xd DX9_readOne rfl) rfl ?_
        refine x_ri (xd DX9_readOne rfl) rfl ?_
        have hd : dgt (g 2) (g 1 2) (p + 1) := Classical.byContradiction (fun q => kc46 ((figF_no _ _ _).mpr q))
        have hwy : wdt (g 2) (g 1 2) p = 2 := by
          unfold kSim at xqsk
          unfold wdt
          rw [if_neg (by omega), if_neg (by omega), if_pos (by omega), pik_t hd]
        have hvl : vlF (g 2) p = figF (g 2) (g 1 2) (p + 1) := by
          unfold kSim at xqsk
          unfold vlF figF
          rw [if_pos xqsk, pik_t hd]
        exact ⟨fun q => by omega, fun _ _ => ⟨hwy.symm, by rw [hvl]⟩⟩
  · refine x_bipush 35 (xd DX9_readOne rfl) rfl rfl ?_
    refine x_ri (xd DX9_readOne rfl) rfl ?_
    exact ⟨fun _ => ⟨rfl, rfl⟩, fun q => by omega⟩

