/-! SqueezedCode: its constructor -/
section XSTR0
variable {K : XK} {M : XM} {R : XR} {Q : Option XV → Nat → XH → Prop} {u : Nat × Nat × Nat} {pc : Nat} {L : List (Nat × XV)} {st st0 : List XV} {h : XH} {M' : XM} {as : List XV} {a d' : Nat}
theorem x_Vs0 (p' : Nat) {i0 i : Nat} {P : Int → XH → Prop} (hi0 : i0 < 2) (hM : MI K M' d' u.1 (vr (1000000 + i0) :: as) h P) (hF : xMF M' a) (hV : xMV M') (hl : Cond.methodLink M.2.1.cls i M'.2.1 ∈ xTb) (hd : decode M.1 pc = .ok (.invokevirtual i, 3)) (hst : as.reverse ++ vr (1000000 + i0) :: st = st0) (hlen : as.length = a) (hcl : M'.2.1.cls = "java/lang/String") (hR : d' + 1 ≤ R.2.1) (hw : xcs st ≤ 8) (hlo : M'.2.2.2.2 ≤ u.1) (hx : xXS u.1 h) (huu : u.2.1 ≤ R.2.2.1 ∧ u.2.2 ≤ R.2.2.2)
    (hp : pc + 3 = p') (kk : ∀ (z : Int) (h' : XH), P z h' → WX K M R Q u p' L (vi z :: st) h') : WX K M R Q u pc L st0 h := by
  subst hp
  subst hst
  intro hmd p e s m args below meth c E H locs ls hH hP hS hlv
  have hts := E.2.2.2.2.2.2.2.1
  have hX := E.2.2.2.2.2.2.2.2.1
  have hcf : CallFix p m c M.1 M.2.2.1 s args xTb M.2.1.cls := ⟨E.1, E.2.1, E.2.2.1, E.2.2.2.2.2.2.1, hts⟩
  have hmo : xMode R M u h (true, d', 0, 0) M' := ⟨fun _ => rfl, fun _ => Or.inr ⟨hlo, hx⟩⟩
  have hpre := fun (U : State) (hU : U.heap = H) (hW : s.WarmedH U.vm) => x_pre (as := vr (1000000 + i0) :: as) (R' := (true, d', 0, 0)) (M' := M') E hH hP hS hmd hmo U hU hW
  have hrecv : ∃ cell : Cell, H[K.2.2.2.2.1 i0]? = some cell ∧ cell.vm.isStatics = false ∧ s.vm.findClass M'.2.1.cls = some cell.cls := by
    rw [hcl]
    exact vk_recv hX.2.2.2.2.1 hi0 hS
  have hst1 : (as.reverse ++ vr (1000000 + i0) :: st).map (xv K) = (as.map (xv K)).reverse ++ .ref (K.2.2.2.2.1 i0) :: st.map (xv K) := by
    rw [List.map_append, List.map_reverse, List.map_cons]
    show _ ++ Value.ref (xad K (1000000 + i0)) :: _ = _
    rw [xad_s]
  have e0 : (vr (1000000 + i0) :: as).map (xv K) = Value.ref (K.2.2.2.2.1 i0) :: as.map (xv K) := by
    show Value.ref (xad K (1000000 + i0)) :: _ = _
    rw [xad_s]
  rw [e0] at hpre
  have hw2 : 2 * (F0 m pc ls ((as.reverse ++ vr (1000000 + i0) :: st).map (xv K))).monitorRoom + ((st.map (xv K)).map fun v => v.category).sum ≤ 8 := by
    rw [xcs_eq]
    exact (by show 2 * 0 + _ ≤ 8; omega)
  have hRm : xRoom R u (true, d', 0, 0) := ⟨hR, huu.1, huu.2⟩
  exact x_run (R := R) (u := u) E hH hS hlv hmd hmo.1 (va_runV (C := M'.2.1.cls) (b := K.2.2.2.2.1 i0) (As := as.map (xv K)) hcf hM ⟨x_B hts hF (xRoom_of (u := u) hRm) hl, hts _ hV.1, hts _ hV.2⟩ ⟨xPc_blind, hrecv, hpre⟩ rfl (by rw [List.length_map]; exact hlen) hlv.1 hst1 hw2 hd hRm.2) (fun v n' h' hq => by
    obtain ⟨q1, z, q2, hp⟩ := hq
    have q1 : n' = u.1 := q1
    subst q1; subst q2
    exact kk z h' hp)
end XSTR0
/-- the first program: where its instructions stand, their kinds and their numbers -/
def stD (k : Nat) : Int := ([0, 2, 4, 6, 8, 10, 12, 14, 16, 18, 20, 22, 24, 27, 28, 30, 32, 34, 36, 38, 40, 42, 44, 47, 49, 51, 54, 55] : List Int).getD k 0
def pl5 (k : Nat) : Int := ([0, 3, 0, 1, 3, 6, 0, 3, 0, 1, 3, 6, 9, 10, 0, 0, 3, 0, 1, 3, 6, 4, 8, 2, 3, 7, 11] : List Int).getD k 0
def pl6 (k : Nat) : Int := ([5, 0, 3, 2, 1, 0, 5, 0, 7, 2, 1, 1, 14, -4, 1, 5, 0, 9, 2, 1, 2, 0, 26, 1, 0, 16, -4] : List Int).getD k 0
theorem txD1 : ∀ k : Nat, k < 27 → (0 ≤ stD k ∧ stD k < 55) ∧ kix (sB 0 (stD k)) = pl5 k ∧ (0 ≤ pl5 k ∧ pl5 k ≤ 11) := by decide +kernel
theorem txD2 : ∀ k : Nat, k < 27 → (pl5 k ≤ 6 → stD k + 1 < 55 ∧ 48 ≤ sB 0 (stD k + 1) ∧ sB 0 (stD k + 1) ≤ 57 ∧ pl6 k = sB 0 (stD k + 1) - 48 ∧ stD (k + 1) = stD k + 2) := by decide +kernel
theorem txD3a : ∀ k : Nat, k < 27 → (6 < pl5 k ∧ pl5 k ≤ 9) → stD k + 2 < 55 ∧ (48 ≤ sB 0 (stD k + 1) ∧ sB 0 (stD k + 1) ≤ 57) ∧ (48 ≤ sB 0 (stD k + 2) ∧ sB 0 (stD k + 2) ≤ 57) := by decide +kernel
theorem txD3b : ∀ k : Nat, k < 27 → (6 < pl5 k ∧ pl5 k ≤ 9) → pl6 k = 10 * (sB 0 (stD k + 1) - 48) + sB 0 (stD k + 2) - 48 ∧ stD (k + 1) = stD k + 3 ∧ pl6 k < 27 := by decide +kernel
theorem txD3 (k : Nat) (hk : k < 27) (h1 : 6 < pl5 k) (h2 : pl5 k ≤ 9) : stD k + 2 < 55 ∧ (48 ≤ sB 0 (stD k + 1) ∧ sB 0 (stD k + 1) ≤ 57) ∧ (48 ≤ sB 0 (stD k + 2) ∧ sB 0 (stD k + 2) ≤ 57) ∧ pl6 k = 10 * (sB 0 (stD k + 1) - 48) + sB 0 (stD k + 2) - 48 ∧ stD (k + 1) = stD k + 3 ∧ pl6 k < 27 := by
  obtain ⟨a, b, d⟩ := txD3a k hk ⟨h1, h2⟩
  exact ⟨a, b, d, txD3b k hk ⟨h1, h2⟩⟩
theorem txD4 : ∀ k : Nat, k < 27 → (9 < pl5 k → pl6 k = -4 ∧ stD (k + 1) = stD k + 1) := by decide +kernel
theorem vlD {f : Int → Int} (hf : ∀ j : Int, 0 ≤ j → j < 55 → f j = sB 0 j) {k : Nat} (hk : k < 27) : kix (f (stD k)) = pl5 k ∧ stD k + wdt f 55 (stD k) = stD (k + 1) ∧ 0 < wdt f 55 (stD k) ∧ vlF f (stD k) = pl6 k := by
  obtain ⟨⟨a1, a2⟩, a3, a4⟩ := txD1 k hk
  have a5 := txD2 k hk
  have a6 := txD3 k hk
  have a7 := txD4 k hk
  have e1 : kix (f (stD k)) = pl5 k := by rw [hf _ a1 a2]; exact a3
  refine ⟨e1, ?_⟩
  unfold wdt vlF
  rw [e1]
  by_cases q1 : pl5 k ≤ 6
  · obtain ⟨b1, b2, b3, b4, b5⟩ := a5 q1
    have e2 := hf (stD k + 1) (by omega) b1
    rw [if_neg (by omega), if_neg (by omega), if_pos q1, pik_t ⟨b1, by rw [e2]; exact b2, by rw [e2]; exact b3⟩, if_pos ⟨a4.1, q1⟩, e2]
    omega
  · by_cases q2 : pl5 k ≤ 9
    · obtain ⟨b1, b2, b3, b4, b5, b6⟩ := a6 (by omega) q2
      have e2 := hf (stD k + 1) (by omega) (by omega)
      have e3 := hf (stD k + 2) (by omega) b1
      rw [if_neg (by omega), if_pos (by omega), pik_t ⟨⟨by omega, by rw [e2]; exact b2⟩, ⟨b1, by rw [e3]; exact b3⟩⟩, if_neg (by omega), if_pos (by omega), e2, e3]
      omega
    · obtain ⟨b1, b2⟩ := a7 (by omega)
      rw [if_neg (by omega), if_neg (by omega), if_neg (by omega), if_neg (by omega), if_neg (by omega)]
      omega
theorem stN_D {f : Int → Int} (hf : ∀ j : Int, 0 ≤ j → j < 55 → f j = sB 0 j) : ∀ k : Nat, k ≤ 27 → stN f 55 k = stD k
  | 0, _ => rfl
  | k + 1, hk => by
    rw [stN_s, stN_D hf k (by omega)]
    exact (vlD hf (by omega)).2.1
theorem prs_D {f : Int → Int} (hf : ∀ j : Int, 0 ≤ j → j < 55 → f j = sB 0 j) : Prs f 55 27 55 ∧ PrE f 55 27 55 ∧ ∀ j : Nat, j < 27 → ¬ Lost f 55 27 j := by
  refine ⟨⟨(stN_D hf 27 (by omega)).symm, by omega, fun k hk => ?_⟩, Or.inl (Int.le_refl 55), fun j hj hl => ?_⟩
  · rw [stN_D hf k (by omega)]
    exact ⟨(txD1 k hk).1.2, (vlD hf hk).2.2.1⟩
  · obtain ⟨l1, l2⟩ := hl
    rw [stN_D hf j (by omega)] at l1 l2
    rw [(vlD hf hj).1] at l1
    rw [(vlD hf hj).2.2.2] at l2
    unfold kTgt at l1
    have := txD3 j hj l1.1 l1.2
    omega
theorem flt_D {f : Int → Int} (hf : ∀ j : Int, 0 ≤ j → j < 55 → f j = sB 0 j) : FltR f 55 27 (-4) := by
  obtain ⟨a, b, d⟩ := prs_D hf
  exact ⟨55, a, b, Or.inr ⟨Int.le_refl 55, Or.inr ⟨d, rfl⟩⟩⟩
/-- while the object of the class is made: its first k fields stand, and all cells below n -/
def St8 (k n : Nat) (x : XH) : Prop := Mk 1 n x ∧ ∀ j : Nat, j < k → x 0 j = ini 0 j
theorem St8.nx {k n n' : Nat} {x y : XH} (hS : St8 k n x) (hn : 1 ≤ n) (h1 : ∀ c, c < n → y c = rset x n (fun _ => 0) c) (h2 : Mk n n' y) (hk : ini 0 k = (n : Int) + 1) : St8 (k + 1) n' (hset y 0 k ((n : Int) + 1)) := by
  have hy : ∀ c, c < n → y c = x c := fun c hc => by rw [h1 c hc, rset_c (by omega)]
  refine ⟨?_, fun j hj => ?_⟩
  · refine Mk.keep (h := y) ?_ (fun c p q => hset_c (by omega))
    exact Mk.app (b := n) (hS.1.keep (fun c p q => hy c q)) h2
  · by_cases w : j = k
    · subst w
      rw [hset_s, hk]
    · rw [hset_i (by omega), hy 0 (by omega), hS.2 j (by omega)]
/-- what the class's constructor leaves -/
def Born8 (g : XH) : Prop := CI g ∧ TgI g ∧ TgE g ∧ g 4 3 = 27 ∧ (∀ k : Nat, k < 27 → g 5 k = pl5 k ∧ g 6 k = pl6 k) ∧ g 8 1 = 0 ∧ g 34 1 = 0 ∧ g 8 2 = 8 ∧ g 8 3 = 2 ∧ g 255 5 = 0 ∧ g 1 2 = 0 ∧ xXS 259 g
set_option maxRecDepth 100000 in
set_option maxHeartbeats 4000000 in
theorem pX8_init {K : XK} {h : XH} (hMN : XMN K) (h0 : h 0 = fun _ => 0) : MX K mX8_init (false, 8, 258, 2107) 1 [vr 0] h (fun v n' g => v = none ∧ n' = 259 ∧ Born8 g) := by
  refine xMeth FX8_init (Nat.le_of_ble_eq_true rfl) ?_
  refine x_aload_n 1 (xd DX8_init rfl) rfl rfl ?_
  refine x_obj 4 (xd DX8_init rfl) OX8 (by decide) (by decide) rfl ?_
  have hSt0 : St8 0 1 h := ⟨fun c p q => by omega, fun j q => by omega⟩
  refine x_aload_n 5 (xd DX8_init rfl) rfl rfl ?_
  refine x_newc 8 (ci := 7) (xd DX8_init rfl) rfl rfl clX7 rfl KX8_9 NX7 IX7 okX7 (by decide) (by decide) (by decide) rfl ?_
  refine x_dupr 9 (xd DX8_init rfl) rfl ?_
  refine x_ctor 12 (pX7_init rset_s) FX7_init VX7_init rfl CX8_11 (xd DX8_init rfl) rfl rfl (by decide) (by decide) (by decide) (by decide) (Nat.le_of_ble_eq_true rfl) rfl rfl ?_
  intro y0 ya0 yb0
  refine x_pr 15 LX8_12 (xd DX8_init rfl) rfl PX8_12 rfl rfl rfl rfl ⟨by decide, by decide⟩ (by decide) rfl ?_
  have hSt1 := hSt0.nx (by decide) ya0 yb0 rfl
  refine x_aload_n 16 (xd DX8_init rfl) rfl rfl ?_
  refine x_newc 19 (ci := 4) (xd DX8_init rfl) rfl rfl clX4 rfl KX8_16 NX4 IX4 okX4 (by decide) (by decide) (by decide) rfl ?_
  refine x_dupr 20 (xd DX8_init rfl) rfl ?_
  refine x_ctor 23 (pX4_init rset_s) FX4_init VX4_init rfl CX8_18 (xd DX8_init rfl) rfl rfl (by decide) (by decide) (by decide) (by decide) (Nat.le_of_ble_eq_true rfl) rfl rfl ?_
  intro y1 ya1 yb1
  refine x_pr 26 LX8_19 (xd DX8_init rfl) rfl PX8_19 rfl rfl rfl rfl ⟨by decide, by decide⟩ (by decide) rfl ?_
  have hSt2 := hSt1.nx (by decide) ya1 yb1 rfl
  refine x_aload_n 27 (xd DX8_init rfl) rfl rfl ?_
  refine x_newc 30 (ci := 6) (xd DX8_init rfl) rfl rfl clX6 rfl KX8_23 NX6 IX6 okX6 (by decide) (by decide) (by decide) rfl ?_
  refine x_dupr 31 (xd DX8_init rfl) rfl ?_
  refine x_ctor 34 (pX6_init 8 SetAt_8 rset_s) FX6_init VX6_init rfl CX8_25 (xd DX8_init rfl) rfl rfl (by decide) (by decide) (by decide) (by decide) (Nat.le_of_ble_eq_true rfl) rfl rfl ?_
  intro y2 ya2 yb2
  refine x_pr 37 LX8_26 (xd DX8_init rfl) rfl PX8_26 rfl rfl rfl rfl ⟨by decide, by decide⟩ (by decide) rfl ?_
  have hSt3 := hSt2.nx (by decide) ya2 yb2 rfl
  refine x_aload_n 38 (xd DX8_init rfl) rfl rfl ?_
  refine x_newc 41 (ci := 2) (xd DX8_init rfl) rfl rfl clX2 rfl KX8_30 NX2 IX2 okX2 (by decide) (by decide) (by decide) rfl ?_
  refine x_dupr 42 (xd DX8_init rfl) rfl ?_
  refine x_ctor 45 (pX2_init rset_s) FX2_init VX2_init rfl CX8_32 (xd DX8_init rfl) rfl rfl (by decide) (by decide) (by decide) (by decide) (Nat.le_of_ble_eq_true rfl) rfl rfl ?_
  intro y3 ya3 yb3
  refine x_pr 48 LX8_33 (xd DX8_init rfl) rfl PX8_33 rfl rfl rfl rfl ⟨by decide, by decide⟩ (by decide) rfl ?_
  have hSt4 := hSt3.nx (by decide) ya3 yb3 rfl
  refine x_aload_n 49 (xd DX8_init rfl) rfl rfl ?_
  refine x_newc 52 (ci := 3) (xd DX8_init rfl) rfl rfl clX3 rfl KX8_37 NX3 IX3 okX3 (by decide) (by decide) (by decide) rfl ?_
  refine x_dupr 53 (xd DX8_init rfl) rfl ?_
  refine x_aload_n 54 (xd DX8_init rfl) rfl rfl ?_
  refine x_gr0 57 4 LX8_19 (xd DX8_init rfl) rfl (by rw [rset_c (by decide)]; exact hSt4.2 1 (by decide)) ⟨by decide, by decide⟩ (by decide) rfl ?_
  refine x_aload_n 58 (xd DX8_init rfl) rfl rfl ?_
  refine x_gr0 61 8 LX8_26 (xd DX8_init rfl) rfl (by rw [rset_c (by decide)]; exact hSt4.2 2 (by decide)) ⟨by decide, by decide⟩ (by decide) rfl ?_
  refine x_ctor 64 (pX3_init hMN rset_s) FX3_init VX3_init rfl CX8_39 (xd DX8_init rfl) rfl rfl (by decide) (by decide) (by decide) (by decide) (Nat.le_of_ble_eq_true rfl) rfl rfl ?_
  intro y4 ya4 yb4
  refine x_pr 67 LX8_42 (xd DX8_init rfl) rfl PX8_42 rfl rfl rfl rfl ⟨by decide, by decide⟩ (by decide) rfl ?_
  have hSt5 := hSt4.nx (by decide) ya4 yb4 rfl
  refine x_aload_n 68 (xd DX8_init rfl) rfl rfl ?_
  refine x_newc 71 (ci := 0) (xd DX8_init rfl) rfl rfl clX0 rfl KX8_46 NX0 IX0 okX0 (by decide) (by decide) (by decide) rfl ?_
  refine x_dupr 72 (xd DX8_init rfl) rfl ?_
  refine x_aload_n 73 (xd DX8_init rfl) rfl rfl ?_
  refine x_gr0 76 192 LX8_42 (xd DX8_init rfl) rfl (by rw [rset_c (by decide)]; exact hSt5.2 4 (by decide)) ⟨by decide, by decide⟩ (by decide) rfl ?_
  refine x_aload_n 77 (xd DX8_init rfl) rfl rfl ?_
  refine x_gr0 80 8 LX8_26 (xd DX8_init rfl) rfl (by rw [rset_c (by decide)]; exact hSt5.2 2 (by decide)) ⟨by decide, by decide⟩ (by decide) rfl ?_
  refine x_ctor 83 (pX0_init rset_s) FX0_init VX0_init rfl CX8_48 (xd DX8_init rfl) rfl rfl (by decide) (by decide) (by decide) (by decide) (Nat.le_of_ble_eq_true rfl) rfl rfl ?_
  intro y5 ya5 yb5
  refine x_pr 86 LX8_51 (xd DX8_init rfl) rfl PX8_51 rfl rfl rfl rfl ⟨by decide, by decide⟩ (by decide) rfl ?_
  have hSt6 := hSt5.nx (by decide) ya5 yb5 rfl
  refine x_aload_n 87 (xd DX8_init rfl) rfl rfl ?_
  refine x_newc 90 (ci := 5) (xd DX8_init rfl) rfl rfl clX5 rfl KX8_55 NX5 IX5 okX5 (by decide) (by decide) (by decide) rfl ?_
  refine x_dupr 91 (xd DX8_init rfl) rfl ?_
  refine x_aload_n 92 (xd DX8_init rfl) rfl rfl ?_
  refine x_gr0 95 4 LX8_19 (xd DX8_init rfl) rfl (by rw [rset_c (by decide)]; exact hSt6.2 1 (by decide)) ⟨by decide, by decide⟩ (by decide) rfl ?_
  refine x_aload_n 96 (xd DX8_init rfl) rfl rfl ?_
  refine x_gr0 99 192 LX8_42 (xd DX8_init rfl) rfl (by rw [rset_c (by decide)]; exact hSt6.2 4 (by decide)) ⟨by decide, by decide⟩ (by decide) rfl ?_
  refine x_ctor 102 (pX5_init rset_s) FX5_init VX5_init rfl CX8_57 (xd DX8_init rfl) rfl rfl (by decide) (by decide) (by decide) (by decide) (Nat.le_of_ble_eq_true rfl) rfl rfl ?_
  intro y6 ya6 yb6
  refine x_pr 105 LX8_60 (xd DX8_init rfl) rfl PX8_60 rfl rfl rfl rfl ⟨by decide, by decide⟩ (by decide) rfl ?_
  have hSt7 := hSt6.nx (by decide) ya6 yb6 rfl
  generalize hx0 : hset y6 0 _ _ = x0 at hSt7
  have hMk : Mk 0 259 x0 := fun c p q j hj => by
    by_cases w : c = 0
    · subst w
      exact hSt7.2 j hj
    · exact hSt7.1 c (by omega) q j hj
  have hX0 : xXS 259 x0 := xXS_of (by decide) hMk
  clear hSt0 hSt1 hSt2 hSt3 hSt4 hSt5 hSt6
  have x012 : x0 1 2 = 0 := hMk 1 (by decide) (by decide) 2 (by decide)
  have loop : ∀ (f i : Nat) (x : XH) (zi : Int), zi = (i : Int) → i ≤ 55 → 55 - i < f → xXS 259 x → Off (fun c => c = 1 ∨ c = 2) x0 x → x 1 2 = (i : Int) → (∀ j : Int, 0 ≤ j → j < i → x 2 j = sB 0 j) → WX K mX8_init (false, 8, 258, 2107) (fun v n' g => v = none ∧ n' = 259 ∧ Born8 g) (259, 258, 2107) 107 [(0, vr 0), (1, vi zi)] [] x := by
    intro f
    induction f with
    | zero => intro i x zi a b d; exact absurd d (by omega)
    | succ f ih =>
      intro i x zi ez hi hf hX hO h12 htx
      subst ez
      have hT : TxI x := ⟨by omega, fun j p q => by
        rw [h12] at q
        rw [htx j p q]
        exact sB_rg (by decide) p (by show j < ((55 : Nat) : Int); omega)⟩
      refine x_iload_n 108 (xd DX8_init rfl) rfl rfl ?_
      refine x_ldcS 110 0 (fun U q => q.2.2.2.2.2.2.1) (xd DX8_init rfl) rfl ?_
      refine x_Vs0 113 (by decide) (pJ0_length 0 (by decide)) FJ0_length_8abf5 VJ0_length_8abf5 MX8_66 (xd DX8_init rfl) rfl rfl rfl (by decide) (Nat.le_of_ble_eq_true rfl) (by decide) hX ⟨by decide, by decide⟩ rfl ?_
      rintro z9 h9 ⟨q1, q2⟩
      rw [q1, q2]
      clear q1 q2 z9 h9
      refine x_icmp_ge 116 136 (xd DX8_init rfl) rfl (by omega) (by show xrg ((55 : Nat) : Int); omega) rfl (fun kc => ?_) (fun kc => ?_)
      · have e55 : i = 55 := by
          have kc : ((55 : Nat) : Int) ≤ (i : Int) := kc
          omega
        subst e55
        refine x_aload_n 137 (xd DX8_init rfl) rfl rfl ?_
        refine x_gr0 140 1 LX8_12 (xd DX8_init rfl) rfl (hX 0 0 (by decide) (by decide)) ⟨by decide, by decide⟩ (by decide) rfl ?_
        refine x_Vi0 143 (pX7_findFault hT) FX7_findFault VX7_findFault CX8_80 (xd DX8_init rfl) rfl rfl rfl ⟨by decide, rfl⟩ ⟨by decide, by decide⟩ (by decide) (Nat.le_of_ble_eq_true rfl) rfl (by decide) hX ⟨by decide, by decide⟩ rfl ?_
        rintro z1 x1 ⟨n1, hF⟩ hX1
        have hfl : FltR (x 2) (x 1 2) 27 (-4) := by rw [h12]; exact flt_D (fun j p q => htx j p q)
        obtain ⟨en, ez⟩ := hF.1.one hfl
        subst en; subst ez
        refine x_bipush 145 (xd DX8_init rfl) rfl rfl ?_
        refine x_icmp_ne 148 159 (xd DX8_init rfl) rfl (by decide) (by decide) rfl (fun kc2 => absurd rfl kc2) (fun kc2 => ?_)
        refine x_aload_n 149 (xd DX8_init rfl) rfl rfl ?_
        refine x_gr0 152 4 LX8_19 (xd DX8_init rfl) rfl (hX1 0 1 (by decide) (by decide)) ⟨by decide, by decide⟩ (by decide) rfl ?_
        refine x_aload_n 153 (xd DX8_init rfl) rfl rfl ?_
        refine x_gr0 156 1 LX8_12 (xd DX8_init rfl) rfl (hX1 0 0 (by decide) (by decide)) ⟨by decide, by decide⟩ (by decide) rfl ?_
        have t2 := hF.tx.1
        have t12 := hF.tx.2
        have hT1 : TxI x1 := by unfold TxI; rw [t2, t12]; exact hT
        obtain ⟨hPr, hPe, hNl⟩ := prs_D (f := x 2) (fun j p q => htx j p q)
        have hPr1 : Prs (x1 2) (x1 1 2) 27 55 := by rw [t2, t12, h12]; exact hPr
        have hNl1 : ∀ j : Nat, j < 27 → ¬ Lost (x1 2) (x1 1 2) 27 j := by rw [t2, t12, h12]; exact hNl
        refine x_Vv0 159 (pX4_take 27 55 hT1 hPr1 hF.2.2.2.2 hF.2.2.2.1) FX4_take VX4_take CX8_83 (xd DX8_init rfl) rfl rfl rfl ⟨by decide, rfl⟩ ⟨by decide, by decide⟩ (by decide) (Nat.le_of_ble_eq_true rfl) rfl (by decide) hX1 ⟨by decide, by decide⟩ rfl ?_
        intro x2 hK hX2
        obtain ⟨hP2, hTg2, hL2⟩ := laid_pw hT1 hPr1 hF.2.2.2.2 (by decide) hNl1 hK
        refine x_aload_n 160 (xd DX8_init rfl) rfl rfl ?_
        refine x_gr0 163 1 LX8_12 (xd DX8_init rfl) rfl (hX2 0 0 (by decide) (by decide)) ⟨by decide, by decide⟩ (by decide) rfl ?_
        refine x_Vi0 166 pX7_empty FX7_empty VX7_empty CX8_87 (xd DX8_init rfl) rfl rfl rfl ⟨by decide, rfl⟩ ⟨by decide, by decide⟩ (by decide) (Nat.le_of_ble_eq_true rfl) rfl (by decide) hX2 ⟨by decide, by decide⟩ rfl ?_
        rintro z3 x3 ⟨-, e3⟩ hX3
        refine x_popi 167 (xd DX8_init rfl) rfl ?_
        refine x_aload_n 168 (xd DX8_init rfl) rfl rfl ?_
        refine x_gr0 171 192 LX8_42 (xd DX8_init rfl) rfl (hX3 0 4 (by decide) (by decide)) ⟨by decide, by decide⟩ (by decide) rfl ?_
        have k3 : ∀ c, c ≠ 1 → x3 c = x2 c := fun c q => by rw [e3, hset_c q]
        have k2 : ∀ c, 8 ≤ c → x2 c = x0 c := fun c q => by rw [hK.1 c (by unfold S47; omega), hF.2.1 c (by unfold STx; omega), hO c (by omega)]
        have hP3 : PW x3 := by
          unfold PW
          rw [k3 4 (by decide), k3 5 (by decide), k3 6 (by decide), k3 7 (by decide)]
          exact hP2
        have r8 : ∀ j : Nat, j < 4 → x3 8 j = ini 8 j := fun j q => by rw [k3 8 (by decide), k2 8 (by decide)]; exact hMk 8 (by decide) (by decide) j q
        have hS3 : SW x3 8 := by
          have e1 : x3 8 1 = 0 := r8 1 (by decide)
          have e2 : x3 8 2 = 8 := r8 2 (by decide)
          have e4 : x3 8 3 = 2 := r8 3 (by decide)
          refine ⟨by omega, by omega, by omega, fun e he => ?_⟩
          rw [e1] at he
          exact absurd he (by omega)
        refine x_Vv0 174 (pX3_reckon hP3 hS3) FX3_reckon VX3_reckon CX8_90 (xd DX8_init rfl) rfl rfl rfl ⟨by decide, rfl⟩ ⟨by decide, by decide⟩ (by decide) (Nat.le_of_ble_eq_true rfl) rfl (by decide) hX3 ⟨by decide, by decide⟩ rfl ?_
        intro x4 ⟨hO4, hL4⟩ hX4
        refine x_return (xd DX8_init rfl) rfl rfl ⟨rfl, rfl, ?_⟩
        have k4 : ∀ c, (c < 192 ∨ 253 < c) → x4 c = x3 c := fun c q => hO4 c (by unfold SL; omega)
        have k42 : ∀ c, c ≠ 1 → (c < 192 ∨ 253 < c) → x4 c = x2 c := fun c p q => by rw [k4 c q, k3 c p]
        have e255 : x4 255 5 = 0 := by rw [k42 255 (by decide) (by omega), k2 255 (by decide)]; exact hMk 255 (by decide) (by decide) 5 (by decide)
        have e341 : x4 34 1 = 0 := by rw [k42 34 (by decide) (by omega), k2 34 (by decide)]; exact hMk 34 (by decide) (by decide) 1 (by decide)
        have e12 : x4 1 2 = 0 := by rw [k4 1 (by omega), e3, hset_s]
        have hld : LdP (x1 2) (x1 1 2) x4 27 := by
          unfold LdP
          rw [k42 4 (by decide) (by omega), k42 5 (by decide) (by omega), k42 6 (by decide) (by omega), k42 7 (by decide) (by omega)]
          exact hL2
        refine ⟨⟨?_, ?_, ?_, hL4, Or.inl e255, fun q => (by rw [e255] at q; exact absurd q (by decide)), (by rw [e12]; omega), fun j p q => (by rw [e12] at q; omega)⟩, ?_, hld.tg, hld.1, fun k hk => ?_, ?_, e341, ?_, ?_, e255, e12, hX4⟩
        · exact hP3.off hO4 (by unfold SL; omega) (by unfold SL; omega) (by unfold SL; omega) (by unfold SL; omega)
        · exact SW.same (fun z q => hO4 z (by unfold S26 at q; unfold SL; omega)) hS3
        · unfold HW
          rw [e341]
          exact ⟨by omega, fun k hk => absurd hk (by omega)⟩
        · exact hTg2.hp (k42 4 (by decide) (by omega)) (k42 5 (by decide) (by omega)) (k42 6 (by decide) (by omega)) (k42 7 (by decide) (by omega))
        · obtain ⟨l1, l2, -⟩ := hld.2 k hk
          rw [t2, t12, h12] at l1 l2
          have s1 := stN_D (f := x 2) (fun j p q => htx j p q) k (by omega)
          have s2 := vlD (f := x 2) (fun j p q => htx j p q) hk
          have s1 : stN (x 2) ((55 : Nat) : Int) k = stD k := s1
          rw [s1] at l1 l2
          exact ⟨l1.trans s2.1, l2.trans s2.2.2.2⟩
        · rw [k4 8 (by omega)]; exact r8 1 (by decide)
        · rw [k4 8 (by omega)]; exact r8 2 (by decide)
        · rw [k4 8 (by omega)]; exact r8 3 (by decide)
      · have kc : (i : Int) < ((55 : Nat) : Int) := kc
        refine x_aload_n 117 (xd DX8_init rfl) rfl rfl ?_
        refine x_gr0 120 1 LX8_12 (xd DX8_init rfl) rfl (hX 0 0 (by decide) (by decide)) ⟨by decide, by decide⟩ (by decide) rfl ?_
        refine x_ldcS 122 0 (fun U q => q.2.2.2.2.2.2.1) (xd DX8_init rfl) rfl ?_
        refine x_iload_n 123 (xd DX8_init rfl) rfl rfl ?_
        refine x_Vs0 126 (by decide) (pJ0_charAt 0 i (by decide) ⟨by omega, kc⟩) FJ0_charAt_5068e VJ0_charAt_5068e MX8_72 (xd DX8_init rfl) rfl rfl rfl (by decide) (Nat.le_of_ble_eq_true rfl) (by decide) hX ⟨by decide, by decide⟩ rfl ?_
        rintro z9 h9 ⟨q1, q2⟩
        rw [q1, q2]
        clear q1 q2 z9 h9
        have hb := sB_rg (i := 0) (j := (i : Int)) (by decide) (by omega) kc
        refine x_Vi0 129 (pX7_append (sB 0 i) ⟨by omega, by omega⟩ hT) FX7_append VX7_append CX8_76 (xd DX8_init rfl) rfl rfl rfl ⟨by decide, rfl⟩ ⟨by decide, by decide⟩ (by decide) (Nat.le_of_ble_eq_true rfl) rfl (by decide) hX ⟨by decide, by decide⟩ rfl ?_
        rintro z1 y1 ⟨-, hy⟩ hX1
        obtain ⟨-, ey⟩ := hy (by omega)
        refine x_popi 130 (xd DX8_init rfl) rfl ?_
        refine x_iinc (L' := [(0, _), (1, _)]) 133 (xd DX8_init rfl) rfl (by decide) rfl rfl rfl ?_
        refine x_goto 107 (xd DX8_init rfl) rfl ?_
        refine ih (i + 1) y1 _ (by push_cast; rfl) (by omega) (by omega) hX1 ?_ ?_ ?_
        · intro c hc
          rw [ey, hset_c (by omega), hset_c (by omega), hO c hc]
        · rw [ey, hset_s, h12]
          push_cast
          rfl
        · intro j p q
          rw [ey, hset_c (by decide), h12]
          by_cases w : j = (i : Int)
          · rw [w, hset_s]
          · rw [hset_i w]
            exact htx j p (by push_cast at q; omega)
  refine x_iconst 106 (xd DX8_init rfl) rfl ?_
  refine x_istore_n 107 (L' := [(0, _), (1, _)]) (xd DX8_init rfl) (by decide) rfl rfl rfl ?_
  exact loop 56 0 x0 0 rfl (by omega) (by omega) hX0 Off.rf x012 (fun j p q => by omega)
