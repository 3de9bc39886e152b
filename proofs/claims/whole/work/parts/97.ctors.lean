/-! constructors: calls of methods that need all that stands; layout -/
theorem MX.xs {K : XK} {M : XM} {r : Nat × Nat × Nat} {n : Nat} {as : List XV} {h : XH} {Q : Option XV → Nat → XH → Prop} (hM : MX K M (true, r) n as h Q) : MX K M (true, r) n as h (fun v n' h' => Q v n' h' ∧ xXS n' h') := by
  intro p e ha hc hk s m args below hf happ hP ht
  obtain ⟨k, o, h1, h2, h3, ⟨⟨v, n', h', a1, a2, a3, a4, a5⟩, a6⟩, L, hF, hL⟩ := hM p e ha hc hk s m args below hf happ hP ht
  exact ⟨k, o, h1, h2, h3, ⟨⟨v, n', h', a1, ⟨a2, a5 rfl⟩, a3, a4, a5⟩, a6⟩, L, hF, hL⟩
section XCAL0
variable {K : XK} {M : XM} {R : XR} {Q : Option XV → Nat → XH → Prop} {u : Nat × Nat × Nat} {pc : Nat} {L : List (Nat × XV)} {st st0 : List XV} {h : XH}
variable {M' : XM} {as : List XV} {a d' : Nat}
/-- a call of a method that needs all that stands, out of one that makes -/
theorem x_Vi0 (p' : Nat) {c0 ci N i : Nat} {P : Int → XH → Prop} (hM : MI K M' d' u.1 (vr c0 :: as) h P) (hF : xMF M' a) (hV : xMV M') (hl : xML M.2.1.cls i M'.2.1) (hd : decode M.1 pc = .ok (.invokevirtual i, 3)) (hst : as.reverse ++ vr c0 :: st = st0) (hlen : as.length = a) (hT : xTY c0 = (ci, N)) (hci : ci < 10 ∧ (vwCl[ci]?).map (fun q => q.1) = some M'.2.1.cls) (hc : c0 < u.1 ∧ c0 < 1000000) (hR : d' + 1 ≤ R.2.1) (hw : xcs st ≤ 8) (hm : R.1 = false) (hlo : M'.2.2.2.2 ≤ u.1) (hx : xXS u.1 h) (hu : u.2.1 ≤ R.2.2.1 ∧ u.2.2 ≤ R.2.2.2)
    (hp : pc + 3 = p') (kk : ∀ (z : Int) (h' : XH), P z h' → xXS u.1 h' → WX K M R Q u p' L (vi z :: st) h') : WX K M R Q u pc L st0 h := by
  subst hp
  refine x_callV hM.xs hF hV hl hd hst hlen hT hci ⟨Or.inl hc.1, hc.2⟩ ⟨hR, hu.1, hu.2⟩ hw ⟨fun _ => rfl, fun _ => Or.inr ⟨hlo, hx⟩⟩ (fun v n' h' hq => ?_)
  obtain ⟨⟨e1, z, e2, hp⟩, hx'⟩ := hq
  have e1 : n' = u.1 := e1
  subst e1; subst e2
  exact kk z h' hp hx'
theorem x_Vv0 (p' : Nat) {c0 ci N i : Nat} {P : XH → Prop} (hM : MV K M' d' u.1 (vr c0 :: as) h P) (hF : xMF M' a) (hV : xMV M') (hl : xML M.2.1.cls i M'.2.1) (hd : decode M.1 pc = .ok (.invokevirtual i, 3)) (hst : as.reverse ++ vr c0 :: st = st0) (hlen : as.length = a) (hT : xTY c0 = (ci, N)) (hci : ci < 10 ∧ (vwCl[ci]?).map (fun q => q.1) = some M'.2.1.cls) (hc : c0 < u.1 ∧ c0 < 1000000) (hR : d' + 1 ≤ R.2.1) (hw : xcs st ≤ 8) (hm : R.1 = false) (hlo : M'.2.2.2.2 ≤ u.1) (hx : xXS u.1 h) (hu : u.2.1 ≤ R.2.2.1 ∧ u.2.2 ≤ R.2.2.2)
    (hp : pc + 3 = p') (kk : ∀ (h' : XH), P h' → xXS u.1 h' → WX K M R Q u p' L st h') : WX K M R Q u pc L st0 h := by
  subst hp
  refine x_callV hM.xs hF hV hl hd hst hlen hT hci ⟨Or.inl hc.1, hc.2⟩ ⟨hR, hu.1, hu.2⟩ hw ⟨fun _ => rfl, fun _ => Or.inr ⟨hlo, hx⟩⟩ (fun v n' h' hq => ?_)
  obtain ⟨⟨e1, e2, hp⟩, hx'⟩ := hq
  have e1 : n' = u.1 := e1
  subst e1; subst e2
  exact kk h' hp hx'
end XCAL0
theorem xRF_48 {c k : Nat} (hk : 48 ≤ k) : xRF c k = 0 := by
  unfold xRF
  (repeat' split) <;> first | rfl | (exfalso; omega) | (rw [List.getD_eq_getElem?_getD, List.getElem?_eq_none (by simp only [List.length_cons, List.length_nil]; omega)]; rfl)
theorem xRF_len0 : ∀ c : Nat, c < 274 → ∀ k : Nat, k < 48 → xRF c k ≠ 0 → k < (xTY c).2 ∧ ini c k = (xRF c k : Int) := by decide +kernel
theorem xXS_of {n : Nat} {x : XH} (hn : n ≤ 274) (hx : Mk 0 n x) : xXS n x := fun c k hc hk => by
  have k48 : k < 48 := Classical.byContradiction (fun q => hk (xRF_48 (by omega)))
  obtain ⟨q1, q2⟩ := xRF_len0 c (by omega) k k48 hk
  rw [hx c (by omega) hc k q1, q2]
/-- the row of rows -/
def mnH (h : XH) : XH := fun c => if c = 194 then (fun j => if 0 ≤ j ∧ j < 48 then 196 + j else 0) else if 195 ≤ c ∧ c < 243 then (fun _ => 0) else h c
/-- what 'new int[48][5]' does: a rule of its own (part 99) -/
def XMN (K : XK) : Prop := ∀ (R : XR) (Q : Option XV → Nat → XH → Prop) (u : Nat × Nat × Nat) (L : List (Nat × XV)) (st : List XV) (h : XH), R.1 = false → u.1 = 194 → u.2.1 + 49 ≤ R.2.2.1 → u.2.2 + 288 ≤ R.2.2.2 → WX K mX3_init R Q (243, u.2.1 + 49, u.2.2 + 288) 20 L (vr 194 :: st) (mnH h) → WX K mX3_init R Q u 16 L (vi 5 :: vi 48 :: st) h
theorem mnH_o {h : XH} {c : Nat} (q : c < 194 ∨ 243 ≤ c) : mnH h c = h c := by
  unfold mnH
  rw [if_neg (by omega), if_neg (by omega)]
theorem mnH_r {h : XH} {c : Nat} (q : 195 ≤ c ∧ c < 243) : mnH h c = fun _ => 0 := by
  unfold mnH
  rw [if_neg (by omega), if_pos q]
theorem ini_194 : ∀ j : Nat, j < 48 → ini 194 j = 196 + (j : Int) := by decide +kernel
theorem xTY_rows : ∀ c : Nat, c < 243 → 195 ≤ c → xTY c = (11, 5) := by decide +kernel
set_option maxRecDepth 100000 in
set_option maxHeartbeats 4000000 in
theorem pX3_init {K : XK} {h : XH} (hMN : XMN K) (h0 : h 192 = fun _ => 0) : MX K mX3_init (false, 2, 61, 878) 193 [vr 192, vr 4, vr 8] h (qC 192 254 h) := by
  refine xMeth FX3_init (Nat.le_of_ble_eq_true rfl) ?_
  refine x_aload_n 1 (xd DX3_init rfl) rfl rfl ?_
  refine x_obj 4 (xd DX3_init rfl) OX3 (by decide) (by decide) rfl ?_
  refine x_aload_n 5 (xd DX3_init rfl) rfl rfl ?_
  refine x_bipush 7 (xd DX3_init rfl) rfl rfl ?_
  refine x_newa 9 (a := 11) (xd DX3_init rfl) rfl rfl (by unfold xAty; decide) TA_int rfl (by decide) (by first | decide | omega | (dsimp only; omega)) (by first | decide | omega | (dsimp only; omega)) (by first | decide | omega | (dsimp only; omega)) rfl ?_
  refine x_pr 12 LX3_9 (xd DX3_init rfl) rfl PX3_9 rfl rfl rfl rfl ⟨(by first | decide | omega | (dsimp only; omega)), (by first | decide | omega | (dsimp only; omega))⟩ (by first | decide | omega | (dsimp only; omega)) rfl ?_
  refine x_aload_n 13 (xd DX3_init rfl) rfl rfl ?_
  refine x_bipush 15 (xd DX3_init rfl) rfl rfl ?_
  refine x_iconst 16 (xd DX3_init rfl) rfl ?_
  refine hMN _ _ _ _ _ _ rfl rfl (by decide) (by decide) ?_
  refine x_pr 23 LX3_17 (xd DX3_init rfl) rfl PX3_17 rfl rfl rfl rfl ⟨(by first | decide | omega | (dsimp only; omega)), (by first | decide | omega | (dsimp only; omega))⟩ (by first | decide | omega | (dsimp only; omega)) rfl ?_
  refine x_aload_n 24 (xd DX3_init rfl) rfl rfl ?_
  refine x_bipush 26 (xd DX3_init rfl) rfl rfl ?_
  refine x_newa 28 (a := 11) (xd DX3_init rfl) rfl rfl (by unfold xAty; decide) TA_int rfl (by decide) (by first | decide | omega | (dsimp only; omega)) (by first | decide | omega | (dsimp only; omega)) (by first | decide | omega | (dsimp only; omega)) rfl ?_
  refine x_pr 31 LX3_20 (xd DX3_init rfl) rfl PX3_20 rfl rfl rfl rfl ⟨(by first | decide | omega | (dsimp only; omega)), (by first | decide | omega | (dsimp only; omega))⟩ (by first | decide | omega | (dsimp only; omega)) rfl ?_
  refine x_aload_n 32 (xd DX3_init rfl) rfl rfl ?_
  refine x_bipush 34 (xd DX3_init rfl) rfl rfl ?_
  refine x_newa 36 (a := 11) (xd DX3_init rfl) rfl rfl (by unfold xAty; decide) TA_int rfl (by decide) (by first | decide | omega | (dsimp only; omega)) (by first | decide | omega | (dsimp only; omega)) (by first | decide | omega | (dsimp only; omega)) rfl ?_
  refine x_pr 39 LX3_23 (xd DX3_init rfl) rfl PX3_23 rfl rfl rfl rfl ⟨(by first | decide | omega | (dsimp only; omega)), (by first | decide | omega | (dsimp only; omega))⟩ (by first | decide | omega | (dsimp only; omega)) rfl ?_
  refine x_aload_n 40 (xd DX3_init rfl) rfl rfl ?_
  refine x_bipush 42 (xd DX3_init rfl) rfl rfl ?_
  refine x_newa 44 (a := 11) (xd DX3_init rfl) rfl rfl (by unfold xAty; decide) TA_int rfl (by decide) (by first | decide | omega | (dsimp only; omega)) (by first | decide | omega | (dsimp only; omega)) (by first | decide | omega | (dsimp only; omega)) rfl ?_
  refine x_pr 47 LX3_26 (xd DX3_init rfl) rfl PX3_26 rfl rfl rfl rfl ⟨(by first | decide | omega | (dsimp only; omega)), (by first | decide | omega | (dsimp only; omega))⟩ (by first | decide | omega | (dsimp only; omega)) rfl ?_
  refine x_aload_n 48 (xd DX3_init rfl) rfl rfl ?_
  refine x_newc 51 (ci := 1) (xd DX3_init rfl) rfl rfl clX1 rfl KX3_29 NX1 IX1 okX1 (by decide) (by decide) (by decide) rfl ?_
  refine x_dupr 52 (xd DX3_init rfl) rfl ?_
  refine x_ctor 55 (pX1_init 246 (by unfold EntAt; decide) rset_s) FX1_init VX1_init rfl CX3_31 (xd DX3_init rfl) rfl rfl (by decide) (by decide) (by decide) (by decide) (Nat.le_of_ble_eq_true rfl) rfl rfl ?_
  intro y hy1 hy2
  refine x_pr 58 LX3_32 (xd DX3_init rfl) rfl PX3_32 rfl rfl rfl rfl ⟨(by first | decide | omega | (dsimp only; omega)), (by first | decide | omega | (dsimp only; omega))⟩ (by first | decide | omega | (dsimp only; omega)) rfl ?_
  refine x_aload_n 59 (xd DX3_init rfl) rfl rfl ?_
  refine x_bipush 61 (xd DX3_init rfl) rfl rfl ?_
  refine x_newa 63 (a := 11) (xd DX3_init rfl) rfl rfl (by unfold xAty; decide) TA_int rfl (by decide) (by first | decide | omega | (dsimp only; omega)) (by first | decide | omega | (dsimp only; omega)) (by first | decide | omega | (dsimp only; omega)) rfl ?_
  refine x_pr 66 LX3_36 (xd DX3_init rfl) rfl PX3_36 rfl rfl rfl rfl ⟨(by first | decide | omega | (dsimp only; omega)), (by first | decide | omega | (dsimp only; omega))⟩ (by first | decide | omega | (dsimp only; omega)) rfl ?_
  refine x_aload_n 67 (xd DX3_init rfl) rfl rfl ?_
  refine x_bipush 69 (xd DX3_init rfl) rfl rfl ?_
  refine x_newa 71 (a := 11) (xd DX3_init rfl) rfl rfl (by unfold xAty; decide) TA_int rfl (by decide) (by first | decide | omega | (dsimp only; omega)) (by first | decide | omega | (dsimp only; omega)) (by first | decide | omega | (dsimp only; omega)) rfl ?_
  refine x_pr 74 LX3_39 (xd DX3_init rfl) rfl PX3_39 rfl rfl rfl rfl ⟨(by first | decide | omega | (dsimp only; omega)), (by first | decide | omega | (dsimp only; omega))⟩ (by first | decide | omega | (dsimp only; omega)) rfl ?_
  refine x_aload_n 75 (xd DX3_init rfl) rfl rfl ?_
  refine x_bipush 77 (xd DX3_init rfl) rfl rfl ?_
  refine x_newa 79 (a := 11) (xd DX3_init rfl) rfl rfl (by unfold xAty; decide) TA_int rfl (by decide) (by first | decide | omega | (dsimp only; omega)) (by first | decide | omega | (dsimp only; omega)) (by first | decide | omega | (dsimp only; omega)) rfl ?_
  refine x_pr 82 LX3_42 (xd DX3_init rfl) rfl PX3_42 rfl rfl rfl rfl ⟨(by first | decide | omega | (dsimp only; omega)), (by first | decide | omega | (dsimp only; omega))⟩ (by first | decide | omega | (dsimp only; omega)) rfl ?_
  refine x_aload_n 83 (xd DX3_init rfl) rfl rfl ?_
  refine x_bipush 85 (xd DX3_init rfl) rfl rfl ?_
  refine x_newa 87 (a := 11) (xd DX3_init rfl) rfl rfl (by unfold xAty; decide) TA_int rfl (by decide) (by first | decide | omega | (dsimp only; omega)) (by first | decide | omega | (dsimp only; omega)) (by first | decide | omega | (dsimp only; omega)) rfl ?_
  refine x_pr 90 LX3_45 (xd DX3_init rfl) rfl PX3_45 rfl rfl rfl rfl ⟨(by first | decide | omega | (dsimp only; omega)), (by first | decide | omega | (dsimp only; omega))⟩ (by first | decide | omega | (dsimp only; omega)) rfl ?_
  refine x_aload_n 91 (xd DX3_init rfl) rfl rfl ?_
  refine x_sipush 94 (xd DX3_init rfl) rfl rfl ?_
  refine x_newa 96 (a := 11) (xd DX3_init rfl) rfl rfl (by unfold xAty; decide) TA_int rfl (by decide) (by first | decide | omega | (dsimp only; omega)) (by first | decide | omega | (dsimp only; omega)) (by first | decide | omega | (dsimp only; omega)) rfl ?_
  refine x_pr 99 LX3_48 (xd DX3_init rfl) rfl PX3_48 rfl rfl rfl rfl ⟨(by first | decide | omega | (dsimp only; omega)), (by first | decide | omega | (dsimp only; omega))⟩ (by first | decide | omega | (dsimp only; omega)) rfl ?_
  refine x_aload_n 100 (xd DX3_init rfl) rfl rfl ?_
  refine x_aload_n 101 (xd DX3_init rfl) rfl rfl ?_
  refine x_pr 104 LX3_51 (xd DX3_init rfl) rfl PX3_51 rfl rfl rfl rfl ⟨(by first | decide | omega | (dsimp only; omega)), (by first | decide | omega | (dsimp only; omega))⟩ (by first | decide | omega | (dsimp only; omega)) rfl ?_
  refine x_aload_n 105 (xd DX3_init rfl) rfl rfl ?_
  refine x_aload_n 106 (xd DX3_init rfl) rfl rfl ?_
  refine x_pr 109 LX3_55 (xd DX3_init rfl) rfl PX3_55 rfl rfl rfl rfl ⟨(by first | decide | omega | (dsimp only; omega)), (by first | decide | omega | (dsimp only; omega))⟩ (by first | decide | omega | (dsimp only; omega)) rfl ?_
  refine x_return (xd DX3_init rfl) rfl rfl ⟨rfl, rfl, ?_, ?_⟩
  · intro c hc
    rw [hset_c (by omega), hset_c (by omega), hset_c (by omega), rset_c (by omega), hset_c (by omega), rset_c (by omega), hset_c (by omega), rset_c (by omega), hset_c (by omega), rset_c (by omega), hset_c (by omega), rset_c (by omega), hset_c (by omega), hy1 c (by omega), rset_c (by omega), hset_c (by omega), rset_c (by omega), hset_c (by omega), rset_c (by omega), hset_c (by omega), rset_c (by omega), hset_c (by omega), mnH_o (by omega), hset_c (by omega), rset_c (by omega)]
  · intro c p q j hj
    have : c = 192 ∨ c = 193 ∨ c = 194 ∨ (195 ≤ c ∧ c < 243) ∨ c = 243 ∨ c = 244 ∨ c = 245 ∨ (246 ≤ c ∧ c < 249) ∨ c = 249 ∨ c = 250 ∨ c = 251 ∨ c = 252 ∨ c = 253 := by omega
    rcases this with w | w | w | w | w | w | w | w | w | w | w | w | w
    · subst w
      have hj : j < 16 := hj
      have : j = 0 ∨ j = 1 ∨ j = 2 ∨ j = 3 ∨ j = 4 ∨ j = 5 ∨ j = 6 ∨ j = 7 ∨ j = 8 ∨ j = 9 ∨ j = 10 ∨ j = 11 ∨ j = 12 ∨ j = 13 ∨ j = 14 ∨ j = 15 := by omega
      rcases this with w | w | w | w | w | w | w | w | w | w | w | w | w | w | w | w <;> subst w
      · rw [hset_i (by decide)]; rfl
      · rfl
      · rw [hset_i (by decide), hset_i (by decide), hset_i (by decide), rset_c (by omega), hset_i (by decide), rset_c (by omega), hset_i (by decide), rset_c (by omega), hset_i (by decide), rset_c (by omega), hset_i (by decide), rset_c (by omega), hset_i (by decide), hy1 _ (by omega), rset_c (by omega), hset_i (by decide), rset_c (by omega), hset_i (by decide), rset_c (by omega), hset_i (by decide), rset_c (by omega), hset_i (by decide), mnH_o (by omega)]; rfl
      · rw [hset_i (by decide), hset_i (by decide), hset_i (by decide), rset_c (by omega), hset_i (by decide), rset_c (by omega), hset_i (by decide), rset_c (by omega), hset_i (by decide), rset_c (by omega), hset_i (by decide), rset_c (by omega), hset_i (by decide), hy1 _ (by omega), rset_c (by omega), hset_i (by decide), rset_c (by omega), hset_i (by decide), rset_c (by omega), hset_i (by decide), rset_c (by omega)]; rfl
      · rw [hset_i (by decide), hset_i (by decide), hset_i (by decide), rset_c (by omega), hset_i (by decide), rset_c (by omega), hset_i (by decide), rset_c (by omega), hset_i (by decide), rset_c (by omega), hset_i (by decide), rset_c (by omega), hset_i (by decide), hy1 _ (by omega), rset_c (by omega), hset_i (by decide), rset_c (by omega), hset_i (by decide), rset_c (by omega)]; rfl
      · rw [hset_i (by decide), hset_i (by decide), hset_i (by decide), rset_c (by omega), hset_i (by decide), rset_c (by omega), hset_i (by decide), rset_c (by omega), hset_i (by decide), rset_c (by omega), hset_i (by decide), rset_c (by omega), hset_i (by decide), hy1 _ (by omega), rset_c (by omega), hset_i (by decide), rset_c (by omega)]; rfl
      · rw [hset_i (by decide), hset_i (by decide), hset_i (by decide), rset_c (by omega), hset_i (by decide), rset_c (by omega), hset_i (by decide), rset_c (by omega), hset_i (by decide), rset_c (by omega), hset_i (by decide), rset_c (by omega), hset_i (by decide), hy1 _ (by omega), rset_c (by omega)]; rfl
      · rw [hset_i (by decide), hset_i (by decide), hset_i (by decide), rset_c (by omega), hset_i (by decide), rset_c (by omega), hset_i (by decide), rset_c (by omega), hset_i (by decide), rset_c (by omega), hset_i (by decide), rset_c (by omega)]; rfl
      · rw [hset_i (by decide), hset_i (by decide), hset_i (by decide), rset_c (by omega), hset_i (by decide), rset_c (by omega), hset_i (by decide), rset_c (by omega), hset_i (by decide), rset_c (by omega)]; rfl
      · rw [hset_i (by decide), hset_i (by decide), hset_i (by decide), rset_c (by omega), hset_i (by decide), rset_c (by omega), hset_i (by decide), rset_c (by omega)]; rfl
      · rw [hset_i (by decide), hset_i (by decide), hset_i (by decide), rset_c (by omega), hset_i (by decide), rset_c (by omega)]; rfl
      · rw [hset_i (by decide), hset_i (by decide), hset_i (by decide), rset_c (by omega)]; rfl
      · rw [hset_i (by decide), hset_i (by decide)]; rfl
      · rw [hset_i (by decide), hset_i (by decide), hset_i (by decide), rset_c (by omega), hset_i (by decide), rset_c (by omega), hset_i (by decide), rset_c (by omega), hset_i (by decide), rset_c (by omega), hset_i (by decide), rset_c (by omega), hset_i (by decide), hy1 _ (by omega), rset_c (by omega), hset_i (by decide), rset_c (by omega), hset_i (by decide), rset_c (by omega), hset_i (by decide), rset_c (by omega), hset_i (by decide), mnH_o (by omega), hset_i (by decide), rset_c (by omega), h0]; rfl
      · rw [hset_i (by decide), hset_i (by decide), hset_i (by decide), rset_c (by omega), hset_i (by decide), rset_c (by omega), hset_i (by decide), rset_c (by omega), hset_i (by decide), rset_c (by omega), hset_i (by decide), rset_c (by omega), hset_i (by decide), hy1 _ (by omega), rset_c (by omega), hset_i (by decide), rset_c (by omega), hset_i (by decide), rset_c (by omega), hset_i (by decide), rset_c (by omega), hset_i (by decide), mnH_o (by omega), hset_i (by decide), rset_c (by omega), h0]; rfl
      · rw [hset_i (by decide), hset_i (by decide), hset_i (by decide), rset_c (by omega), hset_i (by decide), rset_c (by omega), hset_i (by decide), rset_c (by omega), hset_i (by decide), rset_c (by omega), hset_i (by decide), rset_c (by omega), hset_i (by decide), hy1 _ (by omega), rset_c (by omega), hset_i (by decide), rset_c (by omega), hset_i (by decide), rset_c (by omega), hset_i (by decide), rset_c (by omega), hset_i (by decide), mnH_o (by omega), hset_i (by decide), rset_c (by omega), h0]; rfl
    · subst w
      rw [hset_c (by omega), hset_c (by omega), hset_c (by omega), rset_c (by omega), hset_c (by omega), rset_c (by omega), hset_c (by omega), rset_c (by omega), hset_c (by omega), rset_c (by omega), hset_c (by omega), rset_c (by omega), hset_c (by omega), hy1 _ (by omega), rset_c (by omega), hset_c (by omega), rset_c (by omega), hset_c (by omega), rset_c (by omega), hset_c (by omega), rset_c (by omega), hset_c (by omega), mnH_o (by omega), hset_c (by omega), rset_s]
      exact (ini_arr (c := 193) rfl (by decide) j).symm
    · subst w
      rw [hset_c (by omega), hset_c (by omega), hset_c (by omega), rset_c (by omega), hset_c (by omega), rset_c (by omega), hset_c (by omega), rset_c (by omega), hset_c (by omega), rset_c (by omega), hset_c (by omega), rset_c (by omega), hset_c (by omega), hy1 _ (by omega), rset_c (by omega), hset_c (by omega), rset_c (by omega), hset_c (by omega), rset_c (by omega), hset_c (by omega), rset_c (by omega), hset_c (by omega)]
      show (if (0 : Int) ≤ (j : Int) ∧ (j : Int) < 48 then 196 + (j : Int) else 0) = _
      have hj : j < 48 := hj
      rw [if_pos ⟨by omega, by omega⟩, ini_194 j hj]
    · rw [hset_c (by omega), hset_c (by omega), hset_c (by omega), rset_c (by omega), hset_c (by omega), rset_c (by omega), hset_c (by omega), rset_c (by omega), hset_c (by omega), rset_c (by omega), hset_c (by omega), rset_c (by omega), hset_c (by omega), hy1 _ (by omega), rset_c (by omega), hset_c (by omega), rset_c (by omega), hset_c (by omega), rset_c (by omega), hset_c (by omega), rset_c (by omega), hset_c (by omega), mnH_r (by omega)]
      exact (ini_arr (xTY_rows c w.2 w.1) (by decide) j).symm
    · subst w
      rw [hset_c (by omega), hset_c (by omega), hset_c (by omega), rset_c (by omega), hset_c (by omega), rset_c (by omega), hset_c (by omega), rset_c (by omega), hset_c (by omega), rset_c (by omega), hset_c (by omega), rset_c (by omega), hset_c (by omega), hy1 _ (by omega), rset_c (by omega), hset_c (by omega), rset_c (by omega), hset_c (by omega), rset_c (by omega), hset_c (by omega), rset_s]
      exact (ini_arr (c := 243) rfl (by decide) j).symm
    · subst w
      rw [hset_c (by omega), hset_c (by omega), hset_c (by omega), rset_c (by omega), hset_c (by omega), rset_c (by omega), hset_c (by omega), rset_c (by omega), hset_c (by omega), rset_c (by omega), hset_c (by omega), rset_c (by omega), hset_c (by omega), hy1 _ (by omega), rset_c (by omega), hset_c (by omega), rset_c (by omega), hset_c (by omega), rset_s]
      exact (ini_arr (c := 244) rfl (by decide) j).symm
    · subst w
      rw [hset_c (by omega), hset_c (by omega), hset_c (by omega), rset_c (by omega), hset_c (by omega), rset_c (by omega), hset_c (by omega), rset_c (by omega), hset_c (by omega), rset_c (by omega), hset_c (by omega), rset_c (by omega), hset_c (by omega), hy1 _ (by omega), rset_c (by omega), hset_c (by omega), rset_s]
      exact (ini_arr (c := 245) rfl (by decide) j).symm
    · rw [hset_c (by omega), hset_c (by omega), hset_c (by omega), rset_c (by omega), hset_c (by omega), rset_c (by omega), hset_c (by omega), rset_c (by omega), hset_c (by omega), rset_c (by omega), hset_c (by omega), rset_c (by omega), hset_c (by omega)]
      exact hy2 c w.1 w.2 j hj
    · subst w
      rw [hset_c (by omega), hset_c (by omega), hset_c (by omega), rset_c (by omega), hset_c (by omega), rset_c (by omega), hset_c (by omega), rset_c (by omega), hset_c (by omega), rset_c (by omega), hset_c (by omega), rset_s]
      exact (ini_arr (c := 249) rfl (by decide) j).symm
    · subst w
      rw [hset_c (by omega), hset_c (by omega), hset_c (by omega), rset_c (by omega), hset_c (by omega), rset_c (by omega), hset_c (by omega), rset_c (by omega), hset_c (by omega), rset_s]
      exact (ini_arr (c := 250) rfl (by decide) j).symm
    · subst w
      rw [hset_c (by omega), hset_c (by omega), hset_c (by omega), rset_c (by omega), hset_c (by omega), rset_c (by omega), hset_c (by omega), rset_s]
      exact (ini_arr (c := 251) rfl (by decide) j).symm
    · subst w
      rw [hset_c (by omega), hset_c (by omega), hset_c (by omega), rset_c (by omega), hset_c (by omega), rset_s]
      exact (ini_arr (c := 252) rfl (by decide) j).symm
    · subst w
      rw [hset_c (by omega), hset_c (by omega), hset_c (by omega), rset_s]
      exact (ini_arr (c := 253) rfl (by decide) j).symm
