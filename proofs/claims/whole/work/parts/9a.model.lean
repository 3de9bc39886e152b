/-! SqueezedCodeModel: told, its constructor -/
set_option maxHeartbeats 4000000 in
theorem pX9_told {K : XK} {n : Nat} {h : XH} (xl1 xl2 xl3 xl4 xl5 xl6 : Int) (hn : 0 ≤ h 259 2 ∧ h 259 2 < 46) : MV K mX9_told 1 n [vr 259, vi xl1, vi xl2, vi xl3, vi xl4, vi xl5, vi xl6] h (fun h' => h' = oneH (oneH (oneH h xl1 xl2) xl3 xl4) xl5 xl6) := by
  refine xMeth FX9_told (Nat.le_of_ble_eq_true rfl) ?_
  refine x_aload_n 1 (xd DX9_told rfl) rfl rfl ?_
  refine x_iload_n 2 (xd DX9_told rfl) rfl rfl ?_
  refine x_iload_n 3 (xd DX9_told rfl) rfl rfl ?_
  refine x_Vv 6 (pX9_oneIs xl1 xl2 (by omega)) FX9_oneIs VX9_oneIs CX9_63 (xd DX9_told rfl) rfl rfl rfl ⟨by decide, rfl⟩ ⟨by decide, by decide⟩ (by decide) (Nat.le_of_ble_eq_true rfl) (by decide) rfl ?_
  rintro y1 q1
  refine x_aload_n 7 (xd DX9_told rfl) rfl rfl ?_
  refine x_iload_n 8 (xd DX9_told rfl) rfl rfl ?_
  refine x_iload 10 (xd DX9_told rfl) rfl rfl ?_
  refine x_Vv 13 (pX9_oneIs xl3 xl4 (by rw [q1]; unfold oneH; rw [hset_s]; omega)) FX9_oneIs VX9_oneIs CX9_63 (xd DX9_told rfl) rfl rfl rfl ⟨by decide, rfl⟩ ⟨by decide, by decide⟩ (by decide) (Nat.le_of_ble_eq_true rfl) (by decide) rfl ?_
  rintro y2 q2
  have z2 : y2 259 2 = h 259 2 + 2 := by rw [q2]; unfold oneH; rw [hset_s, q1]; unfold oneH; rw [hset_s]; omega
  refine x_aload_n 14 (xd DX9_told rfl) rfl rfl ?_
  refine x_iload 16 (xd DX9_told rfl) rfl rfl ?_
  refine x_iload 18 (xd DX9_told rfl) rfl rfl ?_
  refine x_Vv 21 (pX9_oneIs xl5 xl6 (by rw [z2]; omega)) FX9_oneIs VX9_oneIs CX9_63 (xd DX9_told rfl) rfl rfl rfl ⟨by decide, rfl⟩ ⟨by decide, by decide⟩ (by decide) (Nat.le_of_ble_eq_true rfl) (by decide) rfl ?_
  rintro y3 q3
  refine x_rv (xd DX9_told rfl) rfl ?_
  rw [q3, q2, q1]
/-- told: m instructions of the first program -/
def TL (m : Nat) (w x : XH) : Prop := x 259 2 = (m : Int) ∧ (∀ k : Nat, k < m → x 261 k = ltr (pl5 k) ∧ x 262 k = pl6 k) ∧ (∀ c, c ≠ 259 → c ≠ 261 → c ≠ 262 → x c = w c) ∧ ∀ j, j ≠ 2 → x 259 j = w 259 j
theorem TL.one {m : Nat} {w x : XH} {c v : Int} (h : TL m w x) (hc : ltr (pl5 m) = c) (hv : pl6 m = v) : TL (m + 1) w (oneH x c v) := by
  obtain ⟨h1, h2, h3, h4⟩ := h
  unfold oneH
  refine ⟨by rw [hset_s, h1]; push_cast; rfl, fun k hk => ?_, fun d p q r => by rw [hset_c p, hset_c r, hset_c q, h3 d p q r], fun j p => by rw [hset_i p, hset_c (by decide), hset_c (by decide), h4 j p]⟩
  rw [h1]
  by_cases e : k = m
  · subst e
    refine ⟨?_, ?_⟩
    · rw [hset_c (by decide), hset_c (by decide), hset_s, hc]
    · rw [hset_c (by decide), hset_s, hv]
  · refine ⟨?_, ?_⟩
    · rw [hset_c (by decide), hset_c (by decide), hset_i (by omega)]
      exact (h2 k (by omega)).1
    · rw [hset_c (by decide), hset_i (by omega), hset_c (by decide)]
      exact (h2 k (by omega)).2
theorem TL.xs {m : Nat} {w x : XH} (h : TL m w x) (hw : xXS 274 w) : xXS 274 x := fun c k hc hk => by
  by_cases e : c = 259
  · subst e
    by_cases e2 : (k : Int) = 2
    · exfalso
      have : k = 2 := by omega
      subst this
      exact hk rfl
    · rw [h.2.2.2 k e2]
      exact hw 259 k hc hk
  · by_cases e1 : c = 261
    · subst e1; exact absurd rfl (by rw [xRF_arr (c := 261) rfl (by decide)] at hk; exact hk)
    · by_cases e2 : c = 262
      · subst e2; exact absurd rfl (by rw [xRF_arr (c := 262) rfl (by decide)] at hk; exact hk)
      · rw [h.2.2.1 c e e1 e2]
        exact hw c k hc hk
/-- the reference as its constructor has laid it out, before the first program is told -/
def mh (h : XH) : XH := (hset (hset (hset (hset (rset (hset (rset (hset (rset (hset (rset (hset (rset (hset (rset (hset (rset (hset (rset (hset (rset (hset (rset (hset (rset (hset (rset (hset (rset (hset (rset h 260 (fun _ => 0)) 259 1 261) 261 (fun _ => 0)) 259 3 262) 262 (fun _ => 0)) 259 4 263) 263 (fun _ => 0)) 259 6 264) 264 (fun _ => 0)) 259 7 265) 265 (fun _ => 0)) 259 8 266) 266 (fun _ => 0)) 259 9 267) 267 (fun _ => 0)) 259 10 268) 268 (fun _ => 0)) 259 12 269) 269 (fun _ => 0)) 259 13 270) 270 (fun _ => 0)) 259 14 271) 271 (fun _ => 0)) 259 24 272) 272 (fun _ => 0)) 259 25 273) 273 (fun _ => 0)) 259 27 274) 266 80 8) 266 81 2) 259 2 0)
theorem mh_lo {h : XH} {c : Nat} (hc : c < 259) : mh h c = h c := by
  unfold mh
  rw [hset_c (by omega), hset_c (by omega), hset_c (by omega), hset_c (by omega), rset_c (by omega), hset_c (by omega), rset_c (by omega), hset_c (by omega), rset_c (by omega), hset_c (by omega), rset_c (by omega), hset_c (by omega), rset_c (by omega), hset_c (by omega), rset_c (by omega), hset_c (by omega), rset_c (by omega), hset_c (by omega), rset_c (by omega), hset_c (by omega), rset_c (by omega), hset_c (by omega), rset_c (by omega), hset_c (by omega), rset_c (by omega), hset_c (by omega), rset_c (by omega), hset_c (by omega), rset_c (by omega), hset_c (by omega), rset_c (by omega)]
theorem mh_259 {h : XH} (h0 : h 259 = fun _ => 0) (j : Nat) (hj : j < 31) : mh h 259 j = ini 259 j := by
  have : j = 0 ∨ j = 1 ∨ j = 2 ∨ j = 3 ∨ j = 4 ∨ j = 5 ∨ j = 6 ∨ j = 7 ∨ j = 8 ∨ j = 9 ∨ j = 10 ∨ j = 11 ∨ j = 12 ∨ j = 13 ∨ j = 14 ∨ j = 15 ∨ j = 16 ∨ j = 17 ∨ j = 18 ∨ j = 19 ∨ j = 20 ∨ j = 21 ∨ j = 22 ∨ j = 23 ∨ j = 24 ∨ j = 25 ∨ j = 26 ∨ j = 27 ∨ j = 28 ∨ j = 29 ∨ j = 30 := by omega
  rcases this with q | q | q | q | q | q | q | q | q | q | q | q | q | q | q | q | q | q | q | q | q | q | q | q | q | q | q | q | q | q | q <;> subst q
  · exact congrFun h0 (0 : Nat)
  · rfl
  · rfl
  · rfl
  · rfl
  · exact congrFun h0 (5 : Nat)
  · rfl
  · rfl
  · rfl
  · rfl
  · rfl
  · exact congrFun h0 (11 : Nat)
  · rfl
  · rfl
  · rfl
  · exact congrFun h0 (15 : Nat)
  · exact congrFun h0 (16 : Nat)
  · exact congrFun h0 (17 : Nat)
  · exact congrFun h0 (18 : Nat)
  · exact congrFun h0 (19 : Nat)
  · exact congrFun h0 (20 : Nat)
  · exact congrFun h0 (21 : Nat)
  · exact congrFun h0 (22 : Nat)
  · exact congrFun h0 (23 : Nat)
  · rfl
  · rfl
  · exact congrFun h0 (26 : Nat)
  · rfl
  · exact congrFun h0 (28 : Nat)
  · exact congrFun h0 (29 : Nat)
  · exact congrFun h0 (30 : Nat)
theorem mh_266 {h : XH} (j : Int) : mh h 266 j = if j = 81 then 2 else if j = 80 then 8 else 0 := by
  by_cases q : j = 81
  · subst q; rfl
  · by_cases q2 : j = 80
    · subst q2; rfl
    · rw [if_neg q, if_neg q2]
      unfold mh
      rw [hset_c (by decide), hset_i q, hset_i q2]
      rfl
theorem xRF_hi : ∀ c : Nat, c < 274 → 260 ≤ c → ∀ k, xRF c k = 0 := fun c h1 h2 k => by
  unfold xRF
  rw [if_neg (by omega), if_neg (by omega), if_neg (by omega), if_neg (by omega), if_neg (by omega), if_neg (by omega), if_neg (by omega), if_neg (by omega), if_neg (by omega)]
set_option maxRecDepth 100000 in
set_option maxHeartbeats 4000000 in
theorem pX9_init {K : XK} {h : XH} (hB : Born8 h) (h0 : h 259 = fun _ => 0) : MX K mX9_init (false, 6, 14, 1204) 260 [vr 259] h (fun v n' h' => v = none ∧ n' = 274 ∧ xXS 274 h' ∧ INV h') := by
  refine xMeth FX9_init (Nat.le_of_ble_eq_true rfl) ?_
  refine x_aload_n 1 (xd DX9_init rfl) rfl rfl ?_
  refine x_obj 4 (xd DX9_init rfl) OX9 (by decide) (by decide) rfl ?_
  refine x_aload_n 5 (xd DX9_init rfl) rfl rfl ?_
  refine x_sipush 8 (xd DX9_init rfl) rfl rfl ?_
  refine x_newa 10 (a := 11) (xd DX9_init rfl) rfl rfl (by unfold xAty; decide) TA_int rfl (by decide) (by first | decide | omega | (dsimp only; omega)) (by first | decide | omega | (dsimp only; omega)) (by first | decide | omega | (dsimp only; omega)) rfl ?_
  refine x_pr 13 LX9_7 (xd DX9_init rfl) rfl PX9_7 rfl rfl rfl rfl ⟨(by first | decide | omega | (dsimp only; omega)), (by first | decide | omega | (dsimp only; omega))⟩ (by first | decide | omega | (dsimp only; omega)) rfl ?_
  refine x_aload_n 14 (xd DX9_init rfl) rfl rfl ?_
  refine x_bipush 16 (xd DX9_init rfl) rfl rfl ?_
  refine x_newa 18 (a := 11) (xd DX9_init rfl) rfl rfl (by unfold xAty; decide) TA_int rfl (by decide) (by first | decide | omega | (dsimp only; omega)) (by first | decide | omega | (dsimp only; omega)) (by first | decide | omega | (dsimp only; omega)) rfl ?_
  refine x_pr 21 LX9_13 (xd DX9_init rfl) rfl PX9_13 rfl rfl rfl rfl ⟨(by first | decide | omega | (dsimp only; omega)), (by first | decide | omega | (dsimp only; omega))⟩ (by first | decide | omega | (dsimp only; omega)) rfl ?_
  refine x_aload_n 22 (xd DX9_init rfl) rfl rfl ?_
  refine x_bipush 24 (xd DX9_init rfl) rfl rfl ?_
  refine x_newa 26 (a := 11) (xd DX9_init rfl) rfl rfl (by unfold xAty; decide) TA_int rfl (by decide) (by first | decide | omega | (dsimp only; omega)) (by first | decide | omega | (dsimp only; omega)) (by first | decide | omega | (dsimp only; omega)) rfl ?_
  refine x_pr 29 LX9_16 (xd DX9_init rfl) rfl PX9_16 rfl rfl rfl rfl ⟨(by first | decide | omega | (dsimp only; omega)), (by first | decide | omega | (dsimp only; omega))⟩ (by first | decide | omega | (dsimp only; omega)) rfl ?_
  refine x_aload_n 30 (xd DX9_init rfl) rfl rfl ?_
  refine x_bipush 32 (xd DX9_init rfl) rfl rfl ?_
  refine x_newa 34 (a := 11) (xd DX9_init rfl) rfl rfl (by unfold xAty; decide) TA_int rfl (by decide) (by first | decide | omega | (dsimp only; omega)) (by first | decide | omega | (dsimp only; omega)) (by first | decide | omega | (dsimp only; omega)) rfl ?_
  refine x_pr 37 LX9_19 (xd DX9_init rfl) rfl PX9_19 rfl rfl rfl rfl ⟨(by first | decide | omega | (dsimp only; omega)), (by first | decide | omega | (dsimp only; omega))⟩ (by first | decide | omega | (dsimp only; omega)) rfl ?_
  refine x_aload_n 38 (xd DX9_init rfl) rfl rfl ?_
  refine x_bipush 40 (xd DX9_init rfl) rfl rfl ?_
  refine x_newa 42 (a := 11) (xd DX9_init rfl) rfl rfl (by unfold xAty; decide) TA_int rfl (by decide) (by first | decide | omega | (dsimp only; omega)) (by first | decide | omega | (dsimp only; omega)) (by first | decide | omega | (dsimp only; omega)) rfl ?_
  refine x_pr 45 LX9_22 (xd DX9_init rfl) rfl PX9_22 rfl rfl rfl rfl ⟨(by first | decide | omega | (dsimp only; omega)), (by first | decide | omega | (dsimp only; omega))⟩ (by first | decide | omega | (dsimp only; omega)) rfl ?_
  refine x_aload_n 46 (xd DX9_init rfl) rfl rfl ?_
  refine x_bipush 48 (xd DX9_init rfl) rfl rfl ?_
  refine x_newa 50 (a := 11) (xd DX9_init rfl) rfl rfl (by unfold xAty; decide) TA_int rfl (by decide) (by first | decide | omega | (dsimp only; omega)) (by first | decide | omega | (dsimp only; omega)) (by first | decide | omega | (dsimp only; omega)) rfl ?_
  refine x_pr 53 LX9_25 (xd DX9_init rfl) rfl PX9_25 rfl rfl rfl rfl ⟨(by first | decide | omega | (dsimp only; omega)), (by first | decide | omega | (dsimp only; omega))⟩ (by first | decide | omega | (dsimp only; omega)) rfl ?_
  refine x_aload_n 54 (xd DX9_init rfl) rfl rfl ?_
  refine x_bipush 56 (xd DX9_init rfl) rfl rfl ?_
  refine x_newa 58 (a := 11) (xd DX9_init rfl) rfl rfl (by unfold xAty; decide) TA_int rfl (by decide) (by first | decide | omega | (dsimp only; omega)) (by first | decide | omega | (dsimp only; omega)) (by first | decide | omega | (dsimp only; omega)) rfl ?_
  refine x_pr 61 LX9_28 (xd DX9_init rfl) rfl PX9_28 rfl rfl rfl rfl ⟨(by first | decide | omega | (dsimp only; omega)), (by first | decide | omega | (dsimp only; omega))⟩ (by first | decide | omega | (dsimp only; omega)) rfl ?_
  refine x_aload_n 62 (xd DX9_init rfl) rfl rfl ?_
  refine x_sipush 65 (xd DX9_init rfl) rfl rfl ?_
  refine x_newa 67 (a := 11) (xd DX9_init rfl) rfl rfl (by unfold xAty; decide) TA_int rfl (by decide) (by first | decide | omega | (dsimp only; omega)) (by first | decide | omega | (dsimp only; omega)) (by first | decide | omega | (dsimp only; omega)) rfl ?_
  refine x_pr 70 LX9_31 (xd DX9_init rfl) rfl PX9_31 rfl rfl rfl rfl ⟨(by first | decide | omega | (dsimp only; omega)), (by first | decide | omega | (dsimp only; omega))⟩ (by first | decide | omega | (dsimp only; omega)) rfl ?_
  refine x_aload_n 71 (xd DX9_init rfl) rfl rfl ?_
  refine x_bipush 73 (xd DX9_init rfl) rfl rfl ?_
  refine x_newa 75 (a := 11) (xd DX9_init rfl) rfl rfl (by unfold xAty; decide) TA_int rfl (by decide) (by first | decide | omega | (dsimp only; omega)) (by first | decide | omega | (dsimp only; omega)) (by first | decide | omega | (dsimp only; omega)) rfl ?_
  refine x_pr 78 LX9_34 (xd DX9_init rfl) rfl PX9_34 rfl rfl rfl rfl ⟨(by first | decide | omega | (dsimp only; omega)), (by first | decide | omega | (dsimp only; omega))⟩ (by first | decide | omega | (dsimp only; omega)) rfl ?_
  refine x_aload_n 79 (xd DX9_init rfl) rfl rfl ?_
  refine x_bipush 81 (xd DX9_init rfl) rfl rfl ?_
  refine x_newa 83 (a := 11) (xd DX9_init rfl) rfl rfl (by unfold xAty; decide) TA_int rfl (by decide) (by first | decide | omega | (dsimp only; omega)) (by first | decide | omega | (dsimp only; omega)) (by first | decide | omega | (dsimp only; omega)) rfl ?_
  refine x_pr 86 LX9_37 (xd DX9_init rfl) rfl PX9_37 rfl rfl rfl rfl ⟨(by first | decide | omega | (dsimp only; omega)), (by first | decide | omega | (dsimp only; omega))⟩ (by first | decide | omega | (dsimp only; omega)) rfl ?_
  refine x_aload_n 87 (xd DX9_init rfl) rfl rfl ?_
  refine x_bipush 89 (xd DX9_init rfl) rfl rfl ?_
  refine x_newa 91 (a := 11) (xd DX9_init rfl) rfl rfl (by unfold xAty; decide) TA_int rfl (by decide) (by first | decide | omega | (dsimp only; omega)) (by first | decide | omega | (dsimp only; omega)) (by first | decide | omega | (dsimp only; omega)) rfl ?_
  refine x_pr 94 LX9_40 (xd DX9_init rfl) rfl PX9_40 rfl rfl rfl rfl ⟨(by first | decide | omega | (dsimp only; omega)), (by first | decide | omega | (dsimp only; omega))⟩ (by first | decide | omega | (dsimp only; omega)) rfl ?_
  refine x_aload_n 95 (xd DX9_init rfl) rfl rfl ?_
  refine x_bipush 97 (xd DX9_init rfl) rfl rfl ?_
  refine x_newa 99 (a := 11) (xd DX9_init rfl) rfl rfl (by unfold xAty; decide) TA_int rfl (by decide) (by first | decide | omega | (dsimp only; omega)) (by first | decide | omega | (dsimp only; omega)) (by first | decide | omega | (dsimp only; omega)) rfl ?_
  refine x_pr 102 LX9_43 (xd DX9_init rfl) rfl PX9_43 rfl rfl rfl rfl ⟨(by first | decide | omega | (dsimp only; omega)), (by first | decide | omega | (dsimp only; omega))⟩ (by first | decide | omega | (dsimp only; omega)) rfl ?_
  refine x_aload_n 103 (xd DX9_init rfl) rfl rfl ?_
  refine x_bipush 105 (xd DX9_init rfl) rfl rfl ?_
  refine x_newa 107 (a := 11) (xd DX9_init rfl) rfl rfl (by unfold xAty; decide) TA_int rfl (by decide) (by first | decide | omega | (dsimp only; omega)) (by first | decide | omega | (dsimp only; omega)) (by first | decide | omega | (dsimp only; omega)) rfl ?_
  refine x_pr 110 LX9_46 (xd DX9_init rfl) rfl PX9_46 rfl rfl rfl rfl ⟨(by first | decide | omega | (dsimp only; omega)), (by first | decide | omega | (dsimp only; omega))⟩ (by first | decide | omega | (dsimp only; omega)) rfl ?_
  refine x_aload_n 111 (xd DX9_init rfl) rfl rfl ?_
  refine x_iconst 112 (xd DX9_init rfl) rfl ?_
  refine x_newa 114 (a := 11) (xd DX9_init rfl) rfl rfl (by unfold xAty; decide) TA_int rfl (by decide) (by first | decide | omega | (dsimp only; omega)) (by first | decide | omega | (dsimp only; omega)) (by first | decide | omega | (dsimp only; omega)) rfl ?_
  refine x_pr 117 LX9_49 (xd DX9_init rfl) rfl PX9_49 rfl rfl rfl rfl ⟨(by first | decide | omega | (dsimp only; omega)), (by first | decide | omega | (dsimp only; omega))⟩ (by first | decide | omega | (dsimp only; omega)) rfl ?_
  refine x_aload_n 118 (xd DX9_init rfl) rfl rfl ?_
  refine x_gr0 121 266 LX9_28 (xd DX9_init rfl) rfl rfl ⟨by decide, by decide⟩ (by decide) rfl ?_
  refine x_bipush 123 (xd DX9_init rfl) rfl rfl ?_
  refine x_bipush 125 (xd DX9_init rfl) rfl rfl ?_
  refine x_iastore 126 (xd DX9_init rfl) rfl ⟨Or.inl (by decide), by decide⟩ (by decide) (by decide) (by decide) rfl ?_
  refine x_aload_n 127 (xd DX9_init rfl) rfl rfl ?_
  refine x_gr0 130 266 LX9_28 (xd DX9_init rfl) rfl rfl ⟨by decide, by decide⟩ (by decide) rfl ?_
  refine x_bipush 132 (xd DX9_init rfl) rfl rfl ?_
  refine x_iconst 133 (xd DX9_init rfl) rfl ?_
  refine x_iastore 134 (xd DX9_init rfl) rfl ⟨Or.inl (by decide), by decide⟩ (by decide) (by decide) (by decide) rfl ?_
  refine x_aload_n 135 (xd DX9_init rfl) rfl rfl ?_
  refine x_iconst 136 (xd DX9_init rfl) rfl ?_
  refine x_pi 139 2 rfl LX9_52 (xd DX9_init rfl) rfl rfl ⟨Or.inl (by decide), by decide⟩ rfl ?_
  refine WX.heap (h' := mh h) rfl ?_
  generalize hw : mh h = w
  have wlo : ∀ c, c < 259 → w c = h c := fun c hc => by rw [← hw]; exact mh_lo hc
  have wr : ∀ j : Nat, j < 31 → w 259 j = ini 259 j := fun j hj => by rw [← hw]; exact mh_259 h0 j hj
  have w266 : ∀ j, w 266 j = if j = 81 then 2 else if j = 80 then 8 else 0 := fun j => by rw [← hw]; exact mh_266 j
  have w267 : ∀ j, w 267 j = 0 := fun j => by rw [← hw]; rfl
  have hXw : xXS 274 w := fun c k hc hk => by
    by_cases q : c < 259
    · rw [wlo c q]
      exact hB.2.2.2.2.2.2.2.2.2.2.2 c k q hk
    · by_cases q2 : c = 259
      · subst q2
        have k48 : k < 48 := Classical.byContradiction (fun z => hk (xRF_48 (by omega)))
        obtain ⟨z1, z2⟩ := xRF_len0 259 (by decide) k k48 hk
        rw [wr k z1, z2]
      · exact absurd (xRF_hi c hc (by omega) k) hk
  have hT0 : TL 0 w w := ⟨wr 2 (by decide), fun k q => by omega, fun _ _ _ _ => rfl, fun _ _ => rfl⟩
  have hX0 := hXw
  refine x_aload_n 140 (xd DX9_init rfl) rfl rfl ?_
  refine x_bipush 142 (xd DX9_init rfl) rfl rfl ?_
  refine x_iconst 143 (xd DX9_init rfl) rfl ?_
  refine x_bipush 145 (xd DX9_init rfl) rfl rfl ?_
  refine x_iconst 146 (xd DX9_init rfl) rfl ?_
  refine x_bipush 148 (xd DX9_init rfl) rfl rfl ?_
  refine x_iconst 149 (xd DX9_init rfl) rfl ?_
  refine x_Vv0 152 (pX9_told (97) (5) (115) (0) (97) (3) (by rw [hT0.1]; omega)) FX9_told VX9_told CX9_56 (xd DX9_init rfl) rfl rfl rfl ⟨by decide, rfl⟩ ⟨by decide, by decide⟩ (by decide) (Nat.le_of_ble_eq_true rfl) rfl (by decide) hX0 ⟨by decide, by decide⟩ rfl ?_
  intro t0 e0 hX1
  have hT3 : TL 3 w t0 := by rw [e0]; exact ((hT0.one (by decide) (by decide)).one (by decide) (by decide)).one (by decide) (by decide)
  clear e0
  refine x_aload_n 153 (xd DX9_init rfl) rfl rfl ?_
  refine x_bipush 155 (xd DX9_init rfl) rfl rfl ?_
  refine x_iconst 156 (xd DX9_init rfl) rfl ?_
  refine x_bipush 158 (xd DX9_init rfl) rfl rfl ?_
  refine x_iconst 159 (xd DX9_init rfl) rfl ?_
  refine x_bipush 161 (xd DX9_init rfl) rfl rfl ?_
  refine x_iconst 162 (xd DX9_init rfl) rfl ?_
  refine x_Vv0 165 (pX9_told (109) (2) (115) (1) (119) (0) (by rw [hT3.1]; omega)) FX9_told VX9_told CX9_56 (xd DX9_init rfl) rfl rfl rfl ⟨by decide, rfl⟩ ⟨by decide, by decide⟩ (by decide) (Nat.le_of_ble_eq_true rfl) rfl (by decide) hX1 ⟨by decide, by decide⟩ rfl ?_
  intro t1 e1 hX2
  have hT6 : TL 6 w t1 := by rw [e1]; exact ((hT3.one (by decide) (by decide)).one (by decide) (by decide)).one (by decide) (by decide)
  clear e1
  refine x_aload_n 166 (xd DX9_init rfl) rfl rfl ?_
  refine x_bipush 168 (xd DX9_init rfl) rfl rfl ?_
  refine x_iconst 169 (xd DX9_init rfl) rfl ?_
  refine x_bipush 171 (xd DX9_init rfl) rfl rfl ?_
  refine x_iconst 172 (xd DX9_init rfl) rfl ?_
  refine x_bipush 174 (xd DX9_init rfl) rfl rfl ?_
  refine x_bipush 176 (xd DX9_init rfl) rfl rfl ?_
  refine x_Vv0 179 (pX9_told (97) (5) (115) (0) (97) (7) (by rw [hT6.1]; omega)) FX9_told VX9_told CX9_56 (xd DX9_init rfl) rfl rfl rfl ⟨by decide, rfl⟩ ⟨by decide, by decide⟩ (by decide) (Nat.le_of_ble_eq_true rfl) rfl (by decide) hX2 ⟨by decide, by decide⟩ rfl ?_
  intro t2 e2 hX3
  have hT9 : TL 9 w t2 := by rw [e2]; exact ((hT6.one (by decide) (by decide)).one (by decide) (by decide)).one (by decide) (by decide)
  clear e2
  refine x_aload_n 180 (xd DX9_init rfl) rfl rfl ?_
  refine x_bipush 182 (xd DX9_init rfl) rfl rfl ?_
  refine x_iconst 183 (xd DX9_init rfl) rfl ?_
  refine x_bipush 185 (xd DX9_init rfl) rfl rfl ?_
  refine x_iconst 186 (xd DX9_init rfl) rfl ?_
  refine x_bipush 188 (xd DX9_init rfl) rfl rfl ?_
  refine x_iconst 189 (xd DX9_init rfl) rfl ?_
  refine x_Vv0 192 (pX9_told (109) (2) (115) (1) (119) (1) (by rw [hT9.1]; omega)) FX9_told VX9_told CX9_56 (xd DX9_init rfl) rfl rfl rfl ⟨by decide, rfl⟩ ⟨by decide, by decide⟩ (by decide) (Nat.le_of_ble_eq_true rfl) rfl (by decide) hX3 ⟨by decide, by decide⟩ rfl ?_
  intro t3 e3 hX4
  have hT12 : TL 12 w t3 := by rw [e3]; exact ((hT9.one (by decide) (by decide)).one (by decide) (by decide)).one (by decide) (by decide)
  clear e3
  refine x_aload_n 193 (xd DX9_init rfl) rfl rfl ?_
  refine x_bipush 195 (xd DX9_init rfl) rfl rfl ?_
  refine x_bipush 197 (xd DX9_init rfl) rfl rfl ?_
  refine x_bipush 199 (xd DX9_init rfl) rfl rfl ?_
  refine x_bipush 201 (xd DX9_init rfl) rfl rfl ?_
  refine x_bipush 203 (xd DX9_init rfl) rfl rfl ?_
  refine x_iconst 204 (xd DX9_init rfl) rfl ?_
  refine x_Vv0 207 (pX9_told (107) (14) (113) (-4) (97) (1) (by rw [hT12.1]; omega)) FX9_told VX9_told CX9_56 (xd DX9_init rfl) rfl rfl rfl ⟨by decide, rfl⟩ ⟨by decide, by decide⟩ (by decide) (Nat.le_of_ble_eq_true rfl) rfl (by decide) hX4 ⟨by decide, by decide⟩ rfl ?_
  intro t4 e4 hX5
  have hT15 : TL 15 w t4 := by rw [e4]; exact ((hT12.one (by decide) (by decide)).one (by decide) (by decide)).one (by decide) (by decide)
  clear e4
  refine x_aload_n 208 (xd DX9_init rfl) rfl rfl ?_
  refine x_bipush 210 (xd DX9_init rfl) rfl rfl ?_
  refine x_iconst 211 (xd DX9_init rfl) rfl ?_
  refine x_bipush 213 (xd DX9_init rfl) rfl rfl ?_
  refine x_iconst 214 (xd DX9_init rfl) rfl ?_
  refine x_bipush 216 (xd DX9_init rfl) rfl rfl ?_
  refine x_bipush 218 (xd DX9_init rfl) rfl rfl ?_
  refine x_Vv0 221 (pX9_told (97) (5) (115) (0) (97) (9) (by rw [hT15.1]; omega)) FX9_told VX9_told CX9_56 (xd DX9_init rfl) rfl rfl rfl ⟨by decide, rfl⟩ ⟨by decide, by decide⟩ (by decide) (Nat.le_of_ble_eq_true rfl) rfl (by decide) hX5 ⟨by decide, by decide⟩ rfl ?_
  intro t5 e5 hX6
  have hT18 : TL 18 w t5 := by rw [e5]; exact ((hT15.one (by decide) (by decide)).one (by decide) (by decide)).one (by decide) (by decide)
  clear e5
  refine x_aload_n 222 (xd DX9_init rfl) rfl rfl ?_
  refine x_bipush 224 (xd DX9_init rfl) rfl rfl ?_
  refine x_iconst 225 (xd DX9_init rfl) rfl ?_
  refine x_bipush 227 (xd DX9_init rfl) rfl rfl ?_
  refine x_iconst 228 (xd DX9_init rfl) rfl ?_
  refine x_bipush 230 (xd DX9_init rfl) rfl rfl ?_
  refine x_iconst 231 (xd DX9_init rfl) rfl ?_
  refine x_Vv0 234 (pX9_told (109) (2) (115) (1) (119) (2) (by rw [hT18.1]; omega)) FX9_told VX9_told CX9_56 (xd DX9_init rfl) rfl rfl rfl ⟨by decide, rfl⟩ ⟨by decide, by decide⟩ (by decide) (Nat.le_of_ble_eq_true rfl) rfl (by decide) hX6 ⟨by decide, by decide⟩ rfl ?_
  intro t6 e6 hX7
  have hT21 : TL 21 w t6 := by rw [e6]; exact ((hT18.one (by decide) (by decide)).one (by decide) (by decide)).one (by decide) (by decide)
  clear e6
  refine x_aload_n 235 (xd DX9_init rfl) rfl rfl ?_
  refine x_bipush 237 (xd DX9_init rfl) rfl rfl ?_
  refine x_iconst 238 (xd DX9_init rfl) rfl ?_
  refine x_bipush 240 (xd DX9_init rfl) rfl rfl ?_
  refine x_bipush 242 (xd DX9_init rfl) rfl rfl ?_
  refine x_bipush 244 (xd DX9_init rfl) rfl rfl ?_
  refine x_iconst 245 (xd DX9_init rfl) rfl ?_
  refine x_Vv0 248 (pX9_told (108) (0) (122) (26) (120) (1) (by rw [hT21.1]; omega)) FX9_told VX9_told CX9_56 (xd DX9_init rfl) rfl rfl rfl ⟨by decide, rfl⟩ ⟨by decide, by decide⟩ (by decide) (Nat.le_of_ble_eq_true rfl) rfl (by decide) hX7 ⟨by decide, by decide⟩ rfl ?_
  intro t7 e7 hX8
  have hT24 : TL 24 w t7 := by rw [e7]; exact ((hT21.one (by decide) (by decide)).one (by decide) (by decide)).one (by decide) (by decide)
  clear e7
  refine x_aload_n 249 (xd DX9_init rfl) rfl rfl ?_
  refine x_bipush 251 (xd DX9_init rfl) rfl rfl ?_
  refine x_iconst 252 (xd DX9_init rfl) rfl ?_
  refine x_bipush 254 (xd DX9_init rfl) rfl rfl ?_
  refine x_bipush 256 (xd DX9_init rfl) rfl rfl ?_
  refine x_bipush 258 (xd DX9_init rfl) rfl rfl ?_
  refine x_bipush 260 (xd DX9_init rfl) rfl rfl ?_
  refine x_Vv0 263 (pX9_told (115) (0) (106) (16) (104) (-4) (by rw [hT24.1]; omega)) FX9_told VX9_told CX9_56 (xd DX9_init rfl) rfl rfl rfl ⟨by decide, rfl⟩ ⟨by decide, by decide⟩ (by decide) (Nat.le_of_ble_eq_true rfl) rfl (by decide) hX8 ⟨by decide, by decide⟩ rfl ?_
  intro t8 e8 hX9
  have hT27 : TL 27 w t8 := by rw [e8]; exact ((hT24.one (by decide) (by decide)).one (by decide) (by decide)).one (by decide) (by decide)
  clear e8
  refine x_aload_n 264 (xd DX9_init rfl) rfl rfl ?_
  obtain ⟨tn, tr, tc, t9⟩ := hT27
  obtain ⟨b1, b2, b3, b4, b5, b6, b7, b8, b9, b10, b11, b12⟩ := hB
  have t266 : t8 266 = w 266 := tc 266 (by decide) (by decide) (by decide)
  have t267 : t8 267 = w 267 := tc 267 (by decide) (by decide) (by decide)
  refine x_Vv0 267 (pX9_begin h b1 b3 (by rw [tn, b4]; rfl) (fun k q => by rw [b4] at q; rw [(tr k (by omega)).1, (tr k (by omega)).2, (b5 k (by omega)).1, (b5 k (by omega)).2]; exact ⟨rfl, rfl⟩) b6 b7 (by rw [t266, w266, b8]; decide) (by rw [t266, w266, b9]; decide) (fun j p q => by rw [t266, w266]; (repeat' split) <;> decide) (fun j p q => by rw [t267, w267]; decide)) FX9_begin VX9_begin CX9_60 (xd DX9_init rfl) rfl rfl rfl ⟨by decide, rfl⟩ ⟨by decide, by decide⟩ (by decide) (Nat.le_of_ble_eq_true rfl) rfl (by decide) hX9 ⟨by decide, by decide⟩ rfl ?_
  rintro z ⟨z1, z2, z3, z4⟩ hXz
  refine x_return (xd DX9_init rfl) rfl rfl ⟨rfl, rfl, hXz, ?_⟩
  refine INV.mk2 b1 b2 z1 ⟨?_, fun j p q => ?_⟩ (RR.no b10 z2) (fun c q => ?_)
  · rw [z4 0 (by decide) (by decide) (by decide), t9 0 (by decide), b11]
    exact wr 0 (by decide)
  · rw [b11] at q
    omega
  · rw [z3 c (by unfold SBn; omega), tc c (by omega) (by omega) (by omega), wlo c q]
