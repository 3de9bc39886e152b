/-! SqueezedCodeModel: note, add, drop, gain -/
def RH (g h : XH) : Prop := h 259 11 = g 34 1 ∧ ∀ k : Nat, (k : Int) < g 34 1 → RTs g (36 + 26 * k) (h 267) (83 * k)
def BRg (h : XH) : Prop := ∀ j, 0 ≤ j → j < 498 → xrg (h 267 j)
/-- code, table, cover, history -/
def MG (g h : XH) : Prop := GH g h ∧ RC g h ∧ HW g ∧ RH g h ∧ BRg h
def SM (c : Nat) : Prop := c = 259 ∨ (266 ≤ c ∧ c ≤ 270)
def SN (c : Nat) : Prop := c = 266 ∨ (268 ≤ c ∧ c ≤ 270)
def Chd (g' h h' : XH) : Prop := MG g' h' ∧ h' 259 15 = 0 ∧ Off SM h h' ∧ h' 259 0 = h 259 0
def Kp (g h h' : XH) : Prop := MG g h' ∧ Off SN h h'
theorem GH.tab {g h h' : XH} (hG : GH g h) (hO : Off (fun c => c = 266 ∨ c = 268 ∨ c = 269) h h') (hk : ∀ j, j < 83 → h' 266 j = h 266 j) (hT : TRg h') : GH g h' := by
  have h8 := hG.2.1.1
  obtain ⟨a1, a2, a3, a4, a5, -⟩ := hG
  exact ⟨a1, a2, a3, a4.mv (by rw [hO _ (by decide)]) (hO _ (by decide)) (hO _ (by decide)) (hO _ (by decide)), ⟨by rw [hk _ (by omega)]; exact a5.1, by rw [hk _ (by omega)]; exact a5.2.1, by rw [hk _ (by omega)]; exact a5.2.2.1, fun e he => (a5.2.2.2 e he).mv (fun x a b => hk _ (by omega))⟩, hT⟩
theorem RH.mv {g h h' : XH} (hR : RH g h) (h0 : h' 259 11 = h 259 11) (h7 : h' 267 = h 267) : RH g h' := by
  unfold RH
  rw [h0, h7]
  exact hR
theorem RC.mv {g h h' : XH} (hR : RC g h) (h9 : h' 269 = h 269) (h0 : h' 270 = h 270) : RC g h' := by
  unfold RC
  rw [h9, h0]
  exact hR
theorem BRg.mv {h h' : XH} (hR : BRg h) (h7 : h' 267 = h 267) : BRg h' := by
  unfold BRg
  rw [h7]
  exact hR
/-- what only the aside and the cover changed -/
theorem MG.keep {g h h' : XH} (hM : MG g h) (hO : Off SN h h') (hG : GH g h') (hR : RC g h') : Kp g h h' := ⟨⟨hG, hR, hM.2.2.1, hM.2.2.2.1.mv (by rw [hO _ (by unfold SN; omega)]) (hO _ (by unfold SN; omega)), hM.2.2.2.2.mv (hO _ (by unfold SN; omega))⟩, hO⟩
theorem MG.keep0 {g h h' : XH} (hM : MG g h) (hO : Off (fun c => c = 266) h h') (hk : ∀ j, j < 83 → h' 266 j = h 266 j) (hT : TRg h') : Kp g h h' := hM.keep (hO.mono (fun c q => Or.inl q)) (hM.1.tab (hO.mono (fun c q => Or.inl q)) hk hT) (hM.2.1.mv (hO _ (by decide)) (hO _ (by decide)))
/-- the history with one more -/
def ntU (h : XH) : Int := if h 259 11 = 6 then 5 else h 259 11
def Noted (h h' : XH) : Prop := Off (fun c => c = 259 ∨ c = 267) h h' ∧ (∀ j, j ≠ 11 → j ≠ 15 → h' 259 j = h 259 j) ∧ h' 259 11 = ntU h + 1 ∧ h' 259 15 = 0 ∧ (∀ x, 0 ≤ x → x < 83 → h' 267 (83 * ntU h + x) = h 266 x) ∧ (∀ j, 0 ≤ j → j < 83 * ntU h → h' 267 j = h 267 (if h 259 11 = 6 then 83 + j else j)) ∧ BRg h'
theorem Noted.rh {g g' h h' : XH} (hN : Noted h h') (hW : HW g) (hS : SW g 8) (hR : RH g h) (hT : RT g h) (hK : KeptR g g') : RH g' h' := by
  obtain ⟨-, -, n1, -, n2, n3, -⟩ := hN
  obtain ⟨k1, k2, k3⟩ := hK
  have w1 := hW.1
  unfold ntU at *
  rw [hR.1] at *
  have e1 : h' 259 11 = g' 34 1 := by rw [n1, k1]; split <;> rfl
  refine ⟨e1, fun k hk => ?_⟩
  by_cases y : (k : Int) < g' 34 1 - 1
  · refine RTs.eq ?_ (k2 k y)
    by_cases c6 : g 34 1 = 6
    · rw [if_pos c6] at *
      have := hR.2 (k + 1) (by omega)
      refine this.mv (hW.2 (k + 1) (by omega)).1.2 (fun x a b => ?_)
      rw [n3 _ (by omega) (by omega), if_pos c6]
      congr 1
      omega
    · rw [if_neg c6] at *
      have := hR.2 k (by omega)
      refine this.mv (hW.2 k (by omega)).1.2 (fun x a b => ?_)
      rw [n3 _ (by omega) (by omega), if_neg c6]
  · have ek : (g' 34 1 - 1).toNat = k := by omega
    rw [ek] at k3
    refine RTs.eq ?_ k3
    refine hT.s.mv hS.1.2 (fun x a b => ?_)
    rw [show (83 * (k : Int)) = 83 * (if g 34 1 = 6 then 5 else g 34 1) by split <;> (rename_i q; first | rw [if_pos q] at k1 | rw [if_neg q] at k1) <;> omega, n2 x a b, Int.zero_add]
set_option maxRecDepth 100000 in
set_option maxHeartbeats 4000000 in
theorem pX9_note {K : XK} {n : Nat} {h : XH} (h6m : 0 ≤ h 259 11 ∧ h 259 11 ≤ 6) (hT : TRg h) (hB : BRg h) : MV K mX9_note 0 n [vr 259] h (fun h' => Noted h h') := by
  refine xMeth FX9_note (Nat.le_of_ble_eq_true rfl) ?_
  have part2 : ∀ (xu : Int) (xq : XH), (0 ≤ xu ∧ xu ≤ 5) → xq 259 11 = xu → xu = ntU h → Off (fun c => c = 259 ∨ c = 267) h xq → (∀ j, j ≠ 11 → xq 259 j = h 259 j) → (∀ j, 0 ≤ j → j < 83 * xu → xq 267 j = h 267 (if h 259 11 = 6 then 83 + j else j)) → BRg xq → WI K mX9_note 0 n (qV n (fun h' => Noted h h')) 51 [(0, vr 259), (1, vi 0)] [] xq := by
    intro xu xq hu p2 p3 p1 p4 p5 p6
    have loop2 : ∀ (f : Nat) (xk : Int) (xg : XH), 0 ≤ xk → xk ≤ 83 → 83 - xk < (f : Int) → Off (fun c => c = 267) xq xg → (∀ j, xg 267 j = if 83 * xu ≤ j ∧ j < 83 * xu + xk then h 266 (j - 83 * xu) else xq 267 j) → WI K mX9_note 0 n (qV n (fun h' => Noted h h')) 51 [(0, vr 259), (1, vi xk)] [] xg := by
      intro f
      induction f with
      | zero => intro xk xg a b c; exact absurd c (by omega)
      | succ f ih =>
        intro xk xg h0 h1 hf hO hI
        have e11 : xg 259 11 = xu := by rw [hO 259 (by decide)]; exact p2
        refine x_iload_n 52 (xd DX9_note rfl) rfl rfl ?_
        refine x_bipush 54 (xd DX9_note rfl) rfl rfl ?_
        refine x_icmp_ge 57 83 (xd DX9_note rfl) rfl (by omega) (by omega) rfl (fun c54 => ?_) (fun c54 => ?_)
        · have e83 : xk = 83 := by omega
          subst e83
          refine x_aload_n 84 (xd DX9_note rfl) rfl rfl ?_
          refine x_dupr 85 (xd DX9_note rfl) rfl ?_
          refine x_gi 88 11 rfl LX9_106 (xd DX9_note rfl) rfl ⟨Or.inr ⟨rfl, by decide⟩, by decide⟩ rfl ?_
          refine x_iconst 89 (xd DX9_note rfl) rfl ?_
          refine x_iadd 90 (xd DX9_note rfl) rfl ?_
          refine x_pi 93 11 rfl LX9_106 (xd DX9_note rfl) rfl rfl ⟨Or.inr ⟨rfl, by decide⟩, by decide⟩ rfl ?_
          refine x_aload_n 94 (xd DX9_note rfl) rfl rfl ?_
          refine x_iconst 95 (xd DX9_note rfl) rfl ?_
          refine x_pz 98 15 rfl LX9_109 (xd DX9_note rfl) rfl rfl ⟨Or.inr ⟨rfl, by decide⟩, by decide⟩ (by omega) rfl ?_
          refine x_rv (xd DX9_note rfl) rfl ?_
          have e11 : xg 259 11 = xu := by rw [hO 259 (by decide)]; exact p2
          refine ⟨fun c hc => ?_, fun j j1 j2 => ?_, ?_, ?_, fun x a b => ?_, fun j a b => ?_, fun j a b => ?_⟩
          · rw [hset_c (by omega), hset_c (by omega), hO c (by omega)]; exact p1 c hc
          · rw [hset_i j2, hset_i j1, hO 259 (by decide)]; exact p4 j j1
          · rw [hset_i (by decide), hset_s, e11, p3]
          · rw [hset_s]
          · rw [hset_c (by decide), hset_c (by decide), hI, ← p3, if_pos (by omega)]
            congr 1
            omega
          · rw [hset_c (by decide), hset_c (by decide), hI, if_neg (by omega)]
            exact p5 j a (by rw [p3]; exact b)
          · rw [hset_c (by decide), hset_c (by decide), hI]
            split
            · exact hT _ (by omega) (by omega)
            · by_cases y : j < 83 * xu
              · rw [p5 j a y]; exact hB _ (by split <;> omega) (by split <;> omega)
              · exact p6 j (by omega) b
        · have e11 : xg 259 11 = xu := by rw [hO 259 (by decide)]; exact p2
          refine x_aload_n 58 (xd DX9_note rfl) rfl rfl ?_
          refine x_gr 61 _ LX9_31 (xd DX9_note rfl) rfl rfl ⟨by decide, by decide⟩ (by decide) rfl rfl ?_
          refine x_bipush 63 (xd DX9_note rfl) rfl rfl ?_
          refine x_aload_n 64 (xd DX9_note rfl) rfl rfl ?_
          refine x_gi 67 11 rfl LX9_106 (xd DX9_note rfl) rfl ⟨Or.inr ⟨rfl, by decide⟩, by decide⟩ rfl ?_
          refine x_imul 68 (xd DX9_note rfl) rfl ?_
          refine x_iload_n 69 (xd DX9_note rfl) rfl rfl ?_
          refine x_iadd 70 (xd DX9_note rfl) rfl ?_
          refine x_aload_n 71 (xd DX9_note rfl) rfl rfl ?_
          refine x_gr 74 _ LX9_28 (xd DX9_note rfl) rfl rfl ⟨by decide, by decide⟩ (by decide) rfl rfl ?_
          refine x_iload_n 75 (xd DX9_note rfl) rfl rfl ?_
          refine x_iaload 76 (xd DX9_note rfl) rfl ⟨Or.inr ⟨rfl, by decide⟩, by decide⟩ (by decide) (by omega) (by omega) rfl ?_
          refine x_iastore 77 (xd DX9_note rfl) rfl ⟨Or.inr ⟨rfl, by decide⟩, by decide⟩ (by decide) (by omega) (by omega) rfl ?_
          refine x_iinc 80 (L' := [(0, _), (1, _)]) (xd DX9_note rfl) rfl (by decide) rfl rfl rfl ?_
          refine x_goto 51 (xd DX9_note rfl) rfl ?_
          refine ih (xk + 1) _ (by omega) (by omega) (by omega) (hO.tr (Off.set rfl)) (fun j => ?_)
          rw [e11, hset_at]
          by_cases q : j = 83 * xu + xk
          · rw [if_pos q, if_pos (by omega), hO 266 (by decide), p1 266 (by omega), show j - 83 * xu = xk by omega]
          · rw [if_neg q, hI]
            by_cases y : 83 * xu ≤ j ∧ j < 83 * xu + xk
            · rw [if_pos y, if_pos (by omega)]
            · rw [if_neg y, if_neg (by omega)]
    exact loop2 90 0 xq (by omega) (by omega) (by omega) Off.rf (fun j => by rw [if_neg (by omega)])
  have loop1 : h 259 11 = 6 → ∀ (f : Nat) (xk : Int) (xg : XH), 0 ≤ xk → xk ≤ 415 → 415 - xk < (f : Int) → Off (fun c => c = 267) h xg → (∀ j, xg 267 j = if 0 ≤ j ∧ j < xk then h 267 (83 + j) else h 267 j) → WI K mX9_note 0 n (qV n (fun h' => Noted h h')) 11 [(0, vr 259), (1, vi xk)] [] xg := by
    intro h6 f
    induction f with
    | zero => intro xk xg a b c; exact absurd c (by omega)
    | succ f ih =>
      intro xk xg h0 h1 hf hO hI
      refine x_iload_n 12 (xd DX9_note rfl) rfl rfl ?_
      refine x_sipush 15 (xd DX9_note rfl) rfl rfl ?_
      refine x_icmp_ge 18 39 (xd DX9_note rfl) rfl (by omega) (by omega) rfl (fun c15 => ?_) (fun c15 => ?_)
      · have e415 : xk = 415 := by omega
        subst e415
        refine x_aload_n 40 (xd DX9_note rfl) rfl rfl ?_
        refine x_dupr 41 (xd DX9_note rfl) rfl ?_
        refine x_gi 44 11 rfl LX9_106 (xd DX9_note rfl) rfl ⟨Or.inr ⟨rfl, by decide⟩, by decide⟩ rfl ?_
        refine x_iconst 45 (xd DX9_note rfl) rfl ?_
        refine x_isub 46 (xd DX9_note rfl) rfl ?_
        refine x_pi 49 11 rfl LX9_106 (xd DX9_note rfl) rfl rfl ⟨Or.inr ⟨rfl, by decide⟩, by decide⟩ rfl ?_
        refine x_iconst 50 (xd DX9_note rfl) rfl ?_
        refine x_istore_n 51 (L' := [(0, _), (1, _)]) (xd DX9_note rfl) (by decide) rfl rfl rfl ?_
        refine part2 5 (hset xg 259 11 (xg 259 11 - 1)) (by omega) (by rw [hset_s, hO 259 (by decide)]; omega) (by unfold ntU; rw [if_pos h6]) (fun c hc => ?_) (fun j hj => ?_) (fun j h0 hj => ?_) (fun j a b => ?_)
        · rw [hset_c (by omega)]; exact hO c (by omega)
        · rw [hset_i hj, hO 259 (by decide)]
        · rw [hset_c (by decide), hI, if_pos ⟨h0, by omega⟩, if_pos h6]
        · rw [hset_c (by decide), hI]
          split <;> exact hB _ (by omega) (by omega)
      · refine x_aload_n 19 (xd DX9_note rfl) rfl rfl ?_
        refine x_gr 22 _ LX9_31 (xd DX9_note rfl) rfl rfl ⟨by decide, by decide⟩ (by decide) rfl rfl ?_
        refine x_iload_n 23 (xd DX9_note rfl) rfl rfl ?_
        refine x_aload_n 24 (xd DX9_note rfl) rfl rfl ?_
        refine x_gr 27 _ LX9_31 (xd DX9_note rfl) rfl rfl ⟨by decide, by decide⟩ (by decide) rfl rfl ?_
        refine x_bipush 29 (xd DX9_note rfl) rfl rfl ?_
        refine x_iload_n 30 (xd DX9_note rfl) rfl rfl ?_
        refine x_iadd 31 (xd DX9_note rfl) rfl ?_
        refine x_iaload 32 (xd DX9_note rfl) rfl ⟨Or.inr ⟨rfl, by decide⟩, by decide⟩ (by decide) (by omega) (by omega) rfl ?_
        refine x_iastore 33 (xd DX9_note rfl) rfl ⟨Or.inr ⟨rfl, by decide⟩, by decide⟩ (by decide) (by omega) (by omega) rfl ?_
        refine x_iinc 36 (L' := [(0, _), (1, _)]) (xd DX9_note rfl) rfl (by decide) rfl rfl rfl ?_
        refine x_goto 11 (xd DX9_note rfl) rfl ?_
        refine ih (xk + 1) _ (by omega) (by omega) (by omega) (hO.tr (Off.set rfl)) (fun j => ?_)
        rw [hset_at]
        by_cases q : j = xk
        · rw [if_pos q, hI, if_neg (by omega), if_pos (by omega), q]
        · rw [if_neg q, hI]
          by_cases y : 0 ≤ j ∧ j < xk
          · rw [if_pos y, if_pos (by omega)]
          · rw [if_neg y, if_neg (by omega)]
  refine x_aload_n 1 (xd DX9_note rfl) rfl rfl ?_
  refine x_gi 4 11 rfl LX9_106 (xd DX9_note rfl) rfl ⟨Or.inr ⟨rfl, by decide⟩, by decide⟩ rfl ?_
  refine x_bipush 6 (xd DX9_note rfl) rfl rfl ?_
  refine x_icmp_ne 9 49 (xd DX9_note rfl) rfl (by omega) (by omega) rfl (fun c6 => ?_) (fun c6 => ?_)
  · refine x_iconst 50 (xd DX9_note rfl) rfl ?_
    refine x_istore_n 51 (L' := [(0, _), (1, _)]) (xd DX9_note rfl) (by decide) rfl rfl rfl ?_
    exact part2 (h 259 11) h (by omega) rfl (by unfold ntU; rw [if_neg c6]) Off.rf (fun j hj => rfl) (fun j a b => by rw [if_neg c6]) hB
  · have h6 : h 259 11 = 6 := by omega
    refine x_iconst 10 (xd DX9_note rfl) rfl ?_
    refine x_istore_n 11 (L' := [(0, _), (1, _)]) (xd DX9_note rfl) (by decide) rfl rfl rfl ?_
    exact loop1 (by omega) 420 0 h (by omega) (by omega) (by omega) Off.rf (fun j => by rw [if_neg (by omega)])

