/-! SqueezedCodeModel: cover -/
theorem cwB_bst {g : XH} {p : Prop} {f : Int → Int} {i : Int} : ∀ k : Nat, (k : Int) ≤ g 8 1 → cwB g p f i k = bst g f i k := by
  intro k
  induction k with
  | zero => intro _; rfl
  | succ k ih =>
    intro hk
    have e1 : cwc g k = 10 + 3 * k := by unfold cwc; rw [if_pos (by omega)]
    have e2 : cwe g k = (k : Int) := by unfold cwe; rw [if_pos (by omega)]
    have e3 : cwq g p k := Or.inl (by omega)
    rw [cwB_s, ih (by omega), e1, e2]
    unfold cwv
    rw [e1]
    by_cases q : Mt g (10 + 3 * k) i ∧ kRef (g (10 + 3 * k) 3) + f (i + g (10 + 3 * k) 2) < (bst g f i k).1
    · rw [pik_t ⟨e3, q⟩]
      exact (pik_t q _ _).symm
    · rw [pik_f (fun z => q z.2)]
      exact (pik_f q _ _).symm
theorem cwB_no {g : XH} {p : Prop} {f : Int → Int} {i : Int} (h8 : 0 ≤ g 8 1) (hp : ¬ p) : cwB g p f i ((g 8 1).toNat + 1) = bst g f i (g 8 1).toNat := by
  rw [cwB_s, pik_f (fun q => q.1.elim (fun z => by omega) hp), cwB_bst _ (by omega)]
theorem bst_tb {h : XH} {fw fw' : Int → Int} {i : Int} (hi : i < h 4 3) (hf : ∀ j, i < j → j ≤ h 4 3 → fw j = fw' j) : ∀ e : Nat, (∀ x : Nat, x < e → 2 ≤ h (10 + 3 * x) 2) → bst h fw i e = bst h fw' i e
  | 0, _ => by
    unfold bst
    rw [hf (i + 1) (by omega) (by omega)]
  | e + 1, hx => by
    unfold bst
    have h2 := hx e (by omega)
    rw [bst_tb hi hf e (fun x q => hx x (by omega))]
    by_cases q : Mt h (10 + 3 * e) i
    · rw [hf (i + h (10 + 3 * e) 2) (by omega) (by have := q.2.2.1; omega)]
    · rw [pik_f (fun z => q z.1), pik_f (fun z => q z.1)]
/-- without the aside the reference's rows are the class's -/
theorem CwE.few {g x : XH} {p : Prop} (hS : SW g 8) (hL : LY g) (hp : ¬ p) (hC : CwE g p x 0) : ∀ j, 0 ≤ j → j < g 4 3 → x 269 j = g 244 j := by
  have hE : ∀ y : Nat, y < (g 8 1).toNat → 2 ≤ g (10 + 3 * y) 2 := fun y hy => (hS.ew (by omega)).1.1
  have key : ∀ (d : Nat) (j : Int), 0 ≤ j → j ≤ g 4 3 → g 4 3 - j ≤ d → ∀ y, j ≤ y → y ≤ g 4 3 → x 268 y = g 243 y := by
    intro d
    induction d with
    | zero =>
      intro j a b c y d e
      rw [show y = g 4 3 by omega, hC.1, hL.2.2.2.1]
    | succ d ih =>
      intro j a b c y d e
      by_cases e1 : y = g 4 3
      · rw [e1, hC.1, hL.2.2.2.1]
      · have h1 := (hC.2.1 y (by omega) (by omega)).1
        rw [cwB_no hS.1.1 hp] at h1
        have h2 := (hL.2.2.2.2.1 y (by omega) (by omega)).1
        rw [h1, h2]
        rw [bst_tb (by omega) (fun w u v => ih (y + 1) (by omega) (by omega) (by omega) w (by omega) v) _ hE]
  intro j a b
  have h1 := (hC.2.1 j a b).2
  rw [cwB_no hS.1.1 hp] at h1
  rw [h1, (hL.2.2.2.2.1 j a b).2.1]
  rw [bst_tb (by omega) (fun w u v => key (g 4 3).toNat 0 (by omega) (by omega) (by omega) w (by omega) v) _ hE]
def RC (g h : XH) : Prop := (∀ j : Nat, (j : Int) < g 4 3 → h 270 j = g 251 j ∧ h 269 j = g 249 j) ∧ h 270 (g 4 3) = g 192 13
def S890 (c : Nat) : Prop := c = 268 ∨ c = 269 ∨ c = 270
def CvI (g h : XH) (x : XH) (a : Nat) : Prop := Off S890 h x ∧ (∀ j : Nat, j < a → x 270 j = g 251 j ∧ x 269 j = g 249 j) ∧ ∀ j : Nat, a ≤ j → (j : Int) < g 4 3 → x 269 j = g 244 j
theorem CvI.one {g h x : XH} {a : Nat} {v : Int} (hI : CvI g h x a) (ha : (a : Int) < g 4 3) (hv : v = g 251 a) (hw : g 249 a = g 244 a) : CvI g h (hset x 270 a v) (a + 1) := by
  refine ⟨hI.1.tr (Off.set (by unfold S890; omega)), fun j hj => ?_, fun j hj hn => by rw [hset_c (by decide)]; exact hI.2.2 j (by omega) hn⟩
  by_cases e : j = a
  · subst e
    rw [hset_s, hset_c (by decide), hw]
    exact ⟨hv, hI.2.2 j (by omega) ha⟩
  · rw [hset_i (by omega), hset_c (by decide)]
    exact hI.2.1 j (by omega)
theorem CvI.two {g h x : XH} {a : Nat} {v w : Int} (hI : CvI g h x a) (hv : v = g 251 a) (hw : w = g 249 a) : CvI g h (hset (hset x 270 a v) 269 a w) (a + 1) := by
  refine ⟨(hI.1.tr (Off.set (by unfold S890; omega))).tr (Off.set (by unfold S890; omega)), fun j hj => ?_, fun j hj hn => by rw [hset_i (by omega), hset_c (by decide)]; exact hI.2.2 j (by omega) hn⟩
  by_cases e : j = a
  · subst e
    rw [hset_c (by decide), hset_s, hset_s]
    exact ⟨hv, hw⟩
  · rw [hset_c (by decide), hset_i (by omega), hset_i (by omega)]
    exact hI.2.1 j (by omega)
theorem PF.of {g : XH} (hL : LY g) {j : Nat} (hj : (j : Int) < g 4 3) : g 249 j = (csN g (j + 1)).1 ∧ g 251 j = (if (csN g j).2.2.1 = 0 then (csN g j).2.2.2 else -4) := ⟨(hL.2.2.2.2.2.2.2.1 j hj).1, (hL.2.2.2.2.2.2.2.1 j hj).2.2.1⟩
/-- behind the head of a reference or an instruction by itself: which one, how many are left, the nibbles -/
theorem csN_own {g : XH} {i : Nat} (h0 : (csN g i).2.2.1 = 0) (hn : g 244 i < 0) : (csN g (i + 1)).1 = g 244 i ∧ (csN g (i + 1)).2.2.1 = 0 ∧ (csN g (i + 1)).2.2.2 = (csN g i).2.2.2 + kOwn (g 5 i) := by
  rw [csN_s, if_pos h0, if_pos hn]
  exact ⟨rfl, rfl, rfl⟩
theorem csN_ref {g : XH} {i : Nat} (h0 : (csN g i).2.2.1 = 0) (hn : ¬ g 244 i < 0) : (csN g (i + 1)).1 = g 244 i ∧ (csN g (i + 1)).2.2.1 = g (10 + 3 * (g 244 i).toNat) 2 - 1 ∧ (csN g (i + 1)).2.2.2 = (csN g i).2.2.2 + kRef (g (10 + 3 * (g 244 i).toNat) 3) := by
  rw [csN_s, if_pos h0, if_neg hn]
  exact ⟨rfl, rfl, rfl⟩
theorem csN_in {g : XH} {i : Nat} (h0 : (csN g i).2.2.1 ≠ 0) : (csN g (i + 1)).1 = (csN g i).1 ∧ (csN g (i + 1)).2.2.1 = (csN g i).2.2.1 - 1 ∧ (csN g (i + 1)).2.2.2 = (csN g i).2.2.2 := by
  rw [csN_s, if_neg h0]
  exact ⟨rfl, rfl, rfl⟩
set_option maxRecDepth 100000 in
set_option maxHeartbeats 4000000 in
theorem pX9_cover {K : XK} {n : Nat} {h : XH} (g : XH) (hG : GH g h) : MV K mX9_cover 4 n [vr 259] h (fun h' => Off S890 h h' ∧ RC g h') := by
  refine xMeth FX9_cover (Nat.le_of_ble_eq_true rfl) ?_
  have hL := hG.2.2.1
  have hP1 := hG.1.1
  have h81 := hG.2.1.1
  have hPK := FB_PK hG.2.1.1 hL.2.2.2.2.1
  have loop : ∀ (f : Nat) (xi : Nat) (xat : Int) (xg : XH), (xi : Int) ≤ g 4 3 → g 4 3 - (xi : Int) < (f : Int) → CvI g h xg xi → (csN g xi).2.2.1 = 0 → xat = (csN g xi).2.2.2 → WI K mX9_cover 4 n (qV n (fun h' => Off S890 h h' ∧ RC g h')) 10 [(0, vr 259), (1, vi xat), (2, vi (xi : Int))] [] xg := by
    intro f
    induction f with
    | zero => intro xi xat xg a b; exact absurd b (by omega)
    | succ f ih =>
      intro xi xat xg h0 hf hI hc0 hat
      have hGx : GH g xg := hG.off hI.1 (by unfold S890; omega) (by unfold S890; omega) (by unfold S890; omega) (by unfold S890; omega) (by unfold S890; omega)
      have hNx := hGx.n
      have inner : ∀ (fk : Nat) (xb : Int) (xg : XH) (xk xn : Nat), 1 ≤ xk → xk ≤ xn → xn - xk < fk → (xi : Int) + xn ≤ g 4 3 → (xn : Int) ≤ 4 → CvI g h xg (xi + xk) → xg 269 (xi : Int) = g 244 (xi : Int) → (csN g (xi + xk)).1 = g 244 (xi : Int) → (csN g (xi + xk)).2.2.1 = (xn : Int) - xk → (csN g (xi + xk)).2.2.2 = xb → WI K mX9_cover 4 n (qV n (fun h' => Off S890 h h' ∧ RC g h')) 94 [(0, vr 259), (1, vi xb), (2, vi (xi : Int)), (3, vi (xn : Int)), (4, vi (xk : Int))] [] xg := by
        intro fk
        induction fk with
        | zero => intro xb xg xk xn a b c; exact absurd c (by omega)
        | succ fk ihk =>
          intro xb xg xk xn a1 a2 a3 a4 a5 hIk hx244 hc1 hc2 hc3
          refine x_iload 96 (xd DX9_cover rfl) rfl rfl ?_
          refine x_iload_n 97 (xd DX9_cover rfl) rfl rfl ?_
          refine x_icmp_ge 100 132 (xd DX9_cover rfl) rfl (by omega) (by omega) rfl (fun c97 => ?_) (fun c97 => ?_)
          · have ek : xk = xn := by omega
            subst ek
            refine x_iload_n 133 (xd DX9_cover rfl) rfl rfl ?_
            refine x_iload_n 134 (xd DX9_cover rfl) rfl rfl ?_
            refine x_iadd 135 (xd DX9_cover rfl) rfl ?_
            refine x_istore_n 136 (L' := [(0, _), (1, _), (2, _), (3, _), (4, _)]) (xd DX9_cover rfl) (by decide) rfl rfl rfl ?_
            refine x_goto 10 (xd DX9_cover rfl) rfl ?_
            refine WX.locals (L' := [(0, _), (1, _), (2, _)]) (fun q hq => List.mem_append_left _ hq) ?_
            exact ih (xi + xk) _ _ (by omega) (by omega) hIk (by rw [hc2]; omega) hc3.symm
          · refine x_aload_n 101 (xd DX9_cover rfl) rfl rfl ?_
            refine x_gr 104 _ LX9_40 (xd DX9_cover rfl) rfl rfl ⟨by decide, by decide⟩ (by decide) rfl rfl ?_
            refine x_iload_n 105 (xd DX9_cover rfl) rfl rfl ?_
            refine x_iload 107 (xd DX9_cover rfl) rfl rfl ?_
            refine x_iadd 108 (xd DX9_cover rfl) rfl ?_
            refine x_bipush 110 (xd DX9_cover rfl) rfl rfl ?_
            refine x_iastore 111 (xd DX9_cover rfl) rfl ⟨Or.inr ⟨rfl, by decide⟩, by decide⟩ (by decide) (by omega) (by omega) rfl ?_
            refine x_aload_n 112 (xd DX9_cover rfl) rfl rfl ?_
            refine x_gr 115 _ LX9_37 (xd DX9_cover rfl) rfl rfl ⟨by decide, by decide⟩ (by decide) rfl rfl ?_
            refine x_iload_n 116 (xd DX9_cover rfl) rfl rfl ?_
            refine x_iload 118 (xd DX9_cover rfl) rfl rfl ?_
            refine x_iadd 119 (xd DX9_cover rfl) rfl ?_
            refine x_aload_n 120 (xd DX9_cover rfl) rfl rfl ?_
            refine x_gr 123 _ LX9_37 (xd DX9_cover rfl) rfl rfl ⟨by decide, by decide⟩ (by decide) rfl rfl ?_
            refine x_iload_n 124 (xd DX9_cover rfl) rfl rfl ?_
            refine x_iaload 125 (xd DX9_cover rfl) rfl ⟨Or.inr ⟨rfl, by decide⟩, by decide⟩ (by decide) (by omega) (by omega) rfl ?_
            refine x_iastore 126 (xd DX9_cover rfl) rfl ⟨Or.inr ⟨rfl, by decide⟩, by decide⟩ (by decide) (by omega) (by omega) rfl ?_
            refine x_iinc 129 (L' := [(0, _), (1, _), (2, _), (3, _), (4, _)]) (xd DX9_cover rfl) rfl (by decide) rfl rfl rfl ?_
            refine x_goto 94 (xd DX9_cover rfl) rfl ?_
            rw [hset_c (by decide), hx244]
            refine ihk _ _ (xk + 1) xn (by omega) (by omega) (by omega) (by omega) (by omega) ?_ ?_ ?_ ?_ ?_
            · rw [show xi + (xk + 1) = xi + xk + 1 by omega]
              have hpf := PF.of hL (j := xi + xk) (by omega)
              exact hIk.two (by rw [hpf.2, if_neg (by omega)]) (by rw [hpf.1, (csN_in (by omega)).1, hc1])
            · rw [hset_i (by omega), hset_c (by decide)]; exact hx244
            · rw [show xi + (xk + 1) = xi + xk + 1 by omega, (csN_in (by omega)).1]; exact hc1
            · rw [show xi + (xk + 1) = xi + xk + 1 by omega, (csN_in (by omega)).2.1, hc2]; omega
            · rw [show xi + (xk + 1) = xi + xk + 1 by omega, (csN_in (by omega)).2.2]; exact hc3
      refine x_iload_n 11 (xd DX9_cover rfl) rfl rfl ?_
      refine x_aload_n 12 (xd DX9_cover rfl) rfl rfl ?_
      refine x_gi 15 5 rfl LX9_103 (xd DX9_cover rfl) rfl ⟨Or.inr ⟨rfl, by decide⟩, by decide⟩ rfl ?_
      refine x_icmp_ge 18 139 (xd DX9_cover rfl) rfl (by omega) (by omega) rfl (fun c15 => ?_) (fun c15 => ?_)
      · have ei : (xi : Int) = g 4 3 := by omega
        refine x_aload_n 140 (xd DX9_cover rfl) rfl rfl ?_
        refine x_gr 143 _ LX9_40 (xd DX9_cover rfl) rfl rfl ⟨by decide, by decide⟩ (by decide) rfl rfl ?_
        refine x_aload_n 144 (xd DX9_cover rfl) rfl rfl ?_
        refine x_gi 147 5 rfl LX9_103 (xd DX9_cover rfl) rfl ⟨Or.inr ⟨rfl, by decide⟩, by decide⟩ rfl ?_
        refine x_iload_n 148 (xd DX9_cover rfl) rfl rfl ?_
        refine x_iastore 149 (xd DX9_cover rfl) rfl ⟨Or.inr ⟨rfl, by decide⟩, by decide⟩ (by decide) (by omega) (by omega) rfl ?_
        refine x_rv (xd DX9_cover rfl) rfl ?_
        refine ⟨hI.1.tr (Off.set (by unfold S890; omega)), fun j hj => ?_, ?_⟩
        · rw [hNx, hset_i (by omega), hset_c (by decide)]
          exact hI.2.1 j (by omega)
        · rw [hNx, hset_s, hat, show xi = (g 4 3).toNat by omega]
          exact hL.2.2.2.2.2.2.1.symm
      · have hlt : (xi : Int) < g 4 3 := by omega
        have hpk := hI.2.2 xi (Nat.le_refl _) hlt
        have hpkr := hPK.1 (xi : Int) (by omega) (by omega)
        refine x_aload_n 19 (xd DX9_cover rfl) rfl rfl ?_
        refine x_gr 22 _ LX9_37 (xd DX9_cover rfl) rfl rfl ⟨by decide, by decide⟩ (by decide) rfl rfl ?_
        refine x_iload_n 23 (xd DX9_cover rfl) rfl rfl ?_
        refine x_iaload 24 (xd DX9_cover rfl) rfl ⟨Or.inr ⟨rfl, by decide⟩, by decide⟩ (by decide) (by omega) (by omega) rfl ?_
        refine WX.stk (st' := [vi (g 244 (xi : Int))]) (by rw [hpk]) ?_
        refine x_bipush 26 (xd DX9_cover rfl) rfl rfl ?_
        refine x_icmp_ne 29 33 (xd DX9_cover rfl) rfl (by first | decide | (rw [hpk]; omega) | omega) (by first | decide | (rw [hpk]; omega) | omega) rfl (fun c26 => ?_) (fun c26 => ?_)
        · have hpp : 0 ≤ g 244 (xi : Int) ∧ g 244 (xi : Int) < g 8 1 := (hPK.1 (xi : Int) (by omega) (by omega)).resolve_left c26
          have hin : (xi : Int) + g (10 + 3 * (g 244 (xi : Int)).toNat) 2 ≤ g 4 3 := hPK.2 (xi : Int) (by omega) (by omega) hpp.1
          have hMe := hGx.2.2.2.2.1.2.2.2 (g 244 (xi : Int)).toNat (by omega)
          rw [show (((g 244 (xi : Int)).toNat : Nat) : Int) = g 244 (xi : Int) by omega] at hMe
          have hme : mEnt (g 244 (xi : Int)) = 10 * g 244 (xi : Int) := by unfold mEnt; rw [if_pos (by omega)]
          have hEw := hGx.2.1.ew (e := (g 244 (xi : Int)).toNat) (by omega)
          have hEw1 := hEw.1
          refine x_aload_n 34 (xd DX9_cover rfl) rfl rfl ?_
          refine x_gr 37 _ LX9_28 (xd DX9_cover rfl) rfl rfl ⟨by decide, by decide⟩ (by decide) rfl rfl ?_
          refine x_bipush 39 (xd DX9_cover rfl) rfl rfl ?_
          refine x_aload_n 40 (xd DX9_cover rfl) rfl rfl ?_
          refine x_gr 43 _ LX9_37 (xd DX9_cover rfl) rfl rfl ⟨by decide, by decide⟩ (by decide) rfl rfl ?_
          refine x_iload_n 44 (xd DX9_cover rfl) rfl rfl ?_
          refine x_iaload 45 (xd DX9_cover rfl) rfl ⟨Or.inr ⟨rfl, by decide⟩, by decide⟩ (by decide) (by omega) (by omega) rfl ?_
          refine WX.stk (st' := [vi (g 244 (xi : Int)), vi 10, vr 266]) (by rw [hpk]) ?_
          refine x_imul 46 (xd DX9_cover rfl) rfl ?_
          refine x_iaload 47 (xd DX9_cover rfl) rfl ⟨Or.inr ⟨rfl, by decide⟩, by decide⟩ (by decide) (by omega) (by omega) rfl ?_
          refine x_istore_n 48 (L' := [(0, _), (1, _), (2, _), (3, _)]) (xd DX9_cover rfl) (by decide) rfl rfl rfl ?_
          refine x_aload_n 49 (xd DX9_cover rfl) rfl rfl ?_
          refine x_gr 52 _ LX9_40 (xd DX9_cover rfl) rfl rfl ⟨by decide, by decide⟩ (by decide) rfl rfl ?_
          refine x_iload_n 53 (xd DX9_cover rfl) rfl rfl ?_
          refine x_iload_n 54 (xd DX9_cover rfl) rfl rfl ?_
          refine x_iastore 55 (xd DX9_cover rfl) rfl ⟨Or.inr ⟨rfl, by decide⟩, by decide⟩ (by decide) (by omega) (by omega) rfl ?_
          refine x_iload_n 56 (xd DX9_cover rfl) rfl rfl ?_
          refine x_aload_n 57 (xd DX9_cover rfl) rfl rfl ?_
          refine x_gr 60 _ LX9_37 (xd DX9_cover rfl) rfl rfl ⟨by decide, by decide⟩ (by decide) rfl rfl ?_
          refine x_iload_n 61 (xd DX9_cover rfl) rfl rfl ?_
          refine x_iaload 62 (xd DX9_cover rfl) rfl ⟨Or.inr ⟨rfl, by decide⟩, by decide⟩ (by decide) (by omega) (by omega) rfl ?_
          refine WX.stk (st' := [vi (g 244 (xi : Int)), vi xat]) (by rw [hset_c (by decide), hpk]) ?_
          refine x_bipush 64 (xd DX9_cover rfl) rfl rfl ?_
          refine x_icmp_ne 67 79 (xd DX9_cover rfl) rfl (by first | decide | omega | (rw [hset_c (by decide), hpk]; omega)) (by first | decide | omega | (rw [hset_c (by decide), hpk]; omega)) rfl (fun c64 => ?_) (fun c64 => ?_)
          · refine x_aload_n 80 (xd DX9_cover rfl) rfl rfl ?_
            refine x_aload_n 81 (xd DX9_cover rfl) rfl rfl ?_
            refine x_gr 84 _ LX9_37 (xd DX9_cover rfl) rfl rfl ⟨by decide, by decide⟩ (by decide) rfl rfl ?_
            refine x_iload_n 85 (xd DX9_cover rfl) rfl rfl ?_
            refine x_iaload 86 (xd DX9_cover rfl) rfl ⟨Or.inr ⟨rfl, by decide⟩, by decide⟩ (by decide) (by omega) (by omega) rfl ?_
            refine WX.stk (st' := [vi (g 244 (xi : Int)), vr 259, vi xat]) (by rw [hset_c (by decide), hpk]) ?_
            refine x_Vi 89 (pX9_refers (g 244 (xi : Int)) (by omega) (hGx.2.2.2.2.2 _ (by have := mEnt_rg (e := g 244 (xi : Int)) (by omega); omega) (by have := mEnt_rg (e := g 244 (xi : Int)) (by omega); omega))) FX9_refers VX9_refers CX9_133 (xd DX9_cover rfl) rfl rfl rfl ⟨by decide, rfl⟩ ⟨by decide, by decide⟩ (by decide) (Nat.le_of_ble_eq_true rfl) (by decide) rfl ?_
            rintro z9 h9 ⟨q1, q2⟩
            rw [q1, q2]
            clear q1 q2 z9 h9
            first
              | rw [mRef_k hEw (by rw [hme]; exact hMe)]
              | skip
            refine x_iadd 90 (xd DX9_cover rfl) rfl ?_
            refine x_istore_n 91 (L' := [(0, _), (1, _), (2, _), (3, _)]) (xd DX9_cover rfl) (by decide) rfl rfl rfl ?_
            refine x_iconst 92 (xd DX9_cover rfl) rfl ?_
            refine x_istore 94 (L' := [(0, _), (1, _), (2, _), (3, _), (4, _)]) (xd DX9_cover rfl) (by decide) rfl rfl rfl ?_
            have hGq := hI.1
            first
              | exact absurd c64 c26
              | exact absurd c26 c64
              | (refine inner 5 _ (hset xg 270 (xi : Int) xat) 1 1 (by omega) (by omega) (by omega) (by omega) (by omega) ?_ ?_ ?_ ?_ ?_
                 · exact hI.one hlt (by rw [(PF.of hL hlt).2, if_pos hc0, hat]) (by rw [(PF.of hL hlt).1, (csN_own hc0 (by omega)).1])
                 · rw [hset_c (by decide)]; exact hpk
                 · exact (csN_own hc0 (by omega)).1
                 · rw [(csN_own hc0 (by omega)).2.1]; omega
                 · rw [(csN_own hc0 (by omega)).2.2, hat]
                 done)
              | (rw [hMe.1, ← (show (((g (10 + 3 * (g 244 (xi : Int)).toNat) 2).toNat : Nat) : Int) = g (10 + 3 * (g 244 (xi : Int)).toNat) 2 by omega)]
                 refine inner 5 _ (hset xg 270 (xi : Int) xat) 1 (g (10 + 3 * (g 244 (xi : Int)).toNat) 2).toNat (by omega) (by omega) (by omega) (by omega) (by omega) ?_ ?_ ?_ ?_ ?_
                 · exact hI.one hlt (by rw [(PF.of hL hlt).2, if_pos hc0, hat]) (by rw [(PF.of hL hlt).1, (csN_ref hc0 (by omega)).1])
                 · rw [hset_c (by decide)]; exact hpk
                 · exact (csN_ref hc0 (by omega)).1
                 · rw [(csN_ref hc0 (by omega)).2.1]; omega
                 · rw [(csN_ref hc0 (by omega)).2.2, hat])
          · refine x_aload_n 68 (xd DX9_cover rfl) rfl rfl ?_
            refine x_gr 71 _ LX9_19 (xd DX9_cover rfl) rfl rfl ⟨by decide, by decide⟩ (by decide) rfl rfl ?_
            refine x_iload_n 72 (xd DX9_cover rfl) rfl rfl ?_
            refine x_iaload 73 (xd DX9_cover rfl) rfl ⟨Or.inr ⟨rfl, by decide⟩, by decide⟩ (by decide) (by omega) (by omega) rfl ?_
            refine x_Si 76 (pX9_own (xg 263 (xi : Int)) ((hGx.m.1.2 (xi : Int) (by omega) (by rw [hGx.n]; omega)).1)) FX9_own VX9_own CX9_127 (xd DX9_cover rfl) rfl rfl (by decide) (Nat.le_of_ble_eq_true rfl) (by decide) rfl ?_
            rintro z9 h9 ⟨q1, q2⟩
            rw [q1, q2]
            clear q1 q2 z9 h9
            rw [(hGx.2.2.2.1.2 (xi : Int) (by omega) (by omega)).1, ltr_own (hGx.1.v (by omega) (by omega)).1]
            refine x_goto 89 (xd DX9_cover rfl) rfl ?_
            refine x_iadd 90 (xd DX9_cover rfl) rfl ?_
            refine x_istore_n 91 (L' := [(0, _), (1, _), (2, _), (3, _)]) (xd DX9_cover rfl) (by decide) rfl rfl rfl ?_
            refine x_iconst 92 (xd DX9_cover rfl) rfl ?_
            refine x_istore 94 (L' := [(0, _), (1, _), (2, _), (3, _), (4, _)]) (xd DX9_cover rfl) (by decide) rfl rfl rfl ?_
            have hGq := hI.1
            first
              | exact absurd c64 c26
              | exact absurd c26 c64
              | (refine inner 5 _ (hset xg 270 (xi : Int) xat) 1 1 (by omega) (by omega) (by omega) (by omega) (by omega) ?_ ?_ ?_ ?_ ?_
                 · exact hI.one hlt (by rw [(PF.of hL hlt).2, if_pos hc0, hat]) (by rw [(PF.of hL hlt).1, (csN_own hc0 (by omega)).1])
                 · rw [hset_c (by decide)]; exact hpk
                 · exact (csN_own hc0 (by omega)).1
                 · rw [(csN_own hc0 (by omega)).2.1]; omega
                 · rw [(csN_own hc0 (by omega)).2.2, hat]
                 done)
              | (rw [hMe.1, ← (show (((g (10 + 3 * (g 244 (xi : Int)).toNat) 2).toNat : Nat) : Int) = g (10 + 3 * (g 244 (xi : Int)).toNat) 2 by omega)]
                 refine inner 5 _ (hset xg 270 (xi : Int) xat) 1 (g (10 + 3 * (g 244 (xi : Int)).toNat) 2).toNat (by omega) (by omega) (by omega) (by omega) (by omega) ?_ ?_ ?_ ?_ ?_
                 · exact hI.one hlt (by rw [(PF.of hL hlt).2, if_pos hc0, hat]) (by rw [(PF.of hL hlt).1, (csN_ref hc0 (by omega)).1])
                 · rw [hset_c (by decide)]; exact hpk
                 · exact (csN_ref hc0 (by omega)).1
                 · rw [(csN_ref hc0 (by omega)).2.1]; omega
                 · rw [(csN_ref hc0 (by omega)).2.2, hat])
        · refine x_iconst 30 (xd DX9_cover rfl) rfl ?_
          refine x_goto 47 (xd DX9_cover rfl) rfl ?_
          refine x_istore_n 48 (L' := [(0, _), (1, _), (2, _), (3, _)]) (xd DX9_cover rfl) (by decide) rfl rfl rfl ?_
          refine x_aload_n 49 (xd DX9_cover rfl) rfl rfl ?_
          refine x_gr 52 _ LX9_40 (xd DX9_cover rfl) rfl rfl ⟨by decide, by decide⟩ (by decide) rfl rfl ?_
          refine x_iload_n 53 (xd DX9_cover rfl) rfl rfl ?_
          refine x_iload_n 54 (xd DX9_cover rfl) rfl rfl ?_
          refine x_iastore 55 (xd DX9_cover rfl) rfl ⟨Or.inr ⟨rfl, by decide⟩, by decide⟩ (by decide) (by omega) (by omega) rfl ?_
          refine x_iload_n 56 (xd DX9_cover rfl) rfl rfl ?_
          refine x_aload_n 57 (xd DX9_cover rfl) rfl rfl ?_
          refine x_gr 60 _ LX9_37 (xd DX9_cover rfl) rfl rfl ⟨by decide, by decide⟩ (by decide) rfl rfl ?_
          refine x_iload_n 61 (xd DX9_cover rfl) rfl rfl ?_
          refine x_iaload 62 (xd DX9_cover rfl) rfl ⟨Or.inr ⟨rfl, by decide⟩, by decide⟩ (by decide) (by omega) (by omega) rfl ?_
          refine WX.stk (st' := [vi (g 244 (xi : Int)), vi xat]) (by rw [hset_c (by decide), hpk]) ?_
          refine x_bipush 64 (xd DX9_cover rfl) rfl rfl ?_
          refine x_icmp_ne 67 79 (xd DX9_cover rfl) rfl (by first | decide | omega | (rw [hset_c (by decide), hpk]; omega)) (by first | decide | omega | (rw [hset_c (by decide), hpk]; omega)) rfl (fun c64 => ?_) (fun c64 => ?_)
          · refine x_aload_n 80 (xd DX9_cover rfl) rfl rfl ?_
            refine x_aload_n 81 (xd DX9_cover rfl) rfl rfl ?_
            refine x_gr 84 _ LX9_37 (xd DX9_cover rfl) rfl rfl ⟨by decide, by decide⟩ (by decide) rfl rfl ?_
            refine x_iload_n 85 (xd DX9_cover rfl) rfl rfl ?_
            refine x_iaload 86 (xd DX9_cover rfl) rfl ⟨Or.inr ⟨rfl, by decide⟩, by decide⟩ (by decide) (by omega) (by omega) rfl ?_
            refine WX.stk (st' := [vi (g 244 (xi : Int)), vr 259, vi xat]) (by rw [hset_c (by decide), hpk]) ?_
            refine x_Vi 89 (pX9_refers (g 244 (xi : Int)) (by omega) (hGx.2.2.2.2.2 _ (by have := mEnt_rg (e := g 244 (xi : Int)) (by omega); omega) (by have := mEnt_rg (e := g 244 (xi : Int)) (by omega); omega))) FX9_refers VX9_refers CX9_133 (xd DX9_cover rfl) rfl rfl rfl ⟨by decide, rfl⟩ ⟨by decide, by decide⟩ (by decide) (Nat.le_of_ble_eq_true rfl) (by decide) rfl ?_
            rintro z9 h9 ⟨q1, q2⟩
            rw [q1, q2]
            clear q1 q2 z9 h9
            first
              | rw [mRef_k hEw (by rw [hme]; exact hMe)]
              | skip
            refine x_iadd 90 (xd DX9_cover rfl) rfl ?_
            refine x_istore_n 91 (L' := [(0, _), (1, _), (2, _), (3, _)]) (xd DX9_cover rfl) (by decide) rfl rfl rfl ?_
            refine x_iconst 92 (xd DX9_cover rfl) rfl ?_
            refine x_istore 94 (L' := [(0, _), (1, _), (2, _), (3, _), (4, _)]) (xd DX9_cover rfl) (by decide) rfl rfl rfl ?_
            have hGq := hI.1
            first
              | exact absurd c64 c26
              | exact absurd c26 c64
              | (refine inner 5 _ (hset xg 270 (xi : Int) xat) 1 1 (by omega) (by omega) (by omega) (by omega) (by omega) ?_ ?_ ?_ ?_ ?_
                 · exact hI.one hlt (by rw [(PF.of hL hlt).2, if_pos hc0, hat]) (by rw [(PF.of hL hlt).1, (csN_own hc0 (by omega)).1])
                 · rw [hset_c (by decide)]; exact hpk
                 · exact (csN_own hc0 (by omega)).1
                 · rw [(csN_own hc0 (by omega)).2.1]; omega
                 · rw [(csN_own hc0 (by omega)).2.2, hat]
                 done)
              | (rw [hMe.1, ← (show (((g (10 + 3 * (g 244 (xi : Int)).toNat) 2).toNat : Nat) : Int) = g (10 + 3 * (g 244 (xi : Int)).toNat) 2 by omega)]
                 refine inner 5 _ (hset xg 270 (xi : Int) xat) 1 (g (10 + 3 * (g 244 (xi : Int)).toNat) 2).toNat (by omega) (by omega) (by omega) (by omega) (by omega) ?_ ?_ ?_ ?_ ?_
                 · exact hI.one hlt (by rw [(PF.of hL hlt).2, if_pos hc0, hat]) (by rw [(PF.of hL hlt).1, (csN_ref hc0 (by omega)).1])
                 · rw [hset_c (by decide)]; exact hpk
                 · exact (csN_ref hc0 (by omega)).1
                 · rw [(csN_ref hc0 (by omega)).2.1]; omega
                 · rw [(csN_ref hc0 (by omega)).2.2, hat])
          · refine x_aload_n 68 (xd DX9_cover rfl) rfl rfl ?_
            refine x_gr 71 _ LX9_19 (xd DX9_cover rfl) rfl rfl ⟨by decide, by decide⟩ (by decide) rfl rfl ?_
            refine x_iload_n 72 (xd DX9_cover rfl) rfl rfl ?_
            refine x_iaload 73 (xd DX9_cover rfl) rfl ⟨Or.inr ⟨rfl, by decide⟩, by decide⟩ (by decide) (by omega) (by omega) rfl ?_
            refine x_Si 76 (pX9_own (xg 263 (xi : Int)) ((hGx.m.1.2 (xi : Int) (by omega) (by rw [hGx.n]; omega)).1)) FX9_own VX9_own CX9_127 (xd DX9_cover rfl) rfl rfl (by decide) (Nat.le_of_ble_eq_true rfl) (by decide) rfl ?_
            rintro z9 h9 ⟨q1, q2⟩
            rw [q1, q2]
            clear q1 q2 z9 h9
            rw [(hGx.2.2.2.1.2 (xi : Int) (by omega) (by omega)).1, ltr_own (hGx.1.v (by omega) (by omega)).1]
            refine x_goto 89 (xd DX9_cover rfl) rfl ?_
            refine x_iadd 90 (xd DX9_cover rfl) rfl ?_
            refine x_istore_n 91 (L' := [(0, _), (1, _), (2, _), (3, _)]) (xd DX9_cover rfl) (by decide) rfl rfl rfl ?_
            refine x_iconst 92 (xd DX9_cover rfl) rfl ?_
            refine x_istore 94 (L' := [(0, _), (1, _), (2, _), (3, _), (4, _)]) (xd DX9_cover rfl) (by decide) rfl rfl rfl ?_
            have hGq := hI.1
            first
              | exact absurd c64 c26
              | exact absurd c26 c64
              | (refine inner 5 _ (hset xg 270 (xi : Int) xat) 1 1 (by omega) (by omega) (by omega) (by omega) (by omega) ?_ ?_ ?_ ?_ ?_
                 · exact hI.one hlt (by rw [(PF.of hL hlt).2, if_pos hc0, hat]) (by rw [(PF.of hL hlt).1, (csN_own hc0 (by omega)).1])
                 · rw [hset_c (by decide)]; exact hpk
                 · exact (csN_own hc0 (by omega)).1
                 · rw [(csN_own hc0 (by omega)).2.1]; omega
                 · rw [(csN_own hc0 (by omega)).2.2, hat]
                 done)
              | (rw [hMe.1, ← (show (((g (10 + 3 * (g 244 (xi : Int)).toNat) 2).toNat : Nat) : Int) = g (10 + 3 * (g 244 (xi : Int)).toNat) 2 by omega)]
                 refine inner 5 _ (hset xg 270 (xi : Int) xat) 1 (g (10 + 3 * (g 244 (xi : Int)).toNat) 2).toNat (by omega) (by omega) (by omega) (by omega) (by omega) ?_ ?_ ?_ ?_ ?_
                 · exact hI.one hlt (by rw [(PF.of hL hlt).2, if_pos hc0, hat]) (by rw [(PF.of hL hlt).1, (csN_ref hc0 (by omega)).1])
                 · rw [hset_c (by decide)]; exact hpk
                 · exact (csN_ref hc0 (by omega)).1
                 · rw [(csN_ref hc0 (by omega)).2.1]; omega
                 · rw [(csN_ref hc0 (by omega)).2.2, hat])
  refine x_aload_n 1 (xd DX9_cover rfl) rfl rfl ?_
  refine x_iconst 2 (xd DX9_cover rfl) rfl ?_
  refine x_Vi 5 (pX9_coverWith g 0 (Or.inl rfl) hG (fun q => absurd q (by decide))) FX9_coverWith VX9_coverWith CX9_136 (xd DX9_cover rfl) rfl rfl rfl ⟨by decide, rfl⟩ ⟨by decide, by decide⟩ (by decide) (Nat.le_of_ble_eq_true rfl) (by decide) rfl ?_
  rintro z9 h1 ⟨hO1, hC1, -⟩
  have hfw := hC1.few hG.2.1 hL (by decide)
  refine x_popi 6 (xd DX9_cover rfl) rfl ?_
  refine x_iconst 7 (xd DX9_cover rfl) rfl ?_
  refine x_istore_n 8 (L' := [(0, _), (1, _)]) (xd DX9_cover rfl) (by decide) rfl rfl rfl ?_
  refine x_iconst 9 (xd DX9_cover rfl) rfl ?_
  refine x_istore_n 10 (L' := [(0, _), (1, _), (2, _)]) (xd DX9_cover rfl) (by decide) rfl rfl rfl ?_
  exact loop 60 0 _ h1 (by omega) (by omega) ⟨hO1.mono (by unfold S89 S890; omega), fun j hj => absurd hj (by omega), fun j _ hj => hfw j (by omega) hj⟩ rfl rfl

