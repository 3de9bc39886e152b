/-! SqueezedCodeModel: chooses -/
theorem alike_neg {g : XH} {i m z : Int} (hP : PW g) (hS : SW g 8) (hL : LY g) (hs : SqOk g i m) (hz : -1 ≤ z ∧ z < m) (ha : Alike g i m (if z < 0 then -4 else z)) : GfC g i m z < 0 := by
  obtain ⟨e, e1, e2, e3, e4⟩ := ha
  have hk := tkH_off g i m z
  have ht := tkH_took g i m z
  have e4' : tkH g i m z 4 = g 4 := hk 4 (by unfold S3; omega)
  have hG2 : PW (tkH g i m z) ∧ SW (tkH g i m z) 8 ∧ LY (tkH g i m z) := ⟨hP.off hk (by unfold S3; omega) (by unfold S3; omega) (by unfold S3; omega) (by unfold S3; omega), SW.same (fun x q => hk x (by unfold S26 at q; unfold S3; omega)) hS, hL.off hk (fun c q => by unfold S3; omega) hP hS⟩
  have hO : Off (fun x => x = 245) (tkH g i m z) (rset (tkH g i m z) 245 (g 243)) := fun c hc => rset_c hc
  have h8 := hS.1
  have key : GainIs g i m z (g 192 13 - g 243 0 - (1 + 2 * m)) := by
    refine ⟨rset (tkH g i m z) 245 (g 243), ?_, ?_, ?_, by rw [rset_s]⟩
    · intro c hc
      unfold STr SGa at hc
      rw [rset_c (fun q => hc (Or.inr (Or.inl q)))]
      exact tkH_off g i m z c (fun q => hc (Or.inr (Or.inr q)))
    · refine ⟨by rw [rset_c (by decide)]; exact ht.1, by rw [rset_c (by decide)]; exact ht.2.1, fun j a b => ?_⟩
      rw [rset_c (by decide), rset_c (by decide)]
      exact ht.2.2 j a b
    · refine ⟨?_, fun j a b => ?_⟩
      · rw [rset_s, rset_c (by decide), e4']; exact hL.2.2.2.1
      · rw [rset_c (by decide)] at b
        have h48 := hG2.1.1
        rw [rset_s, trF_off hO (Or.inl rfl) (by omega), trF_cw (p := True) hG2.2.1 hG2.2.2 ⟨a, b⟩ trivial]
        rw [e4'] at b
        have e8 : tkH g i m z 8 = g 8 := hk 8 (by unfold S3; omega)
        have e243 : tkH g i m z 243 = g 243 := hk 243 (by unfold S3; omega)
        have e5 : tkH g i m z 5 = g 5 := hk 5 (by unfold S3; omega)
        have e6 : tkH g i m z 6 = g 6 := hk 6 (by unfold S3; omega)
        have e193 : tkH g i m z 193 = g 193 := hk 193 (by unfold S3; omega)
        have hfb := (hG2.2.2.2.2.2.2.1 j a (by rw [e4']; exact b)).1
        rw [e243] at hfb
        rw [cwB_s, cwB_bst _ (by rw [e8]; omega), pik_f (fun q => ?_)]
        · exact hfb
        · have ec : cwc (tkH g i m z) (tkH g i m z 8 1).toNat = 246 := by unfold cwc; rw [if_neg (by rw [e8]; omega)]
          have q2 := q.2.1
          have q3 := q.2.2
          unfold cwv at q3
          rw [ec] at q2 q3
          have hm : Mt (tkH g i m z) (10 + 3 * e) j := by
            rw [Mt.off hk (by unfold S3; omega) (by unfold S3; omega) (by unfold S3; omega) (by unfold S3; omega) (by unfold S3; omega) (by unfold S3; omega) (by unfold S3; omega)]
            obtain ⟨m1, m2, m3, m4⟩ := q2
            rw [ht.1, ht.2.1] at m4
            rw [ht.1, e193] at m1
            rw [ht.1, e4'] at m3
            obtain ⟨f1, f2, f3⟩ := e4
            refine ⟨by rw [e2]; exact m1, a, by rw [e2]; exact m3, fun x x0 x1 => ?_⟩
            have p := f3 x x0 x1
            rw [e2] at x1
            have r := m4 x x0 x1
            have tt := ht.2.2 x x0 x1
            rw [tt.1, tt.2, e5, e6] at r
            refine ⟨p.1.trans r.1, ?_⟩
            rcases p.2 with y | y
            · exact Or.inl y
            · rcases r.2 with w | w
              · rw [e3]; exact Or.inl w
              · exact Or.inr (y.trans w)
          have hb := bst_ref (fw := g 243) hm (tkH g i m z 8 1).toNat (by rw [e8]; omega)
          have c2 : tkH g i m z (10 + 3 * e) = g (10 + 3 * e) := hk _ (by unfold S3; omega)
          rw [c2, e2, e3] at hb
          rw [ht.1, ht.2.1] at q3
          omega
  have := GfC_one hP hL (by have := hs.2.1; omega) key
  rw [← this, len_few hP hS hL]
  have := hs.2.1
  omega
def sqC (g : XH) (i m : Int) : Prop := SqR g i m ∧ g 8 1 < 8
theorem hind_no {g : XH} {i m z x : Int} (hP : PW g) (hS : SW g 8) (hL : LY g) (hm : 2 ≤ m ∧ m ≤ 4) (hz : -1 ≤ z ∧ z < m) (h0 : hindC g i m z ≠ 0) (hx : 0 ≤ x) : ¬ (sqC g i m ∧ x < GfC g i m z) := by
  rintro ⟨⟨q1, q2⟩, q3⟩
  have hn : ¬ Alike g i m (if z < 0 then -4 else z) := fun a => by
    have := alike_neg hP hS hL (q1.ok hL hm.2) hz a
    omega
  refine h0 ?_
  unfold hindC
  rw [pik_t ⟨q1.1, hm.1, hm.2, hz.1, hz.2⟩, pik_t ⟨q1, hn⟩, if_pos q2]
theorem scI_s (sq : Int → Int → Prop) (G : Int → Int → Int → Int) (m z : Int) (i : Nat) (s : Int × Int × Int × Int) : scI sq G m z (i + 1) s = pik (sq i m ∧ (scI sq G m z i s).1 < G i m z) (G i m z, (i : Int), m, z) (scI sq G m z i s) := rfl
/-- where a search begins matters only till something is found -/
def scQ (s s' : Int × Int × Int × Int) : Prop := s.1 = s'.1 ∧ (0 < s.1 → s = s')
theorem scI_q {sq : Int → Int → Prop} {G : Int → Int → Int → Int} {m z : Int} {s s' : Int × Int × Int × Int} (h : scQ s s') : ∀ i : Nat, scQ (scI sq G m z i s) (scI sq G m z i s')
  | 0 => h
  | i + 1 => by
    have ih := scI_q (sq := sq) (G := G) (m := m) (z := z) h i
    rw [scI_s, scI_s, ← ih.1]
    by_cases q : sq i m ∧ (scI sq G m z i s).1 < G i m z
    · rw [pik_t q, pik_t q]; exact ⟨rfl, fun _ => rfl⟩
    · rw [pik_f q, pik_f q]; exact ih
theorem scH_q {sq : Int → Int → Prop} {G : Int → Int → Int → Int} {N : Nat} {m : Int} {s s' : Int × Int × Int × Int} (h : scQ s s') : ∀ d : Nat, scQ (scH sq G N m d s) (scH sq G N m d s')
  | 0 => h
  | d + 1 => scI_q (scH_q h d) N
theorem scM_q {sq : Int → Int → Prop} {G : Int → Int → Int → Int} {N : Nat} {s s' : Int × Int × Int × Int} (h : scQ s s') : ∀ d : Nat, scQ (scM sq G N d s) (scM sq G N d s')
  | 0 => h
  | d + 1 => scH_q (scM_q h d) (d + 3)
theorem scI_0 {sq : Int → Int → Prop} {G : Int → Int → Int → Int} {m z : Int} {s : Int × Int × Int × Int} (h : ∀ i m, ¬ sq i m) : ∀ i : Nat, scI sq G m z i s = s
  | 0 => rfl
  | i + 1 => by rw [scI_s, pik_f (fun q => h _ _ q.1)]; exact scI_0 h i
theorem scH_0 {sq : Int → Int → Prop} {G : Int → Int → Int → Int} {N : Nat} {m : Int} {s : Int × Int × Int × Int} (h : ∀ i m, ¬ sq i m) : ∀ d : Nat, scH sq G N m d s = s
  | 0 => rfl
  | d + 1 => (scI_0 h N).trans (scH_0 h d)
theorem scM_0 {sq : Int → Int → Prop} {G : Int → Int → Int → Int} {N : Nat} {s : Int × Int × Int × Int} (h : ∀ i m, ¬ sq i m) : ∀ d : Nat, scM sq G N d s = s
  | 0 => rfl
  | d + 1 => (scH_0 h (d + 3)).trans (scM_0 h d)
/-- the search's state in the reference's cells -/
def S9 (c : Nat) : Prop := c = 259 ∨ c = 266 ∨ c = 268 ∨ c = 269
def CsI (g h : XH) (x : XH) (xm : Int) (s : Int × Int × Int × Int) : Prop := GH g x ∧ x 270 = h 270 ∧ Off S9 h x ∧ (∀ j, j ≠ 28 → j ≠ 29 → j ≠ 30 → x 259 j = h 259 j) ∧ (∀ j, j < 83 → x 266 j = h 266 j) ∧ 0 ≤ xm ∧ xm ≤ 1000 ∧ xm = s.1 ∧ x 259 28 = s.2.1 ∧ x 259 29 = s.2.2.1 ∧ x 259 30 = s.2.2.2
theorem CsI.off {g h x x' : XH} {xm : Int} {s : Int × Int × Int × Int} (hC : CsI g h x xm s) (hG : GH g x') (hO : Off (fun c => c = 266 ∨ c = 268 ∨ c = 269) x x') (hk : ∀ j, j < 83 → x' 266 j = x 266 j) : CsI g h x' xm s := by
  obtain ⟨a1, a2, a3, a4, a5, a6, a7, a8, a9, a10, a11⟩ := hC
  have e9 : x' 259 = x 259 := hO 259 (by decide)
  refine ⟨hG, by rw [hO 270 (by decide)]; exact a2, fun c hc => ?_, by rw [e9]; exact a4, fun j hj => by rw [hk j hj]; exact a5 j hj, a6, a7, a8, by rw [e9]; exact a9, by rw [e9]; exact a10, by rw [e9]; exact a11⟩
  rw [hO c (fun q => hc (Or.inr q))]
  exact a3 c hc
theorem CsI.set {g h x : XH} {xm v a b c : Int} {s : Int × Int × Int × Int} (hC : CsI g h x xm s) (hv : xm < v ∧ v ≤ 1000) : CsI g h (hset (hset (hset x 259 28 a) 259 29 b) 259 30 c) v (v, a, b, c) := by
  obtain ⟨a1, a2, a3, a4, a5, a6, a7, a8, a9, a10, a11⟩ := hC
  have hO : Off (fun c => c = 259) x (hset (hset (hset x 259 28 a) 259 29 b) 259 30 c) := ((Off.set (S := fun c => c = 259) rfl).tr (Off.set rfl)).tr (Off.set rfl)
  have e : ∀ j, j ≠ 28 → j ≠ 29 → j ≠ 30 → hset (hset (hset x 259 28 a) 259 29 b) 259 30 c 259 j = x 259 j := fun j q1 q2 q3 => by rw [hset_i q3, hset_i q2, hset_i q1]
  refine ⟨a1.mv (e 5 (by decide) (by decide) (by decide)) (hO _ (by decide)) (hO _ (by decide)) (hO _ (by decide)) (hO _ (by decide)), by rw [hO 270 (by decide)]; exact a2, fun c hc => ?_, fun j q1 q2 q3 => by rw [e j q1 q2 q3]; exact a4 j q1 q2 q3, fun j hj => by rw [hO 266 (by decide)]; exact a5 j hj, by omega, hv.2, rfl, ?_, ?_, ?_⟩
  · rw [hO c (fun q => hc (Or.inl q))]
    exact a3 c hc
  · rw [hset_i (by decide), hset_i (by decide), hset_s]
  · rw [hset_i (by decide), hset_s]
  · rw [hset_s]
theorem hset_id' {h : XH} {c : Nat} {k : Int} : hset h c k (h c k) = h := hset_id
set_option maxRecDepth 100000 in
set_option maxHeartbeats 4000000 in
theorem pX9_chooses {K : XK} {n : Nat} {h : XH} (g : XH) (hG : GH g h) (hR : h 270 (g 4 3) = g 192 13) : MI K mX9_chooses 5 n [vr 259] h (fun zr h' => zr = xp (0 < (scM (sqC g) (GfC g) (g 4 3).toNat 3 (0, h 259 28, h 259 29, h 259 30)).1) ∧ (h' 259 28, h' 259 29, h' 259 30) = (scM (sqC g) (GfC g) (g 4 3).toNat 3 (0, h 259 28, h 259 29, h 259 30)).2 ∧ GH g h' ∧ RC g h' ∧ Off (fun c => c = 259 ∨ c = 266 ∨ c = 268 ∨ c = 269 ∨ c = 270) h h' ∧ (∀ j, j ≠ 28 → j ≠ 29 → j ≠ 30 → h' 259 j = h 259 j)) := by
  refine xMeth FX9_chooses (Nat.le_of_ble_eq_true rfl) ?_
  have hP1 := hG.1.1
  have loopm : ∀ (f : Nat) (xm2 xm : Int) (xg : XH), 2 ≤ xm2 → xm2 ≤ 5 → 5 - xm2 < (f : Int) → CsI g h xg xm (scM (sqC g) (GfC g) (g 4 3).toNat (xm2 - 2).toNat (0, h 259 28, h 259 29, h 259 30)) → WI K mX9_chooses 5 n (qI n (fun zr h' => zr = xp (0 < (scM (sqC g) (GfC g) (g 4 3).toNat 3 (0, h 259 28, h 259 29, h 259 30)).1) ∧ (h' 259 28, h' 259 29, h' 259 30) = (scM (sqC g) (GfC g) (g 4 3).toNat 3 (0, h 259 28, h 259 29, h 259 30)).2 ∧ GH g h' ∧ RC g h' ∧ Off (fun c => c = 259 ∨ c = 266 ∨ c = 268 ∨ c = 269 ∨ c = 270) h h' ∧ (∀ j, j ≠ 28 → j ≠ 29 → j ≠ 30 → h' 259 j = h 259 j))) 4 [(0, vr 259), (1, vi xm), (2, vi xm2)] [] xg := by
    intro f
    induction f with
    | zero => intro xm2 xm xg a b c; exact absurd c (by omega)
    | succ f ihm =>
      intro xm2 xm xg g0 g1 g2 hI
      have nxtm : ∀ (xm9 : Int) (xg9 : XH), xm2 ≤ 4 → CsI g h xg9 xm9 (scH (sqC g) (GfC g) (g 4 3).toNat xm2 (xm2 + 1).toNat (scM (sqC g) (GfC g) (g 4 3).toNat (xm2 - 2).toNat (0, h 259 28, h 259 29, h 259 30))) → WI K mX9_chooses 5 n (qI n (fun zr h' => zr = xp (0 < (scM (sqC g) (GfC g) (g 4 3).toNat 3 (0, h 259 28, h 259 29, h 259 30)).1) ∧ (h' 259 28, h' 259 29, h' 259 30) = (scM (sqC g) (GfC g) (g 4 3).toNat 3 (0, h 259 28, h 259 29, h 259 30)).2 ∧ GH g h' ∧ RC g h' ∧ Off (fun c => c = 259 ∨ c = 266 ∨ c = 268 ∨ c = 269 ∨ c = 270) h h' ∧ (∀ j, j ≠ 28 → j ≠ 29 → j ≠ 30 → h' 259 j = h 259 j))) 129 [(0, vr 259), (1, vi xm9), (2, vi xm2)] [] xg9 := by
        intro xm9 xg9 g4 hI9
        refine x_iinc 132 (L' := [(0, _), (1, _), (2, _)]) (xd DX9_chooses rfl) rfl (by decide) rfl rfl rfl ?_
        refine x_goto 4 (xd DX9_chooses rfl) rfl ?_
        refine ihm (xm2 + 1) _ _ (by omega) (by omega) (by omega) ?_
        rw [show (xm2 + 1 - 2).toNat = (xm2 - 2).toNat + 1 by omega]
        have e2 : (((xm2 - 2).toNat : Nat) : Int) + 2 = xm2 := by omega
        have e3 : (xm2 - 2).toNat + 3 = (xm2 + 1).toNat := by omega
        show CsI g h xg9 xm9 (scH (sqC g) (GfC g) _ ((((xm2 - 2).toNat : Nat) : Int) + 2) ((xm2 - 2).toNat + 3) _)
        rw [e2, e3]
        exact hI9
      have looph : xm2 ≤ 4 → ∀ (fh : Nat) (xz xm : Int) (xg : XH), -1 ≤ xz → xz ≤ xm2 → xm2 - xz < (fh : Int) → CsI g h xg xm (scH (sqC g) (GfC g) (g 4 3).toNat xm2 (xz + 1).toNat (scM (sqC g) (GfC g) (g 4 3).toNat (xm2 - 2).toNat (0, h 259 28, h 259 29, h 259 30))) → WI K mX9_chooses 5 n (qI n (fun zr h' => zr = xp (0 < (scM (sqC g) (GfC g) (g 4 3).toNat 3 (0, h 259 28, h 259 29, h 259 30)).1) ∧ (h' 259 28, h' 259 29, h' 259 30) = (scM (sqC g) (GfC g) (g 4 3).toNat 3 (0, h 259 28, h 259 29, h 259 30)).2 ∧ GH g h' ∧ RC g h' ∧ Off (fun c => c = 259 ∨ c = 266 ∨ c = 268 ∨ c = 269 ∨ c = 270) h h' ∧ (∀ j, j ≠ 28 → j ≠ 29 → j ≠ 30 → h' 259 j = h 259 j))) 11 [(0, vr 259), (1, vi xm), (2, vi xm2), (3, vi xz)] [] xg := by
        intro g4 fh
        induction fh with
        | zero => intro xz xm xg a b c; exact absurd c (by omega)
        | succ fh ihh =>
          intro xz xm xg z0 z1 z2 hI
          have nxth : ∀ (xm9 : Int) (xg9 : XH), xz < xm2 → CsI g h xg9 xm9 (scI (sqC g) (GfC g) xm2 xz (g 4 3).toNat (scH (sqC g) (GfC g) (g 4 3).toNat xm2 (xz + 1).toNat (scM (sqC g) (GfC g) (g 4 3).toNat (xm2 - 2).toNat (0, h 259 28, h 259 29, h 259 30)))) → WI K mX9_chooses 5 n (qI n (fun zr h' => zr = xp (0 < (scM (sqC g) (GfC g) (g 4 3).toNat 3 (0, h 259 28, h 259 29, h 259 30)).1) ∧ (h' 259 28, h' 259 29, h' 259 30) = (scM (sqC g) (GfC g) (g 4 3).toNat 3 (0, h 259 28, h 259 29, h 259 30)).2 ∧ GH g h' ∧ RC g h' ∧ Off (fun c => c = 259 ∨ c = 266 ∨ c = 268 ∨ c = 269 ∨ c = 270) h h' ∧ (∀ j, j ≠ 28 → j ≠ 29 → j ≠ 30 → h' 259 j = h 259 j))) 123 [(0, vr 259), (1, vi xm9), (2, vi xm2), (3, vi xz)] [] xg9 := by
            intro xm9 xg9 z3 hI9
            refine x_iinc 126 (L' := [(0, _), (1, _), (2, _), (3, _)]) (xd DX9_chooses rfl) rfl (by decide) rfl rfl rfl ?_
            refine x_goto 11 (xd DX9_chooses rfl) rfl ?_
            refine ihh (xz + 1) _ _ (by omega) (by omega) (by omega) ?_
            rw [show (xz + 1 + 1).toNat = (xz + 1).toNat + 1 by omega]
            have e : (((xz + 1).toNat : Nat) : Int) - 1 = xz := by omega
            show CsI g h xg9 xm9 (scI (sqC g) (GfC g) xm2 ((((xz + 1).toNat : Nat) : Int) - 1) _ _)
            rw [e]
            exact hI9
          have loopi : xz < xm2 → ∀ (fi : Nat) (xi : Nat) (xm : Int) (xg : XH), (xi : Int) ≤ g 4 3 → g 4 3 - xi < (fi : Int) → CsI g h xg xm (scI (sqC g) (GfC g) xm2 xz xi (scH (sqC g) (GfC g) (g 4 3).toNat xm2 (xz + 1).toNat (scM (sqC g) (GfC g) (g 4 3).toNat (xm2 - 2).toNat (0, h 259 28, h 259 29, h 259 30)))) → WI K mX9_chooses 5 n (qI n (fun zr h' => zr = xp (0 < (scM (sqC g) (GfC g) (g 4 3).toNat 3 (0, h 259 28, h 259 29, h 259 30)).1) ∧ (h' 259 28, h' 259 29, h' 259 30) = (scM (sqC g) (GfC g) (g 4 3).toNat 3 (0, h 259 28, h 259 29, h 259 30)).2 ∧ GH g h' ∧ RC g h' ∧ Off (fun c => c = 259 ∨ c = 266 ∨ c = 268 ∨ c = 269 ∨ c = 270) h h' ∧ (∀ j, j ≠ 28 → j ≠ 29 → j ≠ 30 → h' 259 j = h 259 j))) 19 [(0, vr 259), (1, vi xm), (2, vi xm2), (3, vi xz), (4, vi (xi : Int))] [] xg := by
            intro z3 fi
            induction fi with
            | zero => intro xi xm xg a b; exact absurd b (by omega)
            | succ fi ihi =>
              intro xi xm xg i0 i1 hI
              have nxt : (xi : Int) < g 4 3 → ∀ (xm : Int) (xg9 : XH), CsI g h xg9 xm (scI (sqC g) (GfC g) xm2 xz (xi + 1) (scH (sqC g) (GfC g) (g 4 3).toNat xm2 (xz + 1).toNat (scM (sqC g) (GfC g) (g 4 3).toNat (xm2 - 2).toNat (0, h 259 28, h 259 29, h 259 30)))) → WI K mX9_chooses 5 n (qI n (fun zr h' => zr = xp (0 < (scM (sqC g) (GfC g) (g 4 3).toNat 3 (0, h 259 28, h 259 29, h 259 30)).1) ∧ (h' 259 28, h' 259 29, h' 259 30) = (scM (sqC g) (GfC g) (g 4 3).toNat 3 (0, h 259 28, h 259 29, h 259 30)).2 ∧ GH g h' ∧ RC g h' ∧ Off (fun c => c = 259 ∨ c = 266 ∨ c = 268 ∨ c = 269 ∨ c = 270) h h' ∧ (∀ j, j ≠ 28 → j ≠ 29 → j ≠ 30 → h' 259 j = h 259 j))) 117 [(0, vr 259), (1, vi xm), (2, vi xm2), (3, vi xz), (4, vi (xi : Int))] [] xg9 := by
                intro i2 xm xg9 hI9
                refine x_iinc 120 (L' := [(0, _), (1, _), (2, _), (3, _), (4, _)]) (xd DX9_chooses rfl) rfl (by decide) rfl rfl rfl ?_
                refine x_goto 19 (xd DX9_chooses rfl) rfl ?_
                exact ihi (xi + 1) _ _ (by omega) (by omega) hI9
              refine x_iload 21 (xd DX9_chooses rfl) rfl rfl ?_
              refine x_aload_n 22 (xd DX9_chooses rfl) rfl rfl ?_
              refine x_gi 25 5 rfl LX9_103 (xd DX9_chooses rfl) rfl ⟨Or.inr ⟨rfl, by decide⟩, by decide⟩ rfl ?_
              refine x_icmp_ge 28 123 (xd DX9_chooses rfl) rfl (by first | omega | (rw [hI.1.n]; have := hI.1.1.1; omega)) (by first | omega | (rw [hI.1.n]; have := hI.1.1.1; omega)) rfl (fun c25 => ?_) (fun c25 => ?_)
              · rw [hI.1.n] at c25
                have ei : xi = (g 4 3).toNat := by omega
                subst ei
                refine WX.locals (L' := [(0, _), (1, _), (2, _), (3, _)]) (fun q hq => List.mem_append_left _ hq) ?_
                exact nxth _ _ z3 hI
              · rw [hI.1.n] at c25
                refine x_aload_n 29 (xd DX9_chooses rfl) rfl rfl ?_
                refine x_iload 31 (xd DX9_chooses rfl) rfl rfl ?_
                refine x_iload_n 32 (xd DX9_chooses rfl) rfl rfl ?_
                refine x_iload_n 33 (xd DX9_chooses rfl) rfl rfl ?_
                refine x_Vi 36 (pX9_refusal g xi xm2 xz hI.1.1 hI.1.2.1 hI.1.2.2.1 hI.1.2.2.2.1 hI.1.2.2.2.2.1 hI.1.2.2.2.2.2 (by omega) (by omega) (by omega)) FX9_refusal VX9_refusal CX9_153 (xd DX9_chooses rfl) rfl rfl rfl ⟨by decide, rfl⟩ ⟨by decide, by decide⟩ (by decide) (Nat.le_of_ble_eq_true rfl) (by decide) rfl ?_
                rintro z9 xp1 ⟨q1, hO1, hk1, hT1⟩
                rw [q1]
                clear q1 z9
                have hI1 := hI.off (hI.1.tab (hO1.mono (fun c q => Or.inl q)) hk1 hT1) (hO1.mono (fun c q => Or.inl q)) hk1
                refine x_if_ne 39 117 (xd DX9_chooses rfl) rfl (by exact hindC_rg g xi xm2 xz) rfl (fun c36 => ?_) (fun c36 => ?_)
                · exact nxt (by omega) _ _ (by
                    rw [scI_s, pik_f (by
                      have := hind_no (x := xm) hI.1.1 hI.1.2.1 hI.1.2.2.1 (by omega) (by omega) c36 hI.2.2.2.2.2.1
                      rw [hI.2.2.2.2.2.2.2.1] at this
                      exact this)]
                    exact hI1)
                · have h00 := hindC_0 c36
                  refine x_aload_n 40 (xd DX9_chooses rfl) rfl rfl ?_
                  refine x_iload 42 (xd DX9_chooses rfl) rfl rfl ?_
                  refine x_iload_n 43 (xd DX9_chooses rfl) rfl rfl ?_
                  refine x_iload_n 44 (xd DX9_chooses rfl) rfl rfl ?_
                  refine x_Vi 47 (pX9_gainOf g xi xm2 xz hI1.1 (by rw [hI1.2.1]; exact hR) (h00.2.1.1.ok hI.1.2.2.1 (by omega)) (by omega)) FX9_gainOf VX9_gainOf CX9_163 (xd DX9_chooses rfl) rfl rfl rfl ⟨by decide, rfl⟩ ⟨by decide, by decide⟩ (by decide) (Nat.le_of_ble_eq_true rfl) (by decide) rfl ?_
                  rintro z9 xq1 ⟨q1, hO2, hk2, hG2, hrg⟩
                  rw [q1] at hrg ⊢
                  clear q1 z9
                  have hI2 := hI1.off hG2 hO2 hk2
                  have hm0 := hI2.2.2.2.2.2.1
                  have hm1 := hI2.2.2.2.2.2.2.1
                  refine x_istore 49 (L' := [(0, _), (1, _), (2, _), (3, _), (4, _), (5, _)]) (xd DX9_chooses rfl) (by decide) rfl rfl rfl ?_
                  by_cases cgt : xm < GfC g xi xm2 xz
                  · refine x_aload_n 50 (xd DX9_chooses rfl) rfl rfl ?_
                    refine x_iload 52 (xd DX9_chooses rfl) rfl rfl ?_
                    refine x_iload_n 53 (xd DX9_chooses rfl) rfl rfl ?_
                    refine x_icmp_le 56 61 (xd DX9_chooses rfl) rfl (by omega) (by omega) rfl (fun c53 => absurd c53 (by omega)) (fun _ => ?_)
                    refine x_iload 58 (xd DX9_chooses rfl) rfl rfl ?_
                    refine x_goto 65 (xd DX9_chooses rfl) rfl ?_
                    refine x_pi 68 28 rfl LX9_167 (xd DX9_chooses rfl) rfl rfl ⟨Or.inr ⟨rfl, by decide⟩, by decide⟩ rfl ?_
                    refine x_aload_n 69 (xd DX9_chooses rfl) rfl rfl ?_
                    refine x_iload 71 (xd DX9_chooses rfl) rfl rfl ?_
                    refine x_iload_n 72 (xd DX9_chooses rfl) rfl rfl ?_
                    refine x_icmp_le 75 79 (xd DX9_chooses rfl) rfl (by omega) (by omega) rfl (fun c72 => absurd c72 (by omega)) (fun _ => ?_)
                    refine x_iload_n 76 (xd DX9_chooses rfl) rfl rfl ?_
                    refine x_goto 83 (xd DX9_chooses rfl) rfl ?_
                    refine x_pi 86 29 rfl LX9_170 (xd DX9_chooses rfl) rfl rfl ⟨Or.inr ⟨rfl, by decide⟩, by decide⟩ rfl ?_
                    refine x_aload_n 87 (xd DX9_chooses rfl) rfl rfl ?_
                    refine x_iload 89 (xd DX9_chooses rfl) rfl rfl ?_
                    refine x_iload_n 90 (xd DX9_chooses rfl) rfl rfl ?_
                    refine x_icmp_le 93 97 (xd DX9_chooses rfl) rfl (by omega) (by omega) rfl (fun c90 => absurd c90 (by omega)) (fun _ => ?_)
                    refine x_iload_n 94 (xd DX9_chooses rfl) rfl rfl ?_
                    refine x_goto 101 (xd DX9_chooses rfl) rfl ?_
                    refine x_pi 104 30 rfl LX9_173 (xd DX9_chooses rfl) rfl rfl ⟨Or.inr ⟨rfl, by decide⟩, by decide⟩ rfl ?_
                    refine x_iload 106 (xd DX9_chooses rfl) rfl rfl ?_
                    refine x_iload_n 107 (xd DX9_chooses rfl) rfl rfl ?_
                    refine x_icmp_le 110 115 (xd DX9_chooses rfl) rfl (by omega) (by omega) rfl (fun c107 => absurd c107 (by omega)) (fun _ => ?_)
                    refine x_iload 112 (xd DX9_chooses rfl) rfl rfl ?_
                    refine x_goto 116 (xd DX9_chooses rfl) rfl ?_
                    refine x_istore_n 117 (L' := [(0, _), (1, _), (2, _), (3, _), (4, _), (5, _)]) (xd DX9_chooses rfl) (by decide) rfl rfl rfl ?_
                    refine WX.locals (L' := [(0, _), (1, _), (2, _), (3, _), (4, _)]) (fun q hq => List.mem_append_left _ hq) ?_
                    exact nxt (by omega) _ _ (by
                      rw [scI_s, pik_t ⟨⟨h00.2.1.1, h00.2.2⟩, by rw [← hI2.2.2.2.2.2.2.2.1]; exact cgt⟩]
                      exact hI2.set ⟨cgt, hrg.2⟩)
                  · refine x_aload_n 50 (xd DX9_chooses rfl) rfl rfl ?_
                    refine x_iload 52 (xd DX9_chooses rfl) rfl rfl ?_
                    refine x_iload_n 53 (xd DX9_chooses rfl) rfl rfl ?_
                    refine x_icmp_le 56 61 (xd DX9_chooses rfl) rfl (by omega) (by omega) rfl (fun _ => ?_) (fun c53 => absurd c53 (by omega))
                    refine x_aload_n 62 (xd DX9_chooses rfl) rfl rfl ?_
                    refine x_gi 65 28 rfl LX9_167 (xd DX9_chooses rfl) rfl ⟨Or.inr ⟨rfl, by decide⟩, by decide⟩ rfl ?_
                    refine x_pi 68 28 rfl LX9_167 (xd DX9_chooses rfl) rfl rfl ⟨Or.inr ⟨rfl, by decide⟩, by decide⟩ rfl ?_
                    refine x_aload_n 69 (xd DX9_chooses rfl) rfl rfl ?_
                    refine x_iload 71 (xd DX9_chooses rfl) rfl rfl ?_
                    refine x_iload_n 72 (xd DX9_chooses rfl) rfl rfl ?_
                    refine x_icmp_le 75 79 (xd DX9_chooses rfl) rfl (by omega) (by omega) rfl (fun _ => ?_) (fun c72 => absurd c72 (by omega))
                    refine x_aload_n 80 (xd DX9_chooses rfl) rfl rfl ?_
                    refine x_gi 83 29 rfl LX9_170 (xd DX9_chooses rfl) rfl ⟨Or.inr ⟨rfl, by decide⟩, by decide⟩ rfl ?_
                    refine x_pi 86 29 rfl LX9_170 (xd DX9_chooses rfl) rfl rfl ⟨Or.inr ⟨rfl, by decide⟩, by decide⟩ rfl ?_
                    refine x_aload_n 87 (xd DX9_chooses rfl) rfl rfl ?_
                    refine x_iload 89 (xd DX9_chooses rfl) rfl rfl ?_
                    refine x_iload_n 90 (xd DX9_chooses rfl) rfl rfl ?_
                    refine x_icmp_le 93 97 (xd DX9_chooses rfl) rfl (by omega) (by omega) rfl (fun _ => ?_) (fun c90 => absurd c90 (by omega))
                    refine x_aload_n 98 (xd DX9_chooses rfl) rfl rfl ?_
                    refine x_gi 101 30 rfl LX9_173 (xd DX9_chooses rfl) rfl ⟨Or.inr ⟨rfl, by decide⟩, by decide⟩ rfl ?_
                    refine x_pi 104 30 rfl LX9_173 (xd DX9_chooses rfl) rfl rfl ⟨Or.inr ⟨rfl, by decide⟩, by decide⟩ rfl ?_
                    refine x_iload 106 (xd DX9_chooses rfl) rfl rfl ?_
                    refine x_iload_n 107 (xd DX9_chooses rfl) rfl rfl ?_
                    refine x_icmp_le 110 115 (xd DX9_chooses rfl) rfl (by omega) (by omega) rfl (fun _ => ?_) (fun c107 => absurd c107 (by omega))
                    refine x_iload_n 116 (xd DX9_chooses rfl) rfl rfl ?_
                    refine x_istore_n 117 (L' := [(0, _), (1, _), (2, _), (3, _), (4, _), (5, _)]) (xd DX9_chooses rfl) (by decide) rfl rfl rfl ?_
                    refine WX.locals (L' := [(0, _), (1, _), (2, _), (3, _), (4, _)]) (fun q hq => List.mem_append_left _ hq) ?_
                    rw [hset_i (by decide), hset_i (by decide), hset_i (by decide), hset_id', hset_id', hset_id']
                    exact nxt (by omega) _ _ (by
                      rw [scI_s, pik_f (fun q => cgt (by rw [hI2.2.2.2.2.2.2.2.1]; exact q.2))]
                      exact hI2)
          refine x_iload_n 12 (xd DX9_chooses rfl) rfl rfl ?_
          refine x_iload_n 13 (xd DX9_chooses rfl) rfl rfl ?_
          refine x_icmp_ge 16 129 (xd DX9_chooses rfl) rfl (by omega) (by omega) rfl (fun c13 => ?_) (fun c13 => ?_)
          · have ez : xz = xm2 := by omega
            subst ez
            refine WX.locals (L' := [(0, _), (1, _), (2, _)]) (fun q hq => List.mem_append_left _ hq) ?_
            exact nxtm _ _ g4 hI
          · refine x_iconst 17 (xd DX9_chooses rfl) rfl ?_
            refine x_istore 19 (L' := [(0, _), (1, _), (2, _), (3, _), (4, _)]) (xd DX9_chooses rfl) (by decide) rfl rfl rfl ?_
            exact loopi (by omega) 60 0 _ _ (by omega) (by omega) hI
      refine x_iload_n 5 (xd DX9_chooses rfl) rfl rfl ?_
      refine x_iconst 6 (xd DX9_chooses rfl) rfl ?_
      refine x_icmp_ge 9 135 (xd DX9_chooses rfl) rfl (by omega) (by omega) rfl (fun c6 => ?_) (fun c6 => ?_)
      · have em : xm2 = 5 := by omega
        subst em
        refine x_aload_n 136 (xd DX9_chooses rfl) rfl rfl ?_
        refine x_Vv 139 (pX9_cover g hI.1) FX9_cover VX9_cover CX9_113 (xd DX9_chooses rfl) rfl rfl rfl ⟨by decide, rfl⟩ ⟨by decide, by decide⟩ (by decide) (Nat.le_of_ble_eq_true rfl) (by decide) rfl ?_
        intro h3 ⟨hO3, hR3⟩
        refine x_iload_n 140 (xd DX9_chooses rfl) rfl rfl ?_
        refine x_if_le 143 147 (xd DX9_chooses rfl) rfl (by have := hI.2.2.2.2.2.1; have := hI.2.2.2.2.2.2.1; omega) rfl (fun c140 => ?_) (fun c140 => ?_)
        · refine x_iconst 148 (xd DX9_chooses rfl) rfl ?_
          refine x_rz (xd DX9_chooses rfl) rfl (by omega) ?_
          refine ⟨?_, ?_, hI.1.off hO3 (by unfold S890; omega) (by unfold S890; omega) (by unfold S890; omega) (by unfold S890; omega) (by unfold S890; omega), hR3, fun c hc => ?_, fun j j1 j2 j3 => ?_⟩
          · have e := hI.2.2.2.2.2.2.2.1
            rw [show ((5 : Int) - 2).toNat = 3 by decide] at e
            rw [← e]
            first | exact xp_t c140 | exact xp_f (by omega)
          · have e := hI.2.2.2.2.2.2.2.2
            rw [show ((5 : Int) - 2).toNat = 3 by decide] at e
            rw [hO3 259 (by unfold S890; omega), e.1, e.2.1, e.2.2]
          · rw [hO3 c (by unfold S890; omega)]
            exact hI.2.2.1 c (by unfold S9; omega)
          · rw [hO3 259 (by unfold S890; omega)]
            exact hI.2.2.2.1 j j1 j2 j3
        · refine x_iconst 144 (xd DX9_chooses rfl) rfl ?_
          refine x_goto 148 (xd DX9_chooses rfl) rfl ?_
          refine x_rz (xd DX9_chooses rfl) rfl (by omega) ?_
          refine ⟨?_, ?_, hI.1.off hO3 (by unfold S890; omega) (by unfold S890; omega) (by unfold S890; omega) (by unfold S890; omega) (by unfold S890; omega), hR3, fun c hc => ?_, fun j j1 j2 j3 => ?_⟩
          · have e := hI.2.2.2.2.2.2.2.1
            rw [show ((5 : Int) - 2).toNat = 3 by decide] at e
            rw [← e]
            first | exact xp_t c140 | exact xp_f (by omega)
          · have e := hI.2.2.2.2.2.2.2.2
            rw [show ((5 : Int) - 2).toNat = 3 by decide] at e
            rw [hO3 259 (by unfold S890; omega), e.1, e.2.1, e.2.2]
          · rw [hO3 c (by unfold S890; omega)]
            exact hI.2.2.1 c (by unfold S9; omega)
          · rw [hO3 259 (by unfold S890; omega)]
            exact hI.2.2.2.1 j j1 j2 j3
      · refine x_iconst 10 (xd DX9_chooses rfl) rfl ?_
        refine x_istore_n 11 (L' := [(0, _), (1, _), (2, _), (3, _)]) (xd DX9_chooses rfl) (by decide) rfl rfl rfl ?_
        exact looph (by omega) 10 (-1) _ _ (by omega) (by omega) (by omega) hI
  refine x_iconst 1 (xd DX9_chooses rfl) rfl ?_
  refine x_istore_n 2 (L' := [(0, _), (1, _)]) (xd DX9_chooses rfl) (by decide) rfl rfl rfl ?_
  refine x_iconst 3 (xd DX9_chooses rfl) rfl ?_
  refine x_istore_n 4 (L' := [(0, _), (1, _), (2, _)]) (xd DX9_chooses rfl) (by decide) rfl rfl rfl ?_
  exact loopm 10 2 0 h (by omega) (by omega) (by omega) ⟨hG, rfl, Off.rf, fun _ _ _ _ => rfl, fun _ _ => rfl, by omega, by omega, rfl, rfl, rfl, rfl⟩

