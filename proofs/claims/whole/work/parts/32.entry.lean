/-! Entry and Setup -/
def S3 (c x : Nat) : Prop := x = c ∨ x = c + 1 ∨ x = c + 2
/-- the entry at c in g is the one at d in h -/
def EEq (g : XH) (c : Nat) (h : XH) (d : Nat) : Prop := g c 2 = h d 2 ∧ g c 3 = h d 3 ∧ ∀ j, 0 ≤ j → j < 4 → g (c + 1) j = h (d + 1) j ∧ g (c + 2) j = h (d + 2) j
theorem EEq.tr {a b c : XH} {x y z : Nat} (h1 : EEq a x b y) (h2 : EEq b y c z) : EEq a x c z := ⟨h1.1.trans h2.1, h1.2.1.trans h2.2.1, fun j q r => ⟨(h1.2.2 j q r).1.trans (h2.2.2 j q r).1, (h1.2.2 j q r).2.trans (h2.2.2 j q r).2⟩⟩
theorem EEq.off {S : Nat → Prop} {h xg : XH} {c : Nat} (hO : Off S h xg) (h0 : ¬ S c) (h1 : ¬ S (c + 1)) (h2 : ¬ S (c + 2)) : EEq xg c h c := by
  unfold EEq
  rw [hO c h0, hO (c + 1) h1, hO (c + 2) h2]
  exact ⟨rfl, rfl, fun _ _ _ => ⟨rfl, rfl⟩⟩
theorem EEq.ew {g h : XH} {c d : Nat} (he : EEq g c h d) (hw : EW h d) : EW g c := by
  obtain ⟨a, b, e⟩ := he
  obtain ⟨w1, w2, w3⟩ := hw
  unfold EW
  rw [a, b]
  exact ⟨w1, w2, fun j q r => by rw [(e j q (by omega)).1, (e j q (by omega)).2]; exact w3 j q r⟩
/-- the entry at c is the sequence of m instructions from i on with the hole z -/
def Took (g : XH) (c : Nat) (h : XH) (i m z : Int) : Prop := g c 2 = m ∧ g c 3 = (if z < 0 then -4 else z) ∧ ∀ j, 0 ≤ j → j < m → g (c + 1) j = h 5 (i + j) ∧ g (c + 2) j = h 6 (i + j)
set_option maxRecDepth 100000 in
set_option maxHeartbeats 4000000 in
theorem pX1_take {K : XK} {n : Nat} {h : XH} (c : Nat) (i m z : Int) (hE : xEnt c) (hc : 9 < c) (hi : 0 ≤ i) (hm : 2 ≤ m ∧ m ≤ 4) (him : i + m ≤ 48) (hz : xrg z) : MV K mX1_take 0 n [vr c, vr 4, vi i, vi m, vi z] h (fun h' => Off (S3 c) h h' ∧ Took h' c h i m z) := by
  refine xMeth FX1_take (Nat.le_of_ble_eq_true rfl) ?_
  have e8 := hE.2.2.2.2.2.2.2
  have loop : ∀ (m1 : Nat) (xk : Nat) (xg : XH), (xk : Int) ≤ m → m - xk < (m1 : Int) → Off (S3 c) h xg → xg c 2 = m → xg c 3 = (if z < 0 then -4 else z) → (∀ j, 0 ≤ j → j < (xk : Int) → xg (c + 1) j = h 5 (i + j) ∧ xg (c + 2) j = h 6 (i + j)) → WI K mX1_take 0 n (qV n fun h' => Off (S3 c) h h' ∧ Took h' c h i m z) 24 [(0, vr c), (1, vr 4), (2, vi i), (3, vi m), (4, vi z), (5, vi (xk : Int))] [] xg := by
    intro m1
    induction m1 with
    | zero => intro xk xg a b; exact absurd b (by omega)
    | succ m1 ih =>
      intro xk xg h0 hm1 hO e2 e3 hk
      refine x_iload 26 (xd DX1_take rfl) rfl rfl ?_
      refine x_iload_n 27 (xd DX1_take rfl) rfl rfl ?_
      refine x_icmp_ge 30 68 (xd DX1_take rfl) rfl (by omega) (by omega) rfl (fun c27 => ?_) (fun c27 => ?_)
      · refine x_rv (xd DX1_take rfl) rfl ?_
        exact ⟨hO, e2, e3, fun j a b => hk j a (by omega)⟩
      · refine x_aload_n 31 (xd DX1_take rfl) rfl rfl ?_
        refine x_gr 34 (c + 1) LX1_9 (xd DX1_take rfl) hE.1 hE.2.2.2.1 ⟨by show c < 259; omega, by omega⟩ (by omega) rfl rfl ?_
        refine x_iload 36 (xd DX1_take rfl) rfl rfl ?_
        refine x_aload_n 37 (xd DX1_take rfl) rfl rfl ?_
        refine x_gr 40 _ LX1_25 (xd DX1_take rfl) rfl rfl ⟨by decide, by decide⟩ (by decide) rfl rfl ?_
        refine x_iload_n 41 (xd DX1_take rfl) rfl rfl ?_
        refine x_iload 43 (xd DX1_take rfl) rfl rfl ?_
        refine x_iadd 44 (xd DX1_take rfl) rfl ?_
        refine x_iaload 45 (xd DX1_take rfl) rfl ⟨Or.inr ⟨rfl, by decide⟩, by decide⟩ (by decide) (by omega) (by omega) rfl ?_
        refine x_iastore 46 (xd DX1_take rfl) hE.2.1 ⟨Or.inr ⟨rfl, by show c + 1 < 259; omega⟩, by omega⟩ (by decide) (by omega) (by omega) rfl ?_
        refine x_aload_n 47 (xd DX1_take rfl) rfl rfl ?_
        refine x_gr 50 (c + 2) LX1_15 (xd DX1_take rfl) hE.1 hE.2.2.2.2.1 ⟨by show c < 259; omega, by omega⟩ (by omega) rfl rfl ?_
        refine x_iload 52 (xd DX1_take rfl) rfl rfl ?_
        refine x_aload_n 53 (xd DX1_take rfl) rfl rfl ?_
        refine x_gr 56 _ LX1_28 (xd DX1_take rfl) rfl rfl ⟨by decide, by decide⟩ (by decide) rfl rfl ?_
        refine x_iload_n 57 (xd DX1_take rfl) rfl rfl ?_
        refine x_iload 59 (xd DX1_take rfl) rfl rfl ?_
        refine x_iadd 60 (xd DX1_take rfl) rfl ?_
        refine x_iaload 61 (xd DX1_take rfl) rfl ⟨Or.inr ⟨rfl, by decide⟩, by decide⟩ (by decide) (by omega) (by omega) rfl ?_
        refine x_iastore 62 (xd DX1_take rfl) hE.2.2.1 ⟨Or.inr ⟨rfl, by show c + 2 < 259; omega⟩, by omega⟩ (by decide) (by omega) (by omega) rfl ?_
        refine x_iinc 65 (L' := [(0, _), (1, _), (2, _), (3, _), (4, _), (5, _)]) (xd DX1_take rfl) rfl (by decide) rfl rfl rfl ?_
        refine x_goto 24 (xd DX1_take rfl) rfl ?_
        have e5 : xg 5 = h 5 := hO 5 (by unfold S3; omega)
        have e6 : xg 6 = h 6 := hO 6 (by unfold S3; omega)
        refine ih (xk + 1) _ (by omega) (by omega) ((hO.tr (Off.set (by unfold S3; omega))).tr (Off.set (by unfold S3; omega))) (by rw [hset_c (by omega), hset_c (by omega)]; exact e2) (by rw [hset_c (by omega), hset_c (by omega)]; exact e3) (fun j a b => ?_)
        rw [hset_c (d := 6) (by omega), e5, e6]
        by_cases q : j = (xk : Int)
        · subst q
          rw [hset_c (by omega), hset_s, hset_s]
          exact ⟨rfl, rfl⟩
        · rw [hset_c (by omega), hset_i q, hset_i q, hset_c (by omega)]
          exact hk j a (by omega)
  refine x_aload_n 1 (xd DX1_take rfl) rfl rfl ?_
  refine x_iload_n 2 (xd DX1_take rfl) rfl rfl ?_
  refine x_pi 5 2 rfl LX1_18 (xd DX1_take rfl) hE.1 hE.2.2.2.2.2.1 ⟨Or.inr ⟨rfl, by show c < 259; omega⟩, by omega⟩ rfl ?_
  refine x_aload_n 6 (xd DX1_take rfl) rfl rfl ?_
  refine x_iload 8 (xd DX1_take rfl) rfl rfl ?_
  refine x_if_ge 11 16 (xd DX1_take rfl) rfl (by omega) rfl (fun c8 => ?_) (fun c8 => ?_)
  · refine x_iload 18 (xd DX1_take rfl) rfl rfl ?_
    refine x_pi 21 3 rfl LX1_22 (xd DX1_take rfl) hE.1 hE.2.2.2.2.2.2.1 ⟨Or.inr ⟨rfl, by show c < 259; omega⟩, by omega⟩ rfl ?_
    refine x_iconst 22 (xd DX1_take rfl) rfl ?_
    refine x_istore 24 (L' := [(0, _), (1, _), (2, _), (3, _), (4, _), (5, _)]) (xd DX1_take rfl) (by decide) rfl rfl rfl ?_
    first
      | exact loop 100 0 _ (by omega) (by omega) ((Off.set (by unfold S3; omega)).tr (Off.set (by unfold S3; omega))) (by rw [hset_i (by decide), hset_s]) (by rw [hset_s, if_pos (by omega)]) (fun j a b => absurd b (by omega))
      | exact loop 100 0 _ (by omega) (by omega) ((Off.set (by unfold S3; omega)).tr (Off.set (by unfold S3; omega))) (by rw [hset_i (by decide), hset_s]) (by rw [hset_s, if_neg (by omega)]) (fun j a b => absurd b (by omega))
  · refine x_bipush 13 (xd DX1_take rfl) rfl rfl ?_
    refine x_goto 18 (xd DX1_take rfl) rfl ?_
    refine x_pi 21 3 rfl LX1_22 (xd DX1_take rfl) hE.1 hE.2.2.2.2.2.2.1 ⟨Or.inr ⟨rfl, by show c < 259; omega⟩, by omega⟩ rfl ?_
    refine x_iconst 22 (xd DX1_take rfl) rfl ?_
    refine x_istore 24 (L' := [(0, _), (1, _), (2, _), (3, _), (4, _), (5, _)]) (xd DX1_take rfl) (by decide) rfl rfl rfl ?_
    first
      | exact loop 100 0 _ (by omega) (by omega) ((Off.set (by unfold S3; omega)).tr (Off.set (by unfold S3; omega))) (by rw [hset_i (by decide), hset_s]) (by rw [hset_s, if_pos (by omega)]) (fun j a b => absurd b (by omega))
      | exact loop 100 0 _ (by omega) (by omega) ((Off.set (by unfold S3; omega)).tr (Off.set (by unfold S3; omega))) (by rw [hset_i (by decide), hset_s]) (by rw [hset_s, if_neg (by omega)]) (fun j a b => absurd b (by omega))

set_option maxRecDepth 100000 in
set_option maxHeartbeats 4000000 in
theorem pX1_copy {K : XK} {n : Nat} {h : XH} (c d : Nat) (hE : xEnt c) (hD : xEnt d) (hcd : c + 2 < d ∨ d + 2 < c) : MV K mX1_copy 0 n [vr c, vr d] h (fun h' => Off (S3 c) h h' ∧ EEq h' c h d) := by
  refine xMeth FX1_copy (Nat.le_of_ble_eq_true rfl) ?_
  have e8 := hE.2.2.2.2.2.2.2
  have d8 := hD.2.2.2.2.2.2.2
  have loop : ∀ (m1 : Nat) (xk : Nat) (xg : XH), (xk : Int) ≤ 4 → 4 - xk < (m1 : Int) → Off (S3 c) h xg → xg c 2 = h d 2 → xg c 3 = h d 3 → (∀ j, 0 ≤ j → j < (xk : Int) → xg (c + 1) j = h (d + 1) j ∧ xg (c + 2) j = h (d + 2) j) → WI K mX1_copy 0 n (qV n fun h' => Off (S3 c) h h' ∧ EEq h' c h d) 18 [(0, vr c), (1, vr d), (2, vi (xk : Int))] [] xg := by
    intro m1
    induction m1 with
    | zero => intro xk xg a b; exact absurd b (by omega)
    | succ m1 ih =>
      intro xk xg h0 hm1 hO e2 e3 hk
      refine x_iload_n 19 (xd DX1_copy rfl) rfl rfl ?_
      refine x_iconst 20 (xd DX1_copy rfl) rfl ?_
      refine x_icmp_ge 23 53 (xd DX1_copy rfl) rfl (by omega) (by omega) rfl (fun c20 => ?_) (fun c20 => ?_)
      · refine x_rv (xd DX1_copy rfl) rfl ?_
        exact ⟨hO, e2, e3, fun j a b => hk j a (by omega)⟩
      · refine x_aload_n 24 (xd DX1_copy rfl) rfl rfl ?_
        refine x_gr 27 (c + 1) LX1_9 (xd DX1_copy rfl) hE.1 hE.2.2.2.1 ⟨by show c < 259; omega, by omega⟩ (by omega) rfl rfl ?_
        refine x_iload_n 28 (xd DX1_copy rfl) rfl rfl ?_
        refine x_aload_n 29 (xd DX1_copy rfl) rfl rfl ?_
        refine x_gr 32 (d + 1) LX1_9 (xd DX1_copy rfl) hD.1 hD.2.2.2.1 ⟨by show d < 259; omega, by omega⟩ (by omega) rfl rfl ?_
        refine x_iload_n 33 (xd DX1_copy rfl) rfl rfl ?_
        refine x_iaload 34 (xd DX1_copy rfl) hD.2.1 ⟨Or.inr ⟨rfl, by show d + 1 < 259; omega⟩, by omega⟩ (by decide) (by omega) (by omega) rfl ?_
        refine x_iastore 35 (xd DX1_copy rfl) hE.2.1 ⟨Or.inr ⟨rfl, by show c + 1 < 259; omega⟩, by omega⟩ (by decide) (by omega) (by omega) rfl ?_
        refine x_aload_n 36 (xd DX1_copy rfl) rfl rfl ?_
        refine x_gr 39 (c + 2) LX1_15 (xd DX1_copy rfl) hE.1 hE.2.2.2.2.1 ⟨by show c < 259; omega, by omega⟩ (by omega) rfl rfl ?_
        refine x_iload_n 40 (xd DX1_copy rfl) rfl rfl ?_
        refine x_aload_n 41 (xd DX1_copy rfl) rfl rfl ?_
        refine x_gr 44 (d + 2) LX1_15 (xd DX1_copy rfl) hD.1 hD.2.2.2.2.1 ⟨by show d < 259; omega, by omega⟩ (by omega) rfl rfl ?_
        refine x_iload_n 45 (xd DX1_copy rfl) rfl rfl ?_
        refine x_iaload 46 (xd DX1_copy rfl) hD.2.2.1 ⟨Or.inr ⟨rfl, by show d + 2 < 259; omega⟩, by omega⟩ (by decide) (by omega) (by omega) rfl ?_
        refine x_iastore 47 (xd DX1_copy rfl) hE.2.2.1 ⟨Or.inr ⟨rfl, by show c + 2 < 259; omega⟩, by omega⟩ (by decide) (by omega) (by omega) rfl ?_
        refine x_iinc 50 (L' := [(0, _), (1, _), (2, _)]) (xd DX1_copy rfl) rfl (by decide) rfl rfl rfl ?_
        refine x_goto 18 (xd DX1_copy rfl) rfl ?_
        have e5 : xg (d + 1) = h (d + 1) := hO _ (by unfold S3; omega)
        have e6 : xg (d + 2) = h (d + 2) := hO _ (by unfold S3; omega)
        refine ih (xk + 1) _ (by omega) (by omega) ((hO.tr (Off.set (by unfold S3; omega))).tr (Off.set (by unfold S3; omega))) (by rw [hset_c (by omega), hset_c (by omega)]; exact e2) (by rw [hset_c (by omega), hset_c (by omega)]; exact e3) (fun j a b => ?_)
        rw [hset_c (d := d + 2) (by omega), e5, e6]
        by_cases q : j = (xk : Int)
        · subst q
          rw [hset_c (by omega), hset_s, hset_s]
          exact ⟨rfl, rfl⟩
        · rw [hset_c (by omega), hset_i q, hset_i q, hset_c (by omega)]
          exact hk j a (by omega)
  refine x_aload_n 1 (xd DX1_copy rfl) rfl rfl ?_
  refine x_aload_n 2 (xd DX1_copy rfl) rfl rfl ?_
  refine x_gi 5 2 rfl LX1_18 (xd DX1_copy rfl) hD.1 ⟨Or.inr ⟨rfl, by show d < 259; omega⟩, by omega⟩ rfl ?_
  refine x_pi 8 2 rfl LX1_18 (xd DX1_copy rfl) hE.1 hE.2.2.2.2.2.1 ⟨Or.inr ⟨rfl, by show c < 259; omega⟩, by omega⟩ rfl ?_
  refine x_aload_n 9 (xd DX1_copy rfl) rfl rfl ?_
  refine x_aload_n 10 (xd DX1_copy rfl) rfl rfl ?_
  refine x_gi 13 3 rfl LX1_22 (xd DX1_copy rfl) hD.1 ⟨Or.inr ⟨rfl, by show d < 259; omega⟩, by omega⟩ rfl ?_
  refine x_pi 16 3 rfl LX1_22 (xd DX1_copy rfl) hE.1 hE.2.2.2.2.2.2.1 ⟨Or.inr ⟨rfl, by show c < 259; omega⟩, by omega⟩ rfl ?_
  refine x_iconst 17 (xd DX1_copy rfl) rfl ?_
  refine x_istore_n 18 (L' := [(0, _), (1, _), (2, _)]) (xd DX1_copy rfl) (by decide) rfl rfl rfl ?_
  have ed : hset h c 2 (h d 2) d = h d := hset_c (by omega)
  rw [ed]
  exact loop 100 0 _ (by omega) (by omega) ((Off.set (by unfold S3; omega)).tr (Off.set (by unfold S3; omega))) (by rw [hset_i (by decide), hset_s]) (by rw [hset_s]) (fun j a b => absurd b (by omega))

def xStp (s : Nat) : Prop := xTY s = (6, 4) ∧ xTY (s + 1) = (13, 8) ∧ xRF s 0 = s + 1 + 1 ∧ (xRF s 1 = 0 ∧ xRF s 2 = 0 ∧ xRF s 3 = 0) ∧ s + 26 ≤ 192 ∧ ∀ e : Fin 8, xRF (s + 1) e.val = s + 2 + 3 * e.val + 1 ∧ xEnt (s + 2 + 3 * e.val)
theorem xStp_8 : xStp 8 := by unfold xStp xEnt; decide +kernel
theorem xStp_36 : ∀ k : Fin 6, xStp (36 + 26 * k.val) := by unfold xStp xEnt; decide +kernel
def S26 (s x : Nat) : Prop := s ≤ x ∧ x < s + 26
/-- the setup at s in g is the one at t in h -/
def SEq (g : XH) (s : Nat) (h : XH) (t : Nat) : Prop := g s 1 = h t 1 ∧ g s 2 = h t 2 ∧ g s 3 = h t 3 ∧ ∀ e : Nat, (e : Int) < h t 1 → EEq g (s + 2 + 3 * e) h (t + 2 + 3 * e)
theorem SEq.tr {a b c : XH} {x y z : Nat} (h1 : SEq a x b y) (h2 : SEq b y c z) : SEq a x c z := ⟨h1.1.trans h2.1, h1.2.1.trans h2.2.1, h1.2.2.1.trans h2.2.2.1, fun e he => (h1.2.2.2 e (by rw [h2.1]; exact he)).tr (h2.2.2.2 e he)⟩
theorem SEq.sw {g h : XH} {s t : Nat} (he : SEq g s h t) (hw : SW h t) : SW g s := by
  obtain ⟨a, b, c, d⟩ := he
  obtain ⟨w1, w2, w3, w4⟩ := hw
  exact ⟨by rw [a]; exact w1, by rw [b]; exact w2, by rw [c]; exact w3, fun e q => (d e (by rw [← a]; exact q)).ew (w4 e (by rw [← a]; exact q))⟩
theorem SEq.off {S : Nat → Prop} {h xg : XH} {s : Nat} (hO : Off S h xg) (hs : ∀ x, S26 s x → ¬ S x) (h8 : h s 1 ≤ 8) : SEq xg s h s := by
  unfold SEq
  rw [hO s (hs s (by unfold S26; omega))]
  exact ⟨rfl, rfl, rfl, fun e q => EEq.off hO (hs _ (by unfold S26; omega)) (hs _ (by unfold S26; omega)) (hs _ (by unfold S26; omega))⟩
set_option maxRecDepth 100000 in
set_option maxHeartbeats 4000000 in
theorem pX6_copy {K : XK} {n : Nat} {h : XH} (s t : Nat) (hS : xStp s) (hT : xStp t) (hst : s + 26 ≤ t ∨ t + 26 ≤ s) (h8 : 0 ≤ h t 1 ∧ h t 1 ≤ 8) : MV K mX6_copy 1 n [vr s, vr t] h (fun h' => Off (S26 s) h h' ∧ SEq h' s h t) := by
  refine xMeth FX6_copy (Nat.le_of_ble_eq_true rfl) ?_
  have s8 := hS.2.2.2.2.1
  have t8 := hT.2.2.2.2.1
  have loop : ∀ (m1 : Nat) (xk : Nat) (xg : XH), (xk : Int) ≤ h t 1 → h t 1 - xk < (m1 : Int) → Off (S26 s) h xg → xg s 1 = h t 1 → xg s 2 = h t 2 → xg s 3 = h t 3 → (∀ e : Nat, e < xk → EEq xg (s + 2 + 3 * e) h (t + 2 + 3 * e)) → WI K mX6_copy 1 n (qV n fun h' => Off (S26 s) h h' ∧ SEq h' s h t) 26 [(0, vr s), (1, vr t), (2, vi (xk : Int))] [] xg := by
    intro m1
    induction m1 with
    | zero => intro xk xg a b; exact absurd b (by omega)
    | succ m1 ih =>
      intro xk xg h0 hm1 hO e1 e2 e3 hk
      refine x_iload_n 27 (xd DX6_copy rfl) rfl rfl ?_
      refine x_aload_n 28 (xd DX6_copy rfl) rfl rfl ?_
      refine x_gi 31 1 rfl LX6_25 (xd DX6_copy rfl) hS.1 ⟨Or.inr ⟨rfl, by show s < 259; omega⟩, by omega⟩ rfl ?_
      refine x_icmp_ge 34 55 (xd DX6_copy rfl) rfl (by omega) (by omega) rfl (fun c31 => ?_) (fun c31 => ?_)
      · refine x_rv (xd DX6_copy rfl) rfl ?_
        exact ⟨hO, e1, e2, e3, fun e q => hk e (by omega)⟩
      · refine x_aload_n 35 (xd DX6_copy rfl) rfl rfl ?_
        refine x_gr 38 (s + 1) LX6_11 (xd DX6_copy rfl) hS.1 hS.2.2.1 ⟨by show s < 259; omega, by omega⟩ (by omega) rfl rfl ?_
        refine x_iload_n 39 (xd DX6_copy rfl) rfl rfl ?_
        refine x_aaload 40 (s + 2 + 3 * xk) (xd DX6_copy rfl) hS.2.1 (by decide) ⟨by show s + 1 < 259; omega, by omega⟩ (by decide) rfl (by omega) (hS.2.2.2.2.2 ⟨xk, by omega⟩).1 (by omega) rfl rfl ?_
        refine x_aload_n 41 (xd DX6_copy rfl) rfl rfl ?_
        refine x_gr 44 (t + 1) LX6_11 (xd DX6_copy rfl) hT.1 hT.2.2.1 ⟨by show t < 259; omega, by omega⟩ (by omega) rfl rfl ?_
        refine x_iload_n 45 (xd DX6_copy rfl) rfl rfl ?_
        refine x_aaload 46 (t + 2 + 3 * xk) (xd DX6_copy rfl) hT.2.1 (by decide) ⟨by show t + 1 < 259; omega, by omega⟩ (by decide) rfl (by omega) (hT.2.2.2.2.2 ⟨xk, by omega⟩).1 (by omega) rfl rfl ?_
        refine x_Vv 49 (pX1_copy (s + 2 + 3 * xk) (t + 2 + 3 * xk) (hS.2.2.2.2.2 ⟨xk, by omega⟩).2 (hT.2.2.2.2.2 ⟨xk, by omega⟩).2 (by omega)) FX1_copy VX1_copy CX6_28 (xd DX6_copy rfl) rfl rfl (hS.2.2.2.2.2 ⟨xk, by omega⟩).2.1 ⟨by decide, rfl⟩ ⟨by show s + 2 + 3 * xk < 259; omega, by omega⟩ (by decide) (Nat.le_of_ble_eq_true rfl) (by decide) rfl ?_
        rintro xq ⟨oq, eq⟩
        refine x_iinc 52 (L' := [(0, _), (1, _), (2, _)]) (xd DX6_copy rfl) rfl (by decide) rfl rfl rfl ?_
        refine x_goto 26 (xd DX6_copy rfl) rfl ?_
        refine ih (xk + 1) _ (by omega) (by omega) (hO.tr (oq.mono (fun x q => by unfold S3 at q; unfold S26; omega))) (by rw [oq s (by unfold S3; omega)]; exact e1) (by rw [oq s (by unfold S3; omega)]; exact e2) (by rw [oq s (by unfold S3; omega)]; exact e3) (fun e q => ?_)
        by_cases z : e = xk
        · subst z
          exact eq.tr (EEq.off hO (by unfold S26; omega) (by unfold S26; omega) (by unfold S26; omega))
        · exact (EEq.off oq (by unfold S3; omega) (by unfold S3; omega) (by unfold S3; omega)).tr (hk e (by omega))
  refine x_aload_n 1 (xd DX6_copy rfl) rfl rfl ?_
  refine x_aload_n 2 (xd DX6_copy rfl) rfl rfl ?_
  refine x_gi 5 1 rfl LX6_25 (xd DX6_copy rfl) hT.1 ⟨Or.inr ⟨rfl, by show t < 259; omega⟩, by omega⟩ rfl ?_
  refine x_pi 8 1 rfl LX6_25 (xd DX6_copy rfl) hS.1 hS.2.2.2.1.1 ⟨Or.inr ⟨rfl, by show s < 259; omega⟩, by omega⟩ rfl ?_
  refine x_aload_n 9 (xd DX6_copy rfl) rfl rfl ?_
  refine x_aload_n 10 (xd DX6_copy rfl) rfl rfl ?_
  refine x_gi 13 2 rfl LX6_17 (xd DX6_copy rfl) hT.1 ⟨Or.inr ⟨rfl, by show t < 259; omega⟩, by omega⟩ rfl ?_
  refine x_pi 16 2 rfl LX6_17 (xd DX6_copy rfl) hS.1 hS.2.2.2.1.2.1 ⟨Or.inr ⟨rfl, by show s < 259; omega⟩, by omega⟩ rfl ?_
  refine x_aload_n 17 (xd DX6_copy rfl) rfl rfl ?_
  refine x_aload_n 18 (xd DX6_copy rfl) rfl rfl ?_
  refine x_gi 21 3 rfl LX6_21 (xd DX6_copy rfl) hT.1 ⟨Or.inr ⟨rfl, by show t < 259; omega⟩, by omega⟩ rfl ?_
  refine x_pi 24 3 rfl LX6_21 (xd DX6_copy rfl) hS.1 hS.2.2.2.1.2.2 ⟨Or.inr ⟨rfl, by show s < 259; omega⟩, by omega⟩ rfl ?_
  refine x_iconst 25 (xd DX6_copy rfl) rfl ?_
  refine x_istore_n 26 (L' := [(0, _), (1, _), (2, _)]) (xd DX6_copy rfl) (by decide) rfl rfl rfl ?_
  have ed : ∀ k z, hset h s k z t = h t := fun k z => hset_c (by omega)
  have ed2 : hset (hset h s 1 (h t 1)) s 2 (h t 2) t = h t := by rw [hset_c (by omega), ed]
  rw [ed, ed2]
  exact loop 100 0 _ (by omega) (by omega) (((Off.set (by unfold S26; omega)).tr (Off.set (by unfold S26; omega))).tr (Off.set (by unfold S26; omega))) (by rw [hset_i (by decide), hset_i (by decide), hset_s]) (by rw [hset_i (by decide), hset_s]) (by rw [hset_s]) (fun e q => absurd q (by omega))

