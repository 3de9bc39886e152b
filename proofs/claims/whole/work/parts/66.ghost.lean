/-! the class's picture in a ghost heap g, the reference's cells in h -/
def ltr (k : Int) : Int := if k = 0 then 97 else if k = 1 then 109 else if k = 2 then 120 else if k = 3 then 115 else if k = 4 then 108 else if k = 5 then 112 else if k = 6 then 119 else if k = 7 then 106 else if k = 8 then 122 else if k = 9 then 107 else if k = 10 then 113 else 104
theorem k12 {k : Int} (hk : 0 ≤ k ∧ k ≤ 11) : k = 0 ∨ k = 1 ∨ k = 2 ∨ k = 3 ∨ k = 4 ∨ k = 5 ∨ k = 6 ∨ k = 7 ∨ k = 8 ∨ k = 9 ∨ k = 10 ∨ k = 11 := by omega
theorem ltr_sim {k : Int} (hk : 0 ≤ k ∧ k ≤ 11) : mSim (ltr k) ↔ kSim k := by
  rcases k12 hk with e | e | e | e | e | e | e | e | e | e | e | e <;> subst e <;> unfold mSim kSim ltr <;> decide
theorem ltr_pl {k : Int} (hk : 0 ≤ k ∧ k ≤ 11) : mPl (ltr k) ↔ kTgt k := by
  rcases k12 hk with e | e | e | e | e | e | e | e | e | e | e | e <;> subst e <;> unfold mPl kTgt ltr <;> decide
def lti (c : Int) : Int := if c = 97 then 0 else if c = 109 then 1 else if c = 120 then 2 else if c = 115 then 3 else if c = 108 then 4 else if c = 112 then 5 else if c = 119 then 6 else if c = 106 then 7 else if c = 122 then 8 else if c = 107 then 9 else if c = 113 then 10 else 11
theorem lti_ltr {k : Int} (hk : 0 ≤ k ∧ k ≤ 11) : lti (ltr k) = k := by
  rcases k12 hk with e | e | e | e | e | e | e | e | e | e | e | e <;> subst e <;> rfl
theorem ltr_inj {a b : Int} (ha : 0 ≤ a ∧ a ≤ 11) (hb : 0 ≤ b ∧ b ≤ 11) : ltr a = ltr b ↔ a = b := by
  refine ⟨fun q => ?_, fun q => by rw [q]⟩
  rw [← lti_ltr ha, q, lti_ltr hb]
theorem ltr_rg (k : Int) : 97 ≤ ltr k ∧ ltr k ≤ 122 := by
  unfold ltr
  (repeat' split) <;> omega
theorem ltr_own {k : Int} (hk : 0 ≤ k ∧ k ≤ 11) : mOwn (ltr k) = kOwn k := by
  unfold mOwn
  by_cases q : kSim k
  · rw [pik_t ((ltr_sim hk).mpr q), kOwn_s q]
  · rw [pik_f (fun z => q ((ltr_sim hk).mp z))]
    by_cases q2 : kTgt k
    · rw [pik_t ((ltr_pl hk).mpr q2), kOwn_t q q2]
    · rw [pik_f (fun z => q2 ((ltr_pl hk).mp z)), kOwn_o q q2]
theorem hset_at {h : XH} {c : Nat} {k z j : Int} : hset h c k z c j = if j = k then z else h c j := by
  by_cases e : j = k
  · rw [e, if_pos rfl, hset_s]
  · rw [if_neg e, hset_i e]
/-- the program -/
def RP (g h : XH) : Prop := h 259 5 = g 4 3 ∧ ∀ j, 0 ≤ j → j < g 4 3 → h 263 j = ltr (g 5 j) ∧ h 264 j = g 6 j ∧ h 265 j = g 7 j
/-- an entry: ten places from b on -/
def ME (g : XH) (c : Nat) (f : Int → Int) (b : Int) : Prop := f b = g c 2 ∧ f (b + 1) = g c 3 ∧ ∀ k, 0 ≤ k → k < 4 → f (b + 2 + k) = (if k < g c 2 then ltr (g (c + 1) k) else 0) ∧ f (b + 6 + k) = (if k < g c 2 ∧ k ≠ g c 3 then g (c + 2) k else -4)
/-- a setup: 83 places from b on -/
def RTs (g : XH) (s : Nat) (f : Int → Int) (b : Int) : Prop := f (b + 80) = g s 2 ∧ f (b + 81) = g s 3 ∧ f (b + 82) = g s 1 ∧ ∀ e : Nat, (e : Int) < g s 1 → ME g (s + 2 + 3 * e) f (b + 10 * e)
def RT (g h : XH) : Prop := h 266 80 = g 8 2 ∧ h 266 81 = g 8 3 ∧ h 266 82 = g 8 1 ∧ ∀ e : Nat, (e : Int) < g 8 1 → ME g (10 + 3 * e) (h 266) (10 * e)
theorem RT.s {g h : XH} (hR : RT g h) : RTs g 8 (h 266) 0 := ⟨hR.1, hR.2.1, hR.2.2.1, fun e he => by
  have := hR.2.2.2 e he
  rw [show (0 : Int) + 10 * (e : Int) = 10 * e by omega]
  exact this⟩
theorem RTs.t {g h : XH} (hR : RTs g 8 (h 266) 0) : RT g h := ⟨hR.1, hR.2.1, hR.2.2.1, fun e he => by
  have := hR.2.2.2 e he
  rw [show (0 : Int) + 10 * (e : Int) = 10 * e by omega] at this
  exact this⟩
theorem ME.mv {g : XH} {c : Nat} {f f' : Int → Int} {b b' : Int} (hM : ME g c f b) (hf : ∀ x, 0 ≤ x → x < 10 → f' (b' + x) = f (b + x)) : ME g c f' b' := by
  refine ⟨?_, ?_, fun k k0 k1 => ⟨?_, ?_⟩⟩
  · have := hf 0 (by omega) (by omega)
    rw [Int.add_zero, Int.add_zero] at this
    rw [this]; exact hM.1
  · rw [hf 1 (by omega) (by omega)]; exact hM.2.1
  · rw [show b' + 2 + k = b' + (2 + k) by omega, hf (2 + k) (by omega) (by omega), show b + (2 + k) = b + 2 + k by omega]
    exact (hM.2.2 k k0 k1).1
  · rw [show b' + 6 + k = b' + (6 + k) by omega, hf (6 + k) (by omega) (by omega), show b + (6 + k) = b + 6 + k by omega]
    exact (hM.2.2 k k0 k1).2
/-- the same entry of another picture -/
theorem ME.eq {g g' : XH} {c c' : Nat} {f : Int → Int} {b : Int} (hM : ME g c f b) (he : EEq g' c' g c) : ME g' c' f b := by
  refine ⟨by rw [he.1]; exact hM.1, by rw [he.2.1]; exact hM.2.1, fun k k0 k1 => ?_⟩
  rw [he.1, he.2.1, (he.2.2 k k0 k1).1, (he.2.2 k k0 k1).2]
  exact hM.2.2 k k0 k1
theorem RTs.mv {g : XH} {s : Nat} {f f' : Int → Int} {b b' : Int} (hR : RTs g s f b) (h8 : g s 1 ≤ 8) (hf : ∀ x, 0 ≤ x → x < 83 → f' (b' + x) = f (b + x)) : RTs g s f' b' := by
  refine ⟨?_, ?_, ?_, fun e he => ?_⟩
  · rw [hf 80 (by omega) (by omega)]; exact hR.1
  · rw [hf 81 (by omega) (by omega)]; exact hR.2.1
  · rw [hf 82 (by omega) (by omega)]; exact hR.2.2.1
  · refine (hR.2.2.2 e he).mv (fun x a c => ?_)
    rw [show b' + 10 * (e : Int) + x = b' + (10 * e + x) by omega, hf (10 * e + x) (by omega) (by omega), show b + (10 * (e : Int) + x) = b + 10 * e + x by omega]
theorem RTs.eq {g g' : XH} {s s' : Nat} {f : Int → Int} {b : Int} (hR : RTs g s f b) (he : SEq g' s' g s) : RTs g' s' f b := by
  refine ⟨by rw [he.2.1]; exact hR.1, by rw [he.2.2.1]; exact hR.2.1, by rw [he.1]; exact hR.2.2.1, fun e h1 => ?_⟩
  rw [he.1] at h1
  exact (hR.2.2.2 e h1).eq (he.2.2.2 e h1)
theorem RT.eq {g g' h : XH} (hR : RT g h) (he : SEq g' 8 g 8) : RT g' h := (hR.s.eq he).t
theorem RP.eq {g g' h : XH} (hR : RP g h) (h4 : g' 4 = g 4) (h5 : g' 5 = g 5) (h6 : g' 6 = g 6) (h7 : g' 7 = g 7) : RP g' h := by
  unfold RP
  rw [h4, h5, h6, h7]
  exact hR
theorem RP.mv {g h h' : XH} (hR : RP g h) (h0 : h' 259 5 = h 259 5) (h3 : h' 263 = h 263) (h4 : h' 264 = h 264) (h5 : h' 265 = h 265) : RP g h' := by
  unfold RP
  rw [h0, h3, h4, h5]
  exact hR
theorem RP.mpw {g h : XH} (hR : RP g h) (hP : PW g) : MPW h := by
  refine ⟨by rw [hR.1]; exact ⟨by have := hP.1; omega, hP.1.2⟩, fun j a b => ?_⟩
  rw [hR.1] at b
  obtain ⟨q1, q2, q3⟩ := hR.2 j a b
  have v := hP.v a b
  have l := ltr_rg (g 5 j)
  refine ⟨by rw [q1]; omega, by rw [q2]; omega, by rw [q3]; exact (hP.2 j a b).2.2.2.2⟩
/-- a sequence is one to both -/
theorem MSq_Sq {g h : XH} (hP : PW g) (hL : LY g) (hR : RP g h) (h80 : h 266 80 = g 8 2) {i m : Int} (hi : 0 ≤ i ∧ i < g 4 3) (hm : 1 ≤ m ∧ m ≤ 4) : MSq h i m ↔ m ≤ g 193 i := by
  obtain ⟨k, -, -, hk8, hr⟩ := hL.1
  have e := rch_seq hr hL.hr m.toNat i hi.1 hi.2 (by omega) (by omega)
  rw [show ((m.toNat : Nat) : Int) = m by omega] at e
  rw [e]
  unfold MSq SeqM MSs
  rw [h80, hk8, hR.1]
  refine and_congr_right fun q1 => and_congr_right fun _ => ?_
  refine forall_congr' fun x => forall_congr' fun a => forall_congr' fun b => ?_
  obtain ⟨r1, -, r3⟩ := hR.2 (i + x) (by omega) (by omega)
  rw [r1, r3, ltr_sim (hP.v (by omega) (by omega)).1]
theorem MMt_Mt {g h : XH} {c : Nat} {i b : Int} (hP : PW g) (hL : LY g) (hR : RP g h) (h80 : h 266 80 = g 8 2) (hE : EW g c) (hM : ME g c (h 266) b) (hi : 0 ≤ i ∧ i < g 4 3) : MMt h i b ↔ Mt g c i := by
  unfold MMt Mt
  rw [hM.1, MSq_Sq hP hL hR h80 hi (by have := hE.1; omega)]
  refine and_congr_right fun q1 => ?_
  have q2 : i + g c 2 ≤ g 4 3 := by have := hL.hrl i hi.1 hi.2; omega
  unfold MFs Fits
  constructor
  · intro q
    refine ⟨hi.1, by omega, fun x a b1 => ?_⟩
    have hx := q x a b1
    have hx4 : x < 4 := by have := hE.1; omega
    obtain ⟨r1, r2, -⟩ := hR.2 (i + x) (by omega) (by omega)
    rw [r1, r2, (hM.2.2 x a hx4).1, (hM.2.2 x a hx4).2, hM.2.1, if_pos b1, ltr_inj (hP.v (by omega) (by omega)).1 (by have := (hE.2.2 x a b1).1; omega)] at hx
    refine ⟨hx.1.symm, ?_⟩
    by_cases e : x = g c 3
    · exact Or.inl e
    · refine Or.inr ?_
      rw [if_pos ⟨b1, e⟩] at hx
      exact (hx.2.resolve_left e).symm
  · rintro ⟨-, -, q⟩ x a b1
    have hx := q x a b1
    have hx4 : x < 4 := by have := hE.1; omega
    obtain ⟨r1, r2, -⟩ := hR.2 (i + x) (by omega) (by omega)
    rw [r1, r2, (hM.2.2 x a hx4).1, (hM.2.2 x a hx4).2, hM.2.1, if_pos b1, ltr_inj (hP.v (by omega) (by omega)).1 (by have := (hE.2.2 x a b1).1; omega)]
    refine ⟨hx.1.symm, ?_⟩
    by_cases e : x = g c 3
    · exact Or.inl e
    · rw [if_pos ⟨b1, e⟩]
      exact Or.inr (hx.2.resolve_left e).symm
/-- all of the table is small -/
def TRg (h : XH) : Prop := ∀ j, 0 ≤ j → j < 93 → xrg (h 266 j)
theorem RT.mtw {g h : XH} (hR : RT g h) (hS : SW g 8) (hT : TRg h) : MTW h := by
  refine ⟨by rw [hR.1]; have := hS.2.1; omega, by rw [hR.2.2.1]; exact hS.1, hT⟩
/-! SqueezedCodeModel: lays -/
def LyI (h : XH) (b i m z : Int) (k : Int) (g : XH) : Prop := Off (fun c => c = 266) h g ∧ (∀ j, (j < b ∨ b + 10 ≤ j) → g 266 j = h 266 j) ∧ g 266 b = m ∧ g 266 (b + 1) = (if z < 0 then -4 else z) ∧ ∀ x, 0 ≤ x → x < k → g 266 (b + 2 + x) = (if x < m then h 263 (i + x) else 0) ∧ g 266 (b + 6 + x) = (if x < m ∧ x ≠ z then h 264 (i + x) else -4)
theorem LyI.step {h g : XH} {b i m z k v w : Int} (hI : LyI h b i m z k g) (hk : 0 ≤ k ∧ k < 4) (hv : v = if k < m then h 263 (i + k) else 0) (hw : w = if k < m ∧ k ≠ z then h 264 (i + k) else -4) : LyI h b i m z (k + 1) (hset (hset g 266 (b + 2 + k) v) 266 (b + 6 + k) w) := by
  obtain ⟨h1, h2, h3, h4, h5⟩ := hI
  refine ⟨(h1.tr (Off.set rfl)).tr (Off.set rfl), fun j hj => ?_, ?_, ?_, fun x a c => ⟨?_, ?_⟩⟩
  · rw [hset_i (by omega), hset_i (by omega)]; exact h2 j hj
  · rw [hset_i (by omega), hset_i (by omega)]; exact h3
  · rw [hset_i (by omega), hset_i (by omega)]; exact h4
  · rw [hset_i (by omega), hset_at]
    split
    · rw [show x = k by omega]; exact hv
    · exact (h5 x a (by omega)).1
  · rw [hset_at]
    split
    · rw [show x = k by omega]; exact hw
    · rw [hset_i (by omega)]; exact (h5 x a (by omega)).2
def Lays (h : XH) (b i m z : Int) (g : XH) : Prop := LyI h b i m z 4 g
theorem Lays.rg {h g : XH} {b i m z : Int} (hl : Lays h b i m z g) (hT : TRg h) (hm : 2 ≤ m ∧ m ≤ 4) (hz : -1 ≤ z ∧ z < m) (hr : ∀ x, 0 ≤ x → x < m → xrg (h 263 (i + x)) ∧ xrg (h 264 (i + x))) : TRg g := by
  intro j a c
  by_cases e : j < b ∨ b + 10 ≤ j
  · rw [hl.2.1 j e]; exact hT j a c
  · by_cases e1 : j = b
    · rw [e1, hl.2.2.1]; omega
    · by_cases e2 : j = b + 1
      · rw [e2, hl.2.2.2.1]; split <;> omega
      · by_cases e3 : j < b + 6
        · have := (hl.2.2.2.2 (j - b - 2) (by omega) (by omega)).1
          rw [show b + 2 + (j - b - 2) = j by omega] at this
          rw [this]
          split
          · exact (hr _ (by omega) (by omega)).1
          · decide
        · have := (hl.2.2.2.2 (j - b - 6) (by omega) (by omega)).2
          rw [show b + 6 + (j - b - 6) = j by omega] at this
          rw [this]
          split
          · exact (hr _ (by omega) (by omega)).2
          · decide
/-- what is laid is the entry that the class took -/
theorem Lays.me {g g' h h' : XH} {c : Nat} {b i m z : Int} (hl : Lays h b i m z h') (hR : RP g h) (hi : 0 ≤ i ∧ i + m ≤ g 4 3) (hz : -1 ≤ z) (ht : Took g' c g i m z) : ME g' c (h' 266) b := by
  obtain ⟨-, -, l3, l4, l5⟩ := hl
  obtain ⟨t1, t2, t3⟩ := ht
  refine ⟨by rw [l3, t1], by rw [l4, t2], fun k k0 k1 => ?_⟩
  rw [t1, t2, (l5 k k0 k1).1, (l5 k k0 k1).2]
  by_cases hk : k < m
  · obtain ⟨r1, r2, -⟩ := hR.2 (i + k) (by omega) (by omega)
    rw [if_pos hk, if_pos hk, r1, r2, (t3 k k0 hk).1, (t3 k k0 hk).2]
    refine ⟨rfl, ?_⟩
    by_cases e : k = z
    · rw [if_neg (fun q => q.2 e), if_neg (fun q => q.2 (by rw [if_neg (by omega)]; exact e))]
    · rw [if_pos ⟨hk, e⟩, if_pos ⟨hk, by split <;> omega⟩]
  · rw [if_neg hk, if_neg hk, if_neg (fun q => hk q.1), if_neg (fun q => hk q.1)]
    exact ⟨rfl, rfl⟩
set_option maxRecDepth 100000 in
set_option maxHeartbeats 4000000 in
theorem pX9_lays {K : XK} {n : Nat} {h : XH} (e i m z : Int) (he : 0 ≤ e ∧ e ≤ 8) (hi : 0 ≤ i) (hm : 2 ≤ m ∧ m ≤ 4) (him : i + m ≤ 48) (hz : -1 ≤ z ∧ z < m) : MV K mX9_lays 1 n [vr 259, vi e, vi i, vi m, vi z] h (fun h' => Lays h (mEnt e) i m z h') := by
  refine xMeth FX9_lays (Nat.le_of_ble_eq_true rfl) ?_
  have hb := mEnt_rg he
  have loop : ∀ (f : Nat) (xk : Int) (xg : XH), 0 ≤ xk → xk ≤ 4 → 4 - xk < (f : Int) → LyI h (mEnt e) i m z xk xg → WI K mX9_lays 1 n (qV n (fun h' => Lays h (mEnt e) i m z h')) 39 [(0, vr 259), (1, vi e), (2, vi i), (3, vi m), (4, vi z), (5, vi (mEnt e)), (6, vi xk)] [] xg := by
    intro f
    induction f with
    | zero => intro xk xg a b c; exact absurd c (by omega)
    | succ f ih =>
      intro xk xg h0 h1 hmm hI
      refine x_iload 41 (xd DX9_lays rfl) rfl rfl ?_
      refine x_iconst 42 (xd DX9_lays rfl) rfl ?_
      refine x_icmp_ge 45 122 (xd DX9_lays rfl) rfl (by omega) (by omega) rfl (fun c42 => ?_) (fun c42 => ?_)
      · refine x_rv (xd DX9_lays rfl) rfl ?_
        have hk4 : xk = 4 := by omega
        subst hk4
        exact hI
      · refine x_aload_n 46 (xd DX9_lays rfl) rfl rfl ?_
        refine x_gr 49 _ LX9_28 (xd DX9_lays rfl) rfl rfl ⟨by decide, by decide⟩ (by decide) rfl rfl ?_
        refine x_iload 51 (xd DX9_lays rfl) rfl rfl ?_
        refine x_iconst 52 (xd DX9_lays rfl) rfl ?_
        refine x_iadd 53 (xd DX9_lays rfl) rfl ?_
        refine x_iload 55 (xd DX9_lays rfl) rfl rfl ?_
        refine x_iadd 56 (xd DX9_lays rfl) rfl ?_
        refine x_iload 58 (xd DX9_lays rfl) rfl rfl ?_
        refine x_iload_n 59 (xd DX9_lays rfl) rfl rfl ?_
        refine x_icmp_ge 62 74 (xd DX9_lays rfl) rfl (by omega) (by omega) rfl (fun c59 => ?_) (fun c59 => ?_)
        · refine x_iconst 75 (xd DX9_lays rfl) rfl ?_
          refine x_iastore 76 (xd DX9_lays rfl) rfl ⟨Or.inr ⟨rfl, by decide⟩, by decide⟩ (by decide) (by omega) (by omega) rfl ?_
          refine x_aload_n 77 (xd DX9_lays rfl) rfl rfl ?_
          refine x_gr 80 _ LX9_28 (xd DX9_lays rfl) rfl rfl ⟨by decide, by decide⟩ (by decide) rfl rfl ?_
          refine x_iload 82 (xd DX9_lays rfl) rfl rfl ?_
          refine x_bipush 84 (xd DX9_lays rfl) rfl rfl ?_
          refine x_iadd 85 (xd DX9_lays rfl) rfl ?_
          refine x_iload 87 (xd DX9_lays rfl) rfl rfl ?_
          refine x_iadd 88 (xd DX9_lays rfl) rfl ?_
          refine x_iload 90 (xd DX9_lays rfl) rfl rfl ?_
          refine x_iload_n 91 (xd DX9_lays rfl) rfl rfl ?_
          refine x_icmp_ge 94 113 (xd DX9_lays rfl) rfl (by omega) (by omega) rfl (fun c91 => ?_) (fun c91 => ?_)
          · refine x_bipush 115 (xd DX9_lays rfl) rfl rfl ?_
            refine x_iastore 116 (xd DX9_lays rfl) rfl ⟨Or.inr ⟨rfl, by decide⟩, by decide⟩ (by decide) (by omega) (by omega) rfl ?_
            refine x_iinc 119 (L' := [(0, _), (1, _), (2, _), (3, _), (4, _), (5, _), (6, _)]) (xd DX9_lays rfl) rfl (by decide) rfl rfl rfl ?_
            refine x_goto 39 (xd DX9_lays rfl) rfl ?_
            refine ih (xk + 1) _ (by omega) (by omega) (by omega) (hI.step ⟨by omega, by omega⟩ ?_ ?_)
            · first
                | (rw [if_pos (by omega), hset_c (by decide), hI.1 263 (by decide)]; done)
                | (rw [if_pos (by omega), hI.1 263 (by decide)]; done)
                | (rw [if_neg (by omega)]; done)
            · first
                | (rw [if_pos ⟨by omega, by omega⟩, hset_c (by decide), hI.1 264 (by decide)]; done)
                | (rw [if_neg (fun q => by omega)]; done)
          · refine x_iload 96 (xd DX9_lays rfl) rfl rfl ?_
            refine x_iload 98 (xd DX9_lays rfl) rfl rfl ?_
            refine x_icmp_eq 101 113 (xd DX9_lays rfl) rfl (by omega) (by omega) rfl (fun c98 => ?_) (fun c98 => ?_)
            · refine x_bipush 115 (xd DX9_lays rfl) rfl rfl ?_
              refine x_iastore 116 (xd DX9_lays rfl) rfl ⟨Or.inr ⟨rfl, by decide⟩, by decide⟩ (by decide) (by omega) (by omega) rfl ?_
              refine x_iinc 119 (L' := [(0, _), (1, _), (2, _), (3, _), (4, _), (5, _), (6, _)]) (xd DX9_lays rfl) rfl (by decide) rfl rfl rfl ?_
              refine x_goto 39 (xd DX9_lays rfl) rfl ?_
              refine ih (xk + 1) _ (by omega) (by omega) (by omega) (hI.step ⟨by omega, by omega⟩ ?_ ?_)
              · first
                  | (rw [if_pos (by omega), hset_c (by decide), hI.1 263 (by decide)]; done)
                  | (rw [if_pos (by omega), hI.1 263 (by decide)]; done)
                  | (rw [if_neg (by omega)]; done)
              · first
                  | (rw [if_pos ⟨by omega, by omega⟩, hset_c (by decide), hI.1 264 (by decide)]; done)
                  | (rw [if_neg (fun q => by omega)]; done)
            · refine x_aload_n 102 (xd DX9_lays rfl) rfl rfl ?_
              refine x_gr 105 _ LX9_22 (xd DX9_lays rfl) rfl rfl ⟨by decide, by decide⟩ (by decide) rfl rfl ?_
              refine x_iload_n 106 (xd DX9_lays rfl) rfl rfl ?_
              refine x_iload 108 (xd DX9_lays rfl) rfl rfl ?_
              refine x_iadd 109 (xd DX9_lays rfl) rfl ?_
              refine x_iaload 110 (xd DX9_lays rfl) rfl ⟨Or.inr ⟨rfl, by decide⟩, by decide⟩ (by decide) (by omega) (by omega) rfl ?_
              refine x_goto 115 (xd DX9_lays rfl) rfl ?_
              refine x_iastore 116 (xd DX9_lays rfl) rfl ⟨Or.inr ⟨rfl, by decide⟩, by decide⟩ (by decide) (by omega) (by omega) rfl ?_
              refine x_iinc 119 (L' := [(0, _), (1, _), (2, _), (3, _), (4, _), (5, _), (6, _)]) (xd DX9_lays rfl) rfl (by decide) rfl rfl rfl ?_
              refine x_goto 39 (xd DX9_lays rfl) rfl ?_
              refine ih (xk + 1) _ (by omega) (by omega) (by omega) (hI.step ⟨by omega, by omega⟩ ?_ ?_)
              · first
                  | (rw [if_pos (by omega), hset_c (by decide), hI.1 263 (by decide)]; done)
                  | (rw [if_pos (by omega), hI.1 263 (by decide)]; done)
                  | (rw [if_neg (by omega)]; done)
              · first
                  | (rw [if_pos ⟨by omega, by omega⟩, hset_c (by decide), hI.1 264 (by decide)]; done)
                  | (rw [if_neg (fun q => by omega)]; done)
        · refine x_aload_n 63 (xd DX9_lays rfl) rfl rfl ?_
          refine x_gr 66 _ LX9_19 (xd DX9_lays rfl) rfl rfl ⟨by decide, by decide⟩ (by decide) rfl rfl ?_
          refine x_iload_n 67 (xd DX9_lays rfl) rfl rfl ?_
          refine x_iload 69 (xd DX9_lays rfl) rfl rfl ?_
          refine x_iadd 70 (xd DX9_lays rfl) rfl ?_
          refine x_iaload 71 (xd DX9_lays rfl) rfl ⟨Or.inr ⟨rfl, by decide⟩, by decide⟩ (by decide) (by omega) (by omega) rfl ?_
          refine x_goto 75 (xd DX9_lays rfl) rfl ?_
          refine x_iastore 76 (xd DX9_lays rfl) rfl ⟨Or.inr ⟨rfl, by decide⟩, by decide⟩ (by decide) (by omega) (by omega) rfl ?_
          refine x_aload_n 77 (xd DX9_lays rfl) rfl rfl ?_
          refine x_gr 80 _ LX9_28 (xd DX9_lays rfl) rfl rfl ⟨by decide, by decide⟩ (by decide) rfl rfl ?_
          refine x_iload 82 (xd DX9_lays rfl) rfl rfl ?_
          refine x_bipush 84 (xd DX9_lays rfl) rfl rfl ?_
          refine x_iadd 85 (xd DX9_lays rfl) rfl ?_
          refine x_iload 87 (xd DX9_lays rfl) rfl rfl ?_
          refine x_iadd 88 (xd DX9_lays rfl) rfl ?_
          refine x_iload 90 (xd DX9_lays rfl) rfl rfl ?_
          refine x_iload_n 91 (xd DX9_lays rfl) rfl rfl ?_
          refine x_icmp_ge 94 113 (xd DX9_lays rfl) rfl (by omega) (by omega) rfl (fun c91 => ?_) (fun c91 => ?_)
          · refine x_bipush 115 (xd DX9_lays rfl) rfl rfl ?_
            refine x_iastore 116 (xd DX9_lays rfl) rfl ⟨Or.inr ⟨rfl, by decide⟩, by decide⟩ (by decide) (by omega) (by omega) rfl ?_
            refine x_iinc 119 (L' := [(0, _), (1, _), (2, _), (3, _), (4, _), (5, _), (6, _)]) (xd DX9_lays rfl) rfl (by decide) rfl rfl rfl ?_
            refine x_goto 39 (xd DX9_lays rfl) rfl ?_
            refine ih (xk + 1) _ (by omega) (by omega) (by omega) (hI.step ⟨by omega, by omega⟩ ?_ ?_)
            · first
                | (rw [if_pos (by omega), hset_c (by decide), hI.1 263 (by decide)]; done)
                | (rw [if_pos (by omega), hI.1 263 (by decide)]; done)
                | (rw [if_neg (by omega)]; done)
            · first
                | (rw [if_pos ⟨by omega, by omega⟩, hset_c (by decide), hI.1 264 (by decide)]; done)
                | (rw [if_neg (fun q => by omega)]; done)
          · refine x_iload 96 (xd DX9_lays rfl) rfl rfl ?_
            refine x_iload 98 (xd DX9_lays rfl) rfl rfl ?_
            refine x_icmp_eq 101 113 (xd DX9_lays rfl) rfl (by omega) (by omega) rfl (fun c98 => ?_) (fun c98 => ?_)
            · refine x_bipush 115 (xd DX9_lays rfl) rfl rfl ?_
              refine x_iastore 116 (xd DX9_lays rfl) rfl ⟨Or.inr ⟨rfl, by decide⟩, by decide⟩ (by decide) (by omega) (by omega) rfl ?_
              refine x_iinc 119 (L' := [(0, _), (1, _), (2, _), (3, _), (4, _), (5, _), (6, _)]) (xd DX9_lays rfl) rfl (by decide) rfl rfl rfl ?_
              refine x_goto 39 (xd DX9_lays rfl) rfl ?_
              refine ih (xk + 1) _ (by omega) (by omega) (by omega) (hI.step ⟨by omega, by omega⟩ ?_ ?_)
              · first
                  | (rw [if_pos (by omega), hset_c (by decide), hI.1 263 (by decide)]; done)
                  | (rw [if_pos (by omega), hI.1 263 (by decide)]; done)
                  | (rw [if_neg (by omega)]; done)
              · first
                  | (rw [if_pos ⟨by omega, by omega⟩, hset_c (by decide), hI.1 264 (by decide)]; done)
                  | (rw [if_neg (fun q => by omega)]; done)
            · refine x_aload_n 102 (xd DX9_lays rfl) rfl rfl ?_
              refine x_gr 105 _ LX9_22 (xd DX9_lays rfl) rfl rfl ⟨by decide, by decide⟩ (by decide) rfl rfl ?_
              refine x_iload_n 106 (xd DX9_lays rfl) rfl rfl ?_
              refine x_iload 108 (xd DX9_lays rfl) rfl rfl ?_
              refine x_iadd 109 (xd DX9_lays rfl) rfl ?_
              refine x_iaload 110 (xd DX9_lays rfl) rfl ⟨Or.inr ⟨rfl, by decide⟩, by decide⟩ (by decide) (by omega) (by omega) rfl ?_
              refine x_goto 115 (xd DX9_lays rfl) rfl ?_
              refine x_iastore 116 (xd DX9_lays rfl) rfl ⟨Or.inr ⟨rfl, by decide⟩, by decide⟩ (by decide) (by omega) (by omega) rfl ?_
              refine x_iinc 119 (L' := [(0, _), (1, _), (2, _), (3, _), (4, _), (5, _), (6, _)]) (xd DX9_lays rfl) rfl (by decide) rfl rfl rfl ?_
              refine x_goto 39 (xd DX9_lays rfl) rfl ?_
              refine ih (xk + 1) _ (by omega) (by omega) (by omega) (hI.step ⟨by omega, by omega⟩ ?_ ?_)
              · first
                  | (rw [if_pos (by omega), hset_c (by decide), hI.1 263 (by decide)]; done)
                  | (rw [if_pos (by omega), hI.1 263 (by decide)]; done)
                  | (rw [if_neg (by omega)]; done)
              · first
                  | (rw [if_pos ⟨by omega, by omega⟩, hset_c (by decide), hI.1 264 (by decide)]; done)
                  | (rw [if_neg (fun q => by omega)]; done)
  refine x_aload_n 1 (xd DX9_lays rfl) rfl rfl ?_
  refine x_iload_n 2 (xd DX9_lays rfl) rfl rfl ?_
  refine x_Vi 5 (pX9_entryAt e (by omega)) FX9_entryAt VX9_entryAt CX9_116 (xd DX9_lays rfl) rfl rfl rfl ⟨by decide, rfl⟩ ⟨by decide, by decide⟩ (by decide) (Nat.le_of_ble_eq_true rfl) (by decide) rfl ?_
  rintro z9 h9 ⟨q1, q2⟩
  rw [q1, q2]
  clear q1 q2 z9 h9
  refine x_istore 7 (L' := [(0, _), (1, _), (2, _), (3, _), (4, _), (5, _)]) (xd DX9_lays rfl) (by decide) rfl rfl rfl ?_
  refine x_aload_n 8 (xd DX9_lays rfl) rfl rfl ?_
  refine x_gr 11 _ LX9_28 (xd DX9_lays rfl) rfl rfl ⟨by decide, by decide⟩ (by decide) rfl rfl ?_
  refine x_iload 13 (xd DX9_lays rfl) rfl rfl ?_
  refine x_iload_n 14 (xd DX9_lays rfl) rfl rfl ?_
  refine x_iastore 15 (xd DX9_lays rfl) rfl ⟨Or.inr ⟨rfl, by decide⟩, by decide⟩ (by decide) (by omega) (by omega) rfl ?_
  refine x_aload_n 16 (xd DX9_lays rfl) rfl rfl ?_
  refine x_gr 19 _ LX9_28 (xd DX9_lays rfl) rfl rfl ⟨by decide, by decide⟩ (by decide) rfl rfl ?_
  refine x_iload 21 (xd DX9_lays rfl) rfl rfl ?_
  refine x_iconst 22 (xd DX9_lays rfl) rfl ?_
  refine x_iadd 23 (xd DX9_lays rfl) rfl ?_
  refine x_iload 25 (xd DX9_lays rfl) rfl rfl ?_
  refine x_if_ge 28 33 (xd DX9_lays rfl) rfl (by omega) rfl (fun c25 => ?_) (fun c25 => ?_)
  · refine x_iload 35 (xd DX9_lays rfl) rfl rfl ?_
    refine x_iastore 36 (xd DX9_lays rfl) rfl ⟨Or.inr ⟨rfl, by decide⟩, by decide⟩ (by decide) (by omega) (by omega) rfl ?_
    refine x_iconst 37 (xd DX9_lays rfl) rfl ?_
    refine x_istore 39 (L' := [(0, _), (1, _), (2, _), (3, _), (4, _), (5, _), (6, _)]) (xd DX9_lays rfl) (by decide) rfl rfl rfl ?_
    refine loop 5 0 _ (by omega) (by omega) (by omega) ?_
    refine ⟨(Off.set (S := fun c => c = 266) rfl).tr (Off.set rfl), fun j hj => ?_, ?_, ?_, fun x a c => absurd c (by omega)⟩
    · rw [hset_i (by omega), hset_i (by omega)]
    · rw [hset_i (by omega), hset_s]
    · rw [hset_s]
      first | rw [if_pos (by omega)] | rw [if_neg (by omega)]
  · refine x_bipush 30 (xd DX9_lays rfl) rfl rfl ?_
    refine x_goto 35 (xd DX9_lays rfl) rfl ?_
    refine x_iastore 36 (xd DX9_lays rfl) rfl ⟨Or.inr ⟨rfl, by decide⟩, by decide⟩ (by decide) (by omega) (by omega) rfl ?_
    refine x_iconst 37 (xd DX9_lays rfl) rfl ?_
    refine x_istore 39 (L' := [(0, _), (1, _), (2, _), (3, _), (4, _), (5, _), (6, _)]) (xd DX9_lays rfl) (by decide) rfl rfl rfl ?_
    refine loop 5 0 _ (by omega) (by omega) (by omega) ?_
    refine ⟨(Off.set (S := fun c => c = 266) rfl).tr (Off.set rfl), fun j hj => ?_, ?_, ?_, fun x a c => absurd c (by omega)⟩
    · rw [hset_i (by omega), hset_i (by omega)]
    · rw [hset_i (by omega), hset_s]
    · rw [hset_s]
      first | rw [if_pos (by omega)] | rw [if_neg (by omega)]

