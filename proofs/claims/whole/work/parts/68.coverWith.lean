/-! SqueezedCodeModel: coverWith -/
/-- program, table and cover of the class in g, the reference's program and table in h -/
def GH (g h : XH) : Prop := PW g ∧ SW g 8 ∧ LY g ∧ RP g h ∧ RT g h ∧ TRg h
theorem GH.mv {g h h' : XH} (hG : GH g h) (h0 : h' 259 5 = h 259 5) (h3 : h' 263 = h 263) (h4 : h' 264 = h 264) (h5 : h' 265 = h 265) (h6 : h' 266 = h 266) : GH g h' := by
  obtain ⟨a1, a2, a3, a4, a5, a6⟩ := hG
  refine ⟨a1, a2, a3, a4.mv h0 h3 h4 h5, ?_, ?_⟩
  · unfold RT; rw [h6]; exact a5
  · unfold TRg; rw [h6]; exact a6
theorem GH.off {S : Nat → Prop} {g h h' : XH} (hG : GH g h) (hO : Off S h h') (h0 : ¬ S 259) (h3 : ¬ S 263) (h4 : ¬ S 264) (h5 : ¬ S 265) (h6 : ¬ S 266) : GH g h' := hG.mv (by rw [hO _ h0]) (hO _ h3) (hO _ h4) (hO _ h5) (hO _ h6)
theorem GH.n {g h : XH} (hG : GH g h) : h 259 5 = g 4 3 := hG.2.2.2.1.1
theorem GH.e {g h : XH} (hG : GH g h) : h 266 82 = g 8 1 := hG.2.2.2.2.1.2.2.1
theorem GH.m {g h : XH} (hG : GH g h) : MPW h ∧ MTW h := ⟨hG.2.2.2.1.mpw hG.1, hG.2.2.2.2.1.mtw hG.2.1 hG.2.2.2.2.2⟩
def cwc (g : XH) (k : Nat) : Nat := if (k : Int) < g 8 1 then 10 + 3 * k else 246
def cwe (g : XH) (k : Nat) : Int := if (k : Int) < g 8 1 then k else 8
/-- the k-th that may be tried can be -/
def cwq (g : XH) (p : Prop) (k : Nat) : Prop := (k : Int) < g 8 1 ∨ p
def cwv (g : XH) (f : Int → Int) (i : Int) (k : Nat) : Int := kRef (g (cwc g k) 3) + f (i + g (cwc g k) 2)
noncomputable def cwB (g : XH) (p : Prop) (f : Int → Int) (i : Int) : Nat → Int × Int
  | 0 => (kOwn (g 5 i) + f (i + 1), -4)
  | k + 1 => pik (cwq g p k ∧ Mt g (cwc g k) i ∧ cwv g f i k < (cwB g p f i k).1) (cwv g f i k, cwe g k) (cwB g p f i k)
theorem cwB_s (g : XH) (p : Prop) (f : Int → Int) (i : Int) (k : Nat) : cwB g p f i (k + 1) = pik (cwq g p k ∧ Mt g (cwc g k) i ∧ cwv g f i k < (cwB g p f i k).1) (cwv g f i k, cwe g k) (cwB g p f i k) := rfl
def cwW (g : XH) (p : Prop) : Prop := ∀ k : Nat, cwq g p k → EW g (cwc g k)
theorem cwB_f {g : XH} {p : Prop} {f f' : Int → Int} {i : Int} (hE : cwW g p) (hf : ∀ j, i < j → f j = f' j) : ∀ k : Nat, cwB g p f i k = cwB g p f' i k := by
  intro k
  induction k with
  | zero => unfold cwB; rw [hf (i + 1) (by omega)]
  | succ k ih =>
    rw [cwB_s, cwB_s, ih]
    by_cases q : cwq g p k
    · have := (hE k q).1
      have e : cwv g f i k = cwv g f' i k := by unfold cwv; rw [hf _ (by omega)]
      rw [e]
    · rw [pik_f (fun z => q z.1), pik_f (fun z => q z.1)]
theorem cwB_rg {g : XH} {p : Prop} {f : Int → Int} {i : Int} (hi : 0 ≤ i ∧ i < g 4 3) (hE : cwW g p) (hf : ∀ j, i < j → j ≤ g 4 3 → 0 ≤ f j ∧ f j ≤ 4 * (g 4 3 - j)) : ∀ k : Nat, 0 ≤ (cwB g p f i k).1 ∧ (cwB g p f i k).1 ≤ 4 * (g 4 3 - i) := by
  intro k
  induction k with
  | zero =>
    have h1 := hf (i + 1) (by omega) (by omega)
    have h2 := kOwn_rg (g 5 i)
    unfold cwB
    omega
  | succ k ih =>
    rw [cwB_s]
    by_cases q : cwq g p k ∧ Mt g (cwc g k) i ∧ cwv g f i k < (cwB g p f i k).1
    · rw [pik_t q]
      have h1 := (hE k q.1).1
      have h2 := q.2.1.2.2.1
      have h3 := hf (i + g (cwc g k) 2) (by omega) (by omega)
      have h4 := kRef_rg (g (cwc g k) 3)
      have h5 := q.2.2
      unfold cwv at h5 ⊢
      omega
    · rw [pik_f q]; exact ih
def CwE (g : XH) (p : Prop) (x : XH) (i : Int) : Prop := x 268 (g 4 3) = 0 ∧ (∀ j, i ≤ j → j < g 4 3 → x 268 j = (cwB g p (x 268) j ((g 8 1).toNat + 1)).1 ∧ x 269 j = (cwB g p (x 268) j ((g 8 1).toNat + 1)).2) ∧ ∀ j, i ≤ j → j ≤ g 4 3 → 0 ≤ x 268 j ∧ x 268 j ≤ 4 * (g 4 3 - j)
def S89 (c : Nat) : Prop := c = 268 ∨ c = 269
def CwI (g h : XH) (p : Prop) (x : XH) (i : Int) (k : Nat) : Prop := Off S89 h x ∧ CwE g p x (i + 1) ∧ x 268 i = (cwB g p (x 268) i k).1 ∧ x 269 i = (cwB g p (x 268) i k).2
theorem CwE.keep {g : XH} {p : Prop} {x x' : XH} {i : Int} (hi : i < g 4 3) (hE : cwW g p) (hC : CwE g p x (i + 1)) (h8 : ∀ j, i < j → x' 268 j = x 268 j) (h9 : ∀ j, i < j → x' 269 j = x 269 j) : CwE g p x' (i + 1) := by
  refine ⟨by rw [h8 _ hi]; exact hC.1, fun j a b => ?_, fun j a b => by rw [h8 j (by omega)]; exact hC.2.2 j a b⟩
  rw [h8 j (by omega), h9 j (by omega), cwB_f hE (fun y hy => h8 y (by omega))]
  exact hC.2.1 j a b
theorem CwI.zero {g h : XH} {p : Prop} {x : XH} {i : Int} (hi : i < g 4 3) (hE : cwW g p) (hO : Off S89 h x) (hC : CwE g p x (i + 1)) : CwI g h p (hset (hset x 268 i (kOwn (g 5 i) + x 268 (i + 1))) 269 i (-4)) i 0 := by
  have h8 : ∀ j, i < j → hset (hset x 268 i (kOwn (g 5 i) + x 268 (i + 1))) 269 i (-4) 268 j = x 268 j := fun j a => by rw [hset_c (by decide), hset_i (by omega)]
  refine ⟨(hO.tr (Off.set (Or.inl rfl))).tr (Off.set (Or.inr rfl)), hC.keep hi hE h8 (fun j a => by rw [hset_i (by omega), hset_c (by decide)]), ?_, ?_⟩
  · rw [cwB_f hE h8, hset_c (by decide), hset_s]; rfl
  · rw [hset_s]; rfl
theorem CwI.no {g h : XH} {p : Prop} {x : XH} {i : Int} {k : Nat} (hI : CwI g h p x i k) (q : ¬ (cwq g p k ∧ Mt g (cwc g k) i ∧ cwv g (x 268) i k < x 268 i)) : CwI g h p x i (k + 1) := by
  refine ⟨hI.1, hI.2.1, ?_, ?_⟩
  · rw [cwB_s, pik_f (by rw [← hI.2.2.1]; exact q)]; exact hI.2.2.1
  · rw [cwB_s, pik_f (by rw [← hI.2.2.1]; exact q)]; exact hI.2.2.2
theorem CwI.yes {g h : XH} {p : Prop} {x : XH} {i : Int} {k : Nat} (hi : i < g 4 3) (hE : cwW g p) (hI : CwI g h p x i k) (q : cwq g p k ∧ Mt g (cwc g k) i ∧ cwv g (x 268) i k < x 268 i) : CwI g h p (hset (hset x 269 i (cwe g k)) 268 i (cwv g (x 268) i k)) i (k + 1) := by
  have h8 : ∀ j, i < j → hset (hset x 269 i (cwe g k)) 268 i (cwv g (x 268) i k) 268 j = x 268 j := fun j a => by rw [hset_i (by omega), hset_c (by decide)]
  refine ⟨(hI.1.tr (Off.set (Or.inr rfl))).tr (Off.set (Or.inl rfl)), hI.2.1.keep hi hE h8 (fun j a => by rw [hset_c (by decide), hset_i (by omega)]), ?_, ?_⟩
  · rw [cwB_f hE h8, cwB_s, pik_t (by rw [← hI.2.2.1]; exact q), hset_s]
  · rw [cwB_f hE h8, cwB_s, pik_t (by rw [← hI.2.2.1]; exact q), hset_c (by decide), hset_s]
theorem CwI.done {g h : XH} {p : Prop} {x : XH} {i : Int} (hi : 0 ≤ i ∧ i < g 4 3) (hE : cwW g p) (hI : CwI g h p x i ((g 8 1).toNat + 1)) : CwE g p x i := by
  refine ⟨hI.2.1.1, fun j a b => ?_, fun j a b => ?_⟩
  · by_cases e : j = i
    · rw [e]; exact hI.2.2
    · exact hI.2.1.2.1 j (by omega) b
  · by_cases e : j = i
    · rw [e, hI.2.2.1]
      exact cwB_rg hi hE (fun y c d => hI.2.1.2.2 y (by omega) d) _
    · exact hI.2.1.2.2 j (by omega) b
theorem hset_id {h : XH} {c : Nat} {k : Int} : hset h c k (h c k) = h := by
  funext a b
  unfold hset
  split
  · rename_i q; rw [q.1, q.2]
  · rfl
theorem mRef_k {g h : XH} {c : Nat} {e : Int} (hE : EW g c) (hM : ME g c (h 266) (mEnt e)) : mRef h e = kRef (g c 3) := by
  unfold mRef kRef
  rw [hM.2.1]
  have := hE.2.1
  split <;> split <;> omega
theorem cw_me {g h : XH} {p : Prop} (hG : GH g h) (hA : p → EW g 246 ∧ ME g 246 (h 266) 83) : cwW g p ∧ ∀ k : Nat, cwq g p k → ME g (cwc g k) (h 266) (mEnt (cwe g k)) ∧ (0 ≤ cwe g k ∧ cwe g k ≤ 8) := by
  have h8 := hG.2.1.1
  refine ⟨fun k q => ?_, fun k q => ?_⟩
  · unfold cwc
    split
    · rename_i y; exact hG.2.1.ew y
    · rename_i y; exact (hA (q.resolve_left y)).1
  · unfold cwc cwe
    split
    · rename_i y
      refine ⟨?_, by omega, by omega⟩
      have e : mEnt (k : Int) = 10 * k := by unfold mEnt; rw [if_pos (by omega)]
      rw [e]
      exact hG.2.2.2.2.1.2.2.2 k y
    · rename_i y; exact ⟨(hA (q.resolve_left y)).2, by omega, by omega⟩
set_option maxRecDepth 100000 in
set_option maxHeartbeats 4000000 in
theorem pX9_coverWith {K : XK} {n : Nat} {h : XH} (g : XH) (xa : Int) (hxa : xa = 0 ∨ xa = 1) (hG : GH g h) (hA : xa = 1 → EW g 246 ∧ ME g 246 (h 266) 83) : MI K mX9_coverWith 3 n [vr 259, vi xa] h (fun zr h' => Off S89 h h' ∧ CwE g (xa = 1) h' 0 ∧ zr = h' 268 0) := by
  refine xMeth FX9_coverWith (Nat.le_of_ble_eq_true rfl) ?_
  have hP1 := hG.1.1
  have hN := hG.n
  have h81 := hG.2.1.1
  have hcw0 := (cw_me hG hA).1
  have loop : ∀ (f : Nat) (xi : Int) (xg : XH), -1 ≤ xi → xi < g 4 3 → xi + 1 < (f : Int) → Off S89 h xg → CwE g (xa = 1) xg (xi + 1) → WI K mX9_coverWith 3 n (qI n (fun zr h' => Off S89 h h' ∧ CwE g (xa = 1) h' 0 ∧ zr = h' 268 0)) 17 [(0, vr 259), (1, vi xa), (2, vi xi)] [] xg := by
    intro f
    induction f with
    | zero => intro xi xg a b c; exact absurd c (by omega)
    | succ f ih =>
      intro xi xg hm1 h1 hf hO hC
      have hGx : GH g xg := hG.off hO (by unfold S89; omega) (by unfold S89; omega) (by unfold S89; omega) (by unfold S89; omega) (by unfold S89; omega)
      have hNx := hGx.n
      have nexto : ∀ (xk : Nat) (xg : XH), 0 ≤ xi → Off S89 h xg → CwE g (xa = 1) xg xi → WI K mX9_coverWith 3 n (qI n (fun zr h' => Off S89 h h' ∧ CwE g (xa = 1) h' 0 ∧ zr = h' 268 0)) 195 [(0, vr 259), (1, vi xa), (2, vi xi), (3, vi (xk : Int))] [] xg := by
        intro xk xg h0 hO9 hC9
        refine x_iinc 198 (L' := [(0, _), (1, _), (2, _), (3, _)]) (xd DX9_coverWith rfl) rfl (by decide) rfl rfl rfl ?_
        refine x_goto 17 (xd DX9_coverWith rfl) rfl ?_
        refine WX.locals (L' := [(0, _), (1, _), (2, _)]) (fun q hq => List.mem_append_left _ hq) ?_
        exact ih (xi - 1) _ (by omega) (by omega) (by omega) hO9 (by rw [show xi - 1 + 1 = xi by omega]; exact hC9)
      have inner : 0 ≤ xi → ∀ (fk : Nat) (xk : Nat) (xg : XH), (xk : Int) ≤ g 8 1 + 1 → g 8 1 + 1 - (xk : Int) < (fk : Int) → CwI g h (xa = 1) xg xi xk → WI K mX9_coverWith 3 n (qI n (fun zr h' => Off S89 h h' ∧ CwE g (xa = 1) h' 0 ∧ zr = h' 268 0)) 55 [(0, vr 259), (1, vi xa), (2, vi xi), (3, vi (xk : Int))] [] xg := by
        intro h0 fk
        induction fk with
        | zero => intro xk xg a b; exact absurd b (by omega)
        | succ fk ihk =>
          intro xk xg hk hfk hI
          have hGx : GH g xg := hG.off hI.1 (by unfold S89; omega) (by unfold S89; omega) (by unfold S89; omega) (by unfold S89; omega) (by unfold S89; omega)
          have hNx := hGx.n
          have hEx := hGx.e
          have hcw := cw_me (p := xa = 1) hGx (fun q => by rw [hI.1 266 (by unfold S89; omega)]; exact hA q)
          have next189 : ∀ xg9, (xk : Int) ≤ g 8 1 → CwI g h (xa = 1) xg9 xi (xk + 1) → WI K mX9_coverWith 3 n (qI n (fun zr h' => Off S89 h h' ∧ CwE g (xa = 1) h' 0 ∧ zr = h' 268 0)) 189 [(0, vr 259), (1, vi xa), (2, vi xi), (3, vi (xk : Int))] [] xg9 := by
            intro xg9 hk8 hI9
            refine x_iinc 192 (L' := [(0, _), (1, _), (2, _), (3, _)]) (xd DX9_coverWith rfl) rfl (by decide) rfl rfl rfl ?_
            refine x_goto 55 (xd DX9_coverWith rfl) rfl ?_
            exact ihk (xk + 1) _ (by omega) (by omega) hI9
          have at96 : (xk : Int) ≤ g 8 1 → ∀ xe1, xe1 = cwe g xk → cwq g (xa = 1) xk → WI K mX9_coverWith 3 n (qI n (fun zr h' => Off S89 h h' ∧ CwE g (xa = 1) h' 0 ∧ zr = h' 268 0)) 96 [(0, vr 259), (1, vi xa), (2, vi xi), (3, vi (xk : Int)), (4, vi xe1)] [] xg := by
            intro hk8 xe1 hxe hq
            subst hxe
            have hM := hcw.2 xk hq
            have hEk := hcw.1 xk hq
            refine x_aload_n 97 (xd DX9_coverWith rfl) rfl rfl ?_
            refine x_iload_n 98 (xd DX9_coverWith rfl) rfl rfl ?_
            refine x_iload 100 (xd DX9_coverWith rfl) rfl rfl ?_
            refine x_Vi 103 (pX9_matches xi (cwe g xk) (by omega) hM.2 hGx.m.1 hGx.m.2 (by rw [hM.1.1]; have := hEk.1; omega)) FX9_matches VX9_matches CX9_130 (xd DX9_coverWith rfl) rfl rfl rfl ⟨by decide, rfl⟩ ⟨by decide, by decide⟩ (by decide) (Nat.le_of_ble_eq_true rfl) (by decide) rfl ?_
            rintro z9 h9 ⟨q1, q2⟩
            rw [q1, q2]
            clear q1 q2 z9 h9
            refine x_ifp_eq 106 189 (xd DX9_coverWith rfl) rfl rfl (fun c103 => ?_) (fun c103 => ?_)
            · have hMt : ¬ Mt g (cwc g xk) xi := fun q => c103 ((MMt_Mt hGx.1 hGx.2.2.1 hGx.2.2.2.1 hGx.2.2.2.2.1.1 hEk hM.1 ⟨h0, h1⟩).mpr q)
              refine WX.locals (L' := [(0, _), (1, _), (2, _), (3, _)]) (fun q hq => List.mem_append_left _ hq) ?_
              first
                | exact next189 _ (by omega) (hI.no (fun q => hMt q.2.1))
                | (subst hval; exact next189 _ (by omega) (hI.yes h1 hcw.1 ⟨hq, hMt, by omega⟩))
                | (rw [hset_c (by decide), hset_id, hset_id]; exact next189 _ (by omega) (hI.no (fun q => by omega)))
                | exact absurd c146 (by omega)
            · have hMt : Mt g (cwc g xk) xi := (MMt_Mt hGx.1 hGx.2.2.1 hGx.2.2.2.1 hGx.2.2.2.2.1.1 hEk hM.1 ⟨h0, h1⟩).mp c103
              refine x_aload_n 107 (xd DX9_coverWith rfl) rfl rfl ?_
              refine x_iload 109 (xd DX9_coverWith rfl) rfl rfl ?_
              refine x_Vi 112 (pX9_refers (cwe g xk) hM.2 (hGx.2.2.2.2.2 _ (by have := mEnt_rg hM.2; omega) (by have := mEnt_rg hM.2; omega))) FX9_refers VX9_refers CX9_133 (xd DX9_coverWith rfl) rfl rfl rfl ⟨by decide, rfl⟩ ⟨by decide, by decide⟩ (by decide) (Nat.le_of_ble_eq_true rfl) (by decide) rfl ?_
              rintro z9 h9 ⟨q1, q2⟩
              rw [q1, q2]
              clear q1 q2 z9 h9
              rw [mRef_k hEk hM.1]
              refine x_aload_n 113 (xd DX9_coverWith rfl) rfl rfl ?_
              refine x_gr 116 _ LX9_34 (xd DX9_coverWith rfl) rfl rfl ⟨by decide, by decide⟩ (by decide) rfl rfl ?_
              refine x_iload_n 117 (xd DX9_coverWith rfl) rfl rfl ?_
              refine x_aload_n 118 (xd DX9_coverWith rfl) rfl rfl ?_
              refine x_gr 121 _ LX9_28 (xd DX9_coverWith rfl) rfl rfl ⟨by decide, by decide⟩ (by decide) rfl rfl ?_
              refine x_aload_n 122 (xd DX9_coverWith rfl) rfl rfl ?_
              refine x_iload 124 (xd DX9_coverWith rfl) rfl rfl ?_
              refine x_Vi 127 (pX9_entryAt (cwe g xk) (by omega)) FX9_entryAt VX9_entryAt CX9_116 (xd DX9_coverWith rfl) rfl rfl rfl ⟨by decide, rfl⟩ ⟨by decide, by decide⟩ (by decide) (Nat.le_of_ble_eq_true rfl) (by decide) rfl ?_
              rintro z9 h9 ⟨q1, q2⟩
              rw [q1, q2]
              clear q1 q2 z9 h9
              refine x_iaload 128 (xd DX9_coverWith rfl) rfl ⟨Or.inr ⟨rfl, by decide⟩, by decide⟩ (by decide) (by have := mEnt_rg hM.2; omega) (by have := mEnt_rg hM.2; omega) rfl ?_
              refine x_iadd 129 (xd DX9_coverWith rfl) rfl ?_
              refine x_iaload 130 (xd DX9_coverWith rfl) rfl ⟨Or.inr ⟨rfl, by decide⟩, by decide⟩ (by decide) (by rw [hM.1.1]; have := hEk.1; have := hMt.2.2.1; omega) (by rw [hM.1.1]; have := hEk.1; have := hMt.2.2.1; omega) rfl ?_
              refine x_iadd 131 (xd DX9_coverWith rfl) rfl ?_
              rw [hM.1.1]
              have hv0 : 0 ≤ cwv g (xg 268) xi xk ∧ cwv g (xg 268) xi xk ≤ 400 := by
                have b1 := hEk.1
                have b2 := hMt.2.2.1
                have b3 := hI.2.1.2.2 (xi + g (cwc g xk) 2) (by omega) (by omega)
                have b4 := kRef_rg (g (cwc g xk) 3)
                unfold cwv
                omega
              have hx0 := cwB_rg ⟨h0, h1⟩ hcw.1 (fun y c d => hI.2.1.2.2 y (by omega) d) xk
              rw [← hI.2.2.1] at hx0
              refine WX.stk (st' := [vi (cwv g (xg 268) xi xk)]) rfl ?_
              generalize hval : cwv g (xg 268) xi xk = xv1
              rw [hval] at hv0
              refine x_istore 133 (L' := [(0, _), (1, _), (2, _), (3, _), (4, _), (5, _)]) (xd DX9_coverWith rfl) (by decide) rfl rfl rfl ?_
              refine x_aload_n 134 (xd DX9_coverWith rfl) rfl rfl ?_
              refine x_gr 137 _ LX9_37 (xd DX9_coverWith rfl) rfl rfl ⟨by decide, by decide⟩ (by decide) rfl rfl ?_
              refine x_iload_n 138 (xd DX9_coverWith rfl) rfl rfl ?_
              refine x_iload 140 (xd DX9_coverWith rfl) rfl rfl ?_
              refine x_aload_n 141 (xd DX9_coverWith rfl) rfl rfl ?_
              refine x_gr 144 _ LX9_34 (xd DX9_coverWith rfl) rfl rfl ⟨by decide, by decide⟩ (by decide) rfl rfl ?_
              refine x_iload_n 145 (xd DX9_coverWith rfl) rfl rfl ?_
              refine x_iaload 146 (xd DX9_coverWith rfl) rfl ⟨Or.inr ⟨rfl, by decide⟩, by decide⟩ (by decide) (by omega) (by omega) rfl ?_
              refine x_icmp_ge 149 154 (xd DX9_coverWith rfl) rfl (by omega) (by omega) rfl (fun c146 => ?_) (fun c146 => ?_)
              · refine x_aload_n 155 (xd DX9_coverWith rfl) rfl rfl ?_
                refine x_gr 158 _ LX9_37 (xd DX9_coverWith rfl) rfl rfl ⟨by decide, by decide⟩ (by decide) rfl rfl ?_
                refine x_iload_n 159 (xd DX9_coverWith rfl) rfl rfl ?_
                refine x_iaload 160 (xd DX9_coverWith rfl) rfl ⟨Or.inr ⟨rfl, by decide⟩, by decide⟩ (by decide) (by omega) (by omega) rfl ?_
                refine x_iastore 161 (xd DX9_coverWith rfl) rfl ⟨Or.inr ⟨rfl, by decide⟩, by decide⟩ (by decide) (by omega) (by omega) rfl ?_
                refine x_aload_n 162 (xd DX9_coverWith rfl) rfl rfl ?_
                refine x_gr 165 _ LX9_34 (xd DX9_coverWith rfl) rfl rfl ⟨by decide, by decide⟩ (by decide) rfl rfl ?_
                refine x_iload_n 166 (xd DX9_coverWith rfl) rfl rfl ?_
                refine x_iload 168 (xd DX9_coverWith rfl) rfl rfl ?_
                refine x_aload_n 169 (xd DX9_coverWith rfl) rfl rfl ?_
                refine x_gr 172 _ LX9_34 (xd DX9_coverWith rfl) rfl rfl ⟨by decide, by decide⟩ (by decide) rfl rfl ?_
                refine x_iload_n 173 (xd DX9_coverWith rfl) rfl rfl ?_
                refine x_iaload 174 (xd DX9_coverWith rfl) rfl ⟨Or.inr ⟨rfl, by decide⟩, by decide⟩ (by decide) (by omega) (by omega) rfl ?_
                refine x_icmp_ge 177 182 (xd DX9_coverWith rfl) rfl (by first | omega | (rw [hset_c (by decide)]; omega)) (by first | omega | (rw [hset_c (by decide)]; omega)) rfl (fun c174 => ?_) (fun c174 => ?_)
                · rw [hset_c (by decide)] at c174
                  refine x_aload_n 183 (xd DX9_coverWith rfl) rfl rfl ?_
                  refine x_gr 186 _ LX9_34 (xd DX9_coverWith rfl) rfl rfl ⟨by decide, by decide⟩ (by decide) rfl rfl ?_
                  refine x_iload_n 187 (xd DX9_coverWith rfl) rfl rfl ?_
                  refine x_iaload 188 (xd DX9_coverWith rfl) rfl ⟨Or.inr ⟨rfl, by decide⟩, by decide⟩ (by decide) (by omega) (by omega) rfl ?_
                  refine x_iastore 189 (xd DX9_coverWith rfl) rfl ⟨Or.inr ⟨rfl, by decide⟩, by decide⟩ (by decide) (by omega) (by omega) rfl ?_
                  refine WX.locals (L' := [(0, _), (1, _), (2, _), (3, _)]) (fun q hq => List.mem_append_left _ hq) ?_
                  first
                    | exact next189 _ (by omega) (hI.no (fun q => hMt q.2.1))
                    | (subst hval; exact next189 _ (by omega) (hI.yes h1 hcw.1 ⟨hq, hMt, by omega⟩))
                    | (rw [hset_c (by decide), hset_id, hset_id]; exact next189 _ (by omega) (hI.no (fun q => by omega)))
                    | exact absurd c146 (by omega)
                · rw [hset_c (by decide)] at c174
                  refine x_iload 179 (xd DX9_coverWith rfl) rfl rfl ?_
                  refine x_goto 188 (xd DX9_coverWith rfl) rfl ?_
                  refine x_iastore 189 (xd DX9_coverWith rfl) rfl ⟨Or.inr ⟨rfl, by decide⟩, by decide⟩ (by decide) (by omega) (by omega) rfl ?_
                  refine WX.locals (L' := [(0, _), (1, _), (2, _), (3, _)]) (fun q hq => List.mem_append_left _ hq) ?_
                  first
                    | exact next189 _ (by omega) (hI.no (fun q => hMt q.2.1))
                    | (subst hval; exact next189 _ (by omega) (hI.yes h1 hcw.1 ⟨hq, hMt, by omega⟩))
                    | (rw [hset_c (by decide), hset_id, hset_id]; exact next189 _ (by omega) (hI.no (fun q => by omega)))
                    | exact absurd c146 (by omega)
              · refine x_iload 151 (xd DX9_coverWith rfl) rfl rfl ?_
                refine x_goto 160 (xd DX9_coverWith rfl) rfl ?_
                refine x_iastore 161 (xd DX9_coverWith rfl) rfl ⟨Or.inr ⟨rfl, by decide⟩, by decide⟩ (by decide) (by omega) (by omega) rfl ?_
                refine x_aload_n 162 (xd DX9_coverWith rfl) rfl rfl ?_
                refine x_gr 165 _ LX9_34 (xd DX9_coverWith rfl) rfl rfl ⟨by decide, by decide⟩ (by decide) rfl rfl ?_
                refine x_iload_n 166 (xd DX9_coverWith rfl) rfl rfl ?_
                refine x_iload 168 (xd DX9_coverWith rfl) rfl rfl ?_
                refine x_aload_n 169 (xd DX9_coverWith rfl) rfl rfl ?_
                refine x_gr 172 _ LX9_34 (xd DX9_coverWith rfl) rfl rfl ⟨by decide, by decide⟩ (by decide) rfl rfl ?_
                refine x_iload_n 173 (xd DX9_coverWith rfl) rfl rfl ?_
                refine x_iaload 174 (xd DX9_coverWith rfl) rfl ⟨Or.inr ⟨rfl, by decide⟩, by decide⟩ (by decide) (by omega) (by omega) rfl ?_
                refine x_icmp_ge 177 182 (xd DX9_coverWith rfl) rfl (by first | omega | (rw [hset_c (by decide)]; omega)) (by first | omega | (rw [hset_c (by decide)]; omega)) rfl (fun c174 => ?_) (fun c174 => ?_)
                · rw [hset_c (by decide)] at c174
                  refine x_aload_n 183 (xd DX9_coverWith rfl) rfl rfl ?_
                  refine x_gr 186 _ LX9_34 (xd DX9_coverWith rfl) rfl rfl ⟨by decide, by decide⟩ (by decide) rfl rfl ?_
                  refine x_iload_n 187 (xd DX9_coverWith rfl) rfl rfl ?_
                  refine x_iaload 188 (xd DX9_coverWith rfl) rfl ⟨Or.inr ⟨rfl, by decide⟩, by decide⟩ (by decide) (by omega) (by omega) rfl ?_
                  refine x_iastore 189 (xd DX9_coverWith rfl) rfl ⟨Or.inr ⟨rfl, by decide⟩, by decide⟩ (by decide) (by omega) (by omega) rfl ?_
                  refine WX.locals (L' := [(0, _), (1, _), (2, _), (3, _)]) (fun q hq => List.mem_append_left _ hq) ?_
                  first
                    | exact next189 _ (by omega) (hI.no (fun q => hMt q.2.1))
                    | (subst hval; exact next189 _ (by omega) (hI.yes h1 hcw.1 ⟨hq, hMt, by omega⟩))
                    | (rw [hset_c (by decide), hset_id, hset_id]; exact next189 _ (by omega) (hI.no (fun q => by omega)))
                    | exact absurd c146 (by omega)
                · rw [hset_c (by decide)] at c174
                  refine x_iload 179 (xd DX9_coverWith rfl) rfl rfl ?_
                  refine x_goto 188 (xd DX9_coverWith rfl) rfl ?_
                  refine x_iastore 189 (xd DX9_coverWith rfl) rfl ⟨Or.inr ⟨rfl, by decide⟩, by decide⟩ (by decide) (by omega) (by omega) rfl ?_
                  refine WX.locals (L' := [(0, _), (1, _), (2, _), (3, _)]) (fun q hq => List.mem_append_left _ hq) ?_
                  first
                    | exact next189 _ (by omega) (hI.no (fun q => hMt q.2.1))
                    | (subst hval; exact next189 _ (by omega) (hI.yes h1 hcw.1 ⟨hq, hMt, by omega⟩))
                    | (rw [hset_c (by decide), hset_id, hset_id]; exact next189 _ (by omega) (hI.no (fun q => by omega)))
                    | exact absurd c146 (by omega)
          refine x_iload_n 56 (xd DX9_coverWith rfl) rfl rfl ?_
          refine x_aload_n 57 (xd DX9_coverWith rfl) rfl rfl ?_
          refine x_gr 60 _ LX9_28 (xd DX9_coverWith rfl) rfl rfl ⟨by decide, by decide⟩ (by decide) rfl rfl ?_
          refine x_bipush 62 (xd DX9_coverWith rfl) rfl rfl ?_
          refine x_iaload 63 (xd DX9_coverWith rfl) rfl ⟨Or.inr ⟨rfl, by decide⟩, by decide⟩ (by decide) (by omega) (by omega) rfl ?_
          refine x_icmp_gt 66 195 (xd DX9_coverWith rfl) rfl (by omega) (by omega) rfl (fun c63 => ?_) (fun c63 => ?_)
          · have ek : xk = (g 8 1).toNat + 1 := by omega
            subst ek
            exact nexto _ _ h0 hI.1 (hI.done ⟨h0, h1⟩ hcw.1)
          · refine x_iload_n 67 (xd DX9_coverWith rfl) rfl rfl ?_
            refine x_aload_n 68 (xd DX9_coverWith rfl) rfl rfl ?_
            refine x_gr 71 _ LX9_28 (xd DX9_coverWith rfl) rfl rfl ⟨by decide, by decide⟩ (by decide) rfl rfl ?_
            refine x_bipush 73 (xd DX9_coverWith rfl) rfl rfl ?_
            refine x_iaload 74 (xd DX9_coverWith rfl) rfl ⟨Or.inr ⟨rfl, by decide⟩, by decide⟩ (by decide) (by omega) (by omega) rfl ?_
            refine x_icmp_ge 77 81 (xd DX9_coverWith rfl) rfl (by omega) (by omega) rfl (fun c74 => ?_) (fun c74 => ?_)
            · refine x_bipush 83 (xd DX9_coverWith rfl) rfl rfl ?_
              refine x_istore 85 (L' := [(0, _), (1, _), (2, _), (3, _), (4, _)]) (xd DX9_coverWith rfl) (by decide) rfl rfl rfl ?_
              refine x_iload 87 (xd DX9_coverWith rfl) rfl rfl ?_
              refine x_bipush 89 (xd DX9_coverWith rfl) rfl rfl ?_
              refine x_icmp_lt 92 96 (xd DX9_coverWith rfl) rfl (by omega) (by omega) rfl (fun c89 => ?_) (fun c89 => ?_)
              · first
                  | exact absurd c89 (by decide)
                  | exact at96 (by omega) _ (by unfold cwe; first | rw [if_pos (by omega)] | rw [if_neg (by omega)]) (by unfold cwq; first | exact Or.inl (by omega) | exact Or.inr hp1)
              · refine x_iload_n 93 (xd DX9_coverWith rfl) rfl rfl ?_
                refine x_if_eq 96 189 (xd DX9_coverWith rfl) rfl (by omega) rfl (fun c93 => ?_) (fun c93 => ?_)
                · have hnp : ¬ cwq g (xa = 1) xk := fun q => q.elim (fun z => by omega) (fun z => by omega)
                  refine WX.locals (L' := [(0, _), (1, _), (2, _), (3, _)]) (fun q hq => List.mem_append_left _ hq) ?_
                  exact next189 _ (by omega) (hI.no (fun q => hnp q.1))
                · have hp1 : xa = 1 := by omega
                  first
                    | exact absurd c89 (by decide)
                    | exact at96 (by omega) _ (by unfold cwe; first | rw [if_pos (by omega)] | rw [if_neg (by omega)]) (by unfold cwq; first | exact Or.inl (by omega) | exact Or.inr hp1)
            · refine x_iload_n 78 (xd DX9_coverWith rfl) rfl rfl ?_
              refine x_goto 83 (xd DX9_coverWith rfl) rfl ?_
              refine x_istore 85 (L' := [(0, _), (1, _), (2, _), (3, _), (4, _)]) (xd DX9_coverWith rfl) (by decide) rfl rfl rfl ?_
              refine x_iload 87 (xd DX9_coverWith rfl) rfl rfl ?_
              refine x_bipush 89 (xd DX9_coverWith rfl) rfl rfl ?_
              refine x_icmp_lt 92 96 (xd DX9_coverWith rfl) rfl (by omega) (by omega) rfl (fun c89 => ?_) (fun c89 => ?_)
              · first
                  | exact absurd c89 (by decide)
                  | exact at96 (by omega) _ (by unfold cwe; first | rw [if_pos (by omega)] | rw [if_neg (by omega)]) (by unfold cwq; first | exact Or.inl (by omega) | exact Or.inr hp1)
              · refine x_iload_n 93 (xd DX9_coverWith rfl) rfl rfl ?_
                refine x_if_eq 96 189 (xd DX9_coverWith rfl) rfl (by omega) rfl (fun c93 => ?_) (fun c93 => ?_)
                · have hnp : ¬ cwq g (xa = 1) xk := fun q => q.elim (fun z => by omega) (fun z => by omega)
                  refine WX.locals (L' := [(0, _), (1, _), (2, _), (3, _)]) (fun q hq => List.mem_append_left _ hq) ?_
                  exact next189 _ (by omega) (hI.no (fun q => hnp q.1))
                · have hp1 : xa = 1 := by omega
                  first
                    | exact absurd c89 (by decide)
                    | exact at96 (by omega) _ (by unfold cwe; first | rw [if_pos (by omega)] | rw [if_neg (by omega)]) (by unfold cwq; first | exact Or.inl (by omega) | exact Or.inr hp1)
      refine x_iload_n 18 (xd DX9_coverWith rfl) rfl rfl ?_
      refine x_if_lt 21 201 (xd DX9_coverWith rfl) rfl (by omega) rfl (fun c18 => ?_) (fun c18 => ?_)
      · have exi : xi = -1 := by omega
        subst exi
        have hI0 : Off S89 h xg ∧ CwE g (xa = 1) xg 0 := ⟨hO, hC⟩
        refine x_aload_n 202 (xd DX9_coverWith rfl) rfl rfl ?_
        refine x_gr 205 _ LX9_34 (xd DX9_coverWith rfl) rfl rfl ⟨by decide, by decide⟩ (by decide) rfl rfl ?_
        refine x_iconst 206 (xd DX9_coverWith rfl) rfl ?_
        refine x_iaload 207 (xd DX9_coverWith rfl) rfl ⟨Or.inr ⟨rfl, by decide⟩, by decide⟩ (by decide) (by omega) (by omega) rfl ?_
        refine x_ri (xd DX9_coverWith rfl) rfl ?_
        exact ⟨hI0.1, hI0.2, rfl⟩
      · have h0 : 0 ≤ xi := by omega
        refine x_aload_n 22 (xd DX9_coverWith rfl) rfl rfl ?_
        refine x_gr 25 _ LX9_34 (xd DX9_coverWith rfl) rfl rfl ⟨by decide, by decide⟩ (by decide) rfl rfl ?_
        refine x_iload_n 26 (xd DX9_coverWith rfl) rfl rfl ?_
        refine x_aload_n 27 (xd DX9_coverWith rfl) rfl rfl ?_
        refine x_gr 30 _ LX9_19 (xd DX9_coverWith rfl) rfl rfl ⟨by decide, by decide⟩ (by decide) rfl rfl ?_
        refine x_iload_n 31 (xd DX9_coverWith rfl) rfl rfl ?_
        refine x_iaload 32 (xd DX9_coverWith rfl) rfl ⟨Or.inr ⟨rfl, by decide⟩, by decide⟩ (by decide) (by omega) (by omega) rfl ?_
        refine x_Si 35 (pX9_own (xg 263 xi) ((hGx.m.1.2 xi h0 (by rw [hGx.n]; omega)).1)) FX9_own VX9_own CX9_127 (xd DX9_coverWith rfl) rfl rfl (by decide) (Nat.le_of_ble_eq_true rfl) (by decide) rfl ?_
        rintro z9 h9 ⟨q1, q2⟩
        rw [q1, q2]
        clear q1 q2 z9 h9
        refine x_aload_n 36 (xd DX9_coverWith rfl) rfl rfl ?_
        refine x_gr 39 _ LX9_34 (xd DX9_coverWith rfl) rfl rfl ⟨by decide, by decide⟩ (by decide) rfl rfl ?_
        refine x_iload_n 40 (xd DX9_coverWith rfl) rfl rfl ?_
        refine x_iconst 41 (xd DX9_coverWith rfl) rfl ?_
        refine x_iadd 42 (xd DX9_coverWith rfl) rfl ?_
        refine x_iaload 43 (xd DX9_coverWith rfl) rfl ⟨Or.inr ⟨rfl, by decide⟩, by decide⟩ (by decide) (by omega) (by omega) rfl ?_
        refine x_iadd 44 (xd DX9_coverWith rfl) rfl ?_
        refine x_iastore 45 (xd DX9_coverWith rfl) rfl ⟨Or.inr ⟨rfl, by decide⟩, by decide⟩ (by decide) (by omega) (by omega) rfl ?_
        refine x_aload_n 46 (xd DX9_coverWith rfl) rfl rfl ?_
        refine x_gr 49 _ LX9_37 (xd DX9_coverWith rfl) rfl rfl ⟨by decide, by decide⟩ (by decide) rfl rfl ?_
        refine x_iload_n 50 (xd DX9_coverWith rfl) rfl rfl ?_
        refine x_bipush 52 (xd DX9_coverWith rfl) rfl rfl ?_
        refine x_iastore 53 (xd DX9_coverWith rfl) rfl ⟨Or.inr ⟨rfl, by decide⟩, by decide⟩ (by decide) (by omega) (by omega) rfl ?_
        refine x_iconst 54 (xd DX9_coverWith rfl) rfl ?_
        refine x_istore_n 55 (L' := [(0, _), (1, _), (2, _), (3, _)]) (xd DX9_coverWith rfl) (by decide) rfl rfl rfl ?_
        refine inner (by omega) 20 0 _ (by omega) (by omega) ?_
        rw [(hGx.2.2.2.1.2 xi h0 (by omega)).1, ltr_own (hGx.1.v h0 (by omega)).1]
        exact CwI.zero (by omega) hcw0 hO hC
  refine x_aload_n 1 (xd DX9_coverWith rfl) rfl rfl ?_
  refine x_gr 4 _ LX9_34 (xd DX9_coverWith rfl) rfl rfl ⟨by decide, by decide⟩ (by decide) rfl rfl ?_
  refine x_aload_n 5 (xd DX9_coverWith rfl) rfl rfl ?_
  refine x_gi 8 5 rfl LX9_103 (xd DX9_coverWith rfl) rfl ⟨Or.inr ⟨rfl, by decide⟩, by decide⟩ rfl ?_
  refine x_iconst 9 (xd DX9_coverWith rfl) rfl ?_
  refine x_iastore 10 (xd DX9_coverWith rfl) rfl ⟨Or.inr ⟨rfl, by decide⟩, by decide⟩ (by decide) (by have := hG.n; omega) (by have := hG.n; omega) rfl ?_
  refine x_aload_n 11 (xd DX9_coverWith rfl) rfl rfl ?_
  refine x_gi 14 5 rfl LX9_103 (xd DX9_coverWith rfl) rfl ⟨Or.inr ⟨rfl, by decide⟩, by decide⟩ rfl ?_
  refine x_iconst 15 (xd DX9_coverWith rfl) rfl ?_
  refine x_isub 16 (xd DX9_coverWith rfl) rfl ?_
  refine x_istore_n 17 (L' := [(0, _), (1, _), (2, _)]) (xd DX9_coverWith rfl) (by decide) rfl rfl rfl ?_
  refine loop 60 (h 259 5 - 1) _ (by omega) (by omega) (by omega) (Off.set (Or.inl rfl)) ?_
  rw [hG.n, show g 4 3 - 1 + 1 = g 4 3 by omega]
  refine ⟨hset_s, fun j a b => absurd b (by omega), fun j a b => ?_⟩
  rw [show j = g 4 3 by omega, hset_s]
  omega

