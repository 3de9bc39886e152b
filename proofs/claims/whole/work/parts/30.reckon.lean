/-! Layout.reckon: the rows as the program and the setup want them -/
theorem ocell {h : XH} {c : Nat} {k z : Int} : Off (fun x => x = c) h (hset h c k z) := Off.set rfl
def KeepB (S : Nat → Prop) : Prop := ∀ c, (c = 4 ∨ c = 5 ∨ c = 6 ∨ c = 7 ∨ c = 193 ∨ (8 ≤ c ∧ c ≤ 33)) → ¬ S c
theorem Mt_off {S : Nat → Prop} {h xg : XH} (hO : Off S h xg) (hs : KeepB S) {e : Nat} (he : e < 8) (i : Int) : Mt xg (10 + 3 * e) i = Mt h (10 + 3 * e) i := Mt.off hO (hs 4 (by omega)) (hs 5 (by omega)) (hs 6 (by omega)) (hs 193 (by omega)) (hs _ (by omega)) (hs _ (by omega)) (hs _ (by omega))
theorem bst_off {S : Nat → Prop} {h xg : XH} (hO : Off S h xg) (hs : KeepB S) {fw : Int → Int} {i : Int} : ∀ e : Nat, e ≤ 8 → bst xg fw i e = bst h fw i e
  | 0, _ => by
    unfold bst
    rw [hO 5 (hs 5 (by omega))]
  | e + 1, he => by
    unfold bst
    rw [bst_off hO hs e (by omega), Mt_off hO hs (by omega), hO (10 + 3 * e) (hs _ (by omega))]
theorem shr_off {S : Nat → Prop} {h xg : XH} (hO : Off S h xg) (hs : KeepB S) {i p : Int} : ∀ e : Nat, e ≤ 8 → shr xg i p e = shr h i p e
  | 0, _ => rfl
  | e + 1, he => by
    unfold shr
    rw [shr_off hO hs e (by omega), Mt_off hO hs (by omega), hO (10 + 3 * e) (hs _ (by omega))]
theorem csN_off {S : Nat → Prop} {h xg : XH} (hO : Off S h xg) (hs : KeepB S) (h244 : ¬ S 244) (N : Nat) (hk : ∀ i : Nat, i < N → h 244 i < 8) : ∀ i : Nat, i ≤ N → csN xg i = csN h i
  | 0, _ => rfl
  | i + 1, hi => by
    rw [csN_s, csN_s, csN_off hO hs h244 N hk i (by omega), hO 244 h244, hO 5 (hs 5 (by omega)), hO (10 + 3 * (h 244 i).toNat) (hs _ (by have := hk i (by omega); omega))]
theorem bst_Mt {h : XH} {fw : Int → Int} {i : Int} : ∀ e : Nat, 0 ≤ (bst h fw i e).2 → Mt h (10 + 3 * (bst h fw i e).2.toNat) i
  | 0, q => absurd q (by show ¬ (0 : Int) ≤ -4; decide)
  | e + 1, q => by
    unfold bst at q ⊢
    by_cases c : Mt h (10 + 3 * e) i ∧ kRef (h (10 + 3 * e) 3) + fw (i + h (10 + 3 * e) 2) < (bst h fw i e).1
    · rw [pik_t c]
      show Mt h (10 + 3 * ((e : Int)).toNat) i
      rw [Int.toNat_natCast]
      exact c.1
    · rw [pik_f c] at q ⊢
      exact bst_Mt e q
/-- the layout's rows, self-contained -/
def LY (h : XH) : Prop := (∃ k : Nat, (k = 2 ∨ k = 3 ∨ k = 4) ∧ h 192 15 = (k : Int) ∧ h 8 2 = (2 ^ k : Nat) ∧ RchEq h k (h 193) 0) ∧ h 192 14 = (h 4 3 + h 8 2 - 1) / h 8 2 ∧ (∀ j, 0 ≤ j → j < h 4 3 → 0 ≤ h 193 j ∧ h 193 j ≤ 4) ∧ h 243 (h 4 3) = 0 ∧ FBEq h h 0 ∧ (∀ j, 0 ≤ j → j ≤ h 4 3 → 0 ≤ h 243 j ∧ h 243 j ≤ 4 * (h 4 3 - j)) ∧ h 192 13 = (csN h (h 4 3).toNat).2.2.2 ∧ (∀ j : Nat, (j : Int) < h 4 3 → PF h h j) ∧ Nibs h h (h 4 3).toNat
def SL (c : Nat) : Prop := 192 ≤ c ∧ c ≤ 253
theorem FB_PK {h : XH} (hS1 : 0 ≤ h 8 1 ∧ h 8 1 ≤ 8) (hq : FBEq h h 0) : PK h ∧ PK2 h := by
  refine ⟨fun i a b => ?_, fun i a b c => ?_⟩
  · have h1 := (hq i a b).2.1
    have h2 := bst_pk (h := h) (fw := h 243) (i := i) (h 8 1).toNat
    rw [← h1] at h2
    omega
  · have h1 := (hq i a b).2.1
    have h2 := bst_Mt (h := h) (fw := h 243) (i := i) (h 8 1).toNat (by rw [← h1]; exact c)
    rw [← h1] at h2
    have := h2.2.2.1
    omega
theorem SW.off {S : Nat → Prop} {h xg : XH} (hO : Off S h xg) (hs : KeepB S) (hS : SW h 8) : SW xg 8 := by
  obtain ⟨a, b, c, d⟩ := hS
  have e8 := hO 8 (hs 8 (by omega))
  refine ⟨by rw [e8]; exact a, by rw [e8]; exact b, by rw [e8]; exact c, fun e he => ?_⟩
  rw [e8] at he
  exact (d e he).off hO (hs _ (by omega)) (hs _ (by omega)) (hs _ (by omega))
set_option maxRecDepth 100000 in
set_option maxHeartbeats 4000000 in
theorem pX3_reckon {K : XK} {n : Nat} {h : XH} (hP : PW h) (hS : SW h 8) : MV K mX3_reckon 4 n [vr 192] h (fun h' => Off SL h h' ∧ LY h') := by
  refine xMeth FX3_reckon (Nat.le_of_ble_eq_true rfl) ?_
  have hP1 := hP.1
  have hW3 := hS.2.1
  have j33 : ∀ xk : Nat, (xk = 2 ∨ xk = 3 ∨ xk = 4) → h 8 2 = (2 ^ xk : Nat) → WI K mX3_reckon 4 n (qV n fun h' => Off SL h h' ∧ LY h') 33 [(0, vr 192)] [vi (xk : Int), vr 192] h := by
    intro xk hxk hxw
    refine x_pi 36 15 rfl LX3_65 (xd DX3_reckon rfl) rfl rfl ⟨Or.inr ⟨rfl, by decide⟩, by decide⟩ rfl ?_
    refine x_aload_n 37 (xd DX3_reckon rfl) rfl rfl ?_
    refine x_aload_n 38 (xd DX3_reckon rfl) rfl rfl ?_
    refine x_gr 41 _ LX3_51 (xd DX3_reckon rfl) rfl rfl ⟨by decide, by decide⟩ (by decide) rfl rfl ?_
    refine x_gi 44 3 rfl LX3_68 (xd DX3_reckon rfl) rfl ⟨Or.inr ⟨rfl, by decide⟩, by decide⟩ rfl ?_
    refine x_aload_n 45 (xd DX3_reckon rfl) rfl rfl ?_
    refine x_gr 48 _ LX3_55 (xd DX3_reckon rfl) rfl rfl ⟨by decide, by decide⟩ (by decide) rfl rfl ?_
    refine x_gi 51 2 rfl LX3_59 (xd DX3_reckon rfl) rfl ⟨Or.inr ⟨rfl, by decide⟩, by decide⟩ rfl ?_
    refine x_iadd 52 (xd DX3_reckon rfl) rfl ?_
    refine x_iconst 53 (xd DX3_reckon rfl) rfl ?_
    refine x_isub 54 (xd DX3_reckon rfl) rfl ?_
    refine x_aload_n 55 (xd DX3_reckon rfl) rfl rfl ?_
    refine x_gi 58 15 rfl LX3_65 (xd DX3_reckon rfl) rfl ⟨Or.inr ⟨rfl, by decide⟩, by decide⟩ rfl ?_
    rw [hset_s, hset_c (d := 4) (by decide), hset_c (d := 8) (by decide)]
    refine x_ishr 59 (k := xk) (by omega) (by omega) (xd DX3_reckon rfl) rfl ?_
    refine x_pi 62 14 rfl LX3_73 (xd DX3_reckon rfl) rfl rfl ⟨Or.inr ⟨rfl, by decide⟩, by decide⟩ rfl ?_
    refine x_aload_n 63 (xd DX3_reckon rfl) rfl rfl ?_
    generalize hz1 : hset (hset h 192 15 (xk : Int)) 192 14 ((h 4 3 + h 8 2 - 1) / (2 ^ xk : Nat)) = h1
    have o1 : Off (fun c => c = 192) h h1 := by rw [← hz1]; exact (ocell (c := 192)).tr ocell
    have P1 : PW h1 := hP.off o1 (by decide) (by decide) (by decide) (by decide)
    have k1 : h1 192 15 = (xk : Int) := by rw [← hz1, hset_i (by decide), hset_s]
    have l1 : h1 192 14 = (h 4 3 + h 8 2 - 1) / (2 ^ xk : Nat) := by rw [← hz1, hset_s]
    refine x_Vv 66 (pX3_measureReaches xk P1 k1 (by omega)) FX3_measureReaches VX3_measureReaches CX3_76 (xd DX3_reckon rfl) rfl rfl rfl ⟨by decide, rfl⟩ ⟨by decide, by decide⟩ (by decide) (Nat.le_of_ble_eq_true rfl) (by decide) rfl ?_
    rintro h2 ⟨o2, r2, b2⟩
    have P2 : PW h2 := P1.off o2 (by decide) (by decide) (by decide) (by decide)
    have kb12 : KeepB (fun c => c = 192) := fun c q => by omega
    have S1 : SW h1 8 := hS.off o1 kb12
    have S2 : SW h2 8 := by
      obtain ⟨a, b, c, d⟩ := S1
      have e8 := o2 8 (by decide)
      refine ⟨by rw [e8]; exact a, by rw [e8]; exact b, by rw [e8]; exact c, fun e he => ?_⟩
      rw [e8] at he
      exact (d e he).off o2 (by omega) (by omega) (by omega)
    have e41 : h1 4 = h 4 := o1 4 (by decide)
    have e42 : h2 4 = h1 4 := o2 4 (by decide)
    refine x_aload_n 67 (xd DX3_reckon rfl) rfl rfl ?_
    refine x_Vv 70 (pX3_findBest P2 S2 (by rw [e42]; exact b2)) FX3_findBest VX3_findBest CX3_79 (xd DX3_reckon rfl) rfl rfl rfl ⟨by decide, rfl⟩ ⟨by decide, by decide⟩ (by decide) (Nat.le_of_ble_eq_true rfl) (by decide) rfl ?_
    rintro h3 ⟨o3, z3, f3, b3⟩
    have kb3 : KeepB SFB := fun c q => by unfold SFB; omega
    have P3 : PW h3 := P2.off o3 (kb3 4 (by omega)) (kb3 5 (by omega)) (kb3 6 (by omega)) (kb3 7 (by omega))
    have S3 : SW h3 8 := S2.off o3 kb3
    have e43 : h3 4 = h2 4 := o3 4 (kb3 4 (by omega))
    have e83 : h3 8 = h2 8 := o3 8 (kb3 8 (by omega))
    have F3 : FBEq h3 h3 0 := by
      intro j a b
      rw [e43] at b
      have s8 := S2.1
      rw [e83, bst_off o3 kb3 _ (by omega)]
      obtain ⟨q1, q2, q3⟩ := f3 j a b
      refine ⟨q1, q2, fun p a b => ?_⟩
      rw [shr_off o3 kb3 _ (by omega)]
      exact q3 p a b
    obtain ⟨K3, K3b⟩ := FB_PK S3.1 F3
    refine x_aload_n 71 (xd DX3_reckon rfl) rfl rfl ?_
    refine x_Vv 74 (pX3_placeAll P3 S3 K3) FX3_placeAll VX3_placeAll CX3_82 (xd DX3_reckon rfl) rfl rfl rfl ⟨by decide, rfl⟩ ⟨by decide, by decide⟩ (by decide) (Nat.le_of_ble_eq_true rfl) (by decide) rfl ?_
    rintro h4 ⟨o4, t4, n4, p4⟩
    have kb4 : KeepB SPA := fun c q => by unfold SPA; omega
    have P4 : PW h4 := P3.off o4 (kb4 4 (by omega)) (kb4 5 (by omega)) (kb4 6 (by omega)) (kb4 7 (by omega))
    have S4 : SW h4 8 := S3.off o4 kb4
    have e44 : h4 4 = h3 4 := o4 4 (kb4 4 (by omega))
    have e84 : h4 8 = h3 8 := o4 8 (kb4 8 (by omega))
    have e2444 : h4 244 = h3 244 := o4 244 (by unfold SPA; omega)
    have c4 : ∀ i : Nat, (i : Int) ≤ h3 4 3 → csN h4 i = csN h3 i := fun i q => csN_off o4 kb4 (by unfold SPA; omega) (h3 4 3).toNat (fun x q => by have := K3 x (by omega) (by omega); have := S3.1; omega) i (by omega)
    have F4 : FBEq h4 h4 0 := by
      intro j a b
      rw [e44] at b
      have s8 := S3.1
      have e243 : h4 243 = h3 243 := o4 243 (by unfold SPA; omega)
      have erow : h4 (195 + j.toNat) = h3 (195 + j.toNat) := o4 _ (by unfold SPA; have := P3.1; omega)
      rw [e84, e243, e2444, erow, bst_off o4 kb4 _ (by omega)]
      obtain ⟨q1, q2, q3⟩ := F3 j a b
      refine ⟨q1, q2, fun p a b => ?_⟩
      rw [shr_off o4 kb4 _ (by omega)]
      exact q3 p a b
    obtain ⟨K4, K4b⟩ := FB_PK S4.1 F4
    have PF4 : ∀ j : Nat, (j : Int) < h4 4 3 → PF h4 h4 j := fun j q => by
      rw [e44] at q
      have := p4 j q
      unfold PF at this ⊢
      rw [c4 (j + 1) (by omega), c4 j (by omega)]
      exact this
    refine x_aload_n 75 (xd DX3_reckon rfl) rfl rfl ?_
    refine x_Vv 78 (pX3_layNibbles P4 S4 K4 K4b PF4) FX3_layNibbles VX3_layNibbles CX3_85 (xd DX3_reckon rfl) rfl rfl rfl ⟨by decide, rfl⟩ ⟨by decide, by decide⟩ (by decide) (Nat.le_of_ble_eq_true rfl) (by decide) rfl ?_
    rintro h5 ⟨o5, n5⟩
    refine x_rv (xd DX3_reckon rfl) rfl ?_
    have kb5 : KeepB (fun c => c = 253) := fun c q => by omega
    have e45 : h5 4 = h4 4 := o5 4 (by decide)
    have e85 : h5 8 = h4 8 := o5 8 (by decide)
    have e192 : h5 192 = h4 192 := o5 192 (by decide)
    have e193 : h5 193 = h2 193 := by rw [o5 193 (by decide), o4 193 (by unfold SPA; omega), o3 193 (by unfold SFB; omega)]
    have t3 : h3 192 = h2 192 := o3 192 (by unfold SFB; omega)
    have t2 : h2 192 = h1 192 := o2 192 (by decide)
    have e82 : h2 8 = h1 8 := o2 8 (by decide)
    have e81 : h1 8 = h 8 := o1 8 (by decide)
    have c5 : ∀ i : Nat, (i : Int) ≤ h4 4 3 → csN h5 i = csN h4 i := fun i q => csN_off o5 kb5 (by decide) (h4 4 3).toNat (fun x q => by have := K4 x (by omega) (by omega); have := S4.1; omega) i (by omega)
    have hN : h5 4 3 = h 4 3 := by rw [e45, e44, e43, e42, e41]
    have hW8 : h5 8 2 = h 8 2 := by rw [e85, e84, e83, e82, e81]
    refine ⟨?_, ⟨xk, hxk, ?_, ?_, ?_⟩, ?_, ?_, ?_, ?_, ?_, ?_, ?_, ?_⟩
    · exact ((((o1.mono (fun c q => by unfold SL; omega)).tr (o2.mono (fun c q => by unfold SL; omega))).tr (o3.mono (fun c q => by unfold SFB at q; unfold SL; omega))).tr (o4.mono (fun c q => by unfold SPA at q; unfold SL; omega))).tr (o5.mono (fun c q => by unfold SL; omega))
    · rw [e192, t4 15 (by decide), t3, t2, k1]
    · rw [hW8]; exact hxw
    · intro j a b
      rw [hN] at b
      rw [e193]
      have := r2 j a (by rw [e41]; exact b)
      rw [this]
      unfold rchF Lead
      rw [o5 5 (by decide), o4 5 (kb4 5 (by omega)), o3 5 (kb3 5 (by omega)), o2 5 (by decide), o5 7 (by decide), o4 7 (kb4 7 (by omega)), o3 7 (kb3 7 (by omega)), o2 7 (by decide), hN, e41]
    · rw [e192, t4 14 (by decide), t3, t2, l1, hN, hW8, hxw]
    · intro j a b
      rw [e193]
      exact b2 j a (by rw [e41, ← hN]; exact b)
    · rw [o5 243 (by decide), o4 243 (by unfold SPA; omega), e45, e44, e43]
      exact z3
    · intro j a b
      rw [e45] at b
      have s8 := S4.1
      have erow : h5 (195 + j.toNat) = h4 (195 + j.toNat) := o5 _ (by have := P4.1; show ¬ (195 + j.toNat = 253); omega)
      rw [e85, o5 243 (by decide), o5 244 (by decide), erow, bst_off o5 kb5 _ (by omega)]
      obtain ⟨q1, q2, q3⟩ := F4 j a b
      refine ⟨q1, q2, fun p a b => ?_⟩
      rw [shr_off o5 kb5 _ (by omega)]
      exact q3 p a b
    · intro j a b
      rw [o5 243 (by decide), o4 243 (by unfold SPA; omega), e45, e44, e43]
      rw [e45, e44, e43] at b
      exact b3 j a b
    · have p9 := P3.1
      rw [e192, n4, hN, c5 _ (by rw [e44, e43, e42, e41]; omega), c4 _ (by rw [e43, e42, e41]; omega), e43, e42, e41]
    · intro j q
      rw [e45] at q
      have := PF4 j q
      unfold PF at this ⊢
      rw [c5 (j + 1) (by omega), c5 j (by omega), o5 249 (by decide), o5 250 (by decide), o5 251 (by decide), o5 252 (by decide)]
      exact this
    · intro j hj aj t t0 t1
      rw [e45] at hj
      rw [o5 251 (by decide)] at aj ⊢
      have p9 := P4.1
      have hx : h4 249 j < 0 ∨ (h4 249 j).toNat < 8 := by
        have := (head_facts (PF4 j (by omega)) aj).2.2.1
        have k9 := K4 j (by omega) (by omega)
        have s9 := S4.1
        omega
      rw [wid_off o5 hx] at t1
      rw [nib_off o5 hx]
      exact n5 j hj aj t t0 t1
  refine x_aload_n 1 (xd DX3_reckon rfl) rfl rfl ?_
  refine x_aload_n 2 (xd DX3_reckon rfl) rfl rfl ?_
  refine x_gr 5 _ LX3_55 (xd DX3_reckon rfl) rfl rfl ⟨by decide, by decide⟩ (by decide) rfl rfl ?_
  refine x_gi 8 2 rfl LX3_59 (xd DX3_reckon rfl) rfl ⟨Or.inr ⟨rfl, by decide⟩, by decide⟩ rfl ?_
  refine x_iconst 9 (xd DX3_reckon rfl) rfl ?_
  refine x_icmp_ne 12 16 (xd DX3_reckon rfl) rfl (by omega) (by omega) rfl (fun c9 => ?_) (fun c9 => ?_)
  · refine x_aload_n 17 (xd DX3_reckon rfl) rfl rfl ?_
    refine x_gr 20 _ LX3_55 (xd DX3_reckon rfl) rfl rfl ⟨by decide, by decide⟩ (by decide) rfl rfl ?_
    refine x_gi 23 2 rfl LX3_59 (xd DX3_reckon rfl) rfl ⟨Or.inr ⟨rfl, by decide⟩, by decide⟩ rfl ?_
    refine x_bipush 25 (xd DX3_reckon rfl) rfl rfl ?_
    refine x_icmp_ne 28 32 (xd DX3_reckon rfl) rfl (by omega) (by omega) rfl (fun c25 => ?_) (fun c25 => ?_)
    · refine x_iconst 33 (xd DX3_reckon rfl) rfl ?_
      first | exact j33 2 (by omega) (by show h 8 2 = 4; omega) | exact j33 3 (by omega) (by show h 8 2 = 8; omega) | exact j33 4 (by omega) (by show h 8 2 = 16; omega)
    · refine x_iconst 29 (xd DX3_reckon rfl) rfl ?_
      refine x_goto 33 (xd DX3_reckon rfl) rfl ?_
      first | exact j33 2 (by omega) (by show h 8 2 = 4; omega) | exact j33 3 (by omega) (by show h 8 2 = 8; omega) | exact j33 4 (by omega) (by show h 8 2 = 16; omega)
  · refine x_iconst 13 (xd DX3_reckon rfl) rfl ?_
    refine x_goto 33 (xd DX3_reckon rfl) rfl ?_
    first | exact j33 2 (by omega) (by show h 8 2 = 4; omega) | exact j33 3 (by omega) (by show h 8 2 = 8; omega) | exact j33 4 (by omega) (by show h 8 2 = 16; omega)

