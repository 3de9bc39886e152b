/-! SqueezedCode: write, wipe, fault, lay, code, part -/
theorem CI.tx {h : XH} (hC : CI h) : TxI h := hC.2.2.2.2.2.2
/-- but for the text all is as it was -/
theorem CI.txt {h h' : XH} (hC : CI h) (hO : Off (fun c => c = 1 ∨ c = 2 ∨ c = 3) h h') (hT : TxI h') : CI h' := by
  obtain ⟨a1, a2, a3, a4, a5, a6, -⟩ := hC
  have e : ∀ c, 4 ≤ c → h' c = h c := fun c q => hO c (by omega)
  refine ⟨a1.off hO (by omega) (by omega) (by omega) (by omega), SW.same (fun x q => e x (by unfold S26 at q; omega)) a2, a3.same (fun x q _ => e x (by omega)), a4.off hO (fun c q => by omega) a1 a2, by rw [e 255 (by omega)]; exact a5, fun q => ?_, hT⟩
  rw [e 255 (by omega)] at q
  have := a6 q
  unfold RW at this ⊢
  rw [e 255 (by omega), e 256 (by omega), e 258 (by omega), e 4 (by omega)]
  exact this
theorem FFR.tx {h h1 : XH} {n1 : Nat} {z : Int} (hF : FFR h h1 n1 z) : h1 2 = h 2 ∧ h1 1 2 = h 1 2 := ⟨hF.2.1 2 (by unfold STx; omega), hF.2.2.1 2 (by decide)⟩
theorem FFR.ci {h h1 : XH} {n1 : Nat} {z : Int} (hF : FFR h h1 n1 z) (hC : CI h) : CI h1 := by
  refine hC.txt (hF.2.1.mono (fun c q => by unfold STx at q; omega)) ?_
  unfold TxI
  rw [hF.tx.1, hF.tx.2]
  exact hC.tx
/-- the program that a text tells -/
def LdP (f : Int → Int) (N : Int) (h' : XH) (n : Nat) : Prop := h' 4 3 = (n : Int) ∧ ∀ i : Nat, i < n → h' 5 i = kix (f (stN f N i)) ∧ h' 6 i = vlF f (stN f N i) ∧ h' 7 i = xp (∃ j : Nat, j < n ∧ kTgt (kix (f (stN f N j))) ∧ vlF f (stN f N j) = i)
def LdR (h h' : XH) (n : Nat) : Prop := LdP (h 2) (h 1 2) h' n ∧ h' 8 1 = 0 ∧ h' 8 2 = h 8 2 ∧ h' 8 3 = h 8 3 ∧ h' 34 1 = 0 ∧ h' 255 5 = 0 ∧ h' 1 2 = h 1 2 ∧ h' 2 = h 2 ∧ TgI h' ∧ CI h'
/-- no fault: all is read, and no place is lost -/
theorem FltR.ok {f : Int → Int} {N : Int} {n : Nat} (h : FltR f N n (-4)) : ∃ p, Prs f N n p ∧ ∀ j : Nat, j < n → ¬ Lost f N n j := by
  obtain ⟨p, h1, h2, h3⟩ := h
  refine ⟨p, h1, ?_⟩
  rcases h3 with ⟨a, b⟩ | ⟨a, b⟩
  · have := Prs.nn (f := f) (N := N) n
    rw [← h1.1] at this
    omega
  · rcases b with ⟨k, b1, b2, b3, b4⟩ | ⟨b1, b2⟩
    · have := Prs.nn (f := f) (N := N) k
      omega
    · exact b1
theorem laid_pw {h1 h2 : XH} {n : Nat} {p : Int} (hT : TxI h1) (hP : Prs (h1 2) (h1 1 2) n p) (hS : StI h1 n) (hn : n ≠ 0) (hl : ∀ j : Nat, j < n → ¬ Lost (h1 2) (h1 1 2) n j) (hK : TkR h1 h2 n) : PW h2 ∧ TgI h2 ∧ LdP (h1 2) (h1 1 2) h2 n := by
  have hn48 := hP.2.1
  obtain ⟨hO, h43, hI⟩ := hK
  have key : ∀ i : Nat, i < n → h2 5 i = kix (h1 2 (h1 3 i)) ∧ h2 6 i = vlF (h1 2) (h1 3 i) ∧ h2 7 i = xp (TkE h1 n i) ∧ ((kSim (h2 5 i) → 0 ≤ h2 6 i ∧ h2 6 i ≤ 9) ∧ (kTgt (h2 5 i) → 0 ≤ h2 6 i ∧ h2 6 i < n) ∧ (¬ kSim (h2 5 i) → ¬ kTgt (h2 5 i) → h2 6 i = -4) ∧ (0 ≤ h2 5 i ∧ h2 5 i ≤ 11)) := fun i hi => by
    obtain ⟨k1, k2, k3⟩ := hI i hi
    have v := vl_rg hT hP hS hi
    refine ⟨k1, k2, k3, ?_⟩
    rw [k1, k2]
    refine ⟨v.1, fun q => ⟨(v.2.1 q).1, ?_⟩, v.2.2.1, v.2.2.2⟩
    refine Classical.byContradiction (fun w => hl i hi ⟨?_, ?_⟩)
    · rw [← hS i hi]; exact q
    · rw [← hS i hi]; omega
  refine ⟨⟨by rw [h43]; omega, fun i a b => ?_⟩, fun i a b c => ?_, h43, fun i hi => ?_⟩
  · rw [h43] at b
    have q := key i.toNat (by omega)
    rw [show ((i.toNat : Nat) : Int) = i by omega] at q
    obtain ⟨-, -, k3, v1, v2, v3, v4⟩ := q
    unfold kSim at v1 v3
    unfold kTgt at v2 v3
    refine ⟨v4, fun y => v1 ⟨v4.1, y⟩, fun y y2 => by rw [h43]; exact v2 ⟨y, y2⟩, fun y => v3 (by omega) (by omega), by rw [k3]; exact xp01 _⟩
  · rw [h43] at b
    have q := key i.toNat (by omega)
    rw [show ((i.toNat : Nat) : Int) = i by omega] at q
    have v2 := q.2.2.2.2.1 c
    have q2 := key (h2 6 i).toNat (by omega)
    rw [show (((h2 6 i).toNat : Nat) : Int) = h2 6 i by omega] at q2
    rw [q2.2.2.1]
    refine xp_1.mpr ⟨i.toNat, by omega, ?_, ?_⟩
    · rw [show ((i.toNat : Nat) : Int) = i by omega, ← q.1]; exact c
    · rw [show ((i.toNat : Nat) : Int) = i by omega, ← q.2.1]
  · obtain ⟨k1, k2, k3, -⟩ := key i hi
    rw [k1, k2, k3, hS i hi]
    refine ⟨rfl, rfl, xp_c ⟨?_, ?_⟩⟩
    · rintro ⟨j, a, b, c⟩
      rw [hS j a] at b c
      exact ⟨j, a, b, c⟩
    · rintro ⟨j, a, b, c⟩
      exact ⟨j, a, by rw [hS j a]; exact b, by rw [hS j a]; exact c⟩
set_option maxRecDepth 100000 in
set_option maxHeartbeats 4000000 in
theorem pX8_write {K : XK} {n : Nat} {h : XH} (c : Int) (hC : CI h) (hc : xrg c) : MI K mX8_write 1 n [vr 0, vi c] h (fun zr h' => (¬ (32 ≤ c ∧ c ≤ 126) → zr = -1 ∧ h' = h) ∧ ((32 ≤ c ∧ c ≤ 126) → (200 ≤ h 1 2 → zr = -3 ∧ h' = h) ∧ (h 1 2 < 200 → zr = h 1 2 + 1 ∧ h' = hset (hset h 2 (h 1 2) c) 1 2 (h 1 2 + 1)))) := by
  refine xMeth FX8_write (Nat.le_of_ble_eq_true rfl) ?_
  refine x_iload_n 1 (xd DX8_write rfl) rfl rfl ?_
  refine x_bipush 3 (xd DX8_write rfl) rfl rfl ?_
  refine x_icmp_lt 6 12 (xd DX8_write rfl) rfl (by omega) (by omega) rfl (fun kc3 => ?_) (fun kc3 => ?_)
  · refine x_iconst 13 (xd DX8_write rfl) rfl ?_
    refine x_ri (xd DX8_write rfl) rfl ?_
    exact ⟨fun _ => ⟨rfl, rfl⟩, fun q => absurd q (by omega)⟩
  · refine x_iload_n 7 (xd DX8_write rfl) rfl rfl ?_
    refine x_bipush 9 (xd DX8_write rfl) rfl rfl ?_
    refine x_icmp_le 12 14 (xd DX8_write rfl) rfl (by omega) (by omega) rfl (fun kc9 => ?_) (fun kc9 => ?_)
    · refine x_aload_n 15 (xd DX8_write rfl) rfl rfl ?_
      refine x_gr 18 _ LX8_12 (xd DX8_write rfl) rfl rfl ⟨by decide, by decide⟩ (by decide) rfl rfl ?_
      refine x_iload_n 19 (xd DX8_write rfl) rfl rfl ?_
      refine x_i2c 20 (by omega) (xd DX8_write rfl) rfl ?_
      refine x_Vi 23 (pX7_append c (by omega) hC.tx) FX7_append VX7_append CX8_76 (xd DX8_write rfl) rfl rfl rfl ⟨by decide, rfl⟩ ⟨by decide, by decide⟩ (by decide) (Nat.le_of_ble_eq_true rfl) (by decide) rfl ?_
      rintro z9 h9 ⟨q1, q2⟩
      refine x_ri (xd DX8_write rfl) rfl ?_
      exact ⟨fun q => absurd q (by omega), fun _ => ⟨q1, q2⟩⟩
    · refine x_iconst 13 (xd DX8_write rfl) rfl ?_
      refine x_ri (xd DX8_write rfl) rfl ?_
      exact ⟨fun _ => ⟨rfl, rfl⟩, fun q => absurd q (by omega)⟩

set_option maxRecDepth 100000 in
set_option maxHeartbeats 4000000 in
theorem pX8_wipe {K : XK} {n : Nat} {h : XH}  : MI K mX8_wipe 1 n [vr 0] h (fun zr h' => zr = h 1 2 ∧ h' = hset h 1 2 0) := by
  refine xMeth FX8_wipe (Nat.le_of_ble_eq_true rfl) ?_
  refine x_aload_n 1 (xd DX8_wipe rfl) rfl rfl ?_
  refine x_gr 4 _ LX8_12 (xd DX8_wipe rfl) rfl rfl ⟨by decide, by decide⟩ (by decide) rfl rfl ?_
  refine x_Vi 7 (pX7_empty) FX7_empty VX7_empty CX8_87 (xd DX8_wipe rfl) rfl rfl rfl ⟨by decide, rfl⟩ ⟨by decide, by decide⟩ (by decide) (Nat.le_of_ble_eq_true rfl) (by decide) rfl ?_
  rintro z9 h9 ⟨q1, q2⟩
  rw [q1, q2]
  clear q1 q2 z9 h9
  refine x_ri (xd DX8_wipe rfl) rfl ?_
  exact ⟨rfl, rfl⟩

set_option maxRecDepth 100000 in
set_option maxHeartbeats 4000000 in
theorem pX8_fault {K : XK} {n : Nat} {h : XH} (hC : CI h) : MI K mX8_fault 8 n [vr 0] h (fun zr h' => ∃ n1 : Nat, FFR h h' n1 zr) := by
  refine xMeth FX8_fault (Nat.le_of_ble_eq_true rfl) ?_
  refine x_aload_n 1 (xd DX8_fault rfl) rfl rfl ?_
  refine x_gr 4 _ LX8_12 (xd DX8_fault rfl) rfl rfl ⟨by decide, by decide⟩ (by decide) rfl rfl ?_
  refine x_Vi 7 (pX7_findFault hC.tx) FX7_findFault VX7_findFault CX8_80 (xd DX8_fault rfl) rfl rfl rfl ⟨by decide, rfl⟩ ⟨by decide, by decide⟩ (by decide) (Nat.le_of_ble_eq_true rfl) (by decide) rfl ?_
  rintro z9 h9 ⟨n1, q1⟩
  refine x_ri (xd DX8_fault rfl) rfl ?_
  exact ⟨n1, q1⟩

set_option maxRecDepth 100000 in
set_option maxHeartbeats 4000000 in
theorem pX8_lay {K : XK} {n : Nat} {h : XH} (hC : CI h) : MI K mX8_lay 8 n [vr 0] h (fun zr h' => ∃ (n1 : Nat) (z1 : Int), FltR (h 2) (h 1 2) n1 z1 ∧ ((z1 ≠ -4 ∨ n1 = 0) → zr = -2 ∧ FFR h h' n1 z1) ∧ (z1 = -4 → n1 ≠ 0 → zr = (n1 : Int) ∧ LdR h h' n1 ∧ Off (fun c => c < 259) h h')) := by
  refine xMeth FX8_lay (Nat.le_of_ble_eq_true rfl) ?_
  refine x_aload_n 1 (xd DX8_lay rfl) rfl rfl ?_
  refine x_gr 4 _ LX8_12 (xd DX8_lay rfl) rfl rfl ⟨by decide, by decide⟩ (by decide) rfl rfl ?_
  refine x_Vi 7 (pX7_findFault hC.tx) FX7_findFault VX7_findFault CX8_80 (xd DX8_lay rfl) rfl rfl rfl ⟨by decide, rfl⟩ ⟨by decide, by decide⟩ (by decide) (Nat.le_of_ble_eq_true rfl) (by decide) rfl ?_
  rintro z1 h1 ⟨n1, hF⟩
  have hz1 : -4 ≤ z1 ∧ z1 ≤ 200 := by
    have hT1 := hC.tx.1
    obtain ⟨p, p1, p2, p3⟩ := hF.1
    have pl := p1.le hT1.1
    have pn := Prs.nn (f := h 2) (N := h 1 2) n1
    rw [← p1.1] at pn
    rcases p3 with ⟨a, b⟩ | ⟨a, ⟨k, b1, b2, b3, b4⟩ | ⟨b1, b2⟩⟩
    · omega
    · have := Prs.nn (f := h 2) (N := h 1 2) k
      have := (p1.2.2 k b1).1
      omega
    · omega
  refine x_bipush 9 (xd DX8_lay rfl) rfl rfl ?_
  refine x_icmp_ne 12 22 (xd DX8_lay rfl) rfl (by omega) (by omega) rfl (fun kc9 => ?_) (fun kc9 => ?_)
  · refine x_bipush 24 (xd DX8_lay rfl) rfl rfl ?_
    refine x_ri (xd DX8_lay rfl) rfl ?_
    exact ⟨n1, z1, hF.1, fun _ => ⟨rfl, hF⟩, fun q1 q2 => by have := hF.2.2.2.1; omega⟩
  · refine x_aload_n 13 (xd DX8_lay rfl) rfl rfl ?_
    refine x_gr 16 _ LX8_12 (xd DX8_lay rfl) rfl rfl ⟨by decide, by decide⟩ (by decide) rfl rfl ?_
    refine x_gi 19 3 rfl LX8_93 (xd DX8_lay rfl) rfl ⟨Or.inr ⟨rfl, by decide⟩, by decide⟩ rfl ?_
    refine x_if_ne 22 25 (xd DX8_lay rfl) rfl (by rw [hF.2.2.2.1]; have := hF.1.choose_spec.1.2.1; omega) rfl (fun kc19 => ?_) (fun kc19 => ?_)
    · have hz4 : z1 = -4 := kc9
      have hC1 := hF.ci hC
      have hT1 := hC1.tx
      have e2 := hF.tx.1
      have e12 := hF.tx.2
      obtain ⟨p, hPr, hnl⟩ := FltR.ok (by rw [← hz4]; exact hF.1)
      refine x_aload_n 26 (xd DX8_lay rfl) rfl rfl ?_
      refine x_gr 29 _ LX8_19 (xd DX8_lay rfl) rfl rfl ⟨by decide, by decide⟩ (by decide) rfl rfl ?_
      refine x_aload_n 30 (xd DX8_lay rfl) rfl rfl ?_
      refine x_gr 33 _ LX8_12 (xd DX8_lay rfl) rfl rfl ⟨by decide, by decide⟩ (by decide) rfl rfl ?_
      refine x_Vv 36 (pX4_take n1 p hT1 (by rw [e2, e12]; exact hPr) hF.2.2.2.2 hF.2.2.2.1) FX4_take VX4_take CX8_83 (xd DX8_lay rfl) rfl rfl rfl ⟨by decide, rfl⟩ ⟨by decide, by decide⟩ (by decide) (Nat.le_of_ble_eq_true rfl) (by decide) rfl ?_
      intro h2 hK
      have hpw := laid_pw hT1 (by rw [e2, e12]; exact hPr) hF.2.2.2.2 (by have := hF.2.2.2.1; omega) (by rw [e2, e12]; exact hnl) hK
      rw [e2, e12] at hpw
      refine x_aload_n 37 (xd DX8_lay rfl) rfl rfl ?_
      refine x_gr 40 _ LX8_26 (xd DX8_lay rfl) rfl rfl ⟨by decide, by decide⟩ (by decide) rfl rfl ?_
      refine x_iconst 41 (xd DX8_lay rfl) rfl ?_
      refine x_pi 44 1 rfl LX8_97 (xd DX8_lay rfl) rfl rfl ⟨Or.inr ⟨rfl, by decide⟩, by decide⟩ rfl ?_
      refine x_aload_n 45 (xd DX8_lay rfl) rfl rfl ?_
      refine x_gr 48 _ LX8_33 (xd DX8_lay rfl) rfl rfl ⟨by decide, by decide⟩ (by decide) rfl rfl ?_
      refine x_iconst 49 (xd DX8_lay rfl) rfl ?_
      refine x_pi 52 1 rfl LX8_100 (xd DX8_lay rfl) rfl rfl ⟨Or.inr ⟨rfl, by decide⟩, by decide⟩ rfl ?_
      have hP3 : PW (hset (hset h2 8 1 0) 34 1 0) := hpw.1.off (S := fun c => c = 8 ∨ c = 34) ((Off.set (Or.inl rfl)).tr (Off.set (Or.inr rfl))) (by omega) (by omega) (by omega) (by omega)
      have hS3 : SW (hset (hset h2 8 1 0) 34 1 0) 8 := by
        have q := hC1.2.1
        have e8 : h2 8 = h1 8 := hK.1 8 (by unfold S47; omega)
        refine ⟨?_, ?_, ?_, fun e he => ?_⟩
        · rw [hset_c (by decide), hset_s]; omega
        · rw [hset_c (by decide), hset_i (by decide), e8]; exact q.2.1
        · rw [hset_c (by decide), hset_i (by decide), e8]; exact q.2.2.1
        · rw [hset_c (by decide), hset_s] at he
          exact absurd he (by omega)
      refine x_aload_n 53 (xd DX8_lay rfl) rfl rfl ?_
      refine x_Vv 56 (pX8_settle hP3 hS3) FX8_settle VX8_settle CX8_103 (xd DX8_lay rfl) rfl rfl rfl ⟨by decide, rfl⟩ ⟨by decide, by decide⟩ (by decide) (Nat.le_of_ble_eq_true rfl) (by decide) rfl ?_
      intro h4 ⟨hO4, hL4, h45⟩
      refine x_aload_n 57 (xd DX8_lay rfl) rfl rfl ?_
      refine x_gr 60 _ LX8_19 (xd DX8_lay rfl) rfl rfl ⟨by decide, by decide⟩ (by decide) rfl rfl ?_
      refine x_gi 63 3 rfl LX8_106 (xd DX8_lay rfl) rfl ⟨Or.inr ⟨rfl, by decide⟩, by decide⟩ rfl ?_
      refine x_ri (xd DX8_lay rfl) rfl ?_
      have o4 : ∀ c, c < 192 → c ≠ 34 → c ≠ 8 → h4 c = h2 c := fun c a b d => by rw [hO4 c (by unfold SSe SL; omega), hset_c b, hset_c d]
      have hld : LdP (h 2) (h 1 2) h4 n1 := by
        unfold LdP
        rw [o4 4 (by omega) (by omega) (by omega), o4 5 (by omega) (by omega) (by omega), o4 6 (by omega) (by omega) (by omega), o4 7 (by omega) (by omega) (by omega)]
        exact hpw.2.2
      refine ⟨n1, z1, hF.1, fun q => by exfalso; have := hF.2.2.2.1; rcases q with q | q <;> omega, fun _ _ => ⟨?_, ⟨hld, ?_, ?_, ?_, ?_, h45, ?_, ?_, ?_, ?_⟩, fun c hc => ?_⟩⟩
      · exact hld.1
      · rw [hO4 8 (by unfold SSe SL; omega), hset_c (by decide), hset_s]
      · rw [hO4 8 (by unfold SSe SL; omega), hset_c (by decide), hset_i (by decide), hK.1 8 (by unfold S47; omega), hF.2.1 8 (by unfold STx; omega)]
      · rw [hO4 8 (by unfold SSe SL; omega), hset_c (by decide), hset_i (by decide), hK.1 8 (by unfold S47; omega), hF.2.1 8 (by unfold STx; omega)]
      · rw [hO4 34 (by unfold SSe SL; omega), hset_s]
      · rw [o4 1 (by omega) (by omega) (by omega), hK.1 1 (by unfold S47; omega), e12]
      · rw [o4 2 (by omega) (by omega) (by omega), hK.1 2 (by unfold S47; omega), e2]
      · unfold TgI
        rw [o4 4 (by omega) (by omega) (by omega), o4 5 (by omega) (by omega) (by omega), o4 6 (by omega) (by omega) (by omega), o4 7 (by omega) (by omega) (by omega)]
        exact hpw.2.1
      · refine ⟨hP3.off hO4 (by unfold SSe SL; omega) (by unfold SSe SL; omega) (by unfold SSe SL; omega) (by unfold SSe SL; omega), SW.same (fun x q => hO4 x (by unfold S26 at q; unfold SSe SL; omega)) hS3, ?_, hL4, Or.inl h45, fun q => by rw [h45] at q; exact absurd q (by decide), ?_⟩
        · unfold HW
          rw [hO4 34 (by unfold SSe SL; omega), hset_s]
          exact ⟨by omega, fun k hk => absurd hk (by omega)⟩
        · rw [o4 1 (by omega) (by omega) (by omega), hK.1 1 (by unfold S47; omega), o4 2 (by omega) (by omega) (by omega), hK.1 2 (by unfold S47; omega)]
          exact hT1
      · rw [hO4 c (by unfold SSe SL; omega), hset_c (by omega), hset_c (by omega), hK.1 c (by unfold S47; omega), hF.2.1 c (by unfold STx; omega)]
    · refine x_bipush 24 (xd DX8_lay rfl) rfl rfl ?_
      refine x_ri (xd DX8_lay rfl) rfl ?_
      exact ⟨n1, z1, hF.1, fun _ => ⟨rfl, hF⟩, fun q1 q2 => by have := hF.2.2.2.1; omega⟩

set_option maxRecDepth 100000 in
set_option maxHeartbeats 4000000 in
theorem pX8_code {K : XK} {n : Nat} {h : XH} (i w : Int) (hC : CI h) (hi : xrg i) (hw : xrg w) : MI K mX8_code 5 n [vr 0, vi i, vi w] h (fun zr h' => zr = codC h i w ∧ h' = h) := by
  refine xMeth FX8_code (Nat.le_of_ble_eq_true rfl) ?_
  have hP1 := hC.1.1
  refine x_aload_n 1 (xd DX8_code rfl) rfl rfl ?_
  refine x_gr 4 _ LX8_19 (xd DX8_code rfl) rfl rfl ⟨by decide, by decide⟩ (by decide) rfl rfl ?_
  refine x_iload_n 5 (xd DX8_code rfl) rfl rfl ?_
  refine x_Vi 8 (pX4_has i hi (by omega)) FX4_has VX4_has CX8_108 (xd DX8_code rfl) rfl rfl rfl ⟨by decide, rfl⟩ ⟨by decide, by decide⟩ (by decide) (Nat.le_of_ble_eq_true rfl) (by decide) rfl ?_
  rintro z9 h9 ⟨q1, q2⟩
  rw [q1, q2]
  clear q1 q2 z9 h9
  refine x_ifp_ne 11 13 (xd DX8_code rfl) rfl rfl (fun kc8 => ?_) (fun kc8 => ?_)
  · have hv := hC.1.v kc8.1 kc8.2
    have ht := (hC.1.2 i kc8.1 kc8.2).2.2.2.2
    have hrg := hC.rows kc8.1 kc8.2
    refine x_iload_n 14 (xd DX8_code rfl) rfl rfl ?_
    have hsw : w = 0 ∨ w = 1 ∨ w = 2 ∨ w = 3 ∨ w = 4 ∨ (w < 0 ∨ 4 < w) := by omega
    rcases hsw with e | e | e | e | e | e
    · subst e
      refine x_tableIn 48 (xd DX8_code rfl) (by decide) (by decide) (by decide) rfl rfl ?_
      refine x_aload_n 49 (xd DX8_code rfl) rfl rfl ?_
      refine x_gr 52 _ LX8_19 (xd DX8_code rfl) rfl rfl ⟨by decide, by decide⟩ (by decide) rfl rfl ?_
      refine x_gr 55 _ LX8_112 (xd DX8_code rfl) rfl rfl ⟨by decide, by decide⟩ (by decide) rfl rfl ?_
      refine x_iload_n 56 (xd DX8_code rfl) rfl rfl ?_
      refine x_iaload 57 (xd DX8_code rfl) rfl ⟨Or.inr ⟨rfl, by decide⟩, by decide⟩ (by decide) (by omega) (by omega) rfl ?_
      refine x_Si 60 (pX8_letterOf (h 5 i) (by omega)) FX8_letterOf VX8_letterOf CX8_116 (xd DX8_code rfl) rfl rfl (by decide) (Nat.le_of_ble_eq_true rfl) (by decide) rfl ?_
      rintro z9 h9 ⟨q1, q2⟩
      rw [q1, q2]
      clear q1 q2 z9 h9
      refine x_ri (xd DX8_code rfl) rfl ?_
      refine ⟨?_, rfl⟩
      unfold codC
      rw [if_pos hv.1]
      rw [if_pos ⟨by omega, by omega, by omega⟩, if_pos rfl]
    · subst e
      refine x_tableIn 61 (xd DX8_code rfl) (by decide) (by decide) (by decide) rfl rfl ?_
      refine x_aload_n 62 (xd DX8_code rfl) rfl rfl ?_
      refine x_gr 65 _ LX8_19 (xd DX8_code rfl) rfl rfl ⟨by decide, by decide⟩ (by decide) rfl rfl ?_
      refine x_gr 68 _ LX8_120 (xd DX8_code rfl) rfl rfl ⟨by decide, by decide⟩ (by decide) rfl rfl ?_
      refine x_iload_n 69 (xd DX8_code rfl) rfl rfl ?_
      refine x_iaload 70 (xd DX8_code rfl) rfl ⟨Or.inr ⟨rfl, by decide⟩, by decide⟩ (by decide) (by omega) (by omega) rfl ?_
      refine x_ri (xd DX8_code rfl) rfl ?_
      refine ⟨?_, rfl⟩
      unfold codC
      rw [if_pos ⟨by omega, by omega, by omega⟩, if_neg (by decide), if_pos rfl]
    · subst e
      refine x_tableIn 71 (xd DX8_code rfl) (by decide) (by decide) (by decide) rfl rfl ?_
      refine x_aload_n 72 (xd DX8_code rfl) rfl rfl ?_
      refine x_gr 75 _ LX8_19 (xd DX8_code rfl) rfl rfl ⟨by decide, by decide⟩ (by decide) rfl rfl ?_
      refine x_gr 78 _ LX8_123 (xd DX8_code rfl) rfl rfl ⟨by decide, by decide⟩ (by decide) rfl rfl ?_
      refine x_iload_n 79 (xd DX8_code rfl) rfl rfl ?_
      refine x_baload 80 (xd DX8_code rfl) rfl ⟨Or.inr ⟨rfl, by decide⟩, by decide⟩ (by decide) (by omega) (by omega) rfl ?_
      refine x_if_eq 83 87 (xd DX8_code rfl) rfl (by omega) rfl (fun kc80 => ?_) (fun kc80 => ?_)
      · refine x_iconst 88 (xd DX8_code rfl) rfl ?_
        refine x_ri (xd DX8_code rfl) rfl ?_
        refine ⟨?_, rfl⟩
        unfold codC
        rw [if_pos ⟨by omega, by omega, by omega⟩, if_neg (by decide), if_neg (by decide), if_pos rfl]
        omega
      · refine x_iconst 84 (xd DX8_code rfl) rfl ?_
        refine x_goto 88 (xd DX8_code rfl) rfl ?_
        refine x_ri (xd DX8_code rfl) rfl ?_
        refine ⟨?_, rfl⟩
        unfold codC
        rw [if_pos ⟨by omega, by omega, by omega⟩, if_neg (by decide), if_neg (by decide), if_pos rfl]
        omega
    · subst e
      refine x_tableIn 89 (xd DX8_code rfl) (by decide) (by decide) (by decide) rfl rfl ?_
      refine x_aload_n 90 (xd DX8_code rfl) rfl rfl ?_
      refine x_gr 93 _ LX8_42 (xd DX8_code rfl) rfl rfl ⟨by decide, by decide⟩ (by decide) rfl rfl ?_
      refine x_gr 96 _ LX8_127 (xd DX8_code rfl) rfl rfl ⟨by decide, by decide⟩ (by decide) rfl rfl ?_
      refine x_iload_n 97 (xd DX8_code rfl) rfl rfl ?_
      refine x_iaload 98 (xd DX8_code rfl) rfl ⟨Or.inr ⟨rfl, by decide⟩, by decide⟩ (by decide) (by omega) (by omega) rfl ?_
      refine x_ri (xd DX8_code rfl) rfl ?_
      refine ⟨?_, rfl⟩
      unfold codC
      rw [if_pos ⟨by omega, by omega, by omega⟩, if_neg (by decide), if_neg (by decide), if_neg (by decide), if_pos rfl]
    · subst e
      refine x_tableIn 99 (xd DX8_code rfl) (by decide) (by decide) (by decide) rfl rfl ?_
      refine x_aload_n 100 (xd DX8_code rfl) rfl rfl ?_
      refine x_gr 103 _ LX8_42 (xd DX8_code rfl) rfl rfl ⟨by decide, by decide⟩ (by decide) rfl rfl ?_
      refine x_gr 106 _ LX8_130 (xd DX8_code rfl) rfl rfl ⟨by decide, by decide⟩ (by decide) rfl rfl ?_
      refine x_iload_n 107 (xd DX8_code rfl) rfl rfl ?_
      refine x_iaload 108 (xd DX8_code rfl) rfl ⟨Or.inr ⟨rfl, by decide⟩, by decide⟩ (by decide) (by omega) (by omega) rfl ?_
      refine x_ri (xd DX8_code rfl) rfl ?_
      refine ⟨?_, rfl⟩
      unfold codC
      rw [if_pos ⟨by omega, by omega, by omega⟩, if_neg (by decide), if_neg (by decide), if_neg (by decide), if_neg (by decide)]
    · refine x_tableOut 109 (xd DX8_code rfl) (by omega) e rfl ?_
      refine x_iconst 110 (xd DX8_code rfl) rfl ?_
      refine x_ri (xd DX8_code rfl) rfl ?_
      exact ⟨by unfold codC; rw [if_neg (by omega)], rfl⟩
  · refine x_iconst 12 (xd DX8_code rfl) rfl ?_
    refine x_ri (xd DX8_code rfl) rfl ?_
    exact ⟨by unfold codC; rw [if_neg (by omega)], rfl⟩

set_option maxRecDepth 100000 in
set_option maxHeartbeats 4000000 in
theorem pX8_part {K : XK} {n : Nat} {h : XH} (e i w : Int) (hC : CI h) (he : xrg e) (hi : xrg i) (hw : xrg w) : MI K mX8_part 5 n [vr 0, vi e, vi i, vi w] h (fun zr h' => zr = prtC h e i w ∧ h' = h) := by
  refine xMeth FX8_part (Nat.le_of_ble_eq_true rfl) ?_
  refine x_aload_n 1 (xd DX8_part rfl) rfl rfl ?_
  refine x_gr 4 _ LX8_26 (xd DX8_part rfl) rfl rfl ⟨by decide, by decide⟩ (by decide) rfl rfl ?_
  refine x_iload_n 5 (xd DX8_part rfl) rfl rfl ?_
  refine x_Vi 8 (pX6_has e he (by have := hC.2.1.1; omega)) FX6_has VX6_has CX8_144 (xd DX8_part rfl) rfl rfl rfl ⟨by decide, rfl⟩ ⟨by decide, by decide⟩ (by decide) (Nat.le_of_ble_eq_true rfl) (by decide) rfl ?_
  rintro z9 h9 ⟨q1, q2⟩
  rw [q1, q2]
  clear q1 q2 z9 h9
  refine x_ifp_eq 11 24 (xd DX8_part rfl) rfl rfl (fun kc8 => ?_) (fun kc8 => ?_)
  · refine x_iconst 25 (xd DX8_part rfl) rfl ?_
    refine x_ri (xd DX8_part rfl) rfl ?_
    refine ⟨?_, rfl⟩
    unfold prtC
    rw [if_neg (by omega)]
  · have hs8 := hC.2.1.1
    have hent : xEnt (10 + 3 * e.toNat) := xEnt_10 ⟨e.toNat, by omega⟩
    have hEw := hC.2.1.ew (e := e.toNat) (by omega)
    have hE1 := hEw.1
    have hE3 := hEw.2.1
    refine x_iload_n 12 (xd DX8_part rfl) rfl rfl ?_
    refine x_if_lt 15 24 (xd DX8_part rfl) rfl (by omega) rfl (fun kc12 => ?_) (fun kc12 => ?_)
    · refine x_iconst 25 (xd DX8_part rfl) rfl ?_
      refine x_ri (xd DX8_part rfl) rfl ?_
      refine ⟨?_, rfl⟩
      unfold prtC
      rw [if_neg (by omega)]
    · refine x_iload_n 16 (xd DX8_part rfl) rfl rfl ?_
      refine x_if_lt 19 24 (xd DX8_part rfl) rfl (by omega) rfl (fun kc16 => ?_) (fun kc16 => ?_)
      · refine x_iconst 25 (xd DX8_part rfl) rfl ?_
        refine x_ri (xd DX8_part rfl) rfl ?_
        refine ⟨?_, rfl⟩
        unfold prtC
        rw [if_neg (by omega)]
      · refine x_iload_n 20 (xd DX8_part rfl) rfl rfl ?_
        refine x_iconst 21 (xd DX8_part rfl) rfl ?_
        refine x_icmp_le 24 26 (xd DX8_part rfl) rfl (by omega) (by omega) rfl (fun kc21 => ?_) (fun kc21 => ?_)
        · refine x_aload_n 27 (xd DX8_part rfl) rfl rfl ?_
          refine x_gr 30 _ LX8_26 (xd DX8_part rfl) rfl rfl ⟨by decide, by decide⟩ (by decide) rfl rfl ?_
          refine x_gr 33 _ LX8_169 (xd DX8_part rfl) rfl rfl ⟨by decide, by decide⟩ (by decide) rfl rfl ?_
          refine x_iload_n 34 (xd DX8_part rfl) rfl rfl ?_
          refine x_aaload 35 (10 + 3 * e.toNat) (xd DX8_part rfl) rfl (by decide) ⟨by decide, by decide⟩ (by decide) (by omega) (by omega) (show xRF 9 e.toNat = 10 + 3 * e.toNat + 1 from xRF_9 ⟨e.toNat, by omega⟩) (by omega) rfl rfl ?_
          refine x_astore 37 (L' := [(0, _), (1, _), (2, _), (3, _), (4, _)]) (xd DX8_part rfl) (by decide) rfl rfl rfl ?_
          refine x_iload_n 38 (xd DX8_part rfl) rfl rfl ?_
          refine x_aload 40 (xd DX8_part rfl) rfl rfl ?_
          refine x_gi 43 2 rfl LX8_173 (xd DX8_part rfl) hent.1 ⟨Or.inr ⟨rfl, by show 10 + 3 * e.toNat < 259; omega⟩, by omega⟩ rfl ?_
          refine x_icmp_lt 46 49 (xd DX8_part rfl) rfl (by omega) (by omega) rfl (fun kc43 => ?_) (fun kc43 => ?_)
          · have hkv := hEw.2.2 i (by omega) kc43
            refine x_iload_n 50 (xd DX8_part rfl) rfl rfl ?_
            refine x_if_ne 53 64 (xd DX8_part rfl) rfl (by omega) rfl (fun kc50 => ?_) (fun kc50 => ?_)
            · refine x_iload_n 65 (xd DX8_part rfl) rfl rfl ?_
              refine x_aload 67 (xd DX8_part rfl) rfl rfl ?_
              refine x_gi 70 3 rfl LX8_176 (xd DX8_part rfl) hent.1 ⟨Or.inr ⟨rfl, by show 10 + 3 * e.toNat < 259; omega⟩, by omega⟩ rfl ?_
              refine x_icmp_ne 73 78 (xd DX8_part rfl) rfl (by omega) (by omega) rfl (fun kc70 => ?_) (fun kc70 => ?_)
              · refine x_aload 80 (xd DX8_part rfl) rfl rfl ?_
                refine x_gr 83 _ LX8_185 (xd DX8_part rfl) hent.1 hent.2.2.2.2.1 ⟨by show 10 + 3 * e.toNat < 259; omega, by omega⟩ (by omega) rfl rfl ?_
                refine x_iload_n 84 (xd DX8_part rfl) rfl rfl ?_
                refine x_iaload 85 (xd DX8_part rfl) hent.2.2.1 ⟨Or.inr ⟨rfl, by show 10 + 3 * e.toNat + 2 < 259; omega⟩, by omega⟩ (by decide) (by omega) (by omega) rfl ?_
                refine x_ri (xd DX8_part rfl) rfl ?_
                refine ⟨?_, rfl⟩
                unfold prtC
                rw [if_pos ⟨by omega, by omega, by omega, by omega⟩, if_neg (by omega), if_neg (by omega)]
                first
                  | (rw [if_pos kc70]; done)
                  | rw [if_neg kc70]
              · refine x_bipush 75 (xd DX8_part rfl) rfl rfl ?_
                refine x_goto 85 (xd DX8_part rfl) rfl ?_
                refine x_ri (xd DX8_part rfl) rfl ?_
                refine ⟨?_, rfl⟩
                unfold prtC
                rw [if_pos ⟨by omega, by omega, by omega, by omega⟩, if_neg (by omega), if_neg (by omega)]
                first
                  | (rw [if_pos kc70]; done)
                  | rw [if_neg kc70]
            · refine x_aload 55 (xd DX8_part rfl) rfl rfl ?_
              refine x_gr 58 _ LX8_184 (xd DX8_part rfl) hent.1 hent.2.2.2.1 ⟨by show 10 + 3 * e.toNat < 259; omega, by omega⟩ (by omega) rfl rfl ?_
              refine x_iload_n 59 (xd DX8_part rfl) rfl rfl ?_
              refine x_iaload 60 (xd DX8_part rfl) hent.2.1 ⟨Or.inr ⟨rfl, by show 10 + 3 * e.toNat + 1 < 259; omega⟩, by omega⟩ (by decide) (by omega) (by omega) rfl ?_
              refine x_Si 63 (pX8_letterOf (h (10 + 3 * e.toNat + 1) i) (by omega)) FX8_letterOf VX8_letterOf CX8_116 (xd DX8_part rfl) rfl rfl (by decide) (Nat.le_of_ble_eq_true rfl) (by decide) rfl ?_
              rintro z9 h9 ⟨q1, q2⟩
              rw [q1, q2]
              clear q1 q2 z9 h9
              refine x_ri (xd DX8_part rfl) rfl ?_
              refine ⟨?_, rfl⟩
              unfold prtC
              rw [if_pos (c := 0 ≤ h (10 + 3 * e.toNat + 1) i ∧ h (10 + 3 * e.toNat + 1) i ≤ 11) (by omega), if_pos ⟨by omega, by omega, by omega, by omega⟩, if_neg (by omega), if_pos (by omega)]
          · refine x_bipush 48 (xd DX8_part rfl) rfl rfl ?_
            refine x_ri (xd DX8_part rfl) rfl ?_
            refine ⟨?_, rfl⟩
            unfold prtC
            rw [if_pos ⟨by omega, by omega, by omega, by omega⟩, if_pos kc43]
        · refine x_iconst 25 (xd DX8_part rfl) rfl ?_
          refine x_ri (xd DX8_part rfl) rfl ?_
          refine ⟨?_, rfl⟩
          unfold prtC
          rw [if_neg (by omega)]

