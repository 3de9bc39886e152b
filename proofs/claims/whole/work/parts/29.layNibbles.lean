/-! Layout.layNibbles -/
theorem csN_up (h : XH) (i : Nat) : (csN h i).2.2.2 ≤ (csN h (i + 1)).2.2.2 := by
  rw [csN_s]
  have ho := kOwn_rg (h 5 i)
  have hr := kRef_rg (h (10 + 3 * (h 244 i).toNat) 3)
  split
  · split
    · show (csN h i).2.2.2 ≤ (csN h i).2.2.2 + kOwn (h 5 i); omega
    · show (csN h i).2.2.2 ≤ (csN h i).2.2.2 + kRef (h (10 + 3 * (h 244 i).toNat) 3); omega
  · exact Int.le_refl _
theorem csN_mono (h : XH) (i : Nat) : ∀ d : Nat, (csN h i).2.2.2 ≤ (csN h (i + d)).2.2.2
  | 0 => Int.le_refl _
  | d + 1 => Int.le_trans (csN_mono h i d) (csN_up h (i + d))
theorem csN_le (h : XH) {i j : Nat} (hij : i ≤ j) : (csN h i).2.2.2 ≤ (csN h j).2.2.2 := by
  have := csN_mono h i (j - i)
  rwa [show i + (j - i) = j by omega] at this
def PK2 (h : XH) : Prop := ∀ i, 0 ≤ i → i < h 4 3 → 0 ≤ h 244 i → i + h (10 + 3 * (h 244 i).toNat) 2 ≤ h 4 3
theorem head_facts {h : XH} {i : Nat} (hp : PF h h i) (ha : 0 ≤ h 251 i) : (csN h i).2.2.1 = 0 ∧ h 251 i = (csN h i).2.2.2 ∧ h 249 i = h 244 i ∧ h 251 i + wid h i = (csN h (i + 1)).2.2.2 := by
  obtain ⟨p1, p2, p3, p4⟩ := hp
  have hz : (csN h i).2.2.1 = 0 := by
    by_cases q : (csN h i).2.2.1 = 0
    · exact q
    · rw [if_neg q] at p3; omega
  rw [if_pos hz] at p3
  have e1 : h 249 i = h 244 i := by
    rw [p1, csN_s, if_pos hz]
    split <;> rfl
  refine ⟨hz, p3, e1, ?_⟩
  unfold wid
  rw [e1, p3, csN_s, if_pos hz]
  split <;> rfl
theorem nib_off {h xg : XH} {i : Nat} {t : Int} (hO : Off (fun c => c = 253) h xg) (hx : h 249 i < 0 ∨ (h 249 i).toNat < 8) : nib xg i t = nib h i t := by
  unfold nib
  rw [hO 249 (by decide), hO 5 (by decide), hO 6 (by decide), hO 251 (by decide)]
  rcases hx with q | q
  · rw [if_pos q, if_pos q]
  · rw [hO (10 + 3 * (h 249 i).toNat) (by omega)]
theorem wid_off {h xg : XH} {i : Nat} (hO : Off (fun c => c = 253) h xg) (hx : h 249 i < 0 ∨ (h 249 i).toNat < 8) : wid xg i = wid h i := by
  unfold wid
  rw [hO 249 (by decide), hO 5 (by decide)]
  rcases hx with q | q
  · rw [if_pos q, if_pos q]
  · rw [hO (10 + 3 * (h 249 i).toNat) (by omega)]
def Nibs (h g : XH) (N : Nat) : Prop := ∀ j : Nat, j < N → 0 ≤ h 251 j → ∀ t, 0 ≤ t → t < wid h j → g 253 (h 251 j + t) = nib h j t
theorem Nibs.step {h xg xq : XH} {i : Nat} (hPF : ∀ j : Nat, j ≤ i → PF h h j) (hO : Off (fun c => c = 253) h xg) (hx : h 249 i < 0 ∨ (h 249 i).toNat < 8) (ha : 0 ≤ h 251 i) (hn : Nibs h xg i) (hl : Laid xg xq i) : Nibs h xq (i + 1) ∧ Off (fun c => c = 253) h xq := by
  obtain ⟨l1, l2, l3⟩ := hl
  rw [wid_off hO hx, hO 251 (by decide)] at l2 l3
  refine ⟨fun j hj aj t t0 t1 => ?_, hO.tr l1⟩
  by_cases q : j = i
  · subst q
    rw [l2 t t0 t1, nib_off hO hx]
  · have h1 := (head_facts (hPF j (by omega)) aj).2.2.2
    have h2 := (head_facts (hPF i (by omega)) ha).2.1
    have h3 := csN_le h (i := j + 1) (j := i) (by omega)
    rw [l3 _ (Or.inl (by omega))]
    exact hn j (by omega) aj t t0 t1
set_option maxRecDepth 100000 in
set_option maxHeartbeats 4000000 in
theorem pX3_layNibbles {K : XK} {n : Nat} {h : XH} (hP : PW h) (hS : SW h 8) (hK : PK h) (hK2 : PK2 h) (hPF : ∀ j : Nat, (j : Int) < h 4 3 → PF h h j) : MV K mX3_layNibbles 2 n [vr 192] h (fun h' => Off (fun c => c = 253) h h' ∧ Nibs h h' (h 4 3).toNat) := by
  refine xMeth FX3_layNibbles (Nat.le_of_ble_eq_true rfl) ?_
  have hP1 := hP.1
  have hS1 := hS.1
  have hrg : ∀ x : Nat, (x : Int) < h 4 3 → xrg (h 251 x) ∧ xrg (h 249 x) := fun x q => by
    obtain ⟨p1, p2, p3, p4⟩ := hPF x q
    have r1 := csN_rg hP hS hK x (by omega)
    have r2 := csN_rg hP hS hK (x + 1) (by omega)
    rw [p1, p3]
    split <;> omega
  have loop : ∀ (m : Nat) (xi : Nat) (xg : XH), (xi : Int) ≤ h 4 3 → h 4 3 - xi < (m : Int) → Off (fun c => c = 253) h xg → Nibs h xg xi → WI K mX3_layNibbles 2 n (qV n fun h' => Off (fun c => c = 253) h h' ∧ Nibs h h' (h 4 3).toNat) 2 [(0, vr 192), (1, vi (xi : Int))] [] xg := by
    intro m
    induction m with
    | zero => intro xi xg a b; exact absurd b (by omega)
    | succ m ih =>
      intro xi xg h0 hm hO hN
      have e4 : xg 4 3 = h 4 3 := by rw [hO 4 (by decide)]
      have e5 : xg 5 = h 5 := hO 5 (by decide)
      have e249 : xg 249 = h 249 := hO 249 (by decide)
      have e251 : xg 251 = h 251 := hO 251 (by decide)
      have hPg : PW xg := hP.off hO (by decide) (by decide) (by decide) (by decide)
      have hPFi : (xi : Int) < h 4 3 → ∀ j : Nat, j ≤ xi → PF h h j := fun q j a => hPF j (by omega)
      refine x_iload_n 3 (xd DX3_layNibbles rfl) rfl rfl ?_
      refine x_aload_n 4 (xd DX3_layNibbles rfl) rfl rfl ?_
      refine x_gr 7 _ LX3_51 (xd DX3_layNibbles rfl) rfl rfl ⟨by decide, by decide⟩ (by decide) rfl rfl ?_
      refine x_gi 10 3 rfl LX3_68 (xd DX3_layNibbles rfl) rfl ⟨Or.inr ⟨rfl, by decide⟩, by decide⟩ rfl ?_
      refine x_icmp_ge 13 59 (xd DX3_layNibbles rfl) rfl (by omega) (by omega) rfl (fun c10 => ?_) (fun c10 => ?_)
      · refine x_rv (xd DX3_layNibbles rfl) rfl ?_
        refine ⟨hO, ?_⟩
        rw [show (h 4 3).toNat = xi by omega]
        exact hN
      · refine x_aload_n 14 (xd DX3_layNibbles rfl) rfl rfl ?_
        refine x_gr 17 _ LX3_42 (xd DX3_layNibbles rfl) rfl rfl ⟨by decide, by decide⟩ (by decide) rfl rfl ?_
        refine x_iload_n 18 (xd DX3_layNibbles rfl) rfl rfl ?_
        refine x_iaload 19 (xd DX3_layNibbles rfl) rfl ⟨Or.inr ⟨rfl, by decide⟩, by decide⟩ (by decide) (by omega) (by omega) rfl ?_
        rw [e251]
        refine x_if_lt 22 39 (xd DX3_layNibbles rfl) rfl (by have := hrg xi (by omega); omega) rfl (fun c19 => ?_) (fun c19 => ?_)
        · refine x_aload_n 40 (xd DX3_layNibbles rfl) rfl rfl ?_
          refine x_gr 43 _ LX3_42 (xd DX3_layNibbles rfl) rfl rfl ⟨by decide, by decide⟩ (by decide) rfl rfl ?_
          refine x_iload_n 44 (xd DX3_layNibbles rfl) rfl rfl ?_
          refine x_iaload 45 (xd DX3_layNibbles rfl) rfl ⟨Or.inr ⟨rfl, by decide⟩, by decide⟩ (by decide) (by omega) (by omega) rfl ?_
          rw [e251]
          refine x_if_lt 48 53 (xd DX3_layNibbles rfl) rfl (by have := hrg xi (by omega); omega) rfl (fun c45 => ?_) (fun c45 => ?_)
          · refine x_iinc 56 (L' := [(0, _), (1, _)]) (xd DX3_layNibbles rfl) rfl (by decide) rfl rfl rfl ?_
            refine x_goto 2 (xd DX3_layNibbles rfl) rfl ?_
            first | (exact ih (xi + 1) _ (by omega) (by omega) (Nibs.step (hPFi (by omega)) hO hx (by omega) hN hl).2 (Nibs.step (hPFi (by omega)) hO hx (by omega) hN hl).1) | (exact ih (xi + 1) _ (by omega) (by omega) hO (fun j a b => hN j (by by_cases q : j = xi; subst q; omega; omega) b))
          · obtain ⟨f1, f2, f3, f4⟩ := head_facts (hPF xi (by omega)) c45
            have hx : h 249 xi < 0 ∨ (h 249 xi).toNat < 8 := Or.inl (by omega)
            have hwd : wid h xi = kOwn (h 5 xi) := by unfold wid; rw [if_pos (by omega)]
            rw [hwd] at f4
            have hr4 := (csN_rg hP hS hK (xi + 1) (by omega)).2.2.2
            
            refine x_aload_n 49 (xd DX3_layNibbles rfl) rfl rfl ?_
            refine x_iload_n 50 (xd DX3_layNibbles rfl) rfl rfl ?_
            refine x_Vv 53 (pX3_layAlone xi hPg (by omega) (by rw [e249]; omega) (by rw [e251]; omega) (by rw [e251, e5]; omega) (fun j a b => by rw [e251]; rw [e4] at b; obtain ⟨xj, rfl⟩ := Int.eq_ofNat_of_zero_le a; have := (hPF xj (by omega)).2.2.1; have h9 := csN_rg hP hS hK xj (by omega); split at this <;> omega)) FX3_layAlone VX3_layAlone CX3_147 (xd DX3_layNibbles rfl) rfl rfl rfl ⟨by decide, rfl⟩ ⟨by decide, by decide⟩ (by decide) (Nat.le_of_ble_eq_true rfl) (by decide) rfl ?_
            intro xq hl
            refine x_iinc 56 (L' := [(0, _), (1, _)]) (xd DX3_layNibbles rfl) rfl (by decide) rfl rfl rfl ?_
            refine x_goto 2 (xd DX3_layNibbles rfl) rfl ?_
            first | (exact ih (xi + 1) _ (by omega) (by omega) (Nibs.step (hPFi (by omega)) hO hx (by omega) hN hl).2 (Nibs.step (hPFi (by omega)) hO hx (by omega) hN hl).1) | (exact ih (xi + 1) _ (by omega) (by omega) hO (fun j a b => hN j (by by_cases q : j = xi; subst q; omega; omega) b))
        · refine x_aload_n 23 (xd DX3_layNibbles rfl) rfl rfl ?_
          refine x_gr 26 _ LX3_36 (xd DX3_layNibbles rfl) rfl rfl ⟨by decide, by decide⟩ (by decide) rfl rfl ?_
          refine x_iload_n 27 (xd DX3_layNibbles rfl) rfl rfl ?_
          refine x_iaload 28 (xd DX3_layNibbles rfl) rfl ⟨Or.inr ⟨rfl, by decide⟩, by decide⟩ (by decide) (by omega) (by omega) rfl ?_
          rw [e249]
          refine x_if_lt 31 39 (xd DX3_layNibbles rfl) rfl (by have := hrg xi (by omega); omega) rfl (fun c28 => ?_) (fun c28 => ?_)
          · refine x_aload_n 40 (xd DX3_layNibbles rfl) rfl rfl ?_
            refine x_gr 43 _ LX3_42 (xd DX3_layNibbles rfl) rfl rfl ⟨by decide, by decide⟩ (by decide) rfl rfl ?_
            refine x_iload_n 44 (xd DX3_layNibbles rfl) rfl rfl ?_
            refine x_iaload 45 (xd DX3_layNibbles rfl) rfl ⟨Or.inr ⟨rfl, by decide⟩, by decide⟩ (by decide) (by omega) (by omega) rfl ?_
            rw [e251]
            refine x_if_lt 48 53 (xd DX3_layNibbles rfl) rfl (by have := hrg xi (by omega); omega) rfl (fun c45 => ?_) (fun c45 => ?_)
            · refine x_iinc 56 (L' := [(0, _), (1, _)]) (xd DX3_layNibbles rfl) rfl (by decide) rfl rfl rfl ?_
              refine x_goto 2 (xd DX3_layNibbles rfl) rfl ?_
              first | (exact ih (xi + 1) _ (by omega) (by omega) (Nibs.step (hPFi (by omega)) hO hx (by omega) hN hl).2 (Nibs.step (hPFi (by omega)) hO hx (by omega) hN hl).1) | (exact ih (xi + 1) _ (by omega) (by omega) hO (fun j a b => hN j (by by_cases q : j = xi; subst q; omega; omega) b))
            · obtain ⟨f1, f2, f3, f4⟩ := head_facts (hPF xi (by omega)) c45
              have hx : h 249 xi < 0 ∨ (h 249 xi).toNat < 8 := Or.inl (by omega)
              have hwd : wid h xi = kOwn (h 5 xi) := by unfold wid; rw [if_pos (by omega)]
              rw [hwd] at f4
              have hr4 := (csN_rg hP hS hK (xi + 1) (by omega)).2.2.2
              
              refine x_aload_n 49 (xd DX3_layNibbles rfl) rfl rfl ?_
              refine x_iload_n 50 (xd DX3_layNibbles rfl) rfl rfl ?_
              refine x_Vv 53 (pX3_layAlone xi hPg (by omega) (by rw [e249]; omega) (by rw [e251]; omega) (by rw [e251, e5]; omega) (fun j a b => by rw [e251]; rw [e4] at b; obtain ⟨xj, rfl⟩ := Int.eq_ofNat_of_zero_le a; have := (hPF xj (by omega)).2.2.1; have h9 := csN_rg hP hS hK xj (by omega); split at this <;> omega)) FX3_layAlone VX3_layAlone CX3_147 (xd DX3_layNibbles rfl) rfl rfl rfl ⟨by decide, rfl⟩ ⟨by decide, by decide⟩ (by decide) (Nat.le_of_ble_eq_true rfl) (by decide) rfl ?_
              intro xq hl
              refine x_iinc 56 (L' := [(0, _), (1, _)]) (xd DX3_layNibbles rfl) rfl (by decide) rfl rfl rfl ?_
              refine x_goto 2 (xd DX3_layNibbles rfl) rfl ?_
              first | (exact ih (xi + 1) _ (by omega) (by omega) (Nibs.step (hPFi (by omega)) hO hx (by omega) hN hl).2 (Nibs.step (hPFi (by omega)) hO hx (by omega) hN hl).1) | (exact ih (xi + 1) _ (by omega) (by omega) hO (fun j a b => hN j (by by_cases q : j = xi; subst q; omega; omega) b))
          · obtain ⟨xe, he⟩ := Int.eq_ofNat_of_zero_le c28
            obtain ⟨f1, f2, f3, f4⟩ := head_facts (hPF xi (by omega)) c19
            have hxe : xe < 8 := by have := hK (xi : Int) (by omega) (by omega); omega
            have hx : h 249 xi < 0 ∨ (h 249 xi).toNat < 8 := Or.inr (by omega)
            have hC : xg (10 + 3 * xe) = h (10 + 3 * xe) := hO _ (by show ¬ (10 + 3 * xe = 253); omega)
            have hw := hS.2.2.2 xe (by have := hK (xi : Int) (by omega) (by omega); omega)
            rw [show 8 + 2 + 3 * xe = 10 + 3 * xe by omega] at hw
            have hw1 := hw.1
            have hw2 := hw.2.1
            have hk2 := hK2 (xi : Int) (by omega) (by omega) (by omega)
            rw [← f3, he, Int.toNat_natCast] at hk2
            have hwd : wid h xi = kRef (h (10 + 3 * xe) 3) := by unfold wid; rw [if_neg (by omega), he, Int.toNat_natCast]
            rw [hwd] at f4
            have hr4 := (csN_rg hP hS hK (xi + 1) (by omega)).2.2.2
            
            refine x_aload_n 32 (xd DX3_layNibbles rfl) rfl rfl ?_
            refine x_iload_n 33 (xd DX3_layNibbles rfl) rfl rfl ?_
            refine x_Vv 36 (pX3_layReference xi xe (by omega) hxe (by rw [e249]; exact he) (by rw [e251]; omega) (by rw [e251, hC]; omega) (by rw [hC]; omega)) FX3_layReference VX3_layReference CX3_143 (xd DX3_layNibbles rfl) rfl rfl rfl ⟨by decide, rfl⟩ ⟨by decide, by decide⟩ (by decide) (Nat.le_of_ble_eq_true rfl) (by decide) rfl ?_
            intro xq hl
            refine x_goto 53 (xd DX3_layNibbles rfl) rfl ?_
            refine x_iinc 56 (L' := [(0, _), (1, _)]) (xd DX3_layNibbles rfl) rfl (by decide) rfl rfl rfl ?_
            refine x_goto 2 (xd DX3_layNibbles rfl) rfl ?_
            first | (exact ih (xi + 1) _ (by omega) (by omega) (Nibs.step (hPFi (by omega)) hO hx (by omega) hN hl).2 (Nibs.step (hPFi (by omega)) hO hx (by omega) hN hl).1) | (exact ih (xi + 1) _ (by omega) (by omega) hO (fun j a b => hN j (by by_cases q : j = xi; subst q; omega; omega) b))
  refine x_iconst 1 (xd DX3_layNibbles rfl) rfl ?_
  refine x_istore_n 2 (L' := [(0, _), (1, _)]) (xd DX3_layNibbles rfl) (by decide) rfl rfl rfl ?_
  exact loop 100 0 h (by omega) (by omega) Off.rf (fun j a => absurd a (by omega))

