/-! truth values, the smaller of two; what a kind is -/
def xb (b : Bool) : Int := cond b 1 0
theorem xb_t {b : Bool} (h : b = true) : (1 : Int) = xb b := by rw [h]; rfl
theorem xb_f {b : Bool} (h : b = false) : (0 : Int) = xb b := by rw [h]; rfl
theorem xb01 (b : Bool) : xb b = 0 ∨ xb b = 1 := by cases b <;> decide
theorem xb_rg (b : Bool) : xrg (xb b) := by cases b <;> decide
theorem xb_1 {b : Bool} : xb b = 1 ↔ b = true := by cases b <;> decide
theorem xb_0 {b : Bool} : xb b = 0 ↔ b = false := by cases b <;> decide
section XB
variable {K : XK} {M : XM} {R : XR} {Q : Option XV → Nat → XH → Prop} {u : Nat × Nat × Nat} {pc : Nat} {L : List (Nat × XV)} {st : List XV} {h : XH}
theorem x_ifb_eq {b : Bool} {off : Int} (tgt : Nat) (hd : decode M.1 pc = .ok (.ifCond .eq off, 3)) (ht : (pc : Int) + off = (tgt : Int)) (kt : b = false → WX K M R Q u tgt L st h) (kf : b = true → WX K M R Q u (pc + 3) L st h) : WX K M R Q u pc L (vi (xb b) :: st) h :=
  x_if_eq tgt hd ht (xb_rg b) (fun q => kt (xb_0.mp q)) (fun q => kf (by cases b; exact absurd rfl q; rfl))
theorem x_ifb_ne {b : Bool} {off : Int} (tgt : Nat) (hd : decode M.1 pc = .ok (.ifCond .ne off, 3)) (ht : (pc : Int) + off = (tgt : Int)) (kt : b = true → WX K M R Q u tgt L st h) (kf : b = false → WX K M R Q u (pc + 3) L st h) : WX K M R Q u pc L (vi (xb b) :: st) h :=
  x_if_ne tgt hd ht (xb_rg b) (fun q => kt (by cases b; exact absurd rfl q; rfl)) (fun q => kf (xb_0.mp q))
/-- two roads that meet with a number each -/
theorem x_ite {c : Prop} (hc : Decidable c) {x y z : Int} (e : z = @ite Int c hc x y) (k : WX K M R Q u pc L (vi z :: st) h) : (c → WX K M R Q u pc L (vi x :: st) h) ∧ (¬ c → WX K M R Q u pc L (vi y :: st) h) := by
  subst e
  refine ⟨fun q => ?_, fun q => ?_⟩
  · rw [if_pos q] at k; exact k
  · rw [if_neg q] at k; exact k
end XB
def kSim (k : Int) : Bool := decide (0 ≤ k ∧ k ≤ 6)
def kTgt (k : Int) : Bool := decide (6 < k ∧ k ≤ 9)
def kOwn (k : Int) : Int := if kSim k = true then 2 else if kTgt k = true then 4 else 1
def kRef (hole : Int) : Int := if hole < 0 then 2 else 3
theorem kSim_iff {k : Int} : kSim k = true ↔ 0 ≤ k ∧ k ≤ 6 := by unfold kSim; exact decide_eq_true_iff
theorem kTgt_iff {k : Int} : kTgt k = true ↔ 6 < k ∧ k ≤ 9 := by unfold kTgt; exact decide_eq_true_iff
theorem bnot {b : Bool} {p : Prop} (e : b = true ↔ p) (h : ¬ p) : b = false := by
  cases b with
  | false => rfl
  | true => exact absurd (e.mp rfl) h
set_option maxRecDepth 100000 in
set_option maxHeartbeats 4000000 in
theorem cX8_isSimple {K : XK} {n : Nat} {h : XH} (k : Int) (hk : xrg k) : MI K mX8_isSimple 0 n [vi k] h (fun z h' => z = xb (kSim k) ∧ h' = h) := by
  refine xMeth FX8_isSimple (Nat.le_of_ble_eq_true rfl) ?_
  refine x_iload_n (xd DX8_isSimple rfl) rfl ?_
  refine x_if_lt 14 (xd DX8_isSimple rfl) rfl (by omega) (fun c1 => ?_) (fun c1 => ?_)
  · refine x_iconst (xd DX8_isSimple rfl) ?_
    refine x_ri (xd DX8_isSimple rfl) rfl ?_
    first | exact ⟨xb_t (kSim_iff.mpr (by omega)), rfl⟩ | exact ⟨xb_f (bnot kSim_iff (by omega)), rfl⟩
  · refine x_iload_n (xd DX8_isSimple rfl) rfl ?_
    refine x_bipush (xd DX8_isSimple rfl) rfl ?_
    refine x_icmp_gt 14 (xd DX8_isSimple rfl) rfl (by omega) (by omega) (fun c7 => ?_) (fun c7 => ?_)
    · refine x_iconst (xd DX8_isSimple rfl) ?_
      refine x_ri (xd DX8_isSimple rfl) rfl ?_
      first | exact ⟨xb_t (kSim_iff.mpr (by omega)), rfl⟩ | exact ⟨xb_f (bnot kSim_iff (by omega)), rfl⟩
    · refine x_iconst (xd DX8_isSimple rfl) ?_
      refine x_goto 15 (xd DX8_isSimple rfl) rfl ?_
      refine x_ri (xd DX8_isSimple rfl) rfl ?_
      first | exact ⟨xb_t (kSim_iff.mpr (by omega)), rfl⟩ | exact ⟨xb_f (bnot kSim_iff (by omega)), rfl⟩

set_option maxRecDepth 100000 in
set_option maxHeartbeats 4000000 in
theorem cX8_hasTarget {K : XK} {n : Nat} {h : XH} (k : Int) (hk : xrg k) : MI K mX8_hasTarget 0 n [vi k] h (fun z h' => z = xb (kTgt k) ∧ h' = h) := by
  refine xMeth FX8_hasTarget (Nat.le_of_ble_eq_true rfl) ?_
  refine x_iload_n (xd DX8_hasTarget rfl) rfl ?_
  refine x_bipush (xd DX8_hasTarget rfl) rfl ?_
  refine x_icmp_le 16 (xd DX8_hasTarget rfl) rfl (by omega) (by omega) (fun c3 => ?_) (fun c3 => ?_)
  · refine x_iconst (xd DX8_hasTarget rfl) ?_
    refine x_ri (xd DX8_hasTarget rfl) rfl ?_
    first | exact ⟨xb_t (kTgt_iff.mpr (by omega)), rfl⟩ | exact ⟨xb_f (bnot kTgt_iff (by omega)), rfl⟩
  · refine x_iload_n (xd DX8_hasTarget rfl) rfl ?_
    refine x_bipush (xd DX8_hasTarget rfl) rfl ?_
    refine x_icmp_gt 16 (xd DX8_hasTarget rfl) rfl (by omega) (by omega) (fun c9 => ?_) (fun c9 => ?_)
    · refine x_iconst (xd DX8_hasTarget rfl) ?_
      refine x_ri (xd DX8_hasTarget rfl) rfl ?_
      first | exact ⟨xb_t (kTgt_iff.mpr (by omega)), rfl⟩ | exact ⟨xb_f (bnot kTgt_iff (by omega)), rfl⟩
    · refine x_iconst (xd DX8_hasTarget rfl) ?_
      refine x_goto 17 (xd DX8_hasTarget rfl) rfl ?_
      refine x_ri (xd DX8_hasTarget rfl) rfl ?_
      first | exact ⟨xb_t (kTgt_iff.mpr (by omega)), rfl⟩ | exact ⟨xb_f (bnot kTgt_iff (by omega)), rfl⟩

set_option maxRecDepth 100000 in
set_option maxHeartbeats 4000000 in
theorem cX8_nibblesOf {K : XK} {n : Nat} {h : XH} (k : Int) (hk : xrg k) : MI K mX8_nibblesOf 1 n [vi k] h (fun z h' => z = kOwn k ∧ h' = h) := by
  refine xMeth FX8_nibblesOf (Nat.le_of_ble_eq_true rfl) ?_
  refine x_iload_n (xd DX8_nibblesOf rfl) rfl ?_
  refine x_Si (cX8_isSimple k hk) FX8_isSimple VX8_isSimple CX8_279 (xd DX8_nibblesOf rfl) rfl rfl (by decide) (by decide) (by decide) ?_
  rintro _ _ ⟨rfl, rfl⟩
  refine x_ifb_eq 9 (xd DX8_nibblesOf rfl) rfl (fun c4 => ?_) (fun c4 => ?_)
  · refine x_iload_n (xd DX8_nibblesOf rfl) rfl ?_
    refine x_Si (cX8_hasTarget k hk) FX8_hasTarget VX8_hasTarget CX8_282 (xd DX8_nibblesOf rfl) rfl rfl (by decide) (by decide) (by decide) ?_
    rintro _ _ ⟨rfl, rfl⟩
    refine x_ifb_eq 20 (xd DX8_nibblesOf rfl) rfl (fun c13 => ?_) (fun c13 => ?_)
    · refine x_iconst (xd DX8_nibblesOf rfl) ?_
      refine x_ri (xd DX8_nibblesOf rfl) rfl ?_
      exact ⟨by unfold kOwn; simp [*], rfl⟩
    · refine x_iconst (xd DX8_nibblesOf rfl) ?_
      refine x_goto 21 (xd DX8_nibblesOf rfl) rfl ?_
      refine x_ri (xd DX8_nibblesOf rfl) rfl ?_
      exact ⟨by unfold kOwn; simp [*], rfl⟩
  · refine x_iconst (xd DX8_nibblesOf rfl) ?_
    refine x_ri (xd DX8_nibblesOf rfl) rfl ?_
    exact ⟨by unfold kOwn; simp [*], rfl⟩

set_option maxRecDepth 100000 in
set_option maxHeartbeats 4000000 in
theorem cX8_referenceNibbles {K : XK} {n : Nat} {h : XH} (k : Int) (hk : xrg k) : MI K mX8_referenceNibbles 0 n [vi k] h (fun z h' => z = kRef k ∧ h' = h) := by
  refine xMeth FX8_referenceNibbles (Nat.le_of_ble_eq_true rfl) ?_
  refine x_iload_n (xd DX8_referenceNibbles rfl) rfl ?_
  refine x_if_ge 8 (xd DX8_referenceNibbles rfl) rfl (by omega) (fun c1 => ?_) (fun c1 => ?_)
  · refine x_iconst (xd DX8_referenceNibbles rfl) ?_
    refine x_ri (xd DX8_referenceNibbles rfl) rfl ?_
    exact ⟨by unfold kRef; split <;> omega, rfl⟩
  · refine x_iconst (xd DX8_referenceNibbles rfl) ?_
    refine x_goto 9 (xd DX8_referenceNibbles rfl) rfl ?_
    refine x_ri (xd DX8_referenceNibbles rfl) rfl ?_
    exact ⟨by unfold kRef; split <;> omega, rfl⟩

set_option maxRecDepth 100000 in
set_option maxHeartbeats 4000000 in
theorem cX8_entryNibbles {K : XK} {n : Nat} {h : XH} (k : Int) : MI K mX8_entryNibbles 0 n [vi k] h (fun z h' => z = 1 + 2 * k ∧ h' = h) := by
  refine xMeth FX8_entryNibbles (Nat.le_of_ble_eq_true rfl) ?_
  refine x_iconst (xd DX8_entryNibbles rfl) ?_
  refine x_iconst (xd DX8_entryNibbles rfl) ?_
  refine x_iload_n (xd DX8_entryNibbles rfl) rfl ?_
  refine x_imul (xd DX8_entryNibbles rfl) ?_
  refine x_iadd (xd DX8_entryNibbles rfl) ?_
  refine x_ri (xd DX8_entryNibbles rfl) rfl ?_
  exact ⟨rfl, rfl⟩

