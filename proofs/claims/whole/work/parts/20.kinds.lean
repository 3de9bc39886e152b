/-! truth values; what a kind is -/
noncomputable def pik {α : Type} (p : Prop) (a b : α) : α := @ite α p (Classical.propDecidable p) a b
theorem pik_t {α : Type} {p : Prop} (h : p) (a b : α) : pik p a b = a := by unfold pik; exact if_pos h
theorem pik_f {α : Type} {p : Prop} (h : ¬ p) (a b : α) : pik p a b = b := by unfold pik; exact if_neg h
noncomputable def xp (p : Prop) : Int := pik p 1 0
theorem xp_t {p : Prop} (h : p) : (1 : Int) = xp p := (pik_t h 1 0).symm
theorem xp_f {p : Prop} (h : ¬ p) : (0 : Int) = xp p := (pik_f h 1 0).symm
theorem xp01 (p : Prop) : xp p = 0 ∨ xp p = 1 := by
  by_cases h : p
  · exact Or.inr (xp_t h).symm
  · exact Or.inl (xp_f h).symm
theorem xp_rg (p : Prop) : xrg (xp p) := by rcases xp01 p with h | h <;> rw [h] <;> decide
theorem xp_1 {p : Prop} : xp p = 1 ↔ p := by
  by_cases h : p
  · exact ⟨fun _ => h, fun _ => (xp_t h).symm⟩
  · rw [← xp_f h]; exact ⟨fun q => absurd q (by decide), fun q => absurd q h⟩
theorem xp_0 {p : Prop} : xp p = 0 ↔ ¬ p := by
  by_cases h : p
  · rw [← xp_t h]; exact ⟨fun q => absurd q (by decide), fun q => absurd h q⟩
  · exact ⟨fun _ => h, fun _ => (xp_f h).symm⟩
theorem xp_c {p q : Prop} (h : p ↔ q) : xp p = xp q := by rw [show p = q from propext h]
section XB
variable {K : XK} {M : XM} {R : XR} {Q : Option XV → Nat → XH → Prop} {u : Nat × Nat × Nat} {pc : Nat} {L : List (Nat × XV)} {st : List XV} {h : XH}
theorem x_ifp_eq (p' : Nat) {b : Prop} {off : Int} (tgt : Nat) (hd : decode M.1 pc = .ok (.ifCond .eq off, 3)) (ht : (pc : Int) + off = (tgt : Int)) (hp : pc + 3 = p') (kt : ¬ b → WX K M R Q u tgt L st h) (kf : b → WX K M R Q u p' L st h) : WX K M R Q u pc L (vi (xp b) :: st) h := by
  subst hp
  exact x_if_eq _ tgt hd ht (xp_rg b) rfl (fun q => kt (xp_0.mp q)) (fun q => kf (xp_1.mp ((xp01 b).resolve_left q)))
theorem x_ifp_ne (p' : Nat) {b : Prop} {off : Int} (tgt : Nat) (hd : decode M.1 pc = .ok (.ifCond .ne off, 3)) (ht : (pc : Int) + off = (tgt : Int)) (hp : pc + 3 = p') (kt : b → WX K M R Q u tgt L st h) (kf : ¬ b → WX K M R Q u p' L st h) : WX K M R Q u pc L (vi (xp b) :: st) h := by
  subst hp
  exact x_if_ne _ tgt hd ht (xp_rg b) rfl (fun q => kt (xp_1.mp ((xp01 b).resolve_left q))) (fun q => kf (xp_0.mp q))
theorem WX.stk {st' : List XV} (e : st' = st) (kk : WX K M R Q u pc L st' h) : WX K M R Q u pc L st h := by subst e; exact kk
end XB
def kSim (k : Int) : Prop := 0 ≤ k ∧ k ≤ 6
def kTgt (k : Int) : Prop := 6 < k ∧ k ≤ 9
def kOwn (k : Int) : Int := if 0 ≤ k ∧ k ≤ 6 then 2 else if 6 < k ∧ k ≤ 9 then 4 else 1
def kRef (hole : Int) : Int := if hole < 0 then 2 else 3
theorem kOwn_rg (k : Int) : 1 ≤ kOwn k ∧ kOwn k ≤ 4 := by unfold kOwn; (repeat' split) <;> omega
theorem kRef_rg (k : Int) : 2 ≤ kRef k ∧ kRef k ≤ 3 := by unfold kRef; split <;> omega
set_option maxRecDepth 100000 in
set_option maxHeartbeats 4000000 in
theorem pX8_isSimple {K : XK} {n : Nat} {h : XH} (k : Int) (hk : xrg k) : MI K mX8_isSimple 0 n [vi k] h (fun z h' => z = xp (kSim k) ∧ h' = h) := by
  refine xMeth FX8_isSimple (Nat.le_of_ble_eq_true rfl) ?_
  refine x_iload_n 1 (xd DX8_isSimple rfl) rfl rfl ?_
  refine x_if_lt 4 14 (xd DX8_isSimple rfl) rfl (by omega) rfl (fun c1 => ?_) (fun c1 => ?_)
  · refine x_iconst 15 (xd DX8_isSimple rfl) rfl ?_
    refine x_rz (xd DX8_isSimple rfl) rfl (by omega) ?_
    first | exact ⟨xp_t (by unfold kSim; omega), rfl⟩ | exact ⟨xp_f (by unfold kSim; omega), rfl⟩
  · refine x_iload_n 5 (xd DX8_isSimple rfl) rfl rfl ?_
    refine x_bipush 7 (xd DX8_isSimple rfl) rfl rfl ?_
    refine x_icmp_gt 10 14 (xd DX8_isSimple rfl) rfl (by omega) (by omega) rfl (fun c7 => ?_) (fun c7 => ?_)
    · refine x_iconst 15 (xd DX8_isSimple rfl) rfl ?_
      refine x_rz (xd DX8_isSimple rfl) rfl (by omega) ?_
      first | exact ⟨xp_t (by unfold kSim; omega), rfl⟩ | exact ⟨xp_f (by unfold kSim; omega), rfl⟩
    · refine x_iconst 11 (xd DX8_isSimple rfl) rfl ?_
      refine x_goto 15 (xd DX8_isSimple rfl) rfl ?_
      refine x_rz (xd DX8_isSimple rfl) rfl (by omega) ?_
      first | exact ⟨xp_t (by unfold kSim; omega), rfl⟩ | exact ⟨xp_f (by unfold kSim; omega), rfl⟩

set_option maxRecDepth 100000 in
set_option maxHeartbeats 4000000 in
theorem pX8_hasTarget {K : XK} {n : Nat} {h : XH} (k : Int) (hk : xrg k) : MI K mX8_hasTarget 0 n [vi k] h (fun z h' => z = xp (kTgt k) ∧ h' = h) := by
  refine xMeth FX8_hasTarget (Nat.le_of_ble_eq_true rfl) ?_
  refine x_iload_n 1 (xd DX8_hasTarget rfl) rfl rfl ?_
  refine x_bipush 3 (xd DX8_hasTarget rfl) rfl rfl ?_
  refine x_icmp_le 6 16 (xd DX8_hasTarget rfl) rfl (by omega) (by omega) rfl (fun c3 => ?_) (fun c3 => ?_)
  · refine x_iconst 17 (xd DX8_hasTarget rfl) rfl ?_
    refine x_rz (xd DX8_hasTarget rfl) rfl (by omega) ?_
    first | exact ⟨xp_t (by unfold kTgt; omega), rfl⟩ | exact ⟨xp_f (by unfold kTgt; omega), rfl⟩
  · refine x_iload_n 7 (xd DX8_hasTarget rfl) rfl rfl ?_
    refine x_bipush 9 (xd DX8_hasTarget rfl) rfl rfl ?_
    refine x_icmp_gt 12 16 (xd DX8_hasTarget rfl) rfl (by omega) (by omega) rfl (fun c9 => ?_) (fun c9 => ?_)
    · refine x_iconst 17 (xd DX8_hasTarget rfl) rfl ?_
      refine x_rz (xd DX8_hasTarget rfl) rfl (by omega) ?_
      first | exact ⟨xp_t (by unfold kTgt; omega), rfl⟩ | exact ⟨xp_f (by unfold kTgt; omega), rfl⟩
    · refine x_iconst 13 (xd DX8_hasTarget rfl) rfl ?_
      refine x_goto 17 (xd DX8_hasTarget rfl) rfl ?_
      refine x_rz (xd DX8_hasTarget rfl) rfl (by omega) ?_
      first | exact ⟨xp_t (by unfold kTgt; omega), rfl⟩ | exact ⟨xp_f (by unfold kTgt; omega), rfl⟩

set_option maxRecDepth 100000 in
set_option maxHeartbeats 4000000 in
theorem pX8_nibblesOf {K : XK} {n : Nat} {h : XH} (k : Int) (hk : xrg k) : MI K mX8_nibblesOf 1 n [vi k] h (fun z h' => z = kOwn k ∧ h' = h) := by
  refine xMeth FX8_nibblesOf (Nat.le_of_ble_eq_true rfl) ?_
  refine x_iload_n 1 (xd DX8_nibblesOf rfl) rfl rfl ?_
  refine x_Si 4 (pX8_isSimple k hk) FX8_isSimple VX8_isSimple CX8_279 (xd DX8_nibblesOf rfl) rfl rfl (by decide) (Nat.le_of_ble_eq_true rfl) (by decide) rfl ?_
  rintro _ _ ⟨rfl, rfl⟩
  refine x_ifp_eq 7 9 (xd DX8_nibblesOf rfl) rfl rfl (fun c4 => ?_) (fun c4 => ?_)
  · refine x_iload_n 10 (xd DX8_nibblesOf rfl) rfl rfl ?_
    refine x_Si 13 (pX8_hasTarget k hk) FX8_hasTarget VX8_hasTarget CX8_282 (xd DX8_nibblesOf rfl) rfl rfl (by decide) (Nat.le_of_ble_eq_true rfl) (by decide) rfl ?_
    rintro _ _ ⟨rfl, rfl⟩
    refine x_ifp_eq 16 20 (xd DX8_nibblesOf rfl) rfl rfl (fun c13 => ?_) (fun c13 => ?_)
    · refine x_iconst 21 (xd DX8_nibblesOf rfl) rfl ?_
      refine x_ri (xd DX8_nibblesOf rfl) rfl ?_
      exact ⟨by unfold kOwn; unfold kSim at *; (try unfold kTgt at *); simp [*], rfl⟩
    · refine x_iconst 17 (xd DX8_nibblesOf rfl) rfl ?_
      refine x_goto 21 (xd DX8_nibblesOf rfl) rfl ?_
      refine x_ri (xd DX8_nibblesOf rfl) rfl ?_
      exact ⟨by unfold kOwn; unfold kSim at *; (try unfold kTgt at *); simp [*], rfl⟩
  · refine x_iconst 8 (xd DX8_nibblesOf rfl) rfl ?_
    refine x_ri (xd DX8_nibblesOf rfl) rfl ?_
    exact ⟨by unfold kOwn; unfold kSim at *; (try unfold kTgt at *); simp [*], rfl⟩

set_option maxRecDepth 100000 in
set_option maxHeartbeats 4000000 in
theorem pX8_referenceNibbles {K : XK} {n : Nat} {h : XH} (k : Int) (hk : xrg k) : MI K mX8_referenceNibbles 0 n [vi k] h (fun z h' => z = kRef k ∧ h' = h) := by
  refine xMeth FX8_referenceNibbles (Nat.le_of_ble_eq_true rfl) ?_
  refine x_iload_n 1 (xd DX8_referenceNibbles rfl) rfl rfl ?_
  refine x_if_ge 4 8 (xd DX8_referenceNibbles rfl) rfl (by omega) rfl (fun c1 => ?_) (fun c1 => ?_)
  · refine x_iconst 9 (xd DX8_referenceNibbles rfl) rfl ?_
    refine x_ri (xd DX8_referenceNibbles rfl) rfl ?_
    exact ⟨by unfold kRef; split <;> omega, rfl⟩
  · refine x_iconst 5 (xd DX8_referenceNibbles rfl) rfl ?_
    refine x_goto 9 (xd DX8_referenceNibbles rfl) rfl ?_
    refine x_ri (xd DX8_referenceNibbles rfl) rfl ?_
    exact ⟨by unfold kRef; split <;> omega, rfl⟩

set_option maxRecDepth 100000 in
set_option maxHeartbeats 4000000 in
theorem pX8_entryNibbles {K : XK} {n : Nat} {h : XH} (k : Int) : MI K mX8_entryNibbles 0 n [vi k] h (fun z h' => z = 1 + 2 * k ∧ h' = h) := by
  refine xMeth FX8_entryNibbles (Nat.le_of_ble_eq_true rfl) ?_
  refine x_iconst 1 (xd DX8_entryNibbles rfl) rfl ?_
  refine x_iconst 2 (xd DX8_entryNibbles rfl) rfl ?_
  refine x_iload_n 3 (xd DX8_entryNibbles rfl) rfl rfl ?_
  refine x_imul 4 (xd DX8_entryNibbles rfl) rfl ?_
  refine x_iadd 5 (xd DX8_entryNibbles rfl) rfl ?_
  refine x_ri (xd DX8_entryNibbles rfl) rfl ?_
  exact ⟨rfl, rfl⟩

