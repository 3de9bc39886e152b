/-! Layout: how far a sequence reaches -/
def Lead (h : XH) (k : Nat) (i : Int) : Prop := i + 1 < h 4 3 ∧ i / (2 ^ k : Nat) = (i + 1) / (2 ^ k : Nat) ∧ kSim (h 5 (i + 1)) ∧ h 7 (i + 1) = 0
noncomputable def rchF (h : XH) (k : Nat) (f : Int → Int) (i : Int) : Int := pik (kSim (h 5 i)) (pik (Lead h k i) (if 1 + f (i + 1) < 4 then 1 + f (i + 1) else 4) 1) 0
/-- the law of the row of reaches, from an instruction on -/
def RchEq (h : XH) (k : Nat) (f : Int → Int) (i : Int) : Prop := ∀ j, i ≤ j → j < h 4 3 → f j = rchF h k f j
/-- all but these cells are as they were -/
def Off (S : Nat → Prop) (h h' : XH) : Prop := ∀ c, ¬ S c → h' c = h c
theorem Off.rf {S : Nat → Prop} {h : XH} : Off S h h := fun _ _ => rfl
theorem Off.tr {S : Nat → Prop} {a b c : XH} (h1 : Off S a b) (h2 : Off S b c) : Off S a c := fun x hx => (h2 x hx).trans (h1 x hx)
theorem Off.mono {S T : Nat → Prop} {a b : XH} (h1 : Off S a b) (h : ∀ c, S c → T c) : Off T a b := fun x hx => h1 x (fun q => hx (h x q))
theorem Off.set {S : Nat → Prop} {h : XH} {c : Nat} {k z : Int} (hc : S c) : Off S h (hset h c k z) := fun x hx => by
  funext j
  unfold hset
  rw [if_neg (fun q => hx (by rw [q.1]; exact hc))]
theorem hset_s {h : XH} {c : Nat} {k z : Int} : hset h c k z c k = z := by unfold hset; exact if_pos ⟨rfl, rfl⟩
theorem hset_i {h : XH} {c : Nat} {k j z : Int} (e : j ≠ k) : hset h c k z c j = h c j := by unfold hset; exact if_neg (fun q => e q.2)
theorem hset_c {h : XH} {c d : Nat} {k z : Int} (e : d ≠ c) : hset h c k z d = h d := by funext j; unfold hset; exact if_neg (fun q => e q.1)
section XMIN
variable {K : XK} {M : XM} {R : XR} {Q : Option XV → Nat → XH → Prop} {u : Nat × Nat × Nat} {pc : Nat} {L : List (Nat × XV)} {st : List XV} {h : XH}
theorem x_min (p' : Nat) {a b : Int} {i : Nat} (hl : Cond.methodLink M.2.1.cls i Lib.Math.min.name ∈ xTb) (h2 : Cond.static Lib.Math.min.name ∈ xTb) (h3 : Cond.initialized "java/lang/Math" ∈ xTb) (h4 : Cond.code Lib.Math.min.name Lib.Math.min.code 2 (some .int) ∈ xTb) (hd : decode M.1 pc = .ok (.invokestatic i, 3)) (hF : 1 ≤ R.2.1 ∧ u.2.1 ≤ R.2.2.1 ∧ u.2.2 ≤ R.2.2.2) (hw : xcs st ≤ 8) (ra : xrg a) (rb : xrg b) (hp : pc + 3 = p')
    (kk : WX K M R Q u p' L (vi (if b < a then b else a) :: st) h) : WX K M R Q u pc L (vi b :: vi a :: st) h := by
  subst hp
  intro hmd p e s m args below meth c E H locs ls hH hP hS hl0
  have hts := E.2.2.2.2.2.2.2.1
  refine va_mmin E.1 E.2.1 (E.2.2.1.trans hl0.1.symm) E.2.2.2.2.2.2.1 (hts _ hl) (hts _ h2) (hts _ h3) (hts _ h4) hF.1 ?_ hF.2.1 hF.2.2 hd ?_
  · rw [xcs_eq]
    show xcs st + 13 ≤ 38 * R.2.1
    omega
  · have k2 := kk hmd p e s m args below meth c E H locs ls hH hP hS hl0
    have e1 : (if Int32.ofInt b < Int32.ofInt a then Int32.ofInt b else Int32.ofInt a) = Int32.ofInt (if b < a then b else a) := by
      by_cases q : b < a
      · rw [if_pos ((xlt rb ra).mpr q), if_pos q]
      · rw [if_neg (fun z => q ((xlt rb ra).mp z)), if_neg q]
    rw [e1]
    exact k2
end XMIN
theorem xdv_lo {i : Int} {p : Nat} (h : 0 ≤ i) (h2 : i < 2147483648) : -2147483648 ≤ i / (p : Int) := Int.le_trans (by decide) (Int.ediv_nonneg h (Int.natCast_nonneg p))
theorem xdv_hi {i : Int} {p : Nat} (h : 0 ≤ i) (h2 : i < 2147483648) : i / (p : Int) < 2147483648 := Int.lt_of_le_of_lt (Int.ediv_le_self _ h) h2
set_option maxRecDepth 100000 in
set_option maxHeartbeats 4000000 in
theorem pX3_leadsOn {K : XK} {n : Nat} {h : XH} (i : Int) (k : Nat) (hP : PW h) (hi : 0 ≤ i ∧ i < 48) (hk : h 192 15 = (k : Int)) (hk2 : k < 32) : MI K mX3_leadsOn 1 n [vr 192, vi i] h (fun z h' => z = xp (Lead h k i) ∧ h' = h) := by
  refine xMeth FX3_leadsOn (Nat.le_of_ble_eq_true rfl) ?_
  have hP1 := hP.1
  refine x_aload_n 1 (xd DX3_leadsOn rfl) rfl rfl ?_
  refine x_gr 4 _ LX3_51 (xd DX3_leadsOn rfl) rfl rfl ⟨by decide, by decide⟩ (by decide) rfl rfl ?_
  refine x_iload_n 5 (xd DX3_leadsOn rfl) rfl rfl ?_
  refine x_iconst 6 (xd DX3_leadsOn rfl) rfl ?_
  refine x_iadd 7 (xd DX3_leadsOn rfl) rfl ?_
  refine x_Vi 10 (pX4_has (i + 1) (by omega) (by omega)) FX4_has VX4_has CX3_104 (xd DX3_leadsOn rfl) rfl rfl rfl ⟨by decide, rfl⟩ ⟨by decide, by decide⟩ (by decide) (Nat.le_of_ble_eq_true rfl) (by decide) rfl ?_
  rintro z9 h9 ⟨q1, q2⟩
  rw [q1, q2]
  clear q1 q2 z9 h9
  refine x_ifp_eq 13 63 (xd DX3_leadsOn rfl) rfl rfl (fun c10 => ?_) (fun c10 => ?_)
  · refine x_iconst 64 (xd DX3_leadsOn rfl) rfl ?_
    refine x_rz (xd DX3_leadsOn rfl) rfl (by omega) ?_
    first | exact ⟨xp_t ⟨c10.2, c25, c42, by omega⟩, rfl⟩ | exact ⟨xp_f (fun q => c10 ⟨by omega, q.1⟩), rfl⟩ | exact ⟨xp_f (fun q => c25 q.2.1), rfl⟩ | exact ⟨xp_f (fun q => c42 q.2.2.1), rfl⟩ | exact ⟨xp_f (fun q => c56 q.2.2.2), rfl⟩
  · refine x_aload_n 14 (xd DX3_leadsOn rfl) rfl rfl ?_
    refine x_iload_n 15 (xd DX3_leadsOn rfl) rfl rfl ?_
    refine x_Vi 18 (pX3_lineOf i k (by omega) hk hk2) FX3_lineOf VX3_lineOf CX3_107 (xd DX3_leadsOn rfl) rfl rfl rfl ⟨by decide, rfl⟩ ⟨by decide, by decide⟩ (by decide) (Nat.le_of_ble_eq_true rfl) (by decide) rfl ?_
    rintro z9 h9 ⟨q1, q2⟩
    rw [q1, q2]
    clear q1 q2 z9 h9
    refine x_aload_n 19 (xd DX3_leadsOn rfl) rfl rfl ?_
    refine x_iload_n 20 (xd DX3_leadsOn rfl) rfl rfl ?_
    refine x_iconst 21 (xd DX3_leadsOn rfl) rfl ?_
    refine x_iadd 22 (xd DX3_leadsOn rfl) rfl ?_
    refine x_Vi 25 (pX3_lineOf (i + 1) k (by omega) hk hk2) FX3_lineOf VX3_lineOf CX3_107 (xd DX3_leadsOn rfl) rfl rfl rfl ⟨by decide, rfl⟩ ⟨by decide, by decide⟩ (by decide) (Nat.le_of_ble_eq_true rfl) (by decide) rfl ?_
    rintro z9 h9 ⟨q1, q2⟩
    rw [q1, q2]
    clear q1 q2 z9 h9
    refine x_icmp_ne 28 63 (xd DX3_leadsOn rfl) rfl (by constructor; exact xdv_lo (by omega) (by omega); exact xdv_hi (by omega) (by omega)) (by constructor; exact xdv_lo (by omega) (by omega); exact xdv_hi (by omega) (by omega)) rfl (fun c25 => ?_) (fun c25 => ?_)
    · refine x_iconst 64 (xd DX3_leadsOn rfl) rfl ?_
      refine x_rz (xd DX3_leadsOn rfl) rfl (by omega) ?_
      first | exact ⟨xp_t ⟨c10.2, c25, c42, by omega⟩, rfl⟩ | exact ⟨xp_f (fun q => c10 ⟨by omega, q.1⟩), rfl⟩ | exact ⟨xp_f (fun q => c25 q.2.1), rfl⟩ | exact ⟨xp_f (fun q => c42 q.2.2.1), rfl⟩ | exact ⟨xp_f (fun q => c56 q.2.2.2), rfl⟩
    · refine x_aload_n 29 (xd DX3_leadsOn rfl) rfl rfl ?_
      refine x_gr 32 _ LX3_51 (xd DX3_leadsOn rfl) rfl rfl ⟨by decide, by decide⟩ (by decide) rfl rfl ?_
      refine x_gr 35 _ LX3_88 (xd DX3_leadsOn rfl) rfl rfl ⟨by decide, by decide⟩ (by decide) rfl rfl ?_
      refine x_iload_n 36 (xd DX3_leadsOn rfl) rfl rfl ?_
      refine x_iconst 37 (xd DX3_leadsOn rfl) rfl ?_
      refine x_iadd 38 (xd DX3_leadsOn rfl) rfl ?_
      refine x_iaload 39 (xd DX3_leadsOn rfl) rfl ⟨Or.inr ⟨rfl, by decide⟩, by decide⟩ (by decide) (by omega) (by omega) rfl ?_
      refine x_Si 42 (pX8_isSimple _ (by have := hP.v (i := i + 1) (by omega) c10.2; omega)) FX8_isSimple VX8_isSimple CX3_91 (xd DX3_leadsOn rfl) rfl rfl (by decide) (Nat.le_of_ble_eq_true rfl) (by decide) rfl ?_
      rintro z9 h9 ⟨q1, q2⟩
      rw [q1, q2]
      clear q1 q2 z9 h9
      refine x_ifp_eq 45 63 (xd DX3_leadsOn rfl) rfl rfl (fun c42 => ?_) (fun c42 => ?_)
      · refine x_iconst 64 (xd DX3_leadsOn rfl) rfl ?_
        refine x_rz (xd DX3_leadsOn rfl) rfl (by omega) ?_
        first | exact ⟨xp_t ⟨c10.2, c25, c42, by omega⟩, rfl⟩ | exact ⟨xp_f (fun q => c10 ⟨by omega, q.1⟩), rfl⟩ | exact ⟨xp_f (fun q => c25 q.2.1), rfl⟩ | exact ⟨xp_f (fun q => c42 q.2.2.1), rfl⟩ | exact ⟨xp_f (fun q => c56 q.2.2.2), rfl⟩
      · refine x_aload_n 46 (xd DX3_leadsOn rfl) rfl rfl ?_
        refine x_gr 49 _ LX3_51 (xd DX3_leadsOn rfl) rfl rfl ⟨by decide, by decide⟩ (by decide) rfl rfl ?_
        refine x_gr 52 _ LX3_111 (xd DX3_leadsOn rfl) rfl rfl ⟨by decide, by decide⟩ (by decide) rfl rfl ?_
        refine x_iload_n 53 (xd DX3_leadsOn rfl) rfl rfl ?_
        refine x_iconst 54 (xd DX3_leadsOn rfl) rfl ?_
        refine x_iadd 55 (xd DX3_leadsOn rfl) rfl ?_
        refine x_baload 56 (xd DX3_leadsOn rfl) rfl ⟨Or.inr ⟨rfl, by decide⟩, by decide⟩ (by decide) (by omega) (by omega) rfl ?_
        refine x_if_ne 59 63 (xd DX3_leadsOn rfl) rfl (by have := (hP.2 (i + 1) (by omega) c10.2).2.2.2.2; omega) rfl (fun c56 => ?_) (fun c56 => ?_)
        · refine x_iconst 64 (xd DX3_leadsOn rfl) rfl ?_
          refine x_rz (xd DX3_leadsOn rfl) rfl (by omega) ?_
          first | exact ⟨xp_t ⟨c10.2, c25, c42, by omega⟩, rfl⟩ | exact ⟨xp_f (fun q => c10 ⟨by omega, q.1⟩), rfl⟩ | exact ⟨xp_f (fun q => c25 q.2.1), rfl⟩ | exact ⟨xp_f (fun q => c42 q.2.2.1), rfl⟩ | exact ⟨xp_f (fun q => c56 q.2.2.2), rfl⟩
        · refine x_iconst 60 (xd DX3_leadsOn rfl) rfl ?_
          refine x_goto 64 (xd DX3_leadsOn rfl) rfl ?_
          refine x_rz (xd DX3_leadsOn rfl) rfl (by omega) ?_
          first | exact ⟨xp_t ⟨c10.2, c25, c42, by omega⟩, rfl⟩ | exact ⟨xp_f (fun q => c10 ⟨by omega, q.1⟩), rfl⟩ | exact ⟨xp_f (fun q => c25 q.2.1), rfl⟩ | exact ⟨xp_f (fun q => c42 q.2.2.1), rfl⟩ | exact ⟨xp_f (fun q => c56 q.2.2.2), rfl⟩

theorem mmS : Cond.static Lib.Math.min.name ∈ xTb := xTb_mem 452 (by decide +kernel) rfl
theorem mmI : Cond.initialized "java/lang/Math" ∈ xTb := xTb_mem 68 (by decide +kernel) rfl
theorem mmC : Cond.code Lib.Math.min.name Lib.Math.min.code 2 (some .int) ∈ xTb := xTb_mem 453 (by decide +kernel) rfl
theorem mmLJ1_38 : Cond.methodLink RJ1 38 Lib.Math.min.name ∈ xTb := xTb_mem 451 (by decide +kernel) rfl
theorem mmLJ2_183 : Cond.methodLink RJ2 183 Lib.Math.min.name ∈ xTb := xTb_mem 461 (by decide +kernel) rfl
theorem mmLX3_98 : Cond.methodLink RX3 98 Lib.Math.min.name ∈ xTb := xTb_mem 543 (by decide +kernel) rfl
theorem mmLX5_55 : Cond.methodLink RX5 55 Lib.Math.min.name ∈ xTb := xTb_mem 823 (by decide +kernel) rfl
