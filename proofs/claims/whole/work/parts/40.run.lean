/-! Run, the counters of Program -/
/-- the first of d places from i on, or -4 -/
noncomputable def fP (p : Nat → Prop) : Nat → Nat → Int
  | _, 0 => -4
  | i, d + 1 => pik (p i) (i : Int) (fP p (i + 1) d)
theorem fP_rg (p : Nat → Prop) : ∀ (d i : Nat), fP p i d = -4 ∨ ((i : Int) ≤ fP p i d ∧ fP p i d < i + d ∧ p (fP p i d).toNat)
  | 0, i => Or.inl rfl
  | d + 1, i => by
    unfold fP
    by_cases q : p i
    · rw [pik_t q, Int.toNat_natCast]; exact Or.inr ⟨Int.le_refl _, by omega, q⟩
    · rw [pik_f q]
      rcases fP_rg p d (i + 1) with z | z
      · exact Or.inl z
      · exact Or.inr ⟨by omega, by omega, z.2.2⟩
def tellH (h : XH) (v : Int) : XH := hset (hset h 257 (h 255 12) v) 255 12 (h 255 12 + 1)
def wkH (h : XH) (kd k : Int) : XH :=
  if kd = 0 then hset h 255 10 ((h 255 10 + k) % 65536) else if kd = 1 then hset h 255 10 ((h 255 10 * k) % 65536) else if kd = 2 then hset h 255 10 (xxor (h 255 10) k)
  else if kd = 3 then hset h 256 k (h 255 10) else if kd = 4 then hset h 255 10 (h 256 k) else if kd = 5 then hset h 255 10 ((h 255 10 + h 256 k) % 65536) else tellH h ((h 255 10 + k) % 65536)
noncomputable def adr (h : XH) (i : Int) : Int := pik (h 255 7 ≠ 0 ∧ 0 ≤ i ∧ i < h 4 3) (h 251 i) i
noncomputable def jmpP (h : XH) (i : Nat) : Prop := h 5 i = 9 ∧ adr h (h 6 i) = h 255 10
noncomputable def jmpH (h : XH) : XH := pik (0 ≤ fP (jmpP h) 0 (h 4 3).toNat) (hset h 255 9 (h 6 (fP (jmpP h) 0 (h 4 3).toNat))) (hset (hset h 255 8 1) 255 6 1)
noncomputable def trnH (h : XH) (kd t : Int) : XH :=
  if kd = 7 then hset h 255 9 t else if kd = 8 then hset h 255 9 (if h 255 10 = 0 then t else h 255 9) else if kd = 9 then hset h 255 10 (adr h t) else if kd = 10 then jmpH h else hset h 255 6 1
set_option maxRecDepth 100000 in
set_option maxHeartbeats 4000000 in
theorem pX5_end {K : XK} {n : Nat} {h : XH}  : MV K mX5_end 0 n [vr 255] h (fun h' => h' = hset h 255 5 0) := by
  refine xMeth FX5_end (Nat.le_of_ble_eq_true rfl) ?_
  refine x_aload_n 1 (xd DX5_end rfl) rfl rfl ?_
  refine x_iconst 2 (xd DX5_end rfl) rfl ?_
  refine x_pz 5 5 rfl LX5_29 (xd DX5_end rfl) rfl rfl ⟨Or.inr ⟨rfl, by decide⟩, by decide⟩ (by omega) rfl ?_
  refine x_rv (xd DX5_end rfl) rfl ?_
  exact rfl

set_option maxRecDepth 100000 in
set_option maxHeartbeats 4000000 in
theorem pX5_tellOut {K : XK} {n : Nat} {h : XH} (v : Int) (hc : 0 ≤ h 255 12 ∧ h 255 12 < 12) : MV K mX5_tellOut 0 n [vr 255, vi v] h (fun h' => h' = tellH h v) := by
  refine xMeth FX5_tellOut (Nat.le_of_ble_eq_true rfl) ?_
  refine x_aload_n 1 (xd DX5_tellOut rfl) rfl rfl ?_
  refine x_gi 4 12 rfl LX5_52 (xd DX5_tellOut rfl) rfl ⟨Or.inr ⟨rfl, by decide⟩, by decide⟩ rfl ?_
  refine x_bipush 6 (xd DX5_tellOut rfl) rfl rfl ?_
  refine x_icmp_ge 9 29 (xd DX5_tellOut rfl) rfl (by omega) (by omega) rfl (fun c6 => absurd c6 (by omega)) (fun _ => ?_)
  refine x_aload_n 10 (xd DX5_tellOut rfl) rfl rfl ?_
  refine x_gr 13 _ LX5_15 (xd DX5_tellOut rfl) rfl rfl ⟨by decide, by decide⟩ (by decide) rfl rfl ?_
  refine x_aload_n 14 (xd DX5_tellOut rfl) rfl rfl ?_
  refine x_gi 17 12 rfl LX5_52 (xd DX5_tellOut rfl) rfl ⟨Or.inr ⟨rfl, by decide⟩, by decide⟩ rfl ?_
  refine x_iload_n 18 (xd DX5_tellOut rfl) rfl rfl ?_
  refine x_iastore 19 (xd DX5_tellOut rfl) rfl ⟨Or.inr ⟨rfl, by decide⟩, by decide⟩ (by decide) (by omega) (by omega) rfl ?_
  refine x_aload_n 20 (xd DX5_tellOut rfl) rfl rfl ?_
  refine x_dupr 21 (xd DX5_tellOut rfl) rfl ?_
  refine x_gi 24 12 rfl LX5_52 (xd DX5_tellOut rfl) rfl ⟨Or.inr ⟨rfl, by decide⟩, by decide⟩ rfl ?_
  refine x_iconst 25 (xd DX5_tellOut rfl) rfl ?_
  refine x_iadd 26 (xd DX5_tellOut rfl) rfl ?_
  refine x_pi 29 12 rfl LX5_52 (xd DX5_tellOut rfl) rfl rfl ⟨Or.inr ⟨rfl, by decide⟩, by decide⟩ rfl ?_
  refine x_rv (xd DX5_tellOut rfl) rfl ?_
  unfold tellH
  rw [hset_c (d := 255) (by decide)]

set_option maxRecDepth 100000 in
set_option maxHeartbeats 4000000 in
theorem pX5_work {K : XK} {n : Nat} {h : XH} (kd k : Int) (hkd : 0 ≤ kd ∧ kd ≤ 6) (hk : 0 ≤ k ∧ k ≤ 9) (hc : kd = 6 → 0 ≤ h 255 12 ∧ h 255 12 < 12) : MV K mX5_work 1 n [vr 255, vi kd, vi k] h (fun h' => h' = wkH h kd k) := by
  refine xMeth FX5_work (Nat.le_of_ble_eq_true rfl) ?_
  have hk9 : kd = 0 ∨ kd = 1 ∨ kd = 2 ∨ kd = 3 ∨ kd = 4 ∨ kd = 5 ∨ kd = 6 := by omega
  refine x_iload_n 1 (xd DX5_work rfl) rfl rfl ?_
  rcases hk9 with e | e | e | e | e | e | e <;> subst e
  · refine x_tableIn 40 (xd DX5_work rfl) (by decide) (by decide) (by decide) rfl rfl ?_
    refine x_aload_n 41 (xd DX5_work rfl) rfl rfl ?_
    refine x_aload_n 42 (xd DX5_work rfl) rfl rfl ?_
    refine x_gi 45 10 rfl LX5_46 (xd DX5_work rfl) rfl ⟨Or.inr ⟨rfl, by decide⟩, by decide⟩ rfl ?_
    refine x_iload_n 46 (xd DX5_work rfl) rfl rfl ?_
    refine x_iadd 47 (xd DX5_work rfl) rfl ?_
    refine x_ldc 49 (xd DX5_work rfl) KX5_108 rfl ?_
    refine x_iand65535 50 (xd DX5_work rfl) rfl ?_
    refine x_pi 53 10 rfl LX5_46 (xd DX5_work rfl) rfl rfl ⟨Or.inr ⟨rfl, by decide⟩, by decide⟩ rfl ?_
    refine x_goto 145 (xd DX5_work rfl) rfl ?_
    refine x_rv (xd DX5_work rfl) rfl ?_
    unfold wkH
    rfl
  · refine x_tableIn 56 (xd DX5_work rfl) (by decide) (by decide) (by decide) rfl rfl ?_
    refine x_aload_n 57 (xd DX5_work rfl) rfl rfl ?_
    refine x_aload_n 58 (xd DX5_work rfl) rfl rfl ?_
    refine x_gi 61 10 rfl LX5_46 (xd DX5_work rfl) rfl ⟨Or.inr ⟨rfl, by decide⟩, by decide⟩ rfl ?_
    refine x_iload_n 62 (xd DX5_work rfl) rfl rfl ?_
    refine x_imul 63 (xd DX5_work rfl) rfl ?_
    refine x_ldc 65 (xd DX5_work rfl) KX5_108 rfl ?_
    refine x_iand65535 66 (xd DX5_work rfl) rfl ?_
    refine x_pi 69 10 rfl LX5_46 (xd DX5_work rfl) rfl rfl ⟨Or.inr ⟨rfl, by decide⟩, by decide⟩ rfl ?_
    refine x_goto 145 (xd DX5_work rfl) rfl ?_
    refine x_rv (xd DX5_work rfl) rfl ?_
    unfold wkH
    rfl
  · refine x_tableIn 72 (xd DX5_work rfl) (by decide) (by decide) (by decide) rfl rfl ?_
    refine x_aload_n 73 (xd DX5_work rfl) rfl rfl ?_
    refine x_aload_n 74 (xd DX5_work rfl) rfl rfl ?_
    refine x_gi 77 10 rfl LX5_46 (xd DX5_work rfl) rfl ⟨Or.inr ⟨rfl, by decide⟩, by decide⟩ rfl ?_
    refine x_iload_n 78 (xd DX5_work rfl) rfl rfl ?_
    refine x_ixor 79 (xd DX5_work rfl) rfl ?_
    refine x_pi 82 10 rfl LX5_46 (xd DX5_work rfl) rfl rfl ⟨Or.inr ⟨rfl, by decide⟩, by decide⟩ rfl ?_
    refine x_goto 145 (xd DX5_work rfl) rfl ?_
    refine x_rv (xd DX5_work rfl) rfl ?_
    unfold wkH
    rfl
  · refine x_tableIn 85 (xd DX5_work rfl) (by decide) (by decide) (by decide) rfl rfl ?_
    refine x_aload_n 86 (xd DX5_work rfl) rfl rfl ?_
    refine x_gr 89 _ LX5_9 (xd DX5_work rfl) rfl rfl ⟨by decide, by decide⟩ (by decide) rfl rfl ?_
    refine x_iload_n 90 (xd DX5_work rfl) rfl rfl ?_
    refine x_aload_n 91 (xd DX5_work rfl) rfl rfl ?_
    refine x_gi 94 10 rfl LX5_46 (xd DX5_work rfl) rfl ⟨Or.inr ⟨rfl, by decide⟩, by decide⟩ rfl ?_
    refine x_iastore 95 (xd DX5_work rfl) rfl ⟨Or.inr ⟨rfl, by decide⟩, by decide⟩ (by decide) (by omega) (by omega) rfl ?_
    refine x_goto 145 (xd DX5_work rfl) rfl ?_
    refine x_rv (xd DX5_work rfl) rfl ?_
    unfold wkH
    rfl
  · refine x_tableIn 98 (xd DX5_work rfl) (by decide) (by decide) (by decide) rfl rfl ?_
    refine x_aload_n 99 (xd DX5_work rfl) rfl rfl ?_
    refine x_aload_n 100 (xd DX5_work rfl) rfl rfl ?_
    refine x_gr 103 _ LX5_9 (xd DX5_work rfl) rfl rfl ⟨by decide, by decide⟩ (by decide) rfl rfl ?_
    refine x_iload_n 104 (xd DX5_work rfl) rfl rfl ?_
    refine x_iaload 105 (xd DX5_work rfl) rfl ⟨Or.inr ⟨rfl, by decide⟩, by decide⟩ (by decide) (by omega) (by omega) rfl ?_
    refine x_pi 108 10 rfl LX5_46 (xd DX5_work rfl) rfl rfl ⟨Or.inr ⟨rfl, by decide⟩, by decide⟩ rfl ?_
    refine x_goto 145 (xd DX5_work rfl) rfl ?_
    refine x_rv (xd DX5_work rfl) rfl ?_
    unfold wkH
    rfl
  · refine x_tableIn 111 (xd DX5_work rfl) (by decide) (by decide) (by decide) rfl rfl ?_
    refine x_aload_n 112 (xd DX5_work rfl) rfl rfl ?_
    refine x_aload_n 113 (xd DX5_work rfl) rfl rfl ?_
    refine x_gi 116 10 rfl LX5_46 (xd DX5_work rfl) rfl ⟨Or.inr ⟨rfl, by decide⟩, by decide⟩ rfl ?_
    refine x_aload_n 117 (xd DX5_work rfl) rfl rfl ?_
    refine x_gr 120 _ LX5_9 (xd DX5_work rfl) rfl rfl ⟨by decide, by decide⟩ (by decide) rfl rfl ?_
    refine x_iload_n 121 (xd DX5_work rfl) rfl rfl ?_
    refine x_iaload 122 (xd DX5_work rfl) rfl ⟨Or.inr ⟨rfl, by decide⟩, by decide⟩ (by decide) (by omega) (by omega) rfl ?_
    refine x_iadd 123 (xd DX5_work rfl) rfl ?_
    refine x_ldc 125 (xd DX5_work rfl) KX5_108 rfl ?_
    refine x_iand65535 126 (xd DX5_work rfl) rfl ?_
    refine x_pi 129 10 rfl LX5_46 (xd DX5_work rfl) rfl rfl ⟨Or.inr ⟨rfl, by decide⟩, by decide⟩ rfl ?_
    refine x_goto 145 (xd DX5_work rfl) rfl ?_
    refine x_rv (xd DX5_work rfl) rfl ?_
    unfold wkH
    rfl
  · refine x_tableOut 132 (xd DX5_work rfl) (by decide) (Or.inr (by decide)) rfl ?_
    refine x_aload_n 133 (xd DX5_work rfl) rfl rfl ?_
    refine x_aload_n 134 (xd DX5_work rfl) rfl rfl ?_
    refine x_gi 137 10 rfl LX5_46 (xd DX5_work rfl) rfl ⟨Or.inr ⟨rfl, by decide⟩, by decide⟩ rfl ?_
    refine x_iload_n 138 (xd DX5_work rfl) rfl rfl ?_
    refine x_iadd 139 (xd DX5_work rfl) rfl ?_
    refine x_ldc 141 (xd DX5_work rfl) KX5_108 rfl ?_
    refine x_iand65535 142 (xd DX5_work rfl) rfl ?_
    refine x_Vv 145 (pX5_tellOut _ (hc rfl)) FX5_tellOut VX5_tellOut CX5_109 (xd DX5_work rfl) rfl rfl rfl ⟨by decide, rfl⟩ ⟨by decide, by decide⟩ (by decide) (Nat.le_of_ble_eq_true rfl) (by decide) rfl ?_
    rintro h9 q2
    rw [q2]
    clear q2 h9
    refine x_rv (xd DX5_work rfl) rfl ?_
    unfold wkH
    rfl


set_option maxRecDepth 100000 in
set_option maxHeartbeats 4000000 in
theorem pX5_addressOf {K : XK} {n : Nat} {h : XH} (i : Int) (hP : PW h) (hi : xrg i) (hq : h 255 7 = 0 ∨ h 255 7 = 1) : MI K mX5_addressOf 1 n [vr 255, vi i] h (fun z h' => z = adr h i ∧ h' = h) := by
  refine xMeth FX5_addressOf (Nat.le_of_ble_eq_true rfl) ?_
  have hP1 := hP.1
  refine x_aload_n 1 (xd DX5_addressOf rfl) rfl rfl ?_
  refine x_gz 4 7 rfl LX5_36 (xd DX5_addressOf rfl) rfl ⟨Or.inr ⟨rfl, by decide⟩, by decide⟩ rfl ?_
  refine x_if_eq 7 30 (xd DX5_addressOf rfl) rfl (by omega) rfl (fun c4 => ?_) (fun c4 => ?_)
  · refine x_iload_n 31 (xd DX5_addressOf rfl) rfl rfl ?_
    refine x_ri (xd DX5_addressOf rfl) rfl ?_
    first | exact ⟨(pik_t ⟨c4, c15.1, c15.2⟩ _ _).symm, rfl⟩ | exact ⟨(pik_f (fun q => c15 q.2) _ _).symm, rfl⟩ | exact ⟨(pik_f (fun q => q.1 c4) _ _).symm, rfl⟩
  · refine x_aload_n 8 (xd DX5_addressOf rfl) rfl rfl ?_
    refine x_gr 11 _ LX5_21 (xd DX5_addressOf rfl) rfl rfl ⟨by decide, by decide⟩ (by decide) rfl rfl ?_
    refine x_iload_n 12 (xd DX5_addressOf rfl) rfl rfl ?_
    refine x_Vi 15 (pX4_has i hi (by omega)) FX4_has VX4_has CX5_105 (xd DX5_addressOf rfl) rfl rfl rfl ⟨by decide, rfl⟩ ⟨by decide, by decide⟩ (by decide) (Nat.le_of_ble_eq_true rfl) (by decide) rfl ?_
    rintro z9 h9 ⟨q1, q2⟩
    rw [q1, q2]
    clear q1 q2 z9 h9
    refine x_ifp_eq 18 30 (xd DX5_addressOf rfl) rfl rfl (fun c15 => ?_) (fun c15 => ?_)
    · refine x_iload_n 31 (xd DX5_addressOf rfl) rfl rfl ?_
      refine x_ri (xd DX5_addressOf rfl) rfl ?_
      first | exact ⟨(pik_t ⟨c4, c15.1, c15.2⟩ _ _).symm, rfl⟩ | exact ⟨(pik_f (fun q => c15 q.2) _ _).symm, rfl⟩ | exact ⟨(pik_f (fun q => q.1 c4) _ _).symm, rfl⟩
    · refine x_aload_n 19 (xd DX5_addressOf rfl) rfl rfl ?_
      refine x_gr 22 _ LX5_25 (xd DX5_addressOf rfl) rfl rfl ⟨by decide, by decide⟩ (by decide) rfl rfl ?_
      refine x_gr 25 _ LX5_118 (xd DX5_addressOf rfl) rfl rfl ⟨by decide, by decide⟩ (by decide) rfl rfl ?_
      refine x_iload_n 26 (xd DX5_addressOf rfl) rfl rfl ?_
      refine x_iaload 27 (xd DX5_addressOf rfl) rfl ⟨Or.inr ⟨rfl, by decide⟩, by decide⟩ (by decide) (by omega) (by omega) rfl ?_
      refine x_goto 31 (xd DX5_addressOf rfl) rfl ?_
      refine x_ri (xd DX5_addressOf rfl) rfl ?_
      first | exact ⟨(pik_t ⟨c4, c15.1, c15.2⟩ _ _).symm, rfl⟩ | exact ⟨(pik_f (fun q => c15 q.2) _ _).symm, rfl⟩ | exact ⟨(pik_f (fun q => q.1 c4) _ _).symm, rfl⟩

set_option maxRecDepth 100000 in
set_option maxHeartbeats 4000000 in
theorem pX5_jumpBySum {K : XK} {n : Nat} {h : XH} (hP : PW h) (hq : h 255 7 = 0 ∨ h 255 7 = 1) (hs : xrg (h 255 10)) (ha : ∀ j, 0 ≤ j → j < h 4 3 → xrg (h 251 j)) : MV K mX5_jumpBySum 2 n [vr 255] h (fun h' => h' = jmpH h) := by
  refine xMeth FX5_jumpBySum (Nat.le_of_ble_eq_true rfl) ?_
  have hP1 := hP.1
  have loop : ∀ (m : Nat) (xi : Nat), (xi : Int) ≤ h 4 3 → h 4 3 - xi < (m : Int) → fP (jmpP h) xi ((h 4 3).toNat - xi) = fP (jmpP h) 0 (h 4 3).toNat → WI K mX5_jumpBySum 2 n (qV n fun h' => h' = jmpH h) 2 [(0, vr 255), (1, vi (xi : Int))] [] h := by
    intro m
    induction m with
    | zero => intro xi a b; exact absurd b (by omega)
    | succ m ih =>
      intro xi h0 hm hf
      refine x_iload_n 3 (xd DX5_jumpBySum rfl) rfl rfl ?_
      refine x_aload_n 4 (xd DX5_jumpBySum rfl) rfl rfl ?_
      refine x_gr 7 _ LX5_21 (xd DX5_jumpBySum rfl) rfl rfl ⟨by decide, by decide⟩ (by decide) rfl rfl ?_
      refine x_gi 10 3 rfl LX5_121 (xd DX5_jumpBySum rfl) rfl ⟨Or.inr ⟨rfl, by decide⟩, by decide⟩ rfl ?_
      refine x_icmp_ge 13 67 (xd DX5_jumpBySum rfl) rfl (by omega) (by omega) rfl (fun c10 => ?_) (fun c10 => ?_)
      · refine x_aload_n 68 (xd DX5_jumpBySum rfl) rfl rfl ?_
        refine x_iconst 69 (xd DX5_jumpBySum rfl) rfl ?_
        refine x_pz 72 8 rfl LX5_39 (xd DX5_jumpBySum rfl) rfl rfl ⟨Or.inr ⟨rfl, by decide⟩, by decide⟩ (by omega) rfl ?_
        refine x_aload_n 73 (xd DX5_jumpBySum rfl) rfl rfl ?_
        refine x_iconst 74 (xd DX5_jumpBySum rfl) rfl ?_
        refine x_pz 77 6 rfl LX5_33 (xd DX5_jumpBySum rfl) rfl rfl ⟨Or.inr ⟨rfl, by decide⟩, by decide⟩ (by omega) rfl ?_
        refine x_rv (xd DX5_jumpBySum rfl) rfl ?_
        unfold jmpH
        first
          | (rw [← hf, show (h 4 3).toNat - xi = ((h 4 3).toNat - xi - 1) + 1 by omega]
             unfold fP
             rw [pik_t (p := jmpP h xi) ⟨c24, c44⟩, pik_t (by omega)])
          | (rw [← hf, show (h 4 3).toNat - xi = 0 by omega]
             unfold fP
             rw [pik_f (by omega)])
      · refine x_aload_n 14 (xd DX5_jumpBySum rfl) rfl rfl ?_
        refine x_gr 17 _ LX5_21 (xd DX5_jumpBySum rfl) rfl rfl ⟨by decide, by decide⟩ (by decide) rfl rfl ?_
        refine x_gr 20 _ LX5_73 (xd DX5_jumpBySum rfl) rfl rfl ⟨by decide, by decide⟩ (by decide) rfl rfl ?_
        refine x_iload_n 21 (xd DX5_jumpBySum rfl) rfl rfl ?_
        refine x_iaload 22 (xd DX5_jumpBySum rfl) rfl ⟨Or.inr ⟨rfl, by decide⟩, by decide⟩ (by decide) (by omega) (by omega) rfl ?_
        refine x_bipush 24 (xd DX5_jumpBySum rfl) rfl rfl ?_
        refine x_icmp_ne 27 61 (xd DX5_jumpBySum rfl) rfl (by have := hP.v (i := (xi : Int)) (by omega) (by omega); omega) (by have := hP.v (i := (xi : Int)) (by omega) (by omega); omega) rfl (fun c24 => ?_) (fun c24 => ?_)
        · refine x_iinc 64 (L' := [(0, _), (1, _)]) (xd DX5_jumpBySum rfl) rfl (by decide) rfl rfl rfl ?_
          refine x_goto 2 (xd DX5_jumpBySum rfl) rfl ?_
          first
            | exact ih (xi + 1) (by omega) (by omega) (by rw [← hf, show (h 4 3).toNat - xi = ((h 4 3).toNat - (xi + 1)) + 1 by omega]; conv => rhs; unfold fP
                                                          rw [pik_f (fun q => c24 q.1)])
            | exact ih (xi + 1) (by omega) (by omega) (by rw [← hf, show (h 4 3).toNat - xi = ((h 4 3).toNat - (xi + 1)) + 1 by omega]; conv => rhs; unfold fP
                                                          rw [pik_f (fun q => c44 q.2)])
        · refine x_aload_n 28 (xd DX5_jumpBySum rfl) rfl rfl ?_
          refine x_aload_n 29 (xd DX5_jumpBySum rfl) rfl rfl ?_
          refine x_gr 32 _ LX5_21 (xd DX5_jumpBySum rfl) rfl rfl ⟨by decide, by decide⟩ (by decide) rfl rfl ?_
          refine x_gr 35 _ LX5_91 (xd DX5_jumpBySum rfl) rfl rfl ⟨by decide, by decide⟩ (by decide) rfl rfl ?_
          refine x_iload_n 36 (xd DX5_jumpBySum rfl) rfl rfl ?_
          refine x_iaload 37 (xd DX5_jumpBySum rfl) rfl ⟨Or.inr ⟨rfl, by decide⟩, by decide⟩ (by decide) (by omega) (by omega) rfl ?_
          refine x_Vi 40 (pX5_addressOf _ hP (by have := hP.v (i := (xi : Int)) (by omega) (by omega); omega) hq) FX5_addressOf VX5_addressOf CX5_112 (xd DX5_jumpBySum rfl) rfl rfl rfl ⟨by decide, rfl⟩ ⟨by decide, by decide⟩ (by decide) (Nat.le_of_ble_eq_true rfl) (by decide) rfl ?_
          rintro z9 h9 ⟨q1, q2⟩
          rw [q1, q2]
          clear q1 q2 z9 h9
          refine x_aload_n 41 (xd DX5_jumpBySum rfl) rfl rfl ?_
          refine x_gi 44 10 rfl LX5_46 (xd DX5_jumpBySum rfl) rfl ⟨Or.inr ⟨rfl, by decide⟩, by decide⟩ rfl ?_
          refine x_icmp_ne 47 61 (xd DX5_jumpBySum rfl) rfl (by first | exact hs | (have h7 := hP.v (i := (xi : Int)) (by omega) (by omega); unfold adr; by_cases q : h 255 7 ≠ 0 ∧ 0 ≤ h 6 (xi : Int) ∧ h 6 (xi : Int) < h 4 3; rw [pik_t q]; exact ha _ q.2.1 q.2.2; rw [pik_f q]; omega)) (by first | exact hs | (have h7 := hP.v (i := (xi : Int)) (by omega) (by omega); unfold adr; by_cases q : h 255 7 ≠ 0 ∧ 0 ≤ h 6 (xi : Int) ∧ h 6 (xi : Int) < h 4 3; rw [pik_t q]; exact ha _ q.2.1 q.2.2; rw [pik_f q]; omega)) rfl (fun c44 => ?_) (fun c44 => ?_)
          · refine x_iinc 64 (L' := [(0, _), (1, _)]) (xd DX5_jumpBySum rfl) rfl (by decide) rfl rfl rfl ?_
            refine x_goto 2 (xd DX5_jumpBySum rfl) rfl ?_
            first
              | exact ih (xi + 1) (by omega) (by omega) (by rw [← hf, show (h 4 3).toNat - xi = ((h 4 3).toNat - (xi + 1)) + 1 by omega]; conv => rhs; unfold fP
                                                            rw [pik_f (fun q => c24 q.1)])
              | exact ih (xi + 1) (by omega) (by omega) (by rw [← hf, show (h 4 3).toNat - xi = ((h 4 3).toNat - (xi + 1)) + 1 by omega]; conv => rhs; unfold fP
                                                            rw [pik_f (fun q => c44 q.2)])
          · refine x_aload_n 48 (xd DX5_jumpBySum rfl) rfl rfl ?_
            refine x_aload_n 49 (xd DX5_jumpBySum rfl) rfl rfl ?_
            refine x_gr 52 _ LX5_21 (xd DX5_jumpBySum rfl) rfl rfl ⟨by decide, by decide⟩ (by decide) rfl rfl ?_
            refine x_gr 55 _ LX5_91 (xd DX5_jumpBySum rfl) rfl rfl ⟨by decide, by decide⟩ (by decide) rfl rfl ?_
            refine x_iload_n 56 (xd DX5_jumpBySum rfl) rfl rfl ?_
            refine x_iaload 57 (xd DX5_jumpBySum rfl) rfl ⟨Or.inr ⟨rfl, by decide⟩, by decide⟩ (by decide) (by omega) (by omega) rfl ?_
            refine x_pi 60 9 rfl LX5_42 (xd DX5_jumpBySum rfl) rfl rfl ⟨Or.inr ⟨rfl, by decide⟩, by decide⟩ rfl ?_
            refine x_rv (xd DX5_jumpBySum rfl) rfl ?_
            unfold jmpH
            first
              | (rw [← hf, show (h 4 3).toNat - xi = ((h 4 3).toNat - xi - 1) + 1 by omega]
                 unfold fP
                 rw [pik_t (p := jmpP h xi) ⟨c24, c44⟩, pik_t (by omega)])
              | (rw [← hf, show (h 4 3).toNat - xi = 0 by omega]
                 unfold fP
                 rw [pik_f (by omega)])
  refine x_iconst 1 (xd DX5_jumpBySum rfl) rfl ?_
  refine x_istore_n 2 (L' := [(0, _), (1, _)]) (xd DX5_jumpBySum rfl) (by decide) rfl rfl rfl ?_
  exact loop 100 0 (by omega) (by omega) rfl

set_option maxRecDepth 100000 in
set_option maxHeartbeats 4000000 in
theorem pX5_turn {K : XK} {n : Nat} {h : XH} (kd t : Int) (hkd : 7 ≤ kd ∧ kd ≤ 11) (hP : PW h) (ht : xrg t) (hq : h 255 7 = 0 ∨ h 255 7 = 1) (hs : xrg (h 255 10)) (ha : ∀ j, 0 ≤ j → j < h 4 3 → xrg (h 251 j)) : MV K mX5_turn 3 n [vr 255, vi kd, vi t] h (fun h' => h' = trnH h kd t) := by
  refine xMeth FX5_turn (Nat.le_of_ble_eq_true rfl) ?_
  have hk9 : kd = 7 ∨ kd = 8 ∨ kd = 9 ∨ kd = 10 ∨ kd = 11 := by omega
  refine x_iload_n 1 (xd DX5_turn rfl) rfl rfl ?_
  rcases hk9 with e | e | e | e | e <;> subst e
  · refine x_tableIn 32 (xd DX5_turn rfl) (by decide) (by decide) (by decide) rfl rfl ?_
    refine x_aload_n 33 (xd DX5_turn rfl) rfl rfl ?_
    refine x_iload_n 34 (xd DX5_turn rfl) rfl rfl ?_
    refine x_pi 37 9 rfl LX5_42 (xd DX5_turn rfl) rfl rfl ⟨Or.inr ⟨rfl, by decide⟩, by decide⟩ rfl ?_
    refine x_goto 86 (xd DX5_turn rfl) rfl ?_
    refine x_rv (xd DX5_turn rfl) rfl ?_
    unfold trnH
    first | rfl | (rw [if_pos c45]; rfl) | (rw [if_neg c45]; rfl)
  · refine x_tableIn 40 (xd DX5_turn rfl) (by decide) (by decide) (by decide) rfl rfl ?_
    refine x_aload_n 41 (xd DX5_turn rfl) rfl rfl ?_
    refine x_aload_n 42 (xd DX5_turn rfl) rfl rfl ?_
    refine x_gi 45 10 rfl LX5_46 (xd DX5_turn rfl) rfl ⟨Or.inr ⟨rfl, by decide⟩, by decide⟩ rfl ?_
    refine x_if_ne 48 52 (xd DX5_turn rfl) rfl (by omega) rfl (fun c45 => ?_) (fun c45 => ?_)
    · refine x_aload_n 53 (xd DX5_turn rfl) rfl rfl ?_
      refine x_gi 56 9 rfl LX5_42 (xd DX5_turn rfl) rfl ⟨Or.inr ⟨rfl, by decide⟩, by decide⟩ rfl ?_
      refine x_pi 59 9 rfl LX5_42 (xd DX5_turn rfl) rfl rfl ⟨Or.inr ⟨rfl, by decide⟩, by decide⟩ rfl ?_
      refine x_goto 86 (xd DX5_turn rfl) rfl ?_
      refine x_rv (xd DX5_turn rfl) rfl ?_
      unfold trnH
      first | rfl | (rw [if_pos c45]; rfl) | (rw [if_neg c45]; rfl)
    · refine x_iload_n 49 (xd DX5_turn rfl) rfl rfl ?_
      refine x_goto 56 (xd DX5_turn rfl) rfl ?_
      refine x_pi 59 9 rfl LX5_42 (xd DX5_turn rfl) rfl rfl ⟨Or.inr ⟨rfl, by decide⟩, by decide⟩ rfl ?_
      refine x_goto 86 (xd DX5_turn rfl) rfl ?_
      refine x_rv (xd DX5_turn rfl) rfl ?_
      unfold trnH
      first | rfl | (rw [if_pos c45]; rfl) | (rw [if_neg c45]; rfl)
  · refine x_tableIn 62 (xd DX5_turn rfl) (by decide) (by decide) (by decide) rfl rfl ?_
    refine x_aload_n 63 (xd DX5_turn rfl) rfl rfl ?_
    refine x_aload_n 64 (xd DX5_turn rfl) rfl rfl ?_
    refine x_iload_n 65 (xd DX5_turn rfl) rfl rfl ?_
    refine x_Vi 68 (pX5_addressOf t hP ht hq) FX5_addressOf VX5_addressOf CX5_112 (xd DX5_turn rfl) rfl rfl rfl ⟨by decide, rfl⟩ ⟨by decide, by decide⟩ (by decide) (Nat.le_of_ble_eq_true rfl) (by decide) rfl ?_
    rintro z9 h9 ⟨q1, q2⟩
    rw [q1, q2]
    clear q1 q2 z9 h9
    refine x_pi 71 10 rfl LX5_46 (xd DX5_turn rfl) rfl rfl ⟨Or.inr ⟨rfl, by decide⟩, by decide⟩ rfl ?_
    refine x_goto 86 (xd DX5_turn rfl) rfl ?_
    refine x_rv (xd DX5_turn rfl) rfl ?_
    unfold trnH
    first | rfl | (rw [if_pos c45]; rfl) | (rw [if_neg c45]; rfl)
  · refine x_tableIn 74 (xd DX5_turn rfl) (by decide) (by decide) (by decide) rfl rfl ?_
    refine x_aload_n 75 (xd DX5_turn rfl) rfl rfl ?_
    refine x_Vv 78 (pX5_jumpBySum hP hq hs ha) FX5_jumpBySum VX5_jumpBySum CX5_115 (xd DX5_turn rfl) rfl rfl rfl ⟨by decide, rfl⟩ ⟨by decide, by decide⟩ (by decide) (Nat.le_of_ble_eq_true rfl) (by decide) rfl ?_
    rintro h9 q2
    rw [q2]
    clear q2 h9
    refine x_goto 86 (xd DX5_turn rfl) rfl ?_
    refine x_rv (xd DX5_turn rfl) rfl ?_
    unfold trnH
    first | rfl | (rw [if_pos c45]; rfl) | (rw [if_neg c45]; rfl)
  · refine x_tableOut 81 (xd DX5_turn rfl) (by decide) (Or.inr (by decide)) rfl ?_
    refine x_aload_n 82 (xd DX5_turn rfl) rfl rfl ?_
    refine x_iconst 83 (xd DX5_turn rfl) rfl ?_
    refine x_pz 86 6 rfl LX5_33 (xd DX5_turn rfl) rfl rfl ⟨Or.inr ⟨rfl, by decide⟩, by decide⟩ (by omega) rfl ?_
    refine x_rv (xd DX5_turn rfl) rfl ?_
    unfold trnH
    first | rfl | (rw [if_pos c45]; rfl) | (rw [if_neg c45]; rfl)


