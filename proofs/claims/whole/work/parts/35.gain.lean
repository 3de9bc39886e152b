/-! Layout: sequences, gains -/
/-- m instructions from i on are simple, of one line, none but the first one a target -/
def SeqM (h : XH) (k : Nat) (i m : Int) : Prop := i + m ≤ h 4 3 ∧ i / (2 ^ k : Nat) = (i + m - 1) / (2 ^ k : Nat) ∧ ∀ x, 0 ≤ x → x < m → kSim (h 5 (i + x)) ∧ (x = 0 ∨ h 7 (i + x) = 0)
theorem rch_seq {h : XH} {k : Nat} {f : Int → Int} (hr : RchEq h k f 0) (hb : ∀ j, 0 ≤ j → j < h 4 3 → 0 ≤ f j ∧ f j ≤ 4) : ∀ (m : Nat) (i : Int), 0 ≤ i → i < h 4 3 → 1 ≤ m → m ≤ 4 → ((m : Int) ≤ f i ↔ SeqM h k i m)
  | 0, i, _, _, h1, _ => absurd h1 (by omega)
  | 1, i, h0, hi, _, _ => by
    rw [hr i h0 hi]
    unfold rchF
    by_cases q : kSim (h 5 i)
    · rw [pik_t q]
      have h9 : (1 : Int) ≤ pik (Lead h k i) (if 1 + f (i + 1) < 4 then 1 + f (i + 1) else 4) 1 := by
        by_cases q2 : Lead h k i
        · rw [pik_t q2]
          have := hb (i + 1) (by omega) q2.1
          split <;> omega
        · rw [pik_f q2]; exact Int.le_refl _
      refine ⟨fun _ => ⟨by show i + 1 ≤ h 4 3; omega, by show i / _ = (i + 1 - 1) / _; rw [show i + 1 - 1 = i by omega], fun x a b => ?_⟩, fun _ => h9⟩
      have : x = 0 := by have : x < 1 := b; omega
      subst this
      exact ⟨by rw [Int.add_zero]; exact q, Or.inl rfl⟩
    · rw [pik_f q]
      refine ⟨fun z => absurd z (by decide), fun z => absurd (z.2.2 0 (by omega) (by decide)).1 (by rw [Int.add_zero]; exact q)⟩
  | m + 2, i, h0, hi, _, h4 => by
    have hp : (0 : Int) < ((2 ^ k : Nat) : Int) := Int.natCast_pos.mpr (Nat.two_pow_pos k)
    have e1 : ((m + 2 : Nat) : Int) = (m : Int) + 2 := rfl
    have e2 : ((m + 1 : Nat) : Int) = (m : Int) + 1 := rfl
    rw [hr i h0 hi]
    unfold rchF
    by_cases q : kSim (h 5 i)
    · rw [pik_t q]
      by_cases q2 : Lead h k i
      · rw [pik_t q2]
        have ih := rch_seq hr hb (m + 1) (i + 1) (by omega) q2.1 (by omega) (by omega)
        have hb1 := hb (i + 1) (by omega) q2.1
        have h5 : ((m + 2 : Nat) : Int) ≤ (if 1 + f (i + 1) < 4 then 1 + f (i + 1) else 4) ↔ ((m + 1 : Nat) : Int) ≤ f (i + 1) := by
          split <;> omega
        rw [h5, ih]
        constructor
        · intro z
          refine ⟨by have := z.1; omega, ?_, fun x a b => ?_⟩
          · rw [q2.2.1, z.2.1]
            congr 1
            omega
          · by_cases x0 : x = 0
            · subst x0; exact ⟨by rw [Int.add_zero]; exact q, Or.inl rfl⟩
            · obtain ⟨z1, z2⟩ := z.2.2 (x - 1) (by omega) (by omega)
              rw [show i + 1 + (x - 1) = i + x by omega] at z1 z2
              refine ⟨z1, Or.inr ?_⟩
              rcases z2 with z2 | z2
              · have : x = 1 := by omega
                subst this
                exact q2.2.2.2
              · exact z2
        · intro z
          refine ⟨by have := z.1; omega, ?_, fun x a b => ?_⟩
          · have z1 := z.2.1
            have l1 : i / ((2 ^ k : Nat) : Int) ≤ (i + 1) / ((2 ^ k : Nat) : Int) := Int.ediv_le_ediv hp (by omega)
            rw [← q2.2.1, z1]
            congr 1
            omega
          · have z2 := z.2.2 (x + 1) (by omega) (by omega)
            rw [show i + (x + 1) = i + 1 + x by omega] at z2
            refine ⟨z2.1, ?_⟩
            rcases z2.2 with z3 | z3
            · exact absurd z3 (by omega)
            · exact Or.inr z3
      · rw [pik_f q2]
        refine ⟨fun z => absurd z (by omega), fun z => absurd ?_ q2⟩
        have l1 : i / ((2 ^ k : Nat) : Int) ≤ (i + 1) / ((2 ^ k : Nat) : Int) := Int.ediv_le_ediv hp (by omega)
        have l2 : (i + 1) / ((2 ^ k : Nat) : Int) ≤ (i + ((m + 2 : Nat) : Int) - 1) / ((2 ^ k : Nat) : Int) := Int.ediv_le_ediv hp (by omega)
        have z1 := z.2.1
        have z2 := z.2.2 1 (by omega) (by omega)
        exact ⟨by have := z.1; omega, by omega, z2.1, z2.2.resolve_left (by decide)⟩
    · rw [pik_f q]
      refine ⟨fun z => absurd z (by omega), fun z => absurd (z.2.2 0 (by omega) (by omega)).1 (by rw [Int.add_zero]; exact q)⟩
theorem rch_le {h : XH} {k : Nat} {f : Int → Int} (hr : RchEq h k f 0) (hb : ∀ j, 0 ≤ j → j < h 4 3 → 0 ≤ f j ∧ f j ≤ 4) {i : Int} (h0 : 0 ≤ i) (hi : i < h 4 3) : i + f i ≤ h 4 3 := by
  have h9 := hb i h0 hi
  by_cases q : f i = 0
  · omega
  · have := (rch_seq hr hb (f i).toNat i h0 hi (by omega) (by omega)).mp (by omega)
    have := this.1
    omega
/-- the fewest nibbles from i on with the candidate, of d lengths of references tried -/
def trp (h : XH) (t : Int → Int) (i : Int) : Nat → Int
  | 0 => kOwn (h 5 i) + t (i + 1)
  | d + 1 => if 0 < h (195 + i.toNat) ((d : Int) + 2) then (if h (195 + i.toNat) ((d : Int) + 2) + t (i + ((d : Int) + 2)) < trp h t i d then h (195 + i.toNat) ((d : Int) + 2) + t (i + ((d : Int) + 2)) else trp h t i d) else trp h t i d
noncomputable def trF (h : XH) (t : Int → Int) (i : Int) : Int := pik (Mt h 246 i) (if kRef (h 246 3) + t (i + h 246 2) < trp h t i (h 193 i - 1).toNat then kRef (h 246 3) + t (i + h 246 2) else trp h t i (h 193 i - 1).toNat) (trp h t i (h 193 i - 1).toNat)
def TrEq (h : XH) (t : Int → Int) (i : Int) : Prop := t (h 4 3) = 0 ∧ ∀ j, i ≤ j → j < h 4 3 → t j = trF h t j
theorem trp_t {h : XH} {t t' : Int → Int} {i : Int} (hf : ∀ j, i < j → t j = t' j) : ∀ d : Nat, trp h t i d = trp h t' i d
  | 0 => by unfold trp; rw [hf (i + 1) (by omega)]
  | d + 1 => by unfold trp; rw [trp_t hf d, hf (i + ((d : Int) + 2)) (by omega)]
theorem trF_t {h : XH} {t t' : Int → Int} {i : Int} (hf : ∀ j, i < j → t j = t' j) (hc : 1 ≤ h 246 2) : trF h t i = trF h t' i := by
  unfold trF
  rw [trp_t hf, hf (i + h 246 2) (by omega)]
theorem trp_rg {h : XH} {t : Int → Int} {i B : Int} (hB : 0 ≤ B) (hi : 0 ≤ i ∧ i < h 4 3) (hs : ∀ p, 2 ≤ p → p ≤ 4 → h (195 + i.toNat) p ≤ 3) (ht : ∀ j, i < j → j ≤ h 4 3 → 0 ≤ t j ∧ t j ≤ B) : ∀ d : Nat, d ≤ 3 → i + ((d : Int) + 1) ≤ h 4 3 → 0 ≤ trp h t i d ∧ trp h t i d ≤ B + 4
  | 0, _, _ => by
    unfold trp
    have h1 := ht (i + 1) (by omega) (by omega)
    have h2 := kOwn_rg (h 5 i)
    omega
  | d + 1, hd, hN => by
    have ih := trp_rg hB hi hs ht d (by omega) (by omega)
    have h1 := ht (i + ((d : Int) + 2)) (by omega) (by omega)
    unfold trp
    split
    · split <;> omega
    · exact ih
theorem trp_off {S : Nat → Prop} {h xg : XH} (hO : Off S h xg) (h5 : ¬ S 5) {i : Int} (hr : ¬ S (195 + i.toNat)) {t : Int → Int} : ∀ d : Nat, trp xg t i d = trp h t i d
  | 0 => by unfold trp; rw [hO 5 h5]
  | d + 1 => by unfold trp; rw [trp_off hO h5 hr d, hO _ hr]
theorem trF_off {h xg : XH} {c : Nat} (hO : Off (fun x => x = c) h xg) (hc : c = 245 ∨ c = 254) {i : Int} (hi : i < 48) {t : Int → Int} : trF xg t i = trF h t i := by
  unfold trF
  rw [trp_off hO (by omega) (by omega), hO 193 (by omega), hO 246 (by omega), Mt.off hO (by omega) (by omega) (by omega) (by omega) (by omega) (by omega) (by omega)]
set_option maxRecDepth 100000 in
set_option maxHeartbeats 4000000 in
theorem pX3_fewestWithCandidate {K : XK} {n : Nat} {h : XH} (hP : PW h) (hC : EW h 246) (hr : ∀ j, 0 ≤ j → j < h 4 3 → 0 ≤ h 193 j ∧ h 193 j ≤ 4) (hrl : ∀ j, 0 ≤ j → j < h 4 3 → j + h 193 j ≤ h 4 3) (hs : ∀ j : Nat, (j : Int) < h 4 3 → ∀ p, 2 ≤ p → p ≤ 4 → 0 ≤ h (195 + j) p ∧ h (195 + j) p ≤ 3) : MI K mX3_fewestWithCandidate 3 n [vr 192] h (fun z h' => Off (fun x => x = 245) h h' ∧ TrEq h (h' 245) 0 ∧ (z = h' 245 0 ∧ 0 ≤ z ∧ z ≤ 192)) := by
  refine xMeth FX3_fewestWithCandidate (Nat.le_of_ble_eq_true rfl) ?_
  have hP1 := hP.1
  have loop : ∀ (m : Nat) (xi : Int) (xg : XH), -1 ≤ xi → xi < h 4 3 → xi + 1 < (m : Int) → Off (fun x => x = 245) h xg → xg 245 (h 4 3) = 0 → (∀ j, xi < j → j < h 4 3 → xg 245 j = trF h (xg 245) j) → (∀ j, xi < j → j ≤ h 4 3 → 0 ≤ xg 245 j ∧ xg 245 j ≤ 4 * (h 4 3 - j)) → WI K mX3_fewestWithCandidate 3 n (qI n fun z h' => Off (fun x => x = 245) h h' ∧ TrEq h (h' 245) 0 ∧ (z = h' 245 0 ∧ 0 ≤ z ∧ z ≤ 192)) 34 [(0, vr 192), (1, vi (kRef (h 246 3))), (2, vi xi)] [] xg := by
    intro m
    induction m with
    | zero => intro xi xg a b c; exact absurd c (by omega)
    | succ m ih =>
      intro xi xg h0 h1 hm hO hz ht hb
      have hPg : PW xg := hP.off hO (by decide) (by decide) (by decide) (by decide)
      refine x_iload_n 35 (xd DX3_fewestWithCandidate rfl) rfl rfl ?_
      refine x_if_lt 38 162 (xd DX3_fewestWithCandidate rfl) rfl (by omega) rfl (fun c35 => ?_) (fun c35 => ?_)
      · refine x_aload_n 163 (xd DX3_fewestWithCandidate rfl) rfl rfl ?_
        refine x_gr 166 _ LX3_26 (xd DX3_fewestWithCandidate rfl) rfl rfl ⟨by decide, by decide⟩ (by decide) rfl rfl ?_
        refine x_iconst 167 (xd DX3_fewestWithCandidate rfl) rfl ?_
        refine x_iaload 168 (xd DX3_fewestWithCandidate rfl) rfl ⟨Or.inr ⟨rfl, by decide⟩, by decide⟩ (by decide) (by omega) (by omega) rfl ?_
        refine x_ri (xd DX3_fewestWithCandidate rfl) rfl ?_
        exact ⟨hO, ⟨hz, fun j a b => ht j (by omega) b⟩, rfl, by have := hb 0 (by omega) (by omega); omega⟩
      · obtain ⟨xj, rfl⟩ := Int.eq_ofNat_of_zero_le c35
        have hj : xj < 48 := by omega
        have e4 : xg 4 3 = h 4 3 := by rw [hO 4 (by decide)]
        have e193 : xg 193 = h 193 := hO 193 (by decide)
        have e246 : xg 246 = h 246 := hO 246 (by decide)
        have erow : xg (195 + xj) = h (195 + xj) := hO _ (by omega)
        have hrr1 := hr (xj : Int) (by omega) (by omega)
        have hrl1 := hrl (xj : Int) (by omega) (by omega)
        have hkk := kRef_rg (h 246 3)
        have loop2 : ∀ (m2 : Nat) (xdd : Nat) (xp1 : Int), ((xdd : Int) ≤ h 193 xj - 1 ∨ xdd = 0) → 5 - xdd < m2 → xp1 = (xdd : Int) + 2 → ∀ xz, xz = trp h (xg 245) (xj : Int) xdd → WI K mX3_fewestWithCandidate 3 n (qI n fun z h' => Off (fun x => x = 245) h h' ∧ TrEq h (h' 245) 0 ∧ (z = h' 245 0 ∧ 0 ≤ z ∧ z ≤ 192)) 63 [(0, vr 192), (1, vi (kRef (h 246 3))), (2, vi (xj : Int)), (3, vi xz), (4, vi xp1)] [] xg := by
          intro m2
          induction m2 with
          | zero => intro xdd xp1 a b; exact absurd b (by omega)
          | succ m2 ih2 =>
            intro xdd xp1 h2 hm2 hxp xz hxz
            have hzr : 0 ≤ xz ∧ xz ≤ 4 * (h 4 3 - xj) := by
              have h8 := trp_rg (h := h) (t := xg 245) (i := (xj : Int)) (B := 4 * (h 4 3 - xj) - 4) (by omega) (by omega) (fun p a b => by rw [Int.toNat_natCast]; exact (hs xj (by omega) p a b).2) (fun x a b => by have := hb x a b; omega) xdd (by omega) (by omega)
              rw [hxz]; omega
            refine x_iload 65 (xd DX3_fewestWithCandidate rfl) rfl rfl ?_
            refine x_aload_n 66 (xd DX3_fewestWithCandidate rfl) rfl rfl ?_
            refine x_gr 69 _ LX3_9 (xd DX3_fewestWithCandidate rfl) rfl rfl ⟨by decide, by decide⟩ (by decide) rfl rfl ?_
            refine x_iload_n 70 (xd DX3_fewestWithCandidate rfl) rfl rfl ?_
            refine x_iaload 71 (xd DX3_fewestWithCandidate rfl) rfl ⟨Or.inr ⟨rfl, by decide⟩, by decide⟩ (by decide) (by omega) (by omega) rfl ?_
            refine x_icmp_gt 74 116 (xd DX3_fewestWithCandidate rfl) rfl (by first | omega | (rw [e193]; have := hr (xj : Int) (by omega) (by omega); omega)) (by first | omega | (rw [e193]; have := hr (xj : Int) (by omega) (by omega); omega)) rfl (fun c71 => ?_) (fun c71 => ?_)
            · refine x_aload_n 117 (xd DX3_fewestWithCandidate rfl) rfl rfl ?_
              refine x_aload_n 118 (xd DX3_fewestWithCandidate rfl) rfl rfl ?_
              refine x_gr 121 _ LX3_32 (xd DX3_fewestWithCandidate rfl) rfl rfl ⟨by decide, by decide⟩ (by decide) rfl rfl ?_
              refine x_iload_n 122 (xd DX3_fewestWithCandidate rfl) rfl rfl ?_
              refine x_Vi 125 (pX3_matches 246 (xj : Int) xEnt_246 (hC.off hO (by decide) (by decide) (by decide)) hPg (by omega) (by rw [e193]; have := hr (xj : Int) (by omega) (by omega); omega)) FX3_matches VX3_matches CX3_129 (xd DX3_fewestWithCandidate rfl) rfl rfl rfl ⟨by decide, rfl⟩ ⟨by decide, by decide⟩ (by decide) (Nat.le_of_ble_eq_true rfl) (by decide) rfl ?_
              rintro z9 h9 ⟨q1, q2⟩
              rw [q1, q2]
              clear q1 q2 z9 h9
              rw [Mt.off hO (by decide) (by decide) (by decide) (by decide) (by decide) (by decide) (by decide)]
              refine x_ifp_eq 128 149 (xd DX3_fewestWithCandidate rfl) rfl rfl (fun c125 => ?_) (fun c125 => ?_)
              · refine x_aload_n 150 (xd DX3_fewestWithCandidate rfl) rfl rfl ?_
                refine x_gr 153 _ LX3_26 (xd DX3_fewestWithCandidate rfl) rfl rfl ⟨by decide, by decide⟩ (by decide) rfl rfl ?_
                refine x_iload_n 154 (xd DX3_fewestWithCandidate rfl) rfl rfl ?_
                refine x_iload_n 155 (xd DX3_fewestWithCandidate rfl) rfl rfl ?_
                refine x_iastore 156 (xd DX3_fewestWithCandidate rfl) rfl ⟨Or.inr ⟨rfl, by decide⟩, by decide⟩ (by decide) (by omega) (by omega) rfl ?_
                refine x_iinc 159 (L' := [(0, _), (1, _), (2, _), (3, _), (4, _)]) (xd DX3_fewestWithCandidate rfl) rfl (by decide) rfl rfl rfl ?_
                refine x_goto 34 (xd DX3_fewestWithCandidate rfl) rfl ?_
                refine WX.locals (L' := [(0, _), (1, _), (2, _)]) (fun q hq => List.mem_append_left _ hq) ?_
                have hrr := hr (xj : Int) (by omega) (by omega)
                have hzf : ∀ zz, zz = trF h (xg 245) (xj : Int) → WX K mX3_fewestWithCandidate (true, 3, 0, 0) (qI n fun z h' => Off (fun x => x = 245) h h' ∧ TrEq h (h' 245) 0 ∧ (z = h' 245 0 ∧ 0 ≤ z ∧ z ≤ 192)) (n, 0, 0) 34 [(0, vr 192), (1, vi (kRef (h 246 3))), (2, vi ((xj : Int) + -1))] [] (hset xg 245 (xj : Int) zz) := by
                  intro zz hzz
                  refine ih _ _ (by omega) (by omega) (by omega) (hO.tr ocell) (by rw [hset_i (by omega)]; exact hz) (fun j a b => ?_) (fun j a b => ?_)
                  · have hcc : 1 ≤ h 246 2 := by have := hC.1; omega
                    by_cases q : j = (xj : Int)
                    · subst q
                      rw [hset_s, hzz]
                      exact trF_t (fun x q => by rw [hset_i (by omega)]) hcc
                    · rw [hset_i q, ht j (by omega) b]
                      exact trF_t (fun x q => by rw [hset_i (by omega)]) hcc
                  · by_cases q : j = (xj : Int)
                    · subst q
                      rw [hset_s, hzz]
                      have h8 := trp_rg (h := h) (t := xg 245) (i := (xj : Int)) (B := 4 * (h 4 3 - xj) - 4) (by omega) (by omega) (fun p a b => by rw [Int.toNat_natCast]; exact (hs xj (by omega) p a b).2) (fun x a b => by have := hb x a b; omega) (h 193 xj - 1).toNat (by omega) (by have := hrl (xj : Int) (by omega) (by omega); omega)
                      have h7 := kRef_rg (h 246 3)
                      unfold trF
                      by_cases q : Mt h 246 (xj : Int)
                      · rw [pik_t q]
                        have h6 := hb ((xj : Int) + h 246 2) (by have := hC.1; omega) (by have := q.2.2.1; omega)
                        split <;> omega
                      · rw [pik_f q]; omega
                    · rw [hset_i q]; exact hb j (by omega) b
                apply hzf
                unfold trF
                rw [e193] at c71
                rw [show (h 193 (xj : Int) - 1).toNat = xdd by omega]
                first
                  | (rw [pik_t c125, e246, hxz]; done)
                  | (rw [pik_f c125, hxz]; done)
                  | (rw [pik_t c125, ← hxz, e246])
              · refine x_iload_n 129 (xd DX3_fewestWithCandidate rfl) rfl rfl ?_
                refine x_iload_n 130 (xd DX3_fewestWithCandidate rfl) rfl rfl ?_
                refine x_aload_n 131 (xd DX3_fewestWithCandidate rfl) rfl rfl ?_
                refine x_gr 134 _ LX3_26 (xd DX3_fewestWithCandidate rfl) rfl rfl ⟨by decide, by decide⟩ (by decide) rfl rfl ?_
                refine x_iload_n 135 (xd DX3_fewestWithCandidate rfl) rfl rfl ?_
                refine x_aload_n 136 (xd DX3_fewestWithCandidate rfl) rfl rfl ?_
                refine x_gr 139 _ LX3_32 (xd DX3_fewestWithCandidate rfl) rfl rfl ⟨by decide, by decide⟩ (by decide) rfl rfl ?_
                refine x_gi 142 2 rfl LX3_139 (xd DX3_fewestWithCandidate rfl) rfl ⟨Or.inr ⟨rfl, by decide⟩, by decide⟩ rfl ?_
                refine x_iadd 143 (xd DX3_fewestWithCandidate rfl) rfl ?_
                refine x_iaload 144 (xd DX3_fewestWithCandidate rfl) rfl ⟨Or.inr ⟨rfl, by decide⟩, by decide⟩ (by decide) (by have h91 := c125.2.2.1; have h92 := hC.1; rw [e246]; omega) (by have h91 := c125.2.2.1; have h92 := hC.1; rw [e246]; omega) rfl ?_
                refine x_iadd 145 (xd DX3_fewestWithCandidate rfl) rfl ?_
                refine x_min 148 mmLX3_98 mmS mmI mmC (xd DX3_fewestWithCandidate rfl) ⟨by decide, Nat.le_refl _, Nat.le_refl _⟩ (Nat.le_of_ble_eq_true rfl) (by omega) (by rw [e246]; have q1 := hC.1; have q2 := c125.2.2.1; have := hb ((xj : Int) + h 246 2) (by omega) (by omega); omega) rfl ?_
                refine x_istore_n 149 (L' := [(0, _), (1, _), (2, _), (3, _), (4, _)]) (xd DX3_fewestWithCandidate rfl) (by decide) rfl rfl rfl ?_
                refine x_aload_n 150 (xd DX3_fewestWithCandidate rfl) rfl rfl ?_
                refine x_gr 153 _ LX3_26 (xd DX3_fewestWithCandidate rfl) rfl rfl ⟨by decide, by decide⟩ (by decide) rfl rfl ?_
                refine x_iload_n 154 (xd DX3_fewestWithCandidate rfl) rfl rfl ?_
                refine x_iload_n 155 (xd DX3_fewestWithCandidate rfl) rfl rfl ?_
                refine x_iastore 156 (xd DX3_fewestWithCandidate rfl) rfl ⟨Or.inr ⟨rfl, by decide⟩, by decide⟩ (by decide) (by omega) (by omega) rfl ?_
                refine x_iinc 159 (L' := [(0, _), (1, _), (2, _), (3, _), (4, _)]) (xd DX3_fewestWithCandidate rfl) rfl (by decide) rfl rfl rfl ?_
                refine x_goto 34 (xd DX3_fewestWithCandidate rfl) rfl ?_
                refine WX.locals (L' := [(0, _), (1, _), (2, _)]) (fun q hq => List.mem_append_left _ hq) ?_
                have hrr := hr (xj : Int) (by omega) (by omega)
                have hzf : ∀ zz, zz = trF h (xg 245) (xj : Int) → WX K mX3_fewestWithCandidate (true, 3, 0, 0) (qI n fun z h' => Off (fun x => x = 245) h h' ∧ TrEq h (h' 245) 0 ∧ (z = h' 245 0 ∧ 0 ≤ z ∧ z ≤ 192)) (n, 0, 0) 34 [(0, vr 192), (1, vi (kRef (h 246 3))), (2, vi ((xj : Int) + -1))] [] (hset xg 245 (xj : Int) zz) := by
                  intro zz hzz
                  refine ih _ _ (by omega) (by omega) (by omega) (hO.tr ocell) (by rw [hset_i (by omega)]; exact hz) (fun j a b => ?_) (fun j a b => ?_)
                  · have hcc : 1 ≤ h 246 2 := by have := hC.1; omega
                    by_cases q : j = (xj : Int)
                    · subst q
                      rw [hset_s, hzz]
                      exact trF_t (fun x q => by rw [hset_i (by omega)]) hcc
                    · rw [hset_i q, ht j (by omega) b]
                      exact trF_t (fun x q => by rw [hset_i (by omega)]) hcc
                  · by_cases q : j = (xj : Int)
                    · subst q
                      rw [hset_s, hzz]
                      have h8 := trp_rg (h := h) (t := xg 245) (i := (xj : Int)) (B := 4 * (h 4 3 - xj) - 4) (by omega) (by omega) (fun p a b => by rw [Int.toNat_natCast]; exact (hs xj (by omega) p a b).2) (fun x a b => by have := hb x a b; omega) (h 193 xj - 1).toNat (by omega) (by have := hrl (xj : Int) (by omega) (by omega); omega)
                      have h7 := kRef_rg (h 246 3)
                      unfold trF
                      by_cases q : Mt h 246 (xj : Int)
                      · rw [pik_t q]
                        have h6 := hb ((xj : Int) + h 246 2) (by have := hC.1; omega) (by have := q.2.2.1; omega)
                        split <;> omega
                      · rw [pik_f q]; omega
                    · rw [hset_i q]; exact hb j (by omega) b
                apply hzf
                unfold trF
                rw [e193] at c71
                rw [show (h 193 (xj : Int) - 1).toNat = xdd by omega]
                first
                  | (rw [pik_t c125, e246, hxz]; done)
                  | (rw [pik_f c125, hxz]; done)
                  | (rw [pik_t c125, ← hxz, e246])
            · refine x_aload_n 75 (xd DX3_fewestWithCandidate rfl) rfl rfl ?_
              refine x_gr 78 _ LX3_17 (xd DX3_fewestWithCandidate rfl) rfl rfl ⟨by decide, by decide⟩ (by decide) rfl rfl ?_
              refine x_iload_n 79 (xd DX3_fewestWithCandidate rfl) rfl rfl ?_
              refine x_aaload 80 (195 + xj) (xd DX3_fewestWithCandidate rfl) rfl (by decide) ⟨by decide, by decide⟩ (by decide) rfl (by omega) (xRF_194 ⟨xj, hj⟩) (by omega) rfl rfl ?_
              refine x_iload 82 (xd DX3_fewestWithCandidate rfl) rfl rfl ?_
              refine x_iaload 83 (xd DX3_fewestWithCandidate rfl) (xTY_row ⟨xj, hj⟩) ⟨Or.inr ⟨rfl, by show 195 + xj < 259; omega⟩, by omega⟩ (by decide) (by first | omega | (rw [e193] at c71; have := hr (xj : Int) (by omega) (by omega); omega)) (by first | omega | (rw [e193] at c71; have := hr (xj : Int) (by omega) (by omega); omega)) rfl ?_
              refine x_if_le 86 110 (xd DX3_fewestWithCandidate rfl) rfl (by rw [erow]; have := hs xj (by omega) xp1 (by omega) (by rw [e193] at c71; have := hr (xj : Int) (by omega) (by omega); omega); omega) rfl (fun c83 => ?_) (fun c83 => ?_)
              · refine x_iinc 113 (L' := [(0, _), (1, _), (2, _), (3, _), (4, _)]) (xd DX3_fewestWithCandidate rfl) rfl (by decide) rfl rfl rfl ?_
                refine x_goto 63 (xd DX3_fewestWithCandidate rfl) rfl ?_
                rw [e193] at c71
                have hrr := hr (xj : Int) (by omega) (by omega)
                have hxp : xp1 = (xdd : Int) + 2 := hxp
                first
                  | (refine ih2 (xdd + 1) _ (by omega) (by omega) ?_ _ ?_
                     · omega
                     · rw [erow] at c83 ⊢
                       unfold trp
                       rw [Int.toNat_natCast, ← hxp, if_pos c83, hxz])
                  | (refine ih2 (xdd + 1) _ (by omega) (by omega) ?_ _ ?_
                     · omega
                     · rw [erow] at c83
                       unfold trp
                       rw [Int.toNat_natCast, ← hxp, if_neg (by omega), hxz])
              · refine x_iload_n 87 (xd DX3_fewestWithCandidate rfl) rfl rfl ?_
                refine x_aload_n 88 (xd DX3_fewestWithCandidate rfl) rfl rfl ?_
                refine x_gr 91 _ LX3_17 (xd DX3_fewestWithCandidate rfl) rfl rfl ⟨by decide, by decide⟩ (by decide) rfl rfl ?_
                refine x_iload_n 92 (xd DX3_fewestWithCandidate rfl) rfl rfl ?_
                refine x_aaload 93 (195 + xj) (xd DX3_fewestWithCandidate rfl) rfl (by decide) ⟨by decide, by decide⟩ (by decide) rfl (by omega) (xRF_194 ⟨xj, hj⟩) (by omega) rfl rfl ?_
                refine x_iload 95 (xd DX3_fewestWithCandidate rfl) rfl rfl ?_
                refine x_iaload 96 (xd DX3_fewestWithCandidate rfl) (xTY_row ⟨xj, hj⟩) ⟨Or.inr ⟨rfl, by show 195 + xj < 259; omega⟩, by omega⟩ (by decide) (by first | omega | (rw [e193] at c71; have := hr (xj : Int) (by omega) (by omega); omega)) (by first | omega | (rw [e193] at c71; have := hr (xj : Int) (by omega) (by omega); omega)) rfl ?_
                refine x_aload_n 97 (xd DX3_fewestWithCandidate rfl) rfl rfl ?_
                refine x_gr 100 _ LX3_26 (xd DX3_fewestWithCandidate rfl) rfl rfl ⟨by decide, by decide⟩ (by decide) rfl rfl ?_
                refine x_iload_n 101 (xd DX3_fewestWithCandidate rfl) rfl rfl ?_
                refine x_iload 103 (xd DX3_fewestWithCandidate rfl) rfl rfl ?_
                refine x_iadd 104 (xd DX3_fewestWithCandidate rfl) rfl ?_
                refine x_iaload 105 (xd DX3_fewestWithCandidate rfl) rfl ⟨Or.inr ⟨rfl, by decide⟩, by decide⟩ (by decide) (by rw [e193] at c71; have := hr (xj : Int) (by omega) (by omega); omega) (by rw [e193] at c71; have := hr (xj : Int) (by omega) (by omega); omega) rfl ?_
                refine x_iadd 106 (xd DX3_fewestWithCandidate rfl) rfl ?_
                refine x_min 109 mmLX3_98 mmS mmI mmC (xd DX3_fewestWithCandidate rfl) ⟨by decide, Nat.le_refl _, Nat.le_refl _⟩ (Nat.le_of_ble_eq_true rfl) (by omega) (by rw [erow]; rw [e193] at c71; have := hb ((xj : Int) + xp1) (by omega) (by omega); have := hs xj (by omega) xp1 (by omega) (by omega); omega) rfl ?_
                refine x_istore_n 110 (L' := [(0, _), (1, _), (2, _), (3, _), (4, _)]) (xd DX3_fewestWithCandidate rfl) (by decide) rfl rfl rfl ?_
                refine x_iinc 113 (L' := [(0, _), (1, _), (2, _), (3, _), (4, _)]) (xd DX3_fewestWithCandidate rfl) rfl (by decide) rfl rfl rfl ?_
                refine x_goto 63 (xd DX3_fewestWithCandidate rfl) rfl ?_
                rw [e193] at c71
                have hrr := hr (xj : Int) (by omega) (by omega)
                have hxp : xp1 = (xdd : Int) + 2 := hxp
                first
                  | (refine ih2 (xdd + 1) _ (by omega) (by omega) ?_ _ ?_
                     · omega
                     · rw [erow] at c83 ⊢
                       unfold trp
                       rw [Int.toNat_natCast, ← hxp, if_pos c83, hxz])
                  | (refine ih2 (xdd + 1) _ (by omega) (by omega) ?_ _ ?_
                     · omega
                     · rw [erow] at c83
                       unfold trp
                       rw [Int.toNat_natCast, ← hxp, if_neg (by omega), hxz])
        refine x_aload_n 39 (xd DX3_fewestWithCandidate rfl) rfl rfl ?_
        refine x_gr 42 _ LX3_51 (xd DX3_fewestWithCandidate rfl) rfl rfl ⟨by decide, by decide⟩ (by decide) rfl rfl ?_
        refine x_gr 45 _ LX3_88 (xd DX3_fewestWithCandidate rfl) rfl rfl ⟨by decide, by decide⟩ (by decide) rfl rfl ?_
        refine x_iload_n 46 (xd DX3_fewestWithCandidate rfl) rfl rfl ?_
        refine x_iaload 47 (xd DX3_fewestWithCandidate rfl) rfl ⟨Or.inr ⟨rfl, by decide⟩, by decide⟩ (by decide) (by omega) (by omega) rfl ?_
        refine x_Si 50 (pX8_nibblesOf _ (by have := hPg.v (i := (xj : Int)) (by omega) (by omega); omega)) FX8_nibblesOf VX8_nibblesOf CX3_115 (xd DX3_fewestWithCandidate rfl) rfl rfl (by decide) (Nat.le_of_ble_eq_true rfl) (by decide) rfl ?_
        rintro z9 h9 ⟨q1, q2⟩
        rw [q1, q2]
        clear q1 q2 z9 h9
        refine x_aload_n 51 (xd DX3_fewestWithCandidate rfl) rfl rfl ?_
        refine x_gr 54 _ LX3_26 (xd DX3_fewestWithCandidate rfl) rfl rfl ⟨by decide, by decide⟩ (by decide) rfl rfl ?_
        refine x_iload_n 55 (xd DX3_fewestWithCandidate rfl) rfl rfl ?_
        refine x_iconst 56 (xd DX3_fewestWithCandidate rfl) rfl ?_
        refine x_iadd 57 (xd DX3_fewestWithCandidate rfl) rfl ?_
        refine x_iaload 58 (xd DX3_fewestWithCandidate rfl) rfl ⟨Or.inr ⟨rfl, by decide⟩, by decide⟩ (by decide) (by omega) (by omega) rfl ?_
        refine x_iadd 59 (xd DX3_fewestWithCandidate rfl) rfl ?_
        refine x_istore_n 60 (L' := [(0, _), (1, _), (2, _), (3, _)]) (xd DX3_fewestWithCandidate rfl) (by decide) rfl rfl rfl ?_
        refine x_iconst 61 (xd DX3_fewestWithCandidate rfl) rfl ?_
        refine x_istore 63 (L' := [(0, _), (1, _), (2, _), (3, _), (4, _)]) (xd DX3_fewestWithCandidate rfl) (by decide) rfl rfl rfl ?_
        exact loop2 100 0 2 (Or.inr rfl) (by omega) rfl _ (by unfold trp; rw [← hO 5 (by decide)])
  refine x_aload_n 1 (xd DX3_fewestWithCandidate rfl) rfl rfl ?_
  refine x_gr 4 _ LX3_32 (xd DX3_fewestWithCandidate rfl) rfl rfl ⟨by decide, by decide⟩ (by decide) rfl rfl ?_
  refine x_gi 7 3 rfl LX3_133 (xd DX3_fewestWithCandidate rfl) rfl ⟨Or.inr ⟨rfl, by decide⟩, by decide⟩ rfl ?_
  refine x_Si 10 (pX8_referenceNibbles _ (by have := hC.1; have := hC.2.1; omega)) FX8_referenceNibbles VX8_referenceNibbles CX3_136 (xd DX3_fewestWithCandidate rfl) rfl rfl (by decide) (Nat.le_of_ble_eq_true rfl) (by decide) rfl ?_
  rintro z9 h9 ⟨q1, q2⟩
  rw [q1, q2]
  clear q1 q2 z9 h9
  refine x_istore_n 11 (L' := [(0, _), (1, _)]) (xd DX3_fewestWithCandidate rfl) (by decide) rfl rfl rfl ?_
  refine x_aload_n 12 (xd DX3_fewestWithCandidate rfl) rfl rfl ?_
  refine x_gr 15 _ LX3_26 (xd DX3_fewestWithCandidate rfl) rfl rfl ⟨by decide, by decide⟩ (by decide) rfl rfl ?_
  refine x_aload_n 16 (xd DX3_fewestWithCandidate rfl) rfl rfl ?_
  refine x_gr 19 _ LX3_51 (xd DX3_fewestWithCandidate rfl) rfl rfl ⟨by decide, by decide⟩ (by decide) rfl rfl ?_
  refine x_gi 22 3 rfl LX3_68 (xd DX3_fewestWithCandidate rfl) rfl ⟨Or.inr ⟨rfl, by decide⟩, by decide⟩ rfl ?_
  refine x_iconst 23 (xd DX3_fewestWithCandidate rfl) rfl ?_
  refine x_iastore 24 (xd DX3_fewestWithCandidate rfl) rfl ⟨Or.inr ⟨rfl, by decide⟩, by decide⟩ (by decide) (by omega) (by omega) rfl ?_
  refine x_aload_n 25 (xd DX3_fewestWithCandidate rfl) rfl rfl ?_
  refine x_gr 28 _ LX3_51 (xd DX3_fewestWithCandidate rfl) rfl rfl ⟨by decide, by decide⟩ (by decide) rfl rfl ?_
  refine x_gi 31 3 rfl LX3_68 (xd DX3_fewestWithCandidate rfl) rfl ⟨Or.inr ⟨rfl, by decide⟩, by decide⟩ rfl ?_
  refine x_iconst 32 (xd DX3_fewestWithCandidate rfl) rfl ?_
  refine x_isub 33 (xd DX3_fewestWithCandidate rfl) rfl ?_
  refine x_istore_n 34 (L' := [(0, _), (1, _), (2, _)]) (xd DX3_fewestWithCandidate rfl) (by decide) rfl rfl rfl ?_
  have z4 : hset h 245 (h 4 3) 0 4 = h 4 := hset_c (by decide)
  rw [z4]
  exact loop 100 _ _ (by omega) (by omega) (by omega) ocell hset_s (fun j a b => absurd b (by omega)) (fun j a b => by rw [show j = h 4 3 by omega, hset_s]; omega)

