/-! Layout.placeAll -/
/-- ahead of an instruction: the entry that it may be in, which one of it, how many are left of it, the nibbles so far -/
def csN (h : XH) : Nat → Int × Int × Int × Int
  | 0 => (-4, 0, 0, 0)
  | i + 1 => if (csN h i).2.2.1 = 0 then (if h 244 i < 0 then (h 244 i, 1, 0, (csN h i).2.2.2 + kOwn (h 5 i)) else (h 244 i, 1, h (10 + 3 * (h 244 i).toNat) 2 - 1, (csN h i).2.2.2 + kRef (h (10 + 3 * (h 244 i).toNat) 3))) else ((csN h i).1, (csN h i).2.1 + 1, (csN h i).2.2.1 - 1, (csN h i).2.2.2)
theorem csN_s (h : XH) (i : Nat) : csN h (i + 1) = if (csN h i).2.2.1 = 0 then (if h 244 i < 0 then (h 244 i, 1, 0, (csN h i).2.2.2 + kOwn (h 5 i)) else (h 244 i, 1, h (10 + 3 * (h 244 i).toNat) 2 - 1, (csN h i).2.2.2 + kRef (h (10 + 3 * (h 244 i).toNat) 3))) else ((csN h i).1, (csN h i).2.1 + 1, (csN h i).2.2.1 - 1, (csN h i).2.2.2) := rfl
def PK (h : XH) : Prop := ∀ i, 0 ≤ i → i < h 4 3 → h 244 i = -4 ∨ (0 ≤ h 244 i ∧ h 244 i < h 8 1)
def PF (h g : XH) (j : Nat) : Prop := g 249 j = (csN h (j + 1)).1 ∧ g 250 j = (if (csN h (j + 1)).1 < 0 then -4 else (csN h (j + 1)).2.1 - 1) ∧ g 251 j = (if (csN h j).2.2.1 = 0 then (csN h j).2.2.2 else -4) ∧ g 252 j = (csN h (j + 1)).2.2.2
def SPA (c : Nat) : Prop := c = 192 ∨ (249 ≤ c ∧ c ≤ 252)
theorem csN_rg {h : XH} (hP : PW h) (hS : SW h 8) (hK : PK h) : ∀ i : Nat, (i : Int) ≤ h 4 3 → ((csN h i).1 = -4 ∨ (0 ≤ (csN h i).1 ∧ (csN h i).1 < h 8 1)) ∧ (0 ≤ (csN h i).2.1 ∧ (csN h i).2.1 ≤ i) ∧ (0 ≤ (csN h i).2.2.1 ∧ (csN h i).2.2.1 ≤ 3) ∧ (0 ≤ (csN h i).2.2.2 ∧ (csN h i).2.2.2 ≤ 4 * i)
  | 0, _ => by simp [csN]
  | i + 1, hi => by
    obtain ⟨a, b, c, d⟩ := csN_rg hP hS hK i (by omega)
    have hk := hK i (by omega) (by omega)
    have ho := kOwn_rg (h 5 i)
    have hr := kRef_rg (h (10 + 3 * (h 244 i).toNat) 3)
    unfold csN
    by_cases q : (csN h i).2.2.1 = 0
    · rw [if_pos q]
      by_cases q2 : h 244 i < 0
      · rw [if_pos q2]
        exact ⟨Or.inl (by show h 244 i = -4; omega), by show (0:Int) ≤ 1 ∧ 1 ≤ ((i + 1 : Nat) : Int); omega, by show (0:Int) ≤ 0 ∧ (0:Int) ≤ 3; omega, by show 0 ≤ (csN h i).2.2.2 + kOwn (h 5 i) ∧ (csN h i).2.2.2 + kOwn (h 5 i) ≤ 4 * ((i + 1 : Nat) : Int); omega⟩
      · rw [if_neg q2]
        have hw := (hS.2.2.2 (h 244 i).toNat (by omega)).1
        have e1 : 8 + 2 + 3 * (h 244 i).toNat = 10 + 3 * (h 244 i).toNat := by omega
        rw [e1] at hw
        exact ⟨Or.inr (by show 0 ≤ h 244 i ∧ h 244 i < h 8 1; omega), by show (0:Int) ≤ 1 ∧ 1 ≤ ((i + 1 : Nat) : Int); omega, by show 0 ≤ h (10 + 3 * (h 244 i).toNat) 2 - 1 ∧ h (10 + 3 * (h 244 i).toNat) 2 - 1 ≤ 3; omega, by show 0 ≤ (csN h i).2.2.2 + kRef (h (10 + 3 * (h 244 i).toNat) 3) ∧ (csN h i).2.2.2 + kRef (h (10 + 3 * (h 244 i).toNat) 3) ≤ 4 * ((i + 1 : Nat) : Int); omega⟩
    · rw [if_neg q]
      exact ⟨a, by show 0 ≤ (csN h i).2.1 + 1 ∧ (csN h i).2.1 + 1 ≤ ((i + 1 : Nat) : Int); omega, by show 0 ≤ (csN h i).2.2.1 - 1 ∧ (csN h i).2.2.1 - 1 ≤ 3; omega, by show 0 ≤ (csN h i).2.2.2 ∧ (csN h i).2.2.2 ≤ 4 * ((i + 1 : Nat) : Int); omega⟩
theorem PF.keep {h g g' : XH} {j : Nat} (hp : PF h g j) (h1 : g' 249 j = g 249 j) (h2 : g' 250 j = g 250 j) (h3 : g' 251 j = g 251 j) (h4 : g' 252 j = g 252 j) : PF h g' j := by
  unfold PF
  rw [h1, h2, h3, h4]
  exact hp
set_option maxRecDepth 100000 in
set_option maxHeartbeats 4000000 in
theorem pX3_placeAll {K : XK} {n : Nat} {h : XH} (hP : PW h) (hS : SW h 8) (hK : PK h) : MV K mX3_placeAll 2 n [vr 192] h (fun h' => Off SPA h h' ∧ (∀ j, j ≠ 13 → h' 192 j = h 192 j) ∧ h' 192 13 = (csN h (h 4 3).toNat).2.2.2 ∧ ∀ j : Nat, (j : Int) < h 4 3 → PF h h' j) := by
  refine xMeth FX3_placeAll (Nat.le_of_ble_eq_true rfl) ?_
  have hP1 := hP.1
  have hS1 := hS.1
  have loop : ∀ (m : Nat) (xi : Nat) (ow pl lf : Int) (xg : XH), (xi : Int) ≤ h 4 3 → h 4 3 - xi < (m : Int) → Off SPA h xg → (∀ j, j ≠ 13 → xg 192 j = h 192 j) → xg 192 13 = (csN h xi).2.2.2 → (∀ j : Nat, j < xi → PF h xg j) → ow = (csN h xi).1 → pl = (csN h xi).2.1 → lf = (csN h xi).2.2.1 → WI K mX3_placeAll 2 n (qV n fun h' => Off SPA h h' ∧ (∀ j, j ≠ 13 → h' 192 j = h 192 j) ∧ h' 192 13 = (csN h (h 4 3).toNat).2.2.2 ∧ ∀ j : Nat, (j : Int) < h 4 3 → PF h h' j) 15 [(0, vr 192), (1, vi ow), (2, vi pl), (3, vi lf), (4, vi (xi : Int))] [] xg := by
    intro m
    induction m with
    | zero => intro xi ow pl lf xg a b; exact absurd b (by omega)
    | succ m ih =>
      intro xi ow pl lf xg h0 hm hO h192 hL hpf q1 q2 q3
      obtain ⟨r1, r2, r3, r4⟩ := csN_rg hP hS hK xi h0
      have hk := fun q => hK (xi : Int) (by omega) q
      have e4 : xg 4 3 = h 4 3 := by rw [hO 4 (by unfold SPA; omega)]
      have e5 : xg 5 = h 5 := hO 5 (by unfold SPA; omega)
      have e244 : xg 244 = h 244 := hO 244 (by unfold SPA; omega)
      have j152 : xi < h 4 3 → ∀ (ow pl lf : Int) (xq : XH), Off SPA h xq → (∀ j, j ≠ 13 → xq 192 j = h 192 j) → xq 192 13 = (csN h (xi + 1)).2.2.2 → xq 251 xi = (if (csN h xi).2.2.1 = 0 then (csN h xi).2.2.2 else -4) → (∀ j : Nat, j < xi → PF h xq j) → ow = (csN h (xi + 1)).1 → pl + 1 = (csN h (xi + 1)).2.1 → lf - 1 = (csN h (xi + 1)).2.2.1 → WI K mX3_placeAll 2 n (qV n fun h' => Off SPA h h' ∧ (∀ j, j ≠ 13 → h' 192 j = h 192 j) ∧ h' 192 13 = (csN h (h 4 3).toNat).2.2.2 ∧ ∀ j : Nat, (j : Int) < h 4 3 → PF h h' j) 152 [(0, vr 192), (1, vi ow), (2, vi pl), (3, vi lf), (4, vi (xi : Int))] [] xq := by
        intro hlt ow pl lf xq hO2 h192b hL2 hA2 hpf2 q1 q2 q3
        obtain ⟨r1, r2, r3, r4⟩ := csN_rg hP hS hK (xi + 1) (by omega)
        refine x_aload_n 153 (xd DX3_placeAll rfl) rfl rfl ?_
        refine x_gr 156 _ LX3_36 (xd DX3_placeAll rfl) rfl rfl ⟨by decide, by decide⟩ (by decide) rfl rfl ?_
        refine x_iload 158 (xd DX3_placeAll rfl) rfl rfl ?_
        refine x_iload_n 159 (xd DX3_placeAll rfl) rfl rfl ?_
        refine x_iastore 160 (xd DX3_placeAll rfl) rfl ⟨Or.inr ⟨rfl, by decide⟩, by decide⟩ (by decide) (by omega) (by omega) rfl ?_
        refine x_aload_n 161 (xd DX3_placeAll rfl) rfl rfl ?_
        refine x_gr 164 _ LX3_39 (xd DX3_placeAll rfl) rfl rfl ⟨by decide, by decide⟩ (by decide) rfl rfl ?_
        refine x_iload 166 (xd DX3_placeAll rfl) rfl rfl ?_
        refine x_iload_n 167 (xd DX3_placeAll rfl) rfl rfl ?_
        refine x_if_ge 170 175 (xd DX3_placeAll rfl) rfl (by omega) rfl (fun c167 => ?_) (fun c167 => ?_)
        · refine x_iload_n 176 (xd DX3_placeAll rfl) rfl rfl ?_
          refine x_iastore 177 (xd DX3_placeAll rfl) rfl ⟨Or.inr ⟨rfl, by decide⟩, by decide⟩ (by decide) (by omega) (by omega) rfl ?_
          refine x_aload_n 178 (xd DX3_placeAll rfl) rfl rfl ?_
          refine x_gr 181 _ LX3_45 (xd DX3_placeAll rfl) rfl rfl ⟨by decide, by decide⟩ (by decide) rfl rfl ?_
          refine x_iload 183 (xd DX3_placeAll rfl) rfl rfl ?_
          refine x_aload_n 184 (xd DX3_placeAll rfl) rfl rfl ?_
          refine x_gi 187 13 rfl LX3_142 (xd DX3_placeAll rfl) rfl ⟨Or.inr ⟨rfl, by decide⟩, by decide⟩ rfl ?_
          refine x_iastore 188 (xd DX3_placeAll rfl) rfl ⟨Or.inr ⟨rfl, by decide⟩, by decide⟩ (by decide) (by omega) (by omega) rfl ?_
          refine x_iinc 191 (L' := [(0, _), (1, _), (2, _), (3, _), (4, _)]) (xd DX3_placeAll rfl) rfl (by decide) rfl rfl rfl ?_
          refine x_iinc 194 (L' := [(0, _), (1, _), (2, _), (3, _), (4, _)]) (xd DX3_placeAll rfl) rfl (by decide) rfl rfl rfl ?_
          refine x_iinc 197 (L' := [(0, _), (1, _), (2, _), (3, _), (4, _)]) (xd DX3_placeAll rfl) rfl (by decide) rfl rfl rfl ?_
          refine x_goto 15 (xd DX3_placeAll rfl) rfl ?_
          refine ih (xi + 1) _ _ _ _ (by omega) (by omega) ?_ ?_ ?_ ?_ q1 q2 q3
          · exact ((hO2.tr (Off.set (by unfold SPA; omega))).tr (Off.set (by unfold SPA; omega))).tr (Off.set (by unfold SPA; omega))
          · intro j a
            rw [hset_c (by decide), hset_c (by decide), hset_c (by decide)]
            exact h192b j a
          · rw [hset_c (by decide), hset_c (by decide), hset_c (by decide)]
            exact hL2
          · intro j a
            by_cases q : j = xi
            · subst q
              refine ⟨?_, ?_, ?_, ?_⟩
              · rw [hset_c (by decide), hset_c (by decide), hset_s]; exact q1
              · rw [hset_c (by decide), hset_s, ← q1, ← q2]; first | rw [if_pos c167] | (rw [if_neg (by omega)]; omega)
              · rw [hset_c (by decide), hset_c (by decide), hset_c (by decide)]; exact hA2
              · rw [hset_s, hset_c (by decide), hset_c (by decide)]; exact hL2
            · exact (hpf2 j (by omega)).keep (by rw [hset_c (by decide), hset_c (by decide), hset_i (by omega)]) (by rw [hset_c (by decide), hset_i (by omega), hset_c (by decide)]) (by rw [hset_c (by decide), hset_c (by decide), hset_c (by decide)]) (by rw [hset_i (by omega), hset_c (by decide), hset_c (by decide)])
        · refine x_bipush 172 (xd DX3_placeAll rfl) rfl rfl ?_
          refine x_goto 176 (xd DX3_placeAll rfl) rfl ?_
          refine x_iastore 177 (xd DX3_placeAll rfl) rfl ⟨Or.inr ⟨rfl, by decide⟩, by decide⟩ (by decide) (by omega) (by omega) rfl ?_
          refine x_aload_n 178 (xd DX3_placeAll rfl) rfl rfl ?_
          refine x_gr 181 _ LX3_45 (xd DX3_placeAll rfl) rfl rfl ⟨by decide, by decide⟩ (by decide) rfl rfl ?_
          refine x_iload 183 (xd DX3_placeAll rfl) rfl rfl ?_
          refine x_aload_n 184 (xd DX3_placeAll rfl) rfl rfl ?_
          refine x_gi 187 13 rfl LX3_142 (xd DX3_placeAll rfl) rfl ⟨Or.inr ⟨rfl, by decide⟩, by decide⟩ rfl ?_
          refine x_iastore 188 (xd DX3_placeAll rfl) rfl ⟨Or.inr ⟨rfl, by decide⟩, by decide⟩ (by decide) (by omega) (by omega) rfl ?_
          refine x_iinc 191 (L' := [(0, _), (1, _), (2, _), (3, _), (4, _)]) (xd DX3_placeAll rfl) rfl (by decide) rfl rfl rfl ?_
          refine x_iinc 194 (L' := [(0, _), (1, _), (2, _), (3, _), (4, _)]) (xd DX3_placeAll rfl) rfl (by decide) rfl rfl rfl ?_
          refine x_iinc 197 (L' := [(0, _), (1, _), (2, _), (3, _), (4, _)]) (xd DX3_placeAll rfl) rfl (by decide) rfl rfl rfl ?_
          refine x_goto 15 (xd DX3_placeAll rfl) rfl ?_
          refine ih (xi + 1) _ _ _ _ (by omega) (by omega) ?_ ?_ ?_ ?_ q1 q2 q3
          · exact ((hO2.tr (Off.set (by unfold SPA; omega))).tr (Off.set (by unfold SPA; omega))).tr (Off.set (by unfold SPA; omega))
          · intro j a
            rw [hset_c (by decide), hset_c (by decide), hset_c (by decide)]
            exact h192b j a
          · rw [hset_c (by decide), hset_c (by decide), hset_c (by decide)]
            exact hL2
          · intro j a
            by_cases q : j = xi
            · subst q
              refine ⟨?_, ?_, ?_, ?_⟩
              · rw [hset_c (by decide), hset_c (by decide), hset_s]; exact q1
              · rw [hset_c (by decide), hset_s, ← q1, ← q2]; first | rw [if_pos c167] | (rw [if_neg (by omega)]; omega)
              · rw [hset_c (by decide), hset_c (by decide), hset_c (by decide)]; exact hA2
              · rw [hset_s, hset_c (by decide), hset_c (by decide)]; exact hL2
            · exact (hpf2 j (by omega)).keep (by rw [hset_c (by decide), hset_c (by decide), hset_i (by omega)]) (by rw [hset_c (by decide), hset_i (by omega), hset_c (by decide)]) (by rw [hset_c (by decide), hset_c (by decide), hset_c (by decide)]) (by rw [hset_i (by omega), hset_c (by decide), hset_c (by decide)])
      refine x_iload 17 (xd DX3_placeAll rfl) rfl rfl ?_
      refine x_aload_n 18 (xd DX3_placeAll rfl) rfl rfl ?_
      refine x_gr 21 _ LX3_51 (xd DX3_placeAll rfl) rfl rfl ⟨by decide, by decide⟩ (by decide) rfl rfl ?_
      refine x_gi 24 3 rfl LX3_68 (xd DX3_placeAll rfl) rfl ⟨Or.inr ⟨rfl, by decide⟩, by decide⟩ rfl ?_
      refine x_icmp_ge 27 200 (xd DX3_placeAll rfl) rfl (by omega) (by omega) rfl (fun c24 => ?_) (fun c24 => ?_)
      · refine x_rv (xd DX3_placeAll rfl) rfl ?_
        have e9 : (h 4 3).toNat = xi := by omega
        exact ⟨hO, h192, by rw [e9]; exact hL, fun j a => hpf j (by omega)⟩
      · refine x_iload_n 28 (xd DX3_placeAll rfl) rfl rfl ?_
        refine x_if_ne 31 35 (xd DX3_placeAll rfl) rfl (by omega) rfl (fun c28 => ?_) (fun c28 => ?_)
        · have hz : ¬ (csN h xi).2.2.1 = 0 := by rw [← q3]; exact c28
          refine x_iconst 36 (xd DX3_placeAll rfl) rfl ?_
          refine x_istore 38 (L' := [(0, _), (1, _), (2, _), (3, _), (4, _), (5, _)]) (xd DX3_placeAll rfl) (by decide) rfl rfl rfl ?_
          refine x_aload_n 39 (xd DX3_placeAll rfl) rfl rfl ?_
          refine x_gr 42 _ LX3_42 (xd DX3_placeAll rfl) rfl rfl ⟨by decide, by decide⟩ (by decide) rfl rfl ?_
          refine x_iload 44 (xd DX3_placeAll rfl) rfl rfl ?_
          refine x_iload 46 (xd DX3_placeAll rfl) rfl rfl ?_
          refine x_if_eq 49 56 (xd DX3_placeAll rfl) rfl (by omega) rfl (fun _ => ?_) (fun c46 => absurd c46 (by decide))
          refine x_bipush 58 (xd DX3_placeAll rfl) rfl rfl ?_
          (try rw [hL])
          refine x_iastore 59 (xd DX3_placeAll rfl) rfl ⟨Or.inr ⟨rfl, by decide⟩, by decide⟩ (by decide) (by omega) (by omega) rfl ?_
          refine x_iload 61 (xd DX3_placeAll rfl) rfl rfl ?_
          refine x_if_eq 64 152 (xd DX3_placeAll rfl) rfl (by omega) rfl (fun _ => ?_) (fun c61 => absurd c61 (by decide))
          refine WX.locals (L' := [(0, _), (1, _), (2, _), (3, _), (4, _)]) (fun q hq => List.mem_append_left _ hq) ?_
          refine j152 (by omega) _ _ _ _ ?_ ?_ ?_ ?_ ?_ ?_ ?_ ?_
          all_goals first | exact (hO.tr (Off.set (by unfold SPA; omega))).tr (Off.set (by unfold SPA; omega)) | exact hO.tr (Off.set (by unfold SPA; omega)) | skip
          · intro j a
            first | (rw [hset_i (by omega), hset_c (by decide)]; exact h192 j a) | (rw [hset_c (by decide)]; exact h192 j a)
          · rw [csN_s]
            first | (rw [hset_s, if_pos hz, if_pos (by omega)]) | (rw [hset_s, if_pos hz, if_neg (by omega), he]; try rfl) | (rw [hset_c (by decide), if_neg hz]; exact hL)
          · first | (rw [hset_c (by decide), hset_s, if_pos hz]) | (rw [hset_s, if_neg hz])
          · intro j a
            first | exact (hpf j a).keep (by rw [hset_c (by decide), hset_c (by decide)]) (by rw [hset_c (by decide), hset_c (by decide)]) (by rw [hset_c (by decide), hset_i (by omega)]) (by rw [hset_c (by decide), hset_c (by decide)]) | exact (hpf j a).keep (by rw [hset_c (by decide)]) (by rw [hset_c (by decide)]) (by rw [hset_i (by omega)]) (by rw [hset_c (by decide)])
          all_goals rw [csN_s]
          · first | rw [if_pos hz, if_pos (by omega)] | (rw [if_pos hz, if_neg (by omega), he]) | (rw [if_neg hz]; exact q1)
          · first | (rw [if_pos hz, if_pos (by omega)]; try rfl) | (rw [if_pos hz, if_neg (by omega)]; try rfl) | (rw [if_neg hz, q2])
          · first | (rw [if_pos hz, if_pos (by omega)]; try rfl) | (rw [if_pos hz, if_neg (by omega), he]; try rfl) | (rw [if_neg hz, q3])
        · have hz : (csN h xi).2.2.1 = 0 := by rw [← q3]; exact c28
          refine x_iconst 32 (xd DX3_placeAll rfl) rfl ?_
          refine x_goto 36 (xd DX3_placeAll rfl) rfl ?_
          refine x_istore 38 (L' := [(0, _), (1, _), (2, _), (3, _), (4, _), (5, _)]) (xd DX3_placeAll rfl) (by decide) rfl rfl rfl ?_
          refine x_aload_n 39 (xd DX3_placeAll rfl) rfl rfl ?_
          refine x_gr 42 _ LX3_42 (xd DX3_placeAll rfl) rfl rfl ⟨by decide, by decide⟩ (by decide) rfl rfl ?_
          refine x_iload 44 (xd DX3_placeAll rfl) rfl rfl ?_
          refine x_iload 46 (xd DX3_placeAll rfl) rfl rfl ?_
          refine x_if_eq 49 56 (xd DX3_placeAll rfl) rfl (by omega) rfl (fun c46 => absurd c46 (by decide)) (fun _ => ?_)
          refine x_aload_n 50 (xd DX3_placeAll rfl) rfl rfl ?_
          refine x_gi 53 13 rfl LX3_142 (xd DX3_placeAll rfl) rfl ⟨Or.inr ⟨rfl, by decide⟩, by decide⟩ rfl ?_
          refine x_goto 58 (xd DX3_placeAll rfl) rfl ?_
          (try rw [hL])
          refine x_iastore 59 (xd DX3_placeAll rfl) rfl ⟨Or.inr ⟨rfl, by decide⟩, by decide⟩ (by decide) (by omega) (by omega) rfl ?_
          refine x_iload 61 (xd DX3_placeAll rfl) rfl rfl ?_
          refine x_if_eq 64 152 (xd DX3_placeAll rfl) rfl (by omega) rfl (fun c61 => absurd c61 (by decide)) (fun _ => ?_)
          refine x_aload_n 65 (xd DX3_placeAll rfl) rfl rfl ?_
          refine x_gr 68 _ LX3_23 (xd DX3_placeAll rfl) rfl rfl ⟨by decide, by decide⟩ (by decide) rfl rfl ?_
          refine x_iload 70 (xd DX3_placeAll rfl) rfl rfl ?_
          refine x_iaload 71 (xd DX3_placeAll rfl) rfl ⟨Or.inr ⟨rfl, by decide⟩, by decide⟩ (by decide) (by omega) (by omega) rfl ?_
          rw [hset_c (d := 244) (c := 251) (by decide), e244]
          refine x_istore_n 72 (L' := [(0, _), (1, _), (2, _), (3, _), (4, _), (5, _)]) (xd DX3_placeAll rfl) (by decide) rfl rfl rfl ?_
          refine x_iconst 73 (xd DX3_placeAll rfl) rfl ?_
          refine x_istore_n 74 (L' := [(0, _), (1, _), (2, _), (3, _), (4, _), (5, _)]) (xd DX3_placeAll rfl) (by decide) rfl rfl rfl ?_
          refine x_iload_n 75 (xd DX3_placeAll rfl) rfl rfl ?_
          refine x_if_ge 78 82 (xd DX3_placeAll rfl) rfl (by omega) rfl (fun c75 => ?_) (fun c75 => ?_)
          · obtain ⟨xe, he⟩ := Int.eq_ofNat_of_zero_le c75
            have hxe : xe < 8 := by omega
            have hC : xg (10 + 3 * xe) = h (10 + 3 * xe) := hO _ (by unfold SPA; omega)
            rw [he]
            refine x_iconst 83 (xd DX3_placeAll rfl) rfl ?_
            refine x_istore 85 (L' := [(0, _), (1, _), (2, _), (3, _), (4, _), (5, _), (6, _)]) (xd DX3_placeAll rfl) (by decide) rfl rfl rfl ?_
            refine x_iload 87 (xd DX3_placeAll rfl) rfl rfl ?_
            refine x_if_eq 90 94 (xd DX3_placeAll rfl) rfl (by omega) rfl (fun _ => ?_) (fun c87 => absurd c87 (by decide))
            refine x_aload_n 95 (xd DX3_placeAll rfl) rfl rfl ?_
            refine x_gr 98 _ LX3_55 (xd DX3_placeAll rfl) rfl rfl ⟨by decide, by decide⟩ (by decide) rfl rfl ?_
            refine x_gr 101 _ LX3_125 (xd DX3_placeAll rfl) rfl rfl ⟨by decide, by decide⟩ (by decide) rfl rfl ?_
            refine x_iload_n 102 (xd DX3_placeAll rfl) rfl rfl ?_
            refine x_aaload 103 (10 + 3 * xe) (xd DX3_placeAll rfl) rfl (by decide) ⟨by decide, by decide⟩ (by decide) rfl (by omega) (xRF_9 ⟨xe, hxe⟩) (by omega) rfl rfl ?_
            refine x_gi 106 2 rfl LX3_139 (xd DX3_placeAll rfl) (xEnt_10 ⟨xe, hxe⟩).1 ⟨Or.inr ⟨rfl, by show 10 + 3 * xe < 259; omega⟩, by omega⟩ rfl ?_
            (try rw [hset_c (d := 10 + 3 * xe) (c := 251) (by omega), hC])
            refine x_istore_n 107 (L' := [(0, _), (1, _), (2, _), (3, _), (4, _), (5, _), (6, _)]) (xd DX3_placeAll rfl) (by decide) rfl rfl rfl ?_
            refine x_aload_n 108 (xd DX3_placeAll rfl) rfl rfl ?_
            refine x_dupr 109 (xd DX3_placeAll rfl) rfl ?_
            refine x_gi 112 13 rfl LX3_142 (xd DX3_placeAll rfl) rfl ⟨Or.inr ⟨rfl, by decide⟩, by decide⟩ rfl ?_
            rw [hset_c (d := 192) (c := 251) (by decide), hL]
            refine x_iload 114 (xd DX3_placeAll rfl) rfl rfl ?_
            refine x_if_eq 117 133 (xd DX3_placeAll rfl) rfl (by omega) rfl (fun _ => ?_) (fun c114 => absurd c114 (by decide))
            refine x_aload_n 134 (xd DX3_placeAll rfl) rfl rfl ?_
            refine x_gr 137 _ LX3_55 (xd DX3_placeAll rfl) rfl rfl ⟨by decide, by decide⟩ (by decide) rfl rfl ?_
            refine x_gr 140 _ LX3_125 (xd DX3_placeAll rfl) rfl rfl ⟨by decide, by decide⟩ (by decide) rfl rfl ?_
            refine x_iload_n 141 (xd DX3_placeAll rfl) rfl rfl ?_
            refine x_aaload 142 (10 + 3 * xe) (xd DX3_placeAll rfl) rfl (by decide) ⟨by decide, by decide⟩ (by decide) rfl (by omega) (xRF_9 ⟨xe, hxe⟩) (by omega) rfl rfl ?_
            refine x_gi 145 3 rfl LX3_133 (xd DX3_placeAll rfl) (xEnt_10 ⟨xe, hxe⟩).1 ⟨Or.inr ⟨rfl, by show 10 + 3 * xe < 259; omega⟩, by omega⟩ rfl ?_
            rw [hset_c (d := 10 + 3 * xe) (c := 251) (by omega), hC]
            refine x_Si 148 (pX8_referenceNibbles _ (by have := (hS.2.2.2 xe (by omega)).2.1; have e1 : 8 + 2 + 3 * xe = 10 + 3 * xe := (by omega); rw [e1] at this; have h7 := (hS.2.2.2 xe (by omega)).1; rw [e1] at h7; omega)) FX8_referenceNibbles VX8_referenceNibbles CX3_136 (xd DX3_placeAll rfl) rfl rfl (by decide) (Nat.le_of_ble_eq_true rfl) (by decide) rfl ?_
            rintro z9 h9 ⟨q1, q2⟩
            rw [q1, q2]
            clear q1 q2 z9 h9
            refine x_iadd 149 (xd DX3_placeAll rfl) rfl ?_
            refine x_pi 152 13 rfl LX3_142 (xd DX3_placeAll rfl) rfl rfl ⟨Or.inr ⟨rfl, by decide⟩, by decide⟩ rfl ?_
            refine WX.locals (L' := [(0, _), (1, _), (2, _), (3, _), (4, _)]) (fun q hq => List.mem_append_left _ hq) ?_
            refine j152 (by omega) _ _ _ _ ?_ ?_ ?_ ?_ ?_ ?_ ?_ ?_
            all_goals first | exact (hO.tr (Off.set (by unfold SPA; omega))).tr (Off.set (by unfold SPA; omega)) | exact hO.tr (Off.set (by unfold SPA; omega)) | skip
            · intro j a
              first | (rw [hset_i (by omega), hset_c (by decide)]; exact h192 j a) | (rw [hset_c (by decide)]; exact h192 j a)
            · rw [csN_s]
              first | (rw [hset_s, if_pos hz, if_pos (by omega)]) | (rw [hset_s, if_pos hz, if_neg (by omega), he]; try rfl) | (rw [hset_c (by decide), if_neg hz]; exact hL)
            · first | (rw [hset_c (by decide), hset_s, if_pos hz]) | (rw [hset_s, if_neg hz])
            · intro j a
              first | exact (hpf j a).keep (by rw [hset_c (by decide), hset_c (by decide)]) (by rw [hset_c (by decide), hset_c (by decide)]) (by rw [hset_c (by decide), hset_i (by omega)]) (by rw [hset_c (by decide), hset_c (by decide)]) | exact (hpf j a).keep (by rw [hset_c (by decide)]) (by rw [hset_c (by decide)]) (by rw [hset_i (by omega)]) (by rw [hset_c (by decide)])
            all_goals rw [csN_s]
            · first | rw [if_pos hz, if_pos (by omega)] | (rw [if_pos hz, if_neg (by omega), he]) | (rw [if_neg hz]; exact q1)
            · first | (rw [if_pos hz, if_pos (by omega)]; try rfl) | (rw [if_pos hz, if_neg (by omega)]; try rfl) | (rw [if_neg hz, q2])
            · first | (rw [if_pos hz, if_pos (by omega)]; try rfl) | (rw [if_pos hz, if_neg (by omega), he]; try rfl) | (rw [if_neg hz, q3])
          · refine x_iconst 79 (xd DX3_placeAll rfl) rfl ?_
            refine x_goto 83 (xd DX3_placeAll rfl) rfl ?_
            refine x_istore 85 (L' := [(0, _), (1, _), (2, _), (3, _), (4, _), (5, _), (6, _)]) (xd DX3_placeAll rfl) (by decide) rfl rfl rfl ?_
            refine x_iload 87 (xd DX3_placeAll rfl) rfl rfl ?_
            refine x_if_eq 90 94 (xd DX3_placeAll rfl) rfl (by omega) rfl (fun c87 => absurd c87 (by decide)) (fun _ => ?_)
            refine x_iconst 91 (xd DX3_placeAll rfl) rfl ?_
            refine x_goto 106 (xd DX3_placeAll rfl) rfl ?_
            (try rw [hset_c (d := 10 + 3 * xe) (c := 251) (by omega), hC])
            refine x_istore_n 107 (L' := [(0, _), (1, _), (2, _), (3, _), (4, _), (5, _), (6, _)]) (xd DX3_placeAll rfl) (by decide) rfl rfl rfl ?_
            refine x_aload_n 108 (xd DX3_placeAll rfl) rfl rfl ?_
            refine x_dupr 109 (xd DX3_placeAll rfl) rfl ?_
            refine x_gi 112 13 rfl LX3_142 (xd DX3_placeAll rfl) rfl ⟨Or.inr ⟨rfl, by decide⟩, by decide⟩ rfl ?_
            rw [hset_c (d := 192) (c := 251) (by decide), hL]
            refine x_iload 114 (xd DX3_placeAll rfl) rfl rfl ?_
            refine x_if_eq 117 133 (xd DX3_placeAll rfl) rfl (by omega) rfl (fun c114 => absurd c114 (by decide)) (fun _ => ?_)
            refine x_aload_n 118 (xd DX3_placeAll rfl) rfl rfl ?_
            refine x_gr 121 _ LX3_51 (xd DX3_placeAll rfl) rfl rfl ⟨by decide, by decide⟩ (by decide) rfl rfl ?_
            refine x_gr 124 _ LX3_88 (xd DX3_placeAll rfl) rfl rfl ⟨by decide, by decide⟩ (by decide) rfl rfl ?_
            refine x_iload 126 (xd DX3_placeAll rfl) rfl rfl ?_
            refine x_iaload 127 (xd DX3_placeAll rfl) rfl ⟨Or.inr ⟨rfl, by decide⟩, by decide⟩ (by decide) (by omega) (by omega) rfl ?_
            rw [hset_c (d := 5) (c := 251) (by decide), e5]
            refine x_Si 130 (pX8_nibblesOf _ (by have := hP.v (i := (xi : Int)) (by omega) (by omega); omega)) FX8_nibblesOf VX8_nibblesOf CX3_115 (xd DX3_placeAll rfl) rfl rfl (by decide) (Nat.le_of_ble_eq_true rfl) (by decide) rfl ?_
            rintro z9 h9 ⟨q1, q2⟩
            rw [q1, q2]
            clear q1 q2 z9 h9
            refine x_goto 148 (xd DX3_placeAll rfl) rfl ?_
            refine x_iadd 149 (xd DX3_placeAll rfl) rfl ?_
            refine x_pi 152 13 rfl LX3_142 (xd DX3_placeAll rfl) rfl rfl ⟨Or.inr ⟨rfl, by decide⟩, by decide⟩ rfl ?_
            refine WX.locals (L' := [(0, _), (1, _), (2, _), (3, _), (4, _)]) (fun q hq => List.mem_append_left _ hq) ?_
            refine j152 (by omega) _ _ _ _ ?_ ?_ ?_ ?_ ?_ ?_ ?_ ?_
            all_goals first | exact (hO.tr (Off.set (by unfold SPA; omega))).tr (Off.set (by unfold SPA; omega)) | exact hO.tr (Off.set (by unfold SPA; omega)) | skip
            · intro j a
              first | (rw [hset_i (by omega), hset_c (by decide)]; exact h192 j a) | (rw [hset_c (by decide)]; exact h192 j a)
            · rw [csN_s]
              first | (rw [hset_s, if_pos hz, if_pos (by omega)]) | (rw [hset_s, if_pos hz, if_neg (by omega), he]; try rfl) | (rw [hset_c (by decide), if_neg hz]; exact hL)
            · first | (rw [hset_c (by decide), hset_s, if_pos hz]) | (rw [hset_s, if_neg hz])
            · intro j a
              first | exact (hpf j a).keep (by rw [hset_c (by decide), hset_c (by decide)]) (by rw [hset_c (by decide), hset_c (by decide)]) (by rw [hset_c (by decide), hset_i (by omega)]) (by rw [hset_c (by decide), hset_c (by decide)]) | exact (hpf j a).keep (by rw [hset_c (by decide)]) (by rw [hset_c (by decide)]) (by rw [hset_i (by omega)]) (by rw [hset_c (by decide)])
            all_goals rw [csN_s]
            · first | rw [if_pos hz, if_pos (by omega)] | (rw [if_pos hz, if_neg (by omega), he]) | (rw [if_neg hz]; exact q1)
            · first | (rw [if_pos hz, if_pos (by omega)]; try rfl) | (rw [if_pos hz, if_neg (by omega)]; try rfl) | (rw [if_neg hz, q2])
            · first | (rw [if_pos hz, if_pos (by omega)]; try rfl) | (rw [if_pos hz, if_neg (by omega), he]; try rfl) | (rw [if_neg hz, q3])
  refine x_bipush 2 (xd DX3_placeAll rfl) rfl rfl ?_
  refine x_istore_n 3 (L' := [(0, _), (1, _)]) (xd DX3_placeAll rfl) (by decide) rfl rfl rfl ?_
  refine x_iconst 4 (xd DX3_placeAll rfl) rfl ?_
  refine x_istore_n 5 (L' := [(0, _), (1, _), (2, _)]) (xd DX3_placeAll rfl) (by decide) rfl rfl rfl ?_
  refine x_iconst 6 (xd DX3_placeAll rfl) rfl ?_
  refine x_istore_n 7 (L' := [(0, _), (1, _), (2, _), (3, _)]) (xd DX3_placeAll rfl) (by decide) rfl rfl rfl ?_
  refine x_aload_n 8 (xd DX3_placeAll rfl) rfl rfl ?_
  refine x_iconst 9 (xd DX3_placeAll rfl) rfl ?_
  refine x_pi 12 13 rfl LX3_142 (xd DX3_placeAll rfl) rfl rfl ⟨Or.inr ⟨rfl, by decide⟩, by decide⟩ rfl ?_
  refine x_iconst 13 (xd DX3_placeAll rfl) rfl ?_
  refine x_istore 15 (L' := [(0, _), (1, _), (2, _), (3, _), (4, _)]) (xd DX3_placeAll rfl) (by decide) rfl rfl rfl ?_
  refine loop 100 0 _ _ _ _ (by omega) (by omega) (Off.set (by unfold SPA; omega)) (fun j a => by rw [hset_i a]) (by rw [hset_s]; rfl) (fun j a => absurd a (by omega)) rfl rfl rfl

