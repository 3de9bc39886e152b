/-! History -/
theorem xRF_35 : ∀ k : Fin 6, xRF 35 k.val = 36 + 26 * k.val + 1 := by decide
def HW (h : XH) : Prop := (0 ≤ h 34 1 ∧ h 34 1 ≤ 6) ∧ ∀ k : Nat, (k : Int) < h 34 1 → SW h (36 + 26 * k)
def SHi (x : Nat) : Prop := 34 ≤ x ∧ x < 192
def SGb (x : Nat) : Prop := 8 ≤ x ∧ x ≤ 34
theorem SEq.rf {h : XH} {s : Nat} : SEq h s h s := ⟨rfl, rfl, rfl, fun _ _ => ⟨rfl, rfl, fun _ _ _ => ⟨rfl, rfl⟩⟩⟩
set_option maxRecDepth 100000 in
set_option maxHeartbeats 4000000 in
theorem pX2_keep {K : XK} {n : Nat} {h : XH} (hH : HW h) (hS : SW h 8) : MV K mX2_keep 2 n [vr 34, vr 8] h (fun h' => Off SHi h h' ∧ h' 34 1 = (if h 34 1 = 6 then 6 else h 34 1 + 1) ∧ (∀ k : Nat, (k : Int) < h' 34 1 - 1 → SEq h' (36 + 26 * k) h (36 + 26 * (if h 34 1 = 6 then k + 1 else k))) ∧ SEq h' (36 + 26 * (h' 34 1 - 1).toNat) h 8) := by
  refine xMeth FX2_keep (Nat.le_of_ble_eq_true rfl) ?_
  have hH1 := hH.1
  have j50 : ∀ (xdp : Nat) (xg : XH), xdp < 6 → Off SHi h xg → xg 34 1 = (xdp : Int) → (xdp : Int) + 1 = (if h 34 1 = 6 then 6 else h 34 1 + 1) → (∀ k : Nat, k < xdp → SEq xg (36 + 26 * k) h (36 + 26 * (if h 34 1 = 6 then k + 1 else k))) → (∀ k : Nat, k < xdp → h (36 + 26 * (if h 34 1 = 6 then k + 1 else k)) 1 ≤ 8) → WI K mX2_keep 2 n (qV n fun h' => Off SHi h h' ∧ h' 34 1 = (if h 34 1 = 6 then 6 else h 34 1 + 1) ∧ (∀ k : Nat, (k : Int) < h' 34 1 - 1 → SEq h' (36 + 26 * k) h (36 + 26 * (if h 34 1 = 6 then k + 1 else k))) ∧ SEq h' (36 + 26 * (h' 34 1 - 1).toNat) h 8) 50 [(0, vr 34), (1, vr 8)] [] xg := by
    intro xdp xg hd0 hO hd1 hd2 hsl hs8
    have e8 : xg 8 = h 8 := hO 8 (by unfold SHi; omega)
    refine x_aload_n 51 (xd DX2_keep rfl) rfl rfl ?_
    refine x_gr 54 _ LX2_11 (xd DX2_keep rfl) rfl rfl ⟨by decide, by decide⟩ (by decide) rfl rfl ?_
    refine x_aload_n 55 (xd DX2_keep rfl) rfl rfl ?_
    refine x_gi 58 1 rfl LX2_18 (xd DX2_keep rfl) rfl ⟨Or.inr ⟨rfl, by decide⟩, by decide⟩ rfl ?_
    refine x_aaload 59 (36 + 26 * (xdp)) (xd DX2_keep rfl) rfl (by decide) ⟨by decide, by decide⟩ (by decide) hd1 (by omega) (xRF_35 ⟨xdp, by omega⟩) (by omega) rfl rfl ?_
    refine x_aload_n 60 (xd DX2_keep rfl) rfl rfl ?_
    refine x_Vv 63 (pX6_copy (36 + 26 * xdp) 8 (xStp_36 ⟨xdp, by omega⟩) xStp_8 (by omega) (by rw [e8]; exact hS.1)) FX6_copy VX6_copy CX2_22 (xd DX2_keep rfl) rfl rfl (xStp_36 ⟨xdp, by omega⟩).1 ⟨by decide, rfl⟩ ⟨by show 36 + 26 * xdp < 259; omega, by omega⟩ (by decide) (Nat.le_of_ble_eq_true rfl) (by decide) rfl ?_
    rintro xq ⟨oq, eq⟩
    refine x_aload_n 64 (xd DX2_keep rfl) rfl rfl ?_
    refine x_dupr 65 (xd DX2_keep rfl) rfl ?_
    refine x_gi 68 1 rfl LX2_18 (xd DX2_keep rfl) rfl ⟨Or.inr ⟨rfl, by decide⟩, by decide⟩ rfl ?_
    refine x_iconst 69 (xd DX2_keep rfl) rfl ?_
    refine x_iadd 70 (xd DX2_keep rfl) rfl ?_
    refine x_pi 73 1 rfl LX2_18 (xd DX2_keep rfl) rfl rfl ⟨Or.inr ⟨rfl, by decide⟩, by decide⟩ rfl ?_
    refine x_rv (xd DX2_keep rfl) rfl ?_
    refine ⟨(hO.tr (oq.mono (fun x q => by unfold S26 at q; unfold SHi; omega))).tr (Off.set (by unfold SHi; omega)), ?_, fun k q => ?_, ?_⟩
    · rw [hset_s, oq 34 (by unfold S26; omega), hd1, hd2]
    · rw [hset_s, oq 34 (by unfold S26; omega), hd1] at q
      exact (SEq.off (ocell (c := 34)) (fun x z => by unfold S26 at z; omega) (by have h1 := hsl k (by omega); have h2 : SEq xq (36 + 26 * k) xg (36 + 26 * k) := SEq.off oq (fun x z => by unfold S26 at z ⊢; omega) (by rw [h1.1]; exact hs8 k (by omega)); rw [h2.1, h1.1]; exact hs8 k (by omega))).tr ((SEq.off oq (fun x z => by unfold S26 at z ⊢; omega) (by rw [(hsl k (by omega)).1]; exact hs8 k (by omega))).tr (hsl k (by omega)))
    · rw [hset_s, oq 34 (by unfold S26; omega), hd1, show ((xdp : Int) + 1 - 1).toNat = xdp by omega]
      have z1 : SEq xg 8 h 8 := SEq.off hO (fun x z => by unfold S26 at z; unfold SHi; omega) hS.1.2
      exact (SEq.off (ocell (c := 34)) (fun x z => by unfold S26 at z; omega) (by rw [eq.1, e8]; exact hS.1.2)).tr (eq.tr z1)
  have loop : h 34 1 = 6 → ∀ (m1 : Nat) (xk : Nat) (xg : XH), 1 ≤ xk → xk ≤ 6 → 6 - xk < m1 → Off SHi h xg → xg 34 1 = h 34 1 → (∀ k : Nat, k + 1 < xk → SEq xg (36 + 26 * k) h (36 + 26 * (k + 1))) → (∀ k : Nat, xk ≤ k → k < 6 → SEq xg (36 + 26 * k) h (36 + 26 * k)) → WI K mX2_keep 2 n (qV n fun h' => Off SHi h h' ∧ h' 34 1 = (if h 34 1 = 6 then 6 else h 34 1 + 1) ∧ (∀ k : Nat, (k : Int) < h' 34 1 - 1 → SEq h' (36 + 26 * k) h (36 + 26 * (if h 34 1 = 6 then k + 1 else k))) ∧ SEq h' (36 + 26 * (h' 34 1 - 1).toNat) h 8) 11 [(0, vr 34), (1, vr 8), (2, vi (xk : Int))] [] xg := by
    intro c6 m1
    induction m1 with
    | zero => intro xk xg a a2 b; exact absurd b (by omega)
    | succ m1 ih =>
      intro xk xg h00 h0 hm1 hO e34 hk hr
      refine x_iload_n 12 (xd DX2_keep rfl) rfl rfl ?_
      refine x_bipush 14 (xd DX2_keep rfl) rfl rfl ?_
      refine x_icmp_ge 17 40 (xd DX2_keep rfl) rfl (by omega) (by omega) rfl (fun c14 => ?_) (fun c14 => ?_)
      · refine x_aload_n 41 (xd DX2_keep rfl) rfl rfl ?_
        refine x_dupr 42 (xd DX2_keep rfl) rfl ?_
        refine x_gi 45 1 rfl LX2_18 (xd DX2_keep rfl) rfl ⟨Or.inr ⟨rfl, by decide⟩, by decide⟩ rfl ?_
        refine x_iconst 46 (xd DX2_keep rfl) rfl ?_
        refine x_isub 47 (xd DX2_keep rfl) rfl ?_
        refine x_pi 50 1 rfl LX2_18 (xd DX2_keep rfl) rfl rfl ⟨Or.inr ⟨rfl, by decide⟩, by decide⟩ rfl ?_
        refine WX.locals (L' := [(0, _), (1, _)]) (fun q hq => List.mem_append_left _ hq) ?_
        refine j50 5 _ (by omega) (hO.tr (Off.set (by unfold SHi; omega))) (by rw [hset_s]; omega) (by rw [if_pos c6]; rfl) (fun k q => ?_) (fun k q => by rw [if_pos c6]; exact (hH.2 (k + 1) (by omega)).1.2)
        rw [if_pos c6]
        exact (SEq.off (ocell (c := 34)) (fun x z => by unfold S26 at z; omega) (by rw [(hk k (by omega)).1]; exact (hH.2 (k + 1) (by omega)).1.2)).tr (hk k (by omega))
      · refine x_aload_n 18 (xd DX2_keep rfl) rfl rfl ?_
        refine x_gr 21 _ LX2_11 (xd DX2_keep rfl) rfl rfl ⟨by decide, by decide⟩ (by decide) rfl rfl ?_
        refine x_iload_n 22 (xd DX2_keep rfl) rfl rfl ?_
        refine x_iconst 23 (xd DX2_keep rfl) rfl ?_
        refine x_isub 24 (xd DX2_keep rfl) rfl ?_
        refine x_aaload 25 (36 + 26 * (xk - 1)) (xd DX2_keep rfl) rfl (by decide) ⟨by decide, by decide⟩ (by decide) (show (xk : Int) - 1 = ((xk - 1 : Nat) : Int) by omega) (by omega) (xRF_35 ⟨xk - 1, by omega⟩) (by omega) rfl rfl ?_
        refine x_aload_n 26 (xd DX2_keep rfl) rfl rfl ?_
        refine x_gr 29 _ LX2_11 (xd DX2_keep rfl) rfl rfl ⟨by decide, by decide⟩ (by decide) rfl rfl ?_
        refine x_iload_n 30 (xd DX2_keep rfl) rfl rfl ?_
        refine x_aaload 31 (36 + 26 * (xk)) (xd DX2_keep rfl) rfl (by decide) ⟨by decide, by decide⟩ (by decide) rfl (by omega) (xRF_35 ⟨xk, by omega⟩) (by omega) rfl rfl ?_
        refine x_Vv 34 (pX6_copy (36 + 26 * (xk - 1)) (36 + 26 * xk) (xStp_36 ⟨xk - 1, by omega⟩) (xStp_36 ⟨xk, by omega⟩) (by omega) (by have := (hr xk (by omega) (by omega)).1; rw [this]; exact (hH.2 xk (by omega)).1)) FX6_copy VX6_copy CX2_22 (xd DX2_keep rfl) rfl rfl (xStp_36 ⟨xk - 1, by omega⟩).1 ⟨by decide, rfl⟩ ⟨by show 36 + 26 * (xk - 1) < 259; omega, by omega⟩ (by decide) (Nat.le_of_ble_eq_true rfl) (by decide) rfl ?_
        rintro xq ⟨oq, eq⟩
        refine x_iinc 37 (L' := [(0, _), (1, _), (2, _)]) (xd DX2_keep rfl) rfl (by decide) rfl rfl rfl ?_
        refine x_goto 11 (xd DX2_keep rfl) rfl ?_
        refine ih (xk + 1) _ (by omega) (by omega) (by omega) (hO.tr (oq.mono (fun x q => by unfold S26 at q; unfold SHi; omega))) (by rw [oq 34 (by unfold S26; omega)]; exact e34) (fun k q => ?_) (fun k q q2 => ?_)
        · by_cases z : k + 1 = xk
          · rw [show xk - 1 = k by omega] at eq
            rw [show k + 1 = xk by omega]
            exact eq.tr (hr xk (by omega) (by omega))
          · exact (SEq.off oq (fun x z2 => by unfold S26 at z2 ⊢; omega) (by rw [(hk k (by omega)).1]; exact (hH.2 (k + 1) (by omega)).1.2)).tr (hk k (by omega))
        · exact (SEq.off oq (fun x z2 => by unfold S26 at z2 ⊢; omega) (by rw [(hr k (by omega) q2).1]; exact (hH.2 k (by omega)).1.2)).tr (hr k (by omega) q2)
  refine x_aload_n 1 (xd DX2_keep rfl) rfl rfl ?_
  refine x_gi 4 1 rfl LX2_18 (xd DX2_keep rfl) rfl ⟨Or.inr ⟨rfl, by decide⟩, by decide⟩ rfl ?_
  refine x_bipush 6 (xd DX2_keep rfl) rfl rfl ?_
  refine x_icmp_ne 9 50 (xd DX2_keep rfl) rfl (by omega) (by omega) rfl (fun c6 => ?_) (fun c6 => ?_)
  · obtain ⟨xdp, hxd⟩ := Int.eq_ofNat_of_zero_le hH.1.1
    exact j50 xdp h (by omega) Off.rf hxd (by rw [if_neg c6]; omega) (fun k q => by rw [if_neg c6]; exact SEq.rf) (fun k q => by rw [if_neg c6]; exact (hH.2 k (by omega)).1.2)
  · refine x_iconst 10 (xd DX2_keep rfl) rfl ?_
    refine x_istore_n 11 (L' := [(0, _), (1, _), (2, _)]) (xd DX2_keep rfl) (by decide) rfl rfl rfl ?_
    exact loop c6 100 1 h (by omega) (by omega) (by omega) Off.rf (by omega) (fun k q => by omega) (fun k q q2 => SEq.rf)

set_option maxRecDepth 100000 in
set_option maxHeartbeats 4000000 in
theorem pX2_giveBack {K : XK} {n : Nat} {h : XH} (hH : HW h) (hD : 0 < h 34 1) : MV K mX2_giveBack 2 n [vr 34, vr 8] h (fun h' => Off SGb h h' ∧ h' 34 1 = h 34 1 - 1 ∧ SEq h' 8 h (36 + 26 * (h 34 1 - 1).toNat)) := by
  refine xMeth FX2_giveBack (Nat.le_of_ble_eq_true rfl) ?_
  have hH1 := hH.1
  obtain ⟨xdp, hxd⟩ := Int.eq_ofNat_of_zero_le (show 0 ≤ h 34 1 - 1 by omega)
  refine x_aload_n 1 (xd DX2_giveBack rfl) rfl rfl ?_
  refine x_gi 4 1 rfl LX2_18 (xd DX2_giveBack rfl) rfl ⟨Or.inr ⟨rfl, by decide⟩, by decide⟩ rfl ?_
  refine x_if_le 7 30 (xd DX2_giveBack rfl) rfl (by omega) rfl (fun c4 => absurd c4 (by omega)) (fun _ => ?_)
  refine x_aload_n 8 (xd DX2_giveBack rfl) rfl rfl ?_
  refine x_dupr 9 (xd DX2_giveBack rfl) rfl ?_
  refine x_gi 12 1 rfl LX2_18 (xd DX2_giveBack rfl) rfl ⟨Or.inr ⟨rfl, by decide⟩, by decide⟩ rfl ?_
  refine x_iconst 13 (xd DX2_giveBack rfl) rfl ?_
  refine x_isub 14 (xd DX2_giveBack rfl) rfl ?_
  refine x_pi 17 1 rfl LX2_18 (xd DX2_giveBack rfl) rfl rfl ⟨Or.inr ⟨rfl, by decide⟩, by decide⟩ rfl ?_
  refine x_aload_n 18 (xd DX2_giveBack rfl) rfl rfl ?_
  refine x_aload_n 19 (xd DX2_giveBack rfl) rfl rfl ?_
  refine x_gr 22 _ LX2_11 (xd DX2_giveBack rfl) rfl rfl ⟨by decide, by decide⟩ (by decide) rfl rfl ?_
  refine x_aload_n 23 (xd DX2_giveBack rfl) rfl rfl ?_
  have hd1 : hset h 34 1 (h 34 1 - 1) 34 1 = (xdp : Int) := by rw [hset_s]; omega
  refine x_gi 26 1 rfl LX2_18 (xd DX2_giveBack rfl) rfl ⟨Or.inr ⟨rfl, by decide⟩, by decide⟩ rfl ?_
  refine x_aaload 27 (36 + 26 * (xdp)) (xd DX2_giveBack rfl) rfl (by decide) ⟨by decide, by decide⟩ (by decide) hd1 (by omega) (xRF_35 ⟨xdp, by omega⟩) (by omega) rfl rfl ?_
  refine x_Vv 30 (pX6_copy 8 (36 + 26 * xdp) xStp_8 (xStp_36 ⟨xdp, by omega⟩) (by omega) (by rw [hset_c (by omega)]; exact (hH.2 xdp (by omega)).1)) FX6_copy VX6_copy CX2_22 (xd DX2_giveBack rfl) rfl rfl rfl ⟨by decide, rfl⟩ ⟨by decide, by decide⟩ (by decide) (Nat.le_of_ble_eq_true rfl) (by decide) rfl ?_
  rintro xq ⟨oq, eq⟩
  refine x_rv (xd DX2_giveBack rfl) rfl ?_
  refine ⟨(Off.set (c := 34) (by unfold SGb; omega)).tr (oq.mono (fun x q => by unfold S26 at q; unfold SGb; omega)), by rw [oq 34 (by unfold S26; omega), hset_s], ?_⟩
  rw [show (h 34 1 - 1).toNat = xdp by omega]
  exact eq.tr (SEq.off (ocell (c := 34)) (fun x z => by unfold S26 at z; omega) (hH.2 xdp (by omega)).1.2)

