/-! Layout: what matches; an entry offered -/
def Mt (h : XH) (c : Nat) (i : Int) : Prop := h c 2 ≤ h 193 i ∧ Fits h c i
theorem xRF_9 : ∀ e : Fin 8, xRF 9 e.val = 10 + 3 * e.val + 1 := by decide
theorem xRF_194 : ∀ e : Fin 48, xRF 194 e.val = 195 + e.val + 1 := by decide +kernel
theorem xTY_row : ∀ e : Fin 48, xTY (195 + e.val) = (11, 5) := by decide +kernel
theorem Mt.off {S : Nat → Prop} {h xg : XH} {c : Nat} {i : Int} (hO : Off S h xg) (h4 : ¬ S 4) (h5 : ¬ S 5) (h6 : ¬ S 6) (h193 : ¬ S 193) (hc : ¬ S c) (hc1 : ¬ S (c + 1)) (hc2 : ¬ S (c + 2)) : Mt xg c i = Mt h c i := by
  unfold Mt Fits
  rw [hO 4 h4, hO 5 h5, hO 6 h6, hO 193 h193, hO c hc, hO (c + 1) hc1, hO (c + 2) hc2]
set_option maxRecDepth 100000 in
set_option maxHeartbeats 4000000 in
theorem pX3_matches {K : XK} {n : Nat} {h : XH} (c : Nat) (i : Int) (hE : xEnt c) (hw : EW h c) (hP : PW h) (hi : 0 ≤ i ∧ i < 48) (hr : xrg (h 193 i)) : MI K mX3_matches 1 n [vr 192, vr c, vi i] h (fun z h' => z = xp (Mt h c i) ∧ h' = h) := by
  refine xMeth FX3_matches (Nat.le_of_ble_eq_true rfl) ?_
  have e8 := hE.2.2.2.2.2.2.2
  have hw1 := hw.1
  refine x_aload_n 1 (xd DX3_matches rfl) rfl rfl ?_
  refine x_gi 4 2 rfl LX3_139 (xd DX3_matches rfl) hE.1 ⟨Or.inr ⟨rfl, by show c < 259; omega⟩, by omega⟩ rfl ?_
  refine x_aload_n 5 (xd DX3_matches rfl) rfl rfl ?_
  refine x_gr 8 _ LX3_9 (xd DX3_matches rfl) rfl rfl ⟨by decide, by decide⟩ (by decide) rfl rfl ?_
  refine x_iload_n 9 (xd DX3_matches rfl) rfl rfl ?_
  refine x_iaload 10 (xd DX3_matches rfl) rfl ⟨Or.inr ⟨rfl, by decide⟩, by decide⟩ (by decide) (by omega) (by omega) rfl ?_
  refine x_icmp_gt 13 29 (xd DX3_matches rfl) rfl (by omega) (by omega) rfl (fun c10 => ?_) (fun c10 => ?_)
  · refine x_iconst 30 (xd DX3_matches rfl) rfl ?_
    refine x_rz (xd DX3_matches rfl) rfl (by omega) ?_
    first | exact ⟨xp_t ⟨c10, c22⟩, rfl⟩ | exact ⟨xp_f (fun q => by have := q.1; omega), rfl⟩ | exact ⟨xp_f (fun q => c22 q.2), rfl⟩
  · refine x_aload_n 14 (xd DX3_matches rfl) rfl rfl ?_
    refine x_aload_n 15 (xd DX3_matches rfl) rfl rfl ?_
    refine x_gr 18 _ LX3_51 (xd DX3_matches rfl) rfl rfl ⟨by decide, by decide⟩ (by decide) rfl rfl ?_
    refine x_iload_n 19 (xd DX3_matches rfl) rfl rfl ?_
    refine x_Vi 22 (pX1_fits c i hE hw hP (by omega)) FX1_fits VX1_fits CX3_156 (xd DX3_matches rfl) rfl rfl hE.1 ⟨by decide, rfl⟩ ⟨by show c < 259; omega, by omega⟩ (by decide) (Nat.le_of_ble_eq_true rfl) (by decide) rfl ?_
    rintro z9 h9 ⟨q1, q2⟩
    rw [q1, q2]
    clear q1 q2 z9 h9
    refine x_ifp_eq 25 29 (xd DX3_matches rfl) rfl rfl (fun c22 => ?_) (fun c22 => ?_)
    · refine x_iconst 30 (xd DX3_matches rfl) rfl ?_
      refine x_rz (xd DX3_matches rfl) rfl (by omega) ?_
      first | exact ⟨xp_t ⟨c10, c22⟩, rfl⟩ | exact ⟨xp_f (fun q => by have := q.1; omega), rfl⟩ | exact ⟨xp_f (fun q => c22 q.2), rfl⟩
    · refine x_iconst 26 (xd DX3_matches rfl) rfl ?_
      refine x_goto 30 (xd DX3_matches rfl) rfl ?_
      refine x_rz (xd DX3_matches rfl) rfl (by omega) ?_
      first | exact ⟨xp_t ⟨c10, c22⟩, rfl⟩ | exact ⟨xp_f (fun q => by have := q.1; omega), rfl⟩ | exact ⟨xp_f (fun q => c22 q.2), rfl⟩

noncomputable def offR (h : XH) (i e : Nat) : XH := pik (h (195 + i) (h (10 + 3 * e) 2) = 0 ∨ kRef (h (10 + 3 * e) 3) < h (195 + i) (h (10 + 3 * e) 2)) (hset h (195 + i) (h (10 + 3 * e) 2) (kRef (h (10 + 3 * e) 3))) h
noncomputable def offH (h : XH) (i e : Nat) : XH := pik (Mt h (10 + 3 * e) i) (pik (kRef (h (10 + 3 * e) 3) + h 243 (i + h (10 + 3 * e) 2) < h 243 i) (hset (hset (offR h i e) 243 i (kRef (h (10 + 3 * e) 3) + h 243 (i + h (10 + 3 * e) 2))) 244 i e) (offR h i e)) h
theorem offR_off (h : XH) (i e : Nat) : Off (fun c => c = 195 + i) h (offR h i e) := by
  unfold offR
  by_cases q : h (195 + i) (h (10 + 3 * e) 2) = 0 ∨ kRef (h (10 + 3 * e) 3) < h (195 + i) (h (10 + 3 * e) 2)
  · rw [pik_t q]; exact Off.set rfl
  · rw [pik_f q]; exact Off.rf
set_option maxRecDepth 100000 in
set_option maxHeartbeats 4000000 in
theorem pX3_offer {K : XK} {n : Nat} {h : XH} (i e : Nat) (hi : i < 48) (he : e < 8) (hw : EW h (10 + 3 * e)) (hP : PW h) (hr : xrg (h 193 i)) (hs : ∀ p, 2 ≤ p → p ≤ 4 → xrg (h (195 + i) p)) (hf : ∀ j, (i : Int) ≤ j → j ≤ h 4 3 → -100000 ≤ h 243 j ∧ h 243 j ≤ 100000) : MV K mX3_offer 2 n [vr 192, vi i, vi e] h (fun h' => h' = offH h i e) := by
  refine xMeth FX3_offer (Nat.le_of_ble_eq_true rfl) ?_
  have hE : xEnt (10 + 3 * e) := xEnt_10 ⟨e, he⟩
  have hw1 := hw.1
  have hw2 : xrg (h (10 + 3 * e) 3) := by have := hw.2.1; omega
  have hk := kRef_rg (h (10 + 3 * e) 3)
  have j67 : Mt h (10 + 3 * e) i → ∀ hh : XH, hh = offR h i e → WI K mX3_offer 2 n (qV n fun h' => h' = offH h i e) 67 [(0, vr 192), (1, vi i), (2, vi e), (3, vr (10 + 3 * e)), (4, vi (kRef (h (10 + 3 * e) 3))), (5, vi (h (195 + i) (h (10 + 3 * e) 2)))] [] hh := by
    intro c16 hh hh1
    have e1 : hh 243 = h 243 := by rw [hh1]; exact offR_off h i e 243 (by omega)
    have e2 : hh (10 + 3 * e) = h (10 + 3 * e) := by rw [hh1]; exact offR_off h i e (10 + 3 * e) (by omega)
    have e3 : hh (10 + 3 * e) 2 = h (10 + 3 * e) 2 := by rw [e2]
    have hP1 := hP.1
    have e4 : (i : Int) + h (10 + 3 * e) 2 ≤ h 4 3 := by have q1 := c16.2.2.1; omega
    refine x_iload 69 (xd DX3_offer rfl) rfl rfl ?_
    refine x_aload_n 70 (xd DX3_offer rfl) rfl rfl ?_
    refine x_gr 73 _ LX3_20 (xd DX3_offer rfl) rfl rfl ⟨by decide, by decide⟩ (by decide) rfl rfl ?_
    refine x_iload_n 74 (xd DX3_offer rfl) rfl rfl ?_
    refine x_aload_n 75 (xd DX3_offer rfl) rfl rfl ?_
    refine x_gi 78 2 rfl LX3_139 (xd DX3_offer rfl) hE.1 ⟨Or.inr ⟨rfl, by show 10 + 3 * e < 259; omega⟩, by omega⟩ rfl ?_
    refine x_iadd 79 (xd DX3_offer rfl) rfl ?_
    refine x_iaload 80 (xd DX3_offer rfl) rfl ⟨Or.inr ⟨rfl, by decide⟩, by decide⟩ (by decide) (by omega) (by omega) rfl ?_
    refine x_iadd 81 (xd DX3_offer rfl) rfl ?_
    refine x_istore 83 (L' := [(0, _), (1, _), (2, _), (3, _), (4, _), (5, _), (6, _)]) (xd DX3_offer rfl) (by decide) rfl rfl rfl ?_
    refine x_iload 85 (xd DX3_offer rfl) rfl rfl ?_
    refine x_aload_n 86 (xd DX3_offer rfl) rfl rfl ?_
    refine x_gr 89 _ LX3_20 (xd DX3_offer rfl) rfl rfl ⟨by decide, by decide⟩ (by decide) rfl rfl ?_
    refine x_iload_n 90 (xd DX3_offer rfl) rfl rfl ?_
    refine x_iaload 91 (xd DX3_offer rfl) rfl ⟨Or.inr ⟨rfl, by decide⟩, by decide⟩ (by decide) (by omega) (by omega) rfl ?_
    refine x_icmp_ge 94 109 (xd DX3_offer rfl) rfl (by rw [e1]; (try rw [e2]); first | (have := hf (i + h (10 + 3 * e) 2) (by omega) (by omega); omega) | (have := hf i (by omega) (by omega); omega)) (by rw [e1]; (try rw [e2]); first | (have := hf (i + h (10 + 3 * e) 2) (by omega) (by omega); omega) | (have := hf i (by omega) (by omega); omega)) rfl (fun c91 => ?_) (fun c91 => ?_)
    · refine x_rv (xd DX3_offer rfl) rfl ?_
      rw [e1, e2] at c91
      (try rw [e1, e2])
      unfold offH
      rw [pik_t c16]
      first | rw [pik_t c91, hh1] | rw [pik_f (by omega), hh1]
    · refine x_aload_n 95 (xd DX3_offer rfl) rfl rfl ?_
      refine x_gr 98 _ LX3_20 (xd DX3_offer rfl) rfl rfl ⟨by decide, by decide⟩ (by decide) rfl rfl ?_
      refine x_iload_n 99 (xd DX3_offer rfl) rfl rfl ?_
      refine x_iload 101 (xd DX3_offer rfl) rfl rfl ?_
      refine x_iastore 102 (xd DX3_offer rfl) rfl ⟨Or.inr ⟨rfl, by decide⟩, by decide⟩ (by decide) (by omega) (by omega) rfl ?_
      refine x_aload_n 103 (xd DX3_offer rfl) rfl rfl ?_
      refine x_gr 106 _ LX3_23 (xd DX3_offer rfl) rfl rfl ⟨by decide, by decide⟩ (by decide) rfl rfl ?_
      refine x_iload_n 107 (xd DX3_offer rfl) rfl rfl ?_
      refine x_iload_n 108 (xd DX3_offer rfl) rfl rfl ?_
      refine x_iastore 109 (xd DX3_offer rfl) rfl ⟨Or.inr ⟨rfl, by decide⟩, by decide⟩ (by decide) (by omega) (by omega) rfl ?_
      refine x_rv (xd DX3_offer rfl) rfl ?_
      rw [e1, e2] at c91
      (try rw [e1, e2])
      unfold offH
      rw [pik_t c16]
      first | rw [pik_t c91, hh1] | rw [pik_f (by omega), hh1]
  refine x_aload_n 1 (xd DX3_offer rfl) rfl rfl ?_
  refine x_gr 4 _ LX3_55 (xd DX3_offer rfl) rfl rfl ⟨by decide, by decide⟩ (by decide) rfl rfl ?_
  refine x_gr 7 _ LX3_125 (xd DX3_offer rfl) rfl rfl ⟨by decide, by decide⟩ (by decide) rfl rfl ?_
  refine x_iload_n 8 (xd DX3_offer rfl) rfl rfl ?_
  refine x_aaload 9 (10 + 3 * e) (xd DX3_offer rfl) rfl (by decide) ⟨by decide, by decide⟩ (by decide) rfl (by omega) (xRF_9 ⟨e, he⟩) (by omega) rfl rfl ?_
  refine x_astore_n 10 (L' := [(0, _), (1, _), (2, _), (3, _)]) (xd DX3_offer rfl) (by decide) rfl rfl rfl ?_
  refine x_aload_n 11 (xd DX3_offer rfl) rfl rfl ?_
  refine x_aload_n 12 (xd DX3_offer rfl) rfl rfl ?_
  refine x_iload_n 13 (xd DX3_offer rfl) rfl rfl ?_
  refine x_Vi 16 (pX3_matches (10 + 3 * e) i hE hw hP (by omega) hr) FX3_matches VX3_matches CX3_129 (xd DX3_offer rfl) rfl rfl rfl ⟨by decide, rfl⟩ ⟨by decide, by decide⟩ (by decide) (Nat.le_of_ble_eq_true rfl) (by decide) rfl ?_
  rintro z9 h9 ⟨q1, q2⟩
  rw [q1, q2]
  clear q1 q2 z9 h9
  refine x_ifp_ne 19 20 (xd DX3_offer rfl) rfl rfl (fun c16 => ?_) (fun c16 => ?_)
  · refine x_aload_n 21 (xd DX3_offer rfl) rfl rfl ?_
    refine x_gi 24 3 rfl LX3_133 (xd DX3_offer rfl) hE.1 ⟨Or.inr ⟨rfl, by show 10 + 3 * e < 259; omega⟩, by omega⟩ rfl ?_
    refine x_Si 27 (pX8_referenceNibbles _ hw2) FX8_referenceNibbles VX8_referenceNibbles CX3_136 (xd DX3_offer rfl) rfl rfl (by decide) (Nat.le_of_ble_eq_true rfl) (by decide) rfl ?_
    rintro z9 h9 ⟨q1, q2⟩
    rw [q1, q2]
    clear q1 q2 z9 h9
    refine x_istore 29 (L' := [(0, _), (1, _), (2, _), (3, _), (4, _)]) (xd DX3_offer rfl) (by decide) rfl rfl rfl ?_
    refine x_aload_n 30 (xd DX3_offer rfl) rfl rfl ?_
    refine x_gr 33 _ LX3_17 (xd DX3_offer rfl) rfl rfl ⟨by decide, by decide⟩ (by decide) rfl rfl ?_
    refine x_iload_n 34 (xd DX3_offer rfl) rfl rfl ?_
    refine x_aaload 35 (195 + i) (xd DX3_offer rfl) rfl (by decide) ⟨by decide, by decide⟩ (by decide) rfl (by omega) (xRF_194 ⟨i, hi⟩) (by omega) rfl rfl ?_
    refine x_aload_n 36 (xd DX3_offer rfl) rfl rfl ?_
    refine x_gi 39 2 rfl LX3_139 (xd DX3_offer rfl) hE.1 ⟨Or.inr ⟨rfl, by show 10 + 3 * e < 259; omega⟩, by omega⟩ rfl ?_
    refine x_iaload 40 (xd DX3_offer rfl) (xTY_row ⟨i, hi⟩) ⟨Or.inr ⟨rfl, by show 195 + i < 259; omega⟩, by omega⟩ (by decide) (by omega) (by omega) rfl ?_
    refine x_istore 42 (L' := [(0, _), (1, _), (2, _), (3, _), (4, _), (5, _)]) (xd DX3_offer rfl) (by decide) rfl rfl rfl ?_
    refine x_iload 44 (xd DX3_offer rfl) rfl rfl ?_
    refine x_if_eq 47 54 (xd DX3_offer rfl) rfl (by exact hs _ hw1.1 hw1.2) rfl (fun c44 => ?_) (fun c44 => ?_)
    · refine x_aload_n 55 (xd DX3_offer rfl) rfl rfl ?_
      refine x_gr 58 _ LX3_17 (xd DX3_offer rfl) rfl rfl ⟨by decide, by decide⟩ (by decide) rfl rfl ?_
      refine x_iload_n 59 (xd DX3_offer rfl) rfl rfl ?_
      refine x_aaload 60 (195 + i) (xd DX3_offer rfl) rfl (by decide) ⟨by decide, by decide⟩ (by decide) rfl (by omega) (xRF_194 ⟨i, hi⟩) (by omega) rfl rfl ?_
      refine x_aload_n 61 (xd DX3_offer rfl) rfl rfl ?_
      refine x_gi 64 2 rfl LX3_139 (xd DX3_offer rfl) hE.1 ⟨Or.inr ⟨rfl, by show 10 + 3 * e < 259; omega⟩, by omega⟩ rfl ?_
      refine x_iload 66 (xd DX3_offer rfl) rfl rfl ?_
      refine x_iastore 67 (xd DX3_offer rfl) (xTY_row ⟨i, hi⟩) ⟨Or.inr ⟨rfl, by show 195 + i < 259; omega⟩, by omega⟩ (by decide) (by omega) (by omega) rfl ?_
      refine j67 c16 _ ?_
      unfold offR
      first | rw [pik_t (Or.inl c44)] | rw [pik_t (Or.inr c51)] | rw [pik_f (by omega)]
    · refine x_iload 49 (xd DX3_offer rfl) rfl rfl ?_
      refine x_iload 51 (xd DX3_offer rfl) rfl rfl ?_
      refine x_icmp_ge 54 67 (xd DX3_offer rfl) rfl (by first | omega | exact hs _ hw1.1 hw1.2) (by first | omega | exact hs _ hw1.1 hw1.2) rfl (fun c51 => ?_) (fun c51 => ?_)
      · refine j67 c16 _ ?_
        unfold offR
        first | rw [pik_t (Or.inl c44)] | rw [pik_t (Or.inr c51)] | rw [pik_f (by omega)]
      · refine x_aload_n 55 (xd DX3_offer rfl) rfl rfl ?_
        refine x_gr 58 _ LX3_17 (xd DX3_offer rfl) rfl rfl ⟨by decide, by decide⟩ (by decide) rfl rfl ?_
        refine x_iload_n 59 (xd DX3_offer rfl) rfl rfl ?_
        refine x_aaload 60 (195 + i) (xd DX3_offer rfl) rfl (by decide) ⟨by decide, by decide⟩ (by decide) rfl (by omega) (xRF_194 ⟨i, hi⟩) (by omega) rfl rfl ?_
        refine x_aload_n 61 (xd DX3_offer rfl) rfl rfl ?_
        refine x_gi 64 2 rfl LX3_139 (xd DX3_offer rfl) hE.1 ⟨Or.inr ⟨rfl, by show 10 + 3 * e < 259; omega⟩, by omega⟩ rfl ?_
        refine x_iload 66 (xd DX3_offer rfl) rfl rfl ?_
        refine x_iastore 67 (xd DX3_offer rfl) (xTY_row ⟨i, hi⟩) ⟨Or.inr ⟨rfl, by show 195 + i < 259; omega⟩, by omega⟩ (by decide) (by omega) (by omega) rfl ?_
        refine j67 c16 _ ?_
        unfold offR
        first | rw [pik_t (Or.inl c44)] | rw [pik_t (Or.inr c51)] | rw [pik_f (by omega)]
  · refine x_rv (xd DX3_offer rfl) rfl ?_
    unfold offH; rw [pik_f c16]

