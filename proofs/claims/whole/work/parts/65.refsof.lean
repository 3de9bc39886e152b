/-! SqueezedCodeModel: references, at -/
set_option maxRecDepth 100000 in
set_option maxHeartbeats 4000000 in
theorem pX9_references {K : XK} {n : Nat} {h : XH} (a b : Nat) (hab : a ≤ b) (hb : b ≤ 48) (hr : ∀ j : Nat, a ≤ j → j < b → xrg (h 269 j) ∧ xrg (h 270 j)) : MI K mX9_references 0 n [vr 259, vi (a : Int), vi (b : Int)] h (fun zr h' => zr = cntR (fun j => h 269 j ≠ -4 ∧ h 270 j ≠ -4) a (b - a) ∧ h' = h) := by
  refine xMeth FX9_references (Nat.le_of_ble_eq_true rfl) ?_
  have loop : ∀ (m : Nat) (xd1 : Nat) (xz : Int), a + xd1 ≤ b → b - (a + xd1) < m → xz = cntR (fun j => h 269 j ≠ -4 ∧ h 270 j ≠ -4) a xd1 → WI K mX9_references 0 n (qI n (fun zr h' => zr = cntR (fun j => h 269 j ≠ -4 ∧ h 270 j ≠ -4) a (b - a) ∧ h' = h)) 5 [(0, vr 259), (1, vi (a : Int)), (2, vi (b : Int)), (3, vi xz), (4, vi ((a + xd1 : Nat) : Int))] [] h := by
    intro m
    induction m with
    | zero => intro xd1 xz a b; exact absurd b (by omega)
    | succ m ih =>
      intro xd1 xz h0 hm hz
      refine x_iload 7 (xd DX9_references rfl) rfl rfl ?_
      refine x_iload_n 8 (xd DX9_references rfl) rfl rfl ?_
      refine x_icmp_ge 11 49 (xd DX9_references rfl) rfl (by omega) (by omega) rfl (fun c8 => ?_) (fun c8 => ?_)
      · refine x_iload_n 50 (xd DX9_references rfl) rfl rfl ?_
        refine x_ri (xd DX9_references rfl) rfl ?_
        refine ⟨?_, rfl⟩
        rw [hz, show b - a = xd1 by omega]
      · refine x_iload_n 12 (xd DX9_references rfl) rfl rfl ?_
        refine x_aload_n 13 (xd DX9_references rfl) rfl rfl ?_
        refine x_gr 16 _ LX9_37 (xd DX9_references rfl) rfl rfl ⟨by decide, by decide⟩ (by decide) rfl rfl ?_
        refine x_iload 18 (xd DX9_references rfl) rfl rfl ?_
        refine x_iaload 19 (xd DX9_references rfl) rfl ⟨Or.inr ⟨rfl, by decide⟩, by decide⟩ (by decide) (by omega) (by omega) rfl ?_
        refine x_bipush 21 (xd DX9_references rfl) rfl rfl ?_
        refine x_icmp_eq 24 40 (xd DX9_references rfl) rfl (by first | decide | exact (hr (a + xd1) (by omega) (by omega)).1) (by first | decide | exact (hr (a + xd1) (by omega) (by omega)).1) rfl (fun c21 => ?_) (fun c21 => ?_)
        · have hx : xp (h 269 ((a + xd1 : Nat) : Int) ≠ -4 ∧ h 270 ((a + xd1 : Nat) : Int) ≠ -4) = 0 := xp_0.mpr (fun q => q.1 c21)
          refine x_iconst 41 (xd DX9_references rfl) rfl ?_
          refine x_iadd 42 (xd DX9_references rfl) rfl ?_
          refine x_istore_n 43 (L' := [(0, _), (1, _), (2, _), (3, _), (4, _)]) (xd DX9_references rfl) (by decide) rfl rfl rfl ?_
          refine x_iinc 46 (L' := [(0, _), (1, _), (2, _), (3, _), (4, _)]) (xd DX9_references rfl) rfl (by decide) rfl rfl rfl ?_
          refine x_goto 5 (xd DX9_references rfl) rfl ?_
          refine ih (xd1 + 1) _ (by omega) (by omega) ?_
          rw [cntR_s, hx, hz]
          try omega
        · refine x_aload_n 25 (xd DX9_references rfl) rfl rfl ?_
          refine x_gr 28 _ LX9_40 (xd DX9_references rfl) rfl rfl ⟨by decide, by decide⟩ (by decide) rfl rfl ?_
          refine x_iload 30 (xd DX9_references rfl) rfl rfl ?_
          refine x_iaload 31 (xd DX9_references rfl) rfl ⟨Or.inr ⟨rfl, by decide⟩, by decide⟩ (by decide) (by omega) (by omega) rfl ?_
          refine x_bipush 33 (xd DX9_references rfl) rfl rfl ?_
          refine x_icmp_eq 36 40 (xd DX9_references rfl) rfl (by first | decide | exact (hr (a + xd1) (by omega) (by omega)).2) (by first | decide | exact (hr (a + xd1) (by omega) (by omega)).2) rfl (fun c33 => ?_) (fun c33 => ?_)
          · have hx : xp (h 269 ((a + xd1 : Nat) : Int) ≠ -4 ∧ h 270 ((a + xd1 : Nat) : Int) ≠ -4) = 0 := xp_0.mpr (fun q => q.2 c33)
            refine x_iconst 41 (xd DX9_references rfl) rfl ?_
            refine x_iadd 42 (xd DX9_references rfl) rfl ?_
            refine x_istore_n 43 (L' := [(0, _), (1, _), (2, _), (3, _), (4, _)]) (xd DX9_references rfl) (by decide) rfl rfl rfl ?_
            refine x_iinc 46 (L' := [(0, _), (1, _), (2, _), (3, _), (4, _)]) (xd DX9_references rfl) rfl (by decide) rfl rfl rfl ?_
            refine x_goto 5 (xd DX9_references rfl) rfl ?_
            refine ih (xd1 + 1) _ (by omega) (by omega) ?_
            rw [cntR_s, hx, hz]
            try omega
          · have hx : xp (h 269 ((a + xd1 : Nat) : Int) ≠ -4 ∧ h 270 ((a + xd1 : Nat) : Int) ≠ -4) = 1 := xp_1.mpr ⟨c21, c33⟩
            refine x_iconst 37 (xd DX9_references rfl) rfl ?_
            refine x_goto 41 (xd DX9_references rfl) rfl ?_
            refine x_iadd 42 (xd DX9_references rfl) rfl ?_
            refine x_istore_n 43 (L' := [(0, _), (1, _), (2, _), (3, _), (4, _)]) (xd DX9_references rfl) (by decide) rfl rfl rfl ?_
            refine x_iinc 46 (L' := [(0, _), (1, _), (2, _), (3, _), (4, _)]) (xd DX9_references rfl) rfl (by decide) rfl rfl rfl ?_
            refine x_goto 5 (xd DX9_references rfl) rfl ?_
            refine ih (xd1 + 1) _ (by omega) (by omega) ?_
            rw [cntR_s, hx, hz]
            try omega
  refine x_iconst 1 (xd DX9_references rfl) rfl ?_
  refine x_istore_n 2 (L' := [(0, _), (1, _), (2, _), (3, _)]) (xd DX9_references rfl) (by decide) rfl rfl rfl ?_
  refine x_iload_n 3 (xd DX9_references rfl) rfl rfl ?_
  refine x_istore 5 (L' := [(0, _), (1, _), (2, _), (3, _), (4, _)]) (xd DX9_references rfl) (by decide) rfl rfl rfl ?_
  exact loop 100 0 0 (by omega) (by omega) rfl

set_option maxRecDepth 100000 in
set_option maxHeartbeats 4000000 in
theorem pX9_at {K : XK} {n : Nat} {h : XH} (v : Int) (hv : xrg v) (h5 : 0 ≤ h 259 5 ∧ h 259 5 ≤ 48) (hr : ∀ j, 0 ≤ j → j < h 259 5 → xrg (h 270 j)) : MI K mX9_at 0 n [vr 259, vi v] h (fun zr h' => ((v < 0 ∧ zr = -1) ∨ (0 ≤ v ∧ FirstAt (h 270) (h 259 5) v zr)) ∧ h' = h) := by
  refine xMeth FX9_at (Nat.le_of_ble_eq_true rfl) ?_
  have loop : 0 ≤ v → ∀ (m : Nat) (xi : Nat), (xi : Int) ≤ h 259 5 → h 259 5 - xi < (m : Int) → (∀ j : Nat, j < xi → h 270 j ≠ v) → WI K mX9_at 0 n (qI n (fun zr h' => ((v < 0 ∧ zr = -1) ∨ (0 ≤ v ∧ FirstAt (h 270) (h 259 5) v zr)) ∧ h' = h)) 8 [(0, vr 259), (1, vi v), (2, vi (xi : Int))] [] h := by
    intro hv0 m
    induction m with
    | zero => intro xi a b; exact absurd b (by omega)
    | succ m ih =>
      intro xi h0 hm hn
      refine x_iload_n 9 (xd DX9_at rfl) rfl rfl ?_
      refine x_aload_n 10 (xd DX9_at rfl) rfl rfl ?_
      refine x_gi 13 5 rfl LX9_103 (xd DX9_at rfl) rfl ⟨Or.inr ⟨rfl, by decide⟩, by decide⟩ rfl ?_
      refine x_icmp_ge 16 34 (xd DX9_at rfl) rfl (by omega) (by omega) rfl (fun c13 => ?_) (fun c13 => ?_)
      · refine x_bipush 36 (xd DX9_at rfl) rfl rfl ?_
        refine x_ri (xd DX9_at rfl) rfl ?_
        exact ⟨Or.inr ⟨by omega, Or.inr ⟨fun j q => hn j (by omega), rfl⟩⟩, rfl⟩
      · refine x_aload_n 17 (xd DX9_at rfl) rfl rfl ?_
        refine x_gr 20 _ LX9_40 (xd DX9_at rfl) rfl rfl ⟨by decide, by decide⟩ (by decide) rfl rfl ?_
        refine x_iload_n 21 (xd DX9_at rfl) rfl rfl ?_
        refine x_iaload 22 (xd DX9_at rfl) rfl ⟨Or.inr ⟨rfl, by decide⟩, by decide⟩ (by decide) (by omega) (by omega) rfl ?_
        refine x_iload_n 23 (xd DX9_at rfl) rfl rfl ?_
        refine x_icmp_ne 26 28 (xd DX9_at rfl) rfl (by first | omega | exact hr _ (by omega) (by omega)) (by first | omega | exact hr _ (by omega) (by omega)) rfl (fun c23 => ?_) (fun c23 => ?_)
        · refine x_iinc 31 (L' := [(0, _), (1, _), (2, _)]) (xd DX9_at rfl) rfl (by decide) rfl rfl rfl ?_
          refine x_goto 8 (xd DX9_at rfl) rfl ?_
          exact ih (xi + 1) (by omega) (by omega) (fun j q => by
            by_cases e : j = xi
            · subst e; exact c23
            · exact hn j (by omega))
        · refine x_iload_n 27 (xd DX9_at rfl) rfl rfl ?_
          refine x_ri (xd DX9_at rfl) rfl ?_
          exact ⟨Or.inr ⟨by omega, Or.inl ⟨xi, by omega, c23, hn, rfl⟩⟩, rfl⟩
  refine x_iload_n 1 (xd DX9_at rfl) rfl rfl ?_
  refine x_if_ge 4 6 (xd DX9_at rfl) rfl (by omega) rfl (fun c1 => ?_) (fun c1 => ?_)
  · refine x_iconst 7 (xd DX9_at rfl) rfl ?_
    refine x_istore_n 8 (L' := [(0, _), (1, _), (2, _)]) (xd DX9_at rfl) (by decide) rfl rfl rfl ?_
    exact loop (by omega) 100 0 (by omega) (by omega) (fun j q => absurd q (by omega))
  · refine x_iconst 5 (xd DX9_at rfl) rfl ?_
    refine x_ri (xd DX9_at rfl) rfl ?_
    exact ⟨Or.inl ⟨by omega, rfl⟩, rfl⟩

