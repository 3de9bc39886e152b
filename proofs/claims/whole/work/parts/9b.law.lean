/-! the law: its loop over the words -/
theorem xdt_app {b : ByteArray} {s t : List (Nat × Instr × Nat)} : xdt b (s ++ t) = (xdt b s && xdt b t) := List.all_append
def tLw : List (Nat × Instr × Nat) := tLw0 ++ (tLw1 ++ (tLw2 ++ (tLw3 ++ (tLw4 ++ (tLw5 ++ (tLw6 ++ (tLw7 ++ (tLw8 ++ (tLw9 ++ (tLw10 ++ (tLw11 ++ (tLw12 ++ (tLw13)))))))))))))
theorem DLw : xdt code tLw = true := by
  unfold tLw
  rw [xdt_app, DLw0, Bool.true_and, xdt_app, DLw1, Bool.true_and, xdt_app, DLw2, Bool.true_and, xdt_app, DLw3, Bool.true_and, xdt_app, DLw4, Bool.true_and, xdt_app, DLw5, Bool.true_and, xdt_app, DLw6, Bool.true_and, xdt_app, DLw7, Bool.true_and, xdt_app, DLw8, Bool.true_and, xdt_app, DLw9, Bool.true_and, xdt_app, DLw10, Bool.true_and, xdt_app, DLw11, Bool.true_and, xdt_app, DLw12, Bool.true_and, DLw13]
def RLw : String := "SqueezedCodeLaw"
def mLw (nm : String) : XM := (code, ⟨RLw, nm, ""⟩, 4, some .boolean, 274)
theorem KLw_7 : Cond.classLink RLw 7 RX8 ∈ xTb := xTb_mem 71 (by decide +kernel) rfl
theorem KLw_10 : Cond.classLink RLw 10 RX9 ∈ xTb := xTb_mem 897 (by decide +kernel) rfl
theorem CLw_9 : xML RLw 9 yX8_init := Or.inl (xTb_mem 73 (by decide +kernel) rfl)
theorem CLw_12 : xML RLw 12 yX9_init := Or.inl (xTb_mem 899 (by decide +kernel) rfl)
theorem CLw_13 : xML RLw 13 yX8_write := Or.inl (xTb_mem 608 (by decide +kernel) rfl)
theorem CLw_17 : xML RLw 17 yX9_write := Or.inl (xTb_mem 1042 (by decide +kernel) rfl)
theorem CLw_18 : xML RLw 18 yX8_wipe := Or.inl (xTb_mem 612 (by decide +kernel) rfl)
theorem CLw_22 : xML RLw 22 yX9_wipe := Or.inl (xTb_mem 1051 (by decide +kernel) rfl)
theorem CLw_23 : xML RLw 23 yX8_fault := Or.inl (xTb_mem 616 (by decide +kernel) rfl)
theorem CLw_26 : xML RLw 26 yX9_fault := Or.inl (xTb_mem 1055 (by decide +kernel) rfl)
theorem CLw_27 : xML RLw 27 yX8_lay := Or.inl (xTb_mem 620 (by decide +kernel) rfl)
theorem CLw_30 : xML RLw 30 yX9_lay := Or.inl (xTb_mem 1072 (by decide +kernel) rfl)
theorem CLw_31 : xML RLw 31 yX8_code := Or.inl (xTb_mem 632 (by decide +kernel) rfl)
theorem CLw_35 : xML RLw 35 yX9_code := Or.inl (xTb_mem 1151 (by decide +kernel) rfl)
theorem CLw_36 : xML RLw 36 yX8_add := Or.inl (xTb_mem 641 (by decide +kernel) rfl)
theorem CLw_40 : xML RLw 40 yX9_add := Or.inl (xTb_mem 1077 (by decide +kernel) rfl)
theorem CLw_41 : xML RLw 41 yX8_drop := Or.inl (xTb_mem 678 (by decide +kernel) rfl)
theorem CLw_44 : xML RLw 44 yX9_drop := Or.inl (xTb_mem 1104 (by decide +kernel) rfl)
theorem CLw_45 : xML RLw 45 yX8_gain := Or.inl (xTb_mem 690 (by decide +kernel) rfl)
theorem CLw_48 : xML RLw 48 yX9_gain := Or.inl (xTb_mem 1112 (by decide +kernel) rfl)
theorem CLw_49 : xML RLw 49 yX8_choose := Or.inl (xTb_mem 707 (by decide +kernel) rfl)
theorem CLw_52 : xML RLw 52 yX9_choose := Or.inl (xTb_mem 1121 (by decide +kernel) rfl)
theorem CLw_53 : xML RLw 53 yX8_entry := Or.inl (xTb_mem 729 (by decide +kernel) rfl)
theorem CLw_56 : xML RLw 56 yX9_entry := Or.inl (xTb_mem 1130 (by decide +kernel) rfl)
theorem CLw_57 : xML RLw 57 yX8_part := Or.inl (xTb_mem 738 (by decide +kernel) rfl)
theorem CLw_60 : xML RLw 60 yX9_part := Or.inl (xTb_mem 1135 (by decide +kernel) rfl)
theorem CLw_61 : xML RLw 61 yX8_wide := Or.inl (xTb_mem 742 (by decide +kernel) rfl)
theorem CLw_64 : xML RLw 64 yX9_wide := Or.inl (xTb_mem 1139 (by decide +kernel) rfl)
theorem CLw_65 : xML RLw 65 yX8_hold := Or.inl (xTb_mem 746 (by decide +kernel) rfl)
theorem CLw_68 : xML RLw 68 yX9_hold := Or.inl (xTb_mem 1143 (by decide +kernel) rfl)
theorem CLw_69 : xML RLw 69 yX8_undo := Or.inl (xTb_mem 750 (by decide +kernel) rfl)
theorem CLw_72 : xML RLw 72 yX9_undo := Or.inl (xTb_mem 1147 (by decide +kernel) rfl)
theorem CLw_73 : xML RLw 73 yX8_size := Or.inl (xTb_mem 758 (by decide +kernel) rfl)
theorem CLw_76 : xML RLw 76 yX9_size := Or.inl (xTb_mem 1159 (by decide +kernel) rfl)
theorem CLw_77 : xML RLw 77 yX8_nibble := Or.inl (xTb_mem 776 (by decide +kernel) rfl)
theorem CLw_80 : xML RLw 80 yX9_nibble := Or.inl (xTb_mem 1176 (by decide +kernel) rfl)
theorem CLw_81 : xML RLw 81 yX8_address := Or.inl (xTb_mem 780 (by decide +kernel) rfl)
theorem CLw_84 : xML RLw 84 yX9_address := Or.inl (xTb_mem 1187 (by decide +kernel) rfl)
theorem CLw_85 : xML RLw 85 yX8_at := Or.inl (xTb_mem 784 (by decide +kernel) rfl)
theorem CLw_88 : xML RLw 88 yX9_at := Or.inl (xTb_mem 1191 (by decide +kernel) rfl)
theorem CLw_89 : xML RLw 89 yX8_line := Or.inl (xTb_mem 792 (by decide +kernel) rfl)
theorem CLw_92 : xML RLw 92 yX9_line := Or.inl (xTb_mem 1195 (by decide +kernel) rfl)
theorem CLw_93 : xML RLw 93 yX8_seek := Or.inl (xTb_mem 810 (by decide +kernel) rfl)
theorem CLw_96 : xML RLw 96 yX9_seek := Or.inl (xTb_mem 1203 (by decide +kernel) rfl)
theorem CLw_97 : xML RLw 97 yX8_start := Or.inl (xTb_mem 815 (by decide +kernel) rfl)
theorem CLw_100 : xML RLw 100 yX9_start := Or.inl (xTb_mem 1207 (by decide +kernel) rfl)
theorem CLw_101 : xML RLw 101 yX8_step := Or.inl (xTb_mem 824 (by decide +kernel) rfl)
theorem CLw_104 : xML RLw 104 yX9_step := Or.inl (xTb_mem 1211 (by decide +kernel) rfl)
theorem CLw_105 : xML RLw 105 yX8_now := Or.inl (xTb_mem 869 (by decide +kernel) rfl)
theorem CLw_108 : xML RLw 108 yX9_now := Or.inl (xTb_mem 1242 (by decide +kernel) rfl)
theorem CLw_109 : xML RLw 109 yX8_held := Or.inl (xTb_mem 877 (by decide +kernel) rfl)
theorem CLw_112 : xML RLw 112 yX9_held := Or.inl (xTb_mem 1246 (by decide +kernel) rfl)
theorem CLw_113 : xML RLw 113 yX8_cell := Or.inl (xTb_mem 881 (by decide +kernel) rfl)
theorem CLw_116 : xML RLw 116 yX9_cell := Or.inl (xTb_mem 1250 (by decide +kernel) rfl)
theorem CLw_117 : xML RLw 117 yX8_out := Or.inl (xTb_mem 885 (by decide +kernel) rfl)
theorem CLw_120 : xML RLw 120 yX9_out := Or.inl (xTb_mem 1255 (by decide +kernel) rfl)
theorem CLw_121 : xML RLw 121 yX8_count := Or.inl (xTb_mem 889 (by decide +kernel) rfl)
theorem CLw_124 : xML RLw 124 yX9_count := Or.inl (xTb_mem 1259 (by decide +kernel) rfl)
/-- the script's word at a place -/
def scA (K : XK) (j : Int) : Int := (K.2.2.2.2.2 (3 + j.toNat) : Int) - 2147483648
def scN (K : XK) : Nat := K.2.2.2.2.2 2
section XLAW
variable {K : XK} {M : XM} {R : XR} {Q : Option XV → Nat → XH → Prop} {u : Nat × Nat × Nat} {pc : Nat} {L : List (Nat × XV)} {st : List XV} {h : XH}
theorem x_scl (p' : Nat) (hd : decode M.1 pc = .ok (.arraylength, 1)) (hp : pc + 1 = p') (kk : WX K M R Q u p' L (vi (scN K : Int) :: st) h) : WX K M R Q u pc L (vr 1000004 :: st) h := by
  subst hp
  intro hmd p e s m args below meth c E H locs ls hH hP hS hlv
  have k2 := kk hmd p e s m args below meth c E H locs ls hH hP hS hlv
  have hX := E.2.2.2.2.2.2.2.2.1
  exact va_tlen E.1 E.2.1 hX.2.2.2.2.2.2.2.2.2.2.2.1 hS (xnI _) hd k2
theorem x_sci (p' : Nat) {j : Int} (h0 : 0 ≤ j) (hj : j < (scN K : Int)) (hL : scN K ≤ 2048) (hd : decode M.1 pc = .ok (.iaload, 1)) (hp : pc + 1 = p') (kk : WX K M R Q u p' L (vi (scA K j) :: st) h) : WX K M R Q u pc L (vi j :: vr 1000004 :: st) h := by
  subst hp
  intro hmd p e s m args below meth c E H locs ls hH hP hS hlv
  have k2 := kk hmd p e s m args below meth c E H locs ls hH hP hS hlv
  have hX := E.2.2.2.2.2.2.2.2.1
  refine va_ti E.1 E.2.1 hX.2.2.2.2.2.2.2.2.2.2.2.1 hS (i := Int32.ofInt j) (xin h0 hj (show scN K < 2147483648 by omega)) ?_ hd k2
  rw [xclamp h0 (by omega)]
  rfl
theorem x_iand31 (p' : Nat) {a : Int} (hd : decode M.1 pc = .ok (.iand, 1)) (hp : pc + 1 = p') (kk : WX K M R Q u p' L (vi (a % 32) :: st) h) : WX K M R Q u pc L (vi 31 :: vi a :: st) h := by
  subst hp
  intro hmd p e s m args below meth c E H locs ls hH hP hS hl
  have k2 := (kk hmd p e s m args below meth c E H locs ls hH hP hS hl)
  rw [List.map_cons, show xv K (vi (a % 32)) = Value.int (Int32.ofInt (a % 32)) from rfl, ← xand31 a] at k2
  exact lv_iand E.1 E.2.1 hd k2
theorem x_same {a : Int} {off : Int} (tgt : Nat) (hd : decode M.1 pc = .ok (.if_icmp .eq off, 3)) (ht : (pc : Int) + off = (tgt : Int)) (kt : WX K M R Q u tgt L st h) : WX K M R Q u pc L (vi a :: vi a :: st) h := by
  intro hmd p e s m args below meth c E H locs ls hH hP hS hl
  exact lv_icmp_eq E.1 E.2.1 hd ht (fun _ => kt hmd p e s m args below meth c E H locs ls hH hP hS hl) (fun q => absurd rfl q)
end XLAW
theorem Born8.mv {g g' : XH} (hB : Born8 g) (e : ∀ c, c < 259 → g' c = g c) : Born8 g' := by
  obtain ⟨b1, b2, b3, b4, b5, b6, b7, b8, b9, b10, b11, b12⟩ := hB
  refine ⟨b1.hp e, b2.hp (e 4 (by omega)) (e 5 (by omega)) (e 6 (by omega)) (e 7 (by omega)), ?_, by rw [e 4 (by omega)]; exact b4, fun k q => by rw [e 5 (by omega), e 6 (by omega)]; exact b5 k q, by rw [e 8 (by omega)]; exact b6, by rw [e 34 (by omega)]; exact b7, by rw [e 8 (by omega)]; exact b8, by rw [e 8 (by omega)]; exact b9, by rw [e 255 (by omega)]; exact b10, by rw [e 1 (by omega)]; exact b11, fun c k q w => by rw [e c q]; exact b12 c k q w⟩
  unfold TgE
  rw [e 4 (by omega), e 5 (by omega), e 6 (by omega), e 7 (by omega)]
  exact b3
def qLw : Option XV → Nat → XH → Prop := fun v _ _ => v = some (vi 1)
abbrev RLaw : XR := (false, 14, 274, 3349)
abbrev LLw (zi : Int) : List (Nat × XV) := [(0, vr 1000004), (1, vr 0), (2, vr 259), (3, vi zi)]
set_option maxRecDepth 100000 in
set_option maxHeartbeats 4000000 in
theorem lw_write {K : XK} {nm : String} {h : XH} {zi : Int} (hsc : ∀ j, xrg (scA K j)) (hL : scN K ≤ 2048) (h0 : 0 ≤ zi) (h1 : zi + 3 < (scN K : Int)) (hI : INV h) (hX : xXS 274 h) (back : ∀ h2, INV h2 → xXS 274 h2 → WX K (mLw nm) RLaw qLw (274, 274, 3349) 827 (LLw zi) [] h2) : WX K (mLw nm) RLaw qLw (274, 274, 3349) 156 (LLw zi) [] h := by
  obtain ⟨A, hA, hB⟩ := pr_write (K := K) (n := 274) (scA K (zi + 1)) hI (hsc _)
  refine x_aload_n 157 (xd DLw rfl) rfl rfl ?_
  refine x_aload_n 158 (xd DLw rfl) rfl rfl ?_
  refine x_iload_n 159 (xd DLw rfl) rfl rfl ?_
  refine x_iconst 160 (xd DLw rfl) rfl ?_
  refine x_iadd 161 (xd DLw rfl) rfl ?_
  refine x_sci 162 (by omega) (by omega) hL (xd DLw rfl) rfl ?_
  refine x_Vi0 165 hA FX8_write VX8_write CLw_13 (xd DLw rfl) rfl rfl rfl ⟨by decide, rfl⟩ ⟨by decide, by decide⟩ (by decide) (Nat.le_of_ble_eq_true rfl) rfl (by decide) hX ⟨by decide, by decide⟩ rfl ?_
  intro z1 h1 hz1 hX1
  refine x_aload_n 166 (xd DLw rfl) rfl rfl ?_
  refine x_aload_n 167 (xd DLw rfl) rfl rfl ?_
  refine x_iload_n 168 (xd DLw rfl) rfl rfl ?_
  refine x_iconst 169 (xd DLw rfl) rfl ?_
  refine x_iadd 170 (xd DLw rfl) rfl ?_
  refine x_sci 171 (by omega) (by omega) hL (xd DLw rfl) rfl ?_
  refine x_Vi0 174 (hB z1 h1 hz1) FX9_write VX9_write CLw_17 (xd DLw rfl) rfl rfl rfl ⟨by decide, rfl⟩ ⟨by decide, by decide⟩ (by decide) (Nat.le_of_ble_eq_true rfl) rfl (by decide) hX1 ⟨by decide, by decide⟩ rfl ?_
  rintro z2 h2 ⟨ez, hI2⟩ hX2
  rw [ez]
  exact x_same 827 (xd DLw rfl) rfl (back h2 hI2 hX2)
set_option maxRecDepth 100000 in
set_option maxHeartbeats 4000000 in
theorem lw_wipe {K : XK} {nm : String} {h : XH} {zi : Int} (hsc : ∀ j, xrg (scA K j)) (hL : scN K ≤ 2048) (h0 : 0 ≤ zi) (h1 : zi + 3 < (scN K : Int)) (hI : INV h) (hX : xXS 274 h) (back : ∀ h2, INV h2 → xXS 274 h2 → WX K (mLw nm) RLaw qLw (274, 274, 3349) 827 (LLw zi) [] h2) : WX K (mLw nm) RLaw qLw (274, 274, 3349) 179 (LLw zi) [] h := by
  obtain ⟨A, hA, hB⟩ := pr_wipe (K := K) (n := 274)  hI
  refine x_aload_n 180 (xd DLw rfl) rfl rfl ?_
  refine x_Vi0 183 hA FX8_wipe VX8_wipe CLw_18 (xd DLw rfl) rfl rfl rfl ⟨by decide, rfl⟩ ⟨by decide, by decide⟩ (by decide) (Nat.le_of_ble_eq_true rfl) rfl (by decide) hX ⟨by decide, by decide⟩ rfl ?_
  intro z1 h1 hz1 hX1
  refine x_aload_n 184 (xd DLw rfl) rfl rfl ?_
  refine x_Vi0 187 (hB z1 h1 hz1) FX9_wipe VX9_wipe CLw_22 (xd DLw rfl) rfl rfl rfl ⟨by decide, rfl⟩ ⟨by decide, by decide⟩ (by decide) (Nat.le_of_ble_eq_true rfl) rfl (by decide) hX1 ⟨by decide, by decide⟩ rfl ?_
  rintro z2 h2 ⟨ez, hI2⟩ hX2
  rw [ez]
  exact x_same 827 (xd DLw rfl) rfl (back h2 hI2 hX2)
set_option maxRecDepth 100000 in
set_option maxHeartbeats 4000000 in
theorem lw_fault {K : XK} {nm : String} {h : XH} {zi : Int} (hsc : ∀ j, xrg (scA K j)) (hL : scN K ≤ 2048) (h0 : 0 ≤ zi) (h1 : zi + 3 < (scN K : Int)) (hI : INV h) (hX : xXS 274 h) (back : ∀ h2, INV h2 → xXS 274 h2 → WX K (mLw nm) RLaw qLw (274, 274, 3349) 827 (LLw zi) [] h2) : WX K (mLw nm) RLaw qLw (274, 274, 3349) 192 (LLw zi) [] h := by
  obtain ⟨A, hA, hB⟩ := pr_fault (K := K) (n := 274)  hI
  refine x_aload_n 193 (xd DLw rfl) rfl rfl ?_
  refine x_Vi0 196 hA FX8_fault VX8_fault CLw_23 (xd DLw rfl) rfl rfl rfl ⟨by decide, rfl⟩ ⟨by decide, by decide⟩ (by decide) (Nat.le_of_ble_eq_true rfl) rfl (by decide) hX ⟨by decide, by decide⟩ rfl ?_
  intro z1 h1 hz1 hX1
  refine x_aload_n 197 (xd DLw rfl) rfl rfl ?_
  refine x_Vi0 200 (hB z1 h1 hz1) FX9_fault VX9_fault CLw_26 (xd DLw rfl) rfl rfl rfl ⟨by decide, rfl⟩ ⟨by decide, by decide⟩ (by decide) (Nat.le_of_ble_eq_true rfl) rfl (by decide) hX1 ⟨by decide, by decide⟩ rfl ?_
  rintro z2 h2 ⟨ez, hI2⟩ hX2
  rw [ez]
  exact x_same 827 (xd DLw rfl) rfl (back h2 hI2 hX2)
set_option maxRecDepth 100000 in
set_option maxHeartbeats 4000000 in
theorem lw_lay {K : XK} {nm : String} {h : XH} {zi : Int} (hsc : ∀ j, xrg (scA K j)) (hL : scN K ≤ 2048) (h0 : 0 ≤ zi) (h1 : zi + 3 < (scN K : Int)) (hI : INV h) (hX : xXS 274 h) (back : ∀ h2, INV h2 → xXS 274 h2 → WX K (mLw nm) RLaw qLw (274, 274, 3349) 827 (LLw zi) [] h2) : WX K (mLw nm) RLaw qLw (274, 274, 3349) 205 (LLw zi) [] h := by
  obtain ⟨A, hA, hB⟩ := pr_lay (K := K) (n := 274)  hI
  refine x_aload_n 206 (xd DLw rfl) rfl rfl ?_
  refine x_Vi0 209 hA FX8_lay VX8_lay CLw_27 (xd DLw rfl) rfl rfl rfl ⟨by decide, rfl⟩ ⟨by decide, by decide⟩ (by decide) (Nat.le_of_ble_eq_true rfl) rfl (by decide) hX ⟨by decide, by decide⟩ rfl ?_
  intro z1 h1 hz1 hX1
  refine x_aload_n 210 (xd DLw rfl) rfl rfl ?_
  refine x_Vi0 213 (hB z1 h1 hz1) FX9_lay VX9_lay CLw_30 (xd DLw rfl) rfl rfl rfl ⟨by decide, rfl⟩ ⟨by decide, by decide⟩ (by decide) (Nat.le_of_ble_eq_true rfl) rfl (by decide) hX1 ⟨by decide, by decide⟩ rfl ?_
  rintro z2 h2 ⟨ez, hI2⟩ hX2
  rw [ez]
  exact x_same 827 (xd DLw rfl) rfl (back h2 hI2 hX2)
set_option maxRecDepth 100000 in
set_option maxHeartbeats 4000000 in
theorem lw_code {K : XK} {nm : String} {h : XH} {zi : Int} (hsc : ∀ j, xrg (scA K j)) (hL : scN K ≤ 2048) (h0 : 0 ≤ zi) (h1 : zi + 3 < (scN K : Int)) (hI : INV h) (hX : xXS 274 h) (back : ∀ h2, INV h2 → xXS 274 h2 → WX K (mLw nm) RLaw qLw (274, 274, 3349) 827 (LLw zi) [] h2) : WX K (mLw nm) RLaw qLw (274, 274, 3349) 218 (LLw zi) [] h := by
  obtain ⟨A, hA, hB⟩ := pr_code (K := K) (n := 274) (scA K (zi + 1)) (scA K (zi + 2)) hI (hsc _) (hsc _)
  refine x_aload_n 219 (xd DLw rfl) rfl rfl ?_
  refine x_aload_n 220 (xd DLw rfl) rfl rfl ?_
  refine x_iload_n 221 (xd DLw rfl) rfl rfl ?_
  refine x_iconst 222 (xd DLw rfl) rfl ?_
  refine x_iadd 223 (xd DLw rfl) rfl ?_
  refine x_sci 224 (by omega) (by omega) hL (xd DLw rfl) rfl ?_
  refine x_aload_n 225 (xd DLw rfl) rfl rfl ?_
  refine x_iload_n 226 (xd DLw rfl) rfl rfl ?_
  refine x_iconst 227 (xd DLw rfl) rfl ?_
  refine x_iadd 228 (xd DLw rfl) rfl ?_
  refine x_sci 229 (by omega) (by omega) hL (xd DLw rfl) rfl ?_
  refine x_Vi0 232 hA FX8_code VX8_code CLw_31 (xd DLw rfl) rfl rfl rfl ⟨by decide, rfl⟩ ⟨by decide, by decide⟩ (by decide) (Nat.le_of_ble_eq_true rfl) rfl (by decide) hX ⟨by decide, by decide⟩ rfl ?_
  intro z1 h1 hz1 hX1
  refine x_aload_n 233 (xd DLw rfl) rfl rfl ?_
  refine x_aload_n 234 (xd DLw rfl) rfl rfl ?_
  refine x_iload_n 235 (xd DLw rfl) rfl rfl ?_
  refine x_iconst 236 (xd DLw rfl) rfl ?_
  refine x_iadd 237 (xd DLw rfl) rfl ?_
  refine x_sci 238 (by omega) (by omega) hL (xd DLw rfl) rfl ?_
  refine x_aload_n 239 (xd DLw rfl) rfl rfl ?_
  refine x_iload_n 240 (xd DLw rfl) rfl rfl ?_
  refine x_iconst 241 (xd DLw rfl) rfl ?_
  refine x_iadd 242 (xd DLw rfl) rfl ?_
  refine x_sci 243 (by omega) (by omega) hL (xd DLw rfl) rfl ?_
  refine x_Vi0 246 (hB z1 h1 hz1) FX9_code VX9_code CLw_35 (xd DLw rfl) rfl rfl rfl ⟨by decide, rfl⟩ ⟨by decide, by decide⟩ (by decide) (Nat.le_of_ble_eq_true rfl) rfl (by decide) hX1 ⟨by decide, by decide⟩ rfl ?_
  rintro z2 h2 ⟨ez, hI2⟩ hX2
  rw [ez]
  exact x_same 827 (xd DLw rfl) rfl (back h2 hI2 hX2)
set_option maxRecDepth 100000 in
set_option maxHeartbeats 4000000 in
theorem lw_add {K : XK} {nm : String} {h : XH} {zi : Int} (hsc : ∀ j, xrg (scA K j)) (hL : scN K ≤ 2048) (h0 : 0 ≤ zi) (h1 : zi + 3 < (scN K : Int)) (hI : INV h) (hX : xXS 274 h) (back : ∀ h2, INV h2 → xXS 274 h2 → WX K (mLw nm) RLaw qLw (274, 274, 3349) 827 (LLw zi) [] h2) : WX K (mLw nm) RLaw qLw (274, 274, 3349) 251 (LLw zi) [] h := by
  obtain ⟨A, hA, hB⟩ := pr_add (K := K) (n := 274) (scA K (zi + 1)) (scA K (zi + 2)) (scA K (zi + 3)) hI (hsc _) (hsc _) (hsc _)
  refine x_aload_n 252 (xd DLw rfl) rfl rfl ?_
  refine x_aload_n 253 (xd DLw rfl) rfl rfl ?_
  refine x_iload_n 254 (xd DLw rfl) rfl rfl ?_
  refine x_iconst 255 (xd DLw rfl) rfl ?_
  refine x_iadd 256 (xd DLw rfl) rfl ?_
  refine x_sci 257 (by omega) (by omega) hL (xd DLw rfl) rfl ?_
  refine x_aload_n 258 (xd DLw rfl) rfl rfl ?_
  refine x_iload_n 259 (xd DLw rfl) rfl rfl ?_
  refine x_iconst 260 (xd DLw rfl) rfl ?_
  refine x_iadd 261 (xd DLw rfl) rfl ?_
  refine x_sci 262 (by omega) (by omega) hL (xd DLw rfl) rfl ?_
  refine x_aload_n 263 (xd DLw rfl) rfl rfl ?_
  refine x_iload_n 264 (xd DLw rfl) rfl rfl ?_
  refine x_iconst 265 (xd DLw rfl) rfl ?_
  refine x_iadd 266 (xd DLw rfl) rfl ?_
  refine x_sci 267 (by omega) (by omega) hL (xd DLw rfl) rfl ?_
  refine x_Vi0 270 hA FX8_add VX8_add CLw_36 (xd DLw rfl) rfl rfl rfl ⟨by decide, rfl⟩ ⟨by decide, by decide⟩ (by decide) (Nat.le_of_ble_eq_true rfl) rfl (by decide) hX ⟨by decide, by decide⟩ rfl ?_
  intro z1 h1 hz1 hX1
  refine x_aload_n 271 (xd DLw rfl) rfl rfl ?_
  refine x_aload_n 272 (xd DLw rfl) rfl rfl ?_
  refine x_iload_n 273 (xd DLw rfl) rfl rfl ?_
  refine x_iconst 274 (xd DLw rfl) rfl ?_
  refine x_iadd 275 (xd DLw rfl) rfl ?_
  refine x_sci 276 (by omega) (by omega) hL (xd DLw rfl) rfl ?_
  refine x_aload_n 277 (xd DLw rfl) rfl rfl ?_
  refine x_iload_n 278 (xd DLw rfl) rfl rfl ?_
  refine x_iconst 279 (xd DLw rfl) rfl ?_
  refine x_iadd 280 (xd DLw rfl) rfl ?_
  refine x_sci 281 (by omega) (by omega) hL (xd DLw rfl) rfl ?_
  refine x_aload_n 282 (xd DLw rfl) rfl rfl ?_
  refine x_iload_n 283 (xd DLw rfl) rfl rfl ?_
  refine x_iconst 284 (xd DLw rfl) rfl ?_
  refine x_iadd 285 (xd DLw rfl) rfl ?_
  refine x_sci 286 (by omega) (by omega) hL (xd DLw rfl) rfl ?_
  refine x_Vi0 289 (hB z1 h1 hz1) FX9_add VX9_add CLw_40 (xd DLw rfl) rfl rfl rfl ⟨by decide, rfl⟩ ⟨by decide, by decide⟩ (by decide) (Nat.le_of_ble_eq_true rfl) rfl (by decide) hX1 ⟨by decide, by decide⟩ rfl ?_
  rintro z2 h2 ⟨ez, hI2⟩ hX2
  rw [ez]
  exact x_same 827 (xd DLw rfl) rfl (back h2 hI2 hX2)
set_option maxRecDepth 100000 in
set_option maxHeartbeats 4000000 in
theorem lw_drop {K : XK} {nm : String} {h : XH} {zi : Int} (hsc : ∀ j, xrg (scA K j)) (hL : scN K ≤ 2048) (h0 : 0 ≤ zi) (h1 : zi + 3 < (scN K : Int)) (hI : INV h) (hX : xXS 274 h) (back : ∀ h2, INV h2 → xXS 274 h2 → WX K (mLw nm) RLaw qLw (274, 274, 3349) 827 (LLw zi) [] h2) : WX K (mLw nm) RLaw qLw (274, 274, 3349) 294 (LLw zi) [] h := by
  obtain ⟨A, hA, hB⟩ := pr_drop (K := K) (n := 274) (scA K (zi + 1)) hI (hsc _)
  refine x_aload_n 295 (xd DLw rfl) rfl rfl ?_
  refine x_aload_n 296 (xd DLw rfl) rfl rfl ?_
  refine x_iload_n 297 (xd DLw rfl) rfl rfl ?_
  refine x_iconst 298 (xd DLw rfl) rfl ?_
  refine x_iadd 299 (xd DLw rfl) rfl ?_
  refine x_sci 300 (by omega) (by omega) hL (xd DLw rfl) rfl ?_
  refine x_Vi0 303 hA FX8_drop VX8_drop CLw_41 (xd DLw rfl) rfl rfl rfl ⟨by decide, rfl⟩ ⟨by decide, by decide⟩ (by decide) (Nat.le_of_ble_eq_true rfl) rfl (by decide) hX ⟨by decide, by decide⟩ rfl ?_
  intro z1 h1 hz1 hX1
  refine x_aload_n 304 (xd DLw rfl) rfl rfl ?_
  refine x_aload_n 305 (xd DLw rfl) rfl rfl ?_
  refine x_iload_n 306 (xd DLw rfl) rfl rfl ?_
  refine x_iconst 307 (xd DLw rfl) rfl ?_
  refine x_iadd 308 (xd DLw rfl) rfl ?_
  refine x_sci 309 (by omega) (by omega) hL (xd DLw rfl) rfl ?_
  refine x_Vi0 312 (hB z1 h1 hz1) FX9_drop VX9_drop CLw_44 (xd DLw rfl) rfl rfl rfl ⟨by decide, rfl⟩ ⟨by decide, by decide⟩ (by decide) (Nat.le_of_ble_eq_true rfl) rfl (by decide) hX1 ⟨by decide, by decide⟩ rfl ?_
  rintro z2 h2 ⟨ez, hI2⟩ hX2
  rw [ez]
  exact x_same 827 (xd DLw rfl) rfl (back h2 hI2 hX2)
set_option maxRecDepth 100000 in
set_option maxHeartbeats 4000000 in
theorem lw_gain {K : XK} {nm : String} {h : XH} {zi : Int} (hsc : ∀ j, xrg (scA K j)) (hL : scN K ≤ 2048) (h0 : 0 ≤ zi) (h1 : zi + 3 < (scN K : Int)) (hI : INV h) (hX : xXS 274 h) (back : ∀ h2, INV h2 → xXS 274 h2 → WX K (mLw nm) RLaw qLw (274, 274, 3349) 827 (LLw zi) [] h2) : WX K (mLw nm) RLaw qLw (274, 274, 3349) 317 (LLw zi) [] h := by
  obtain ⟨A, hA, hB⟩ := pr_gain (K := K) (n := 274) (scA K (zi + 1)) (scA K (zi + 2)) (scA K (zi + 3)) hI (hsc _) (hsc _) (hsc _)
  refine x_aload_n 318 (xd DLw rfl) rfl rfl ?_
  refine x_aload_n 319 (xd DLw rfl) rfl rfl ?_
  refine x_iload_n 320 (xd DLw rfl) rfl rfl ?_
  refine x_iconst 321 (xd DLw rfl) rfl ?_
  refine x_iadd 322 (xd DLw rfl) rfl ?_
  refine x_sci 323 (by omega) (by omega) hL (xd DLw rfl) rfl ?_
  refine x_aload_n 324 (xd DLw rfl) rfl rfl ?_
  refine x_iload_n 325 (xd DLw rfl) rfl rfl ?_
  refine x_iconst 326 (xd DLw rfl) rfl ?_
  refine x_iadd 327 (xd DLw rfl) rfl ?_
  refine x_sci 328 (by omega) (by omega) hL (xd DLw rfl) rfl ?_
  refine x_aload_n 329 (xd DLw rfl) rfl rfl ?_
  refine x_iload_n 330 (xd DLw rfl) rfl rfl ?_
  refine x_iconst 331 (xd DLw rfl) rfl ?_
  refine x_iadd 332 (xd DLw rfl) rfl ?_
  refine x_sci 333 (by omega) (by omega) hL (xd DLw rfl) rfl ?_
  refine x_Vi0 336 hA FX8_gain VX8_gain CLw_45 (xd DLw rfl) rfl rfl rfl ⟨by decide, rfl⟩ ⟨by decide, by decide⟩ (by decide) (Nat.le_of_ble_eq_true rfl) rfl (by decide) hX ⟨by decide, by decide⟩ rfl ?_
  intro z1 h1 hz1 hX1
  refine x_aload_n 337 (xd DLw rfl) rfl rfl ?_
  refine x_aload_n 338 (xd DLw rfl) rfl rfl ?_
  refine x_iload_n 339 (xd DLw rfl) rfl rfl ?_
  refine x_iconst 340 (xd DLw rfl) rfl ?_
  refine x_iadd 341 (xd DLw rfl) rfl ?_
  refine x_sci 342 (by omega) (by omega) hL (xd DLw rfl) rfl ?_
  refine x_aload_n 343 (xd DLw rfl) rfl rfl ?_
  refine x_iload_n 344 (xd DLw rfl) rfl rfl ?_
  refine x_iconst 345 (xd DLw rfl) rfl ?_
  refine x_iadd 346 (xd DLw rfl) rfl ?_
  refine x_sci 347 (by omega) (by omega) hL (xd DLw rfl) rfl ?_
  refine x_aload_n 348 (xd DLw rfl) rfl rfl ?_
  refine x_iload_n 349 (xd DLw rfl) rfl rfl ?_
  refine x_iconst 350 (xd DLw rfl) rfl ?_
  refine x_iadd 351 (xd DLw rfl) rfl ?_
  refine x_sci 352 (by omega) (by omega) hL (xd DLw rfl) rfl ?_
  refine x_Vi0 355 (hB z1 h1 hz1) FX9_gain VX9_gain CLw_48 (xd DLw rfl) rfl rfl rfl ⟨by decide, rfl⟩ ⟨by decide, by decide⟩ (by decide) (Nat.le_of_ble_eq_true rfl) rfl (by decide) hX1 ⟨by decide, by decide⟩ rfl ?_
  rintro z2 h2 ⟨ez, hI2⟩ hX2
  rw [ez]
  exact x_same 827 (xd DLw rfl) rfl (back h2 hI2 hX2)
set_option maxRecDepth 100000 in
set_option maxHeartbeats 4000000 in
theorem lw_choose {K : XK} {nm : String} {h : XH} {zi : Int} (hsc : ∀ j, xrg (scA K j)) (hL : scN K ≤ 2048) (h0 : 0 ≤ zi) (h1 : zi + 3 < (scN K : Int)) (hI : INV h) (hX : xXS 274 h) (back : ∀ h2, INV h2 → xXS 274 h2 → WX K (mLw nm) RLaw qLw (274, 274, 3349) 827 (LLw zi) [] h2) : WX K (mLw nm) RLaw qLw (274, 274, 3349) 360 (LLw zi) [] h := by
  obtain ⟨A, hA, hB⟩ := pr_choose (K := K) (n := 274) (scA K (zi + 1)) hI (hsc _)
  refine x_aload_n 361 (xd DLw rfl) rfl rfl ?_
  refine x_aload_n 362 (xd DLw rfl) rfl rfl ?_
  refine x_iload_n 363 (xd DLw rfl) rfl rfl ?_
  refine x_iconst 364 (xd DLw rfl) rfl ?_
  refine x_iadd 365 (xd DLw rfl) rfl ?_
  refine x_sci 366 (by omega) (by omega) hL (xd DLw rfl) rfl ?_
  refine x_Vi0 369 hA FX8_choose VX8_choose CLw_49 (xd DLw rfl) rfl rfl rfl ⟨by decide, rfl⟩ ⟨by decide, by decide⟩ (by decide) (Nat.le_of_ble_eq_true rfl) rfl (by decide) hX ⟨by decide, by decide⟩ rfl ?_
  intro z1 h1 hz1 hX1
  refine x_aload_n 370 (xd DLw rfl) rfl rfl ?_
  refine x_aload_n 371 (xd DLw rfl) rfl rfl ?_
  refine x_iload_n 372 (xd DLw rfl) rfl rfl ?_
  refine x_iconst 373 (xd DLw rfl) rfl ?_
  refine x_iadd 374 (xd DLw rfl) rfl ?_
  refine x_sci 375 (by omega) (by omega) hL (xd DLw rfl) rfl ?_
  refine x_Vi0 378 (hB z1 h1 hz1) FX9_choose VX9_choose CLw_52 (xd DLw rfl) rfl rfl rfl ⟨by decide, rfl⟩ ⟨by decide, by decide⟩ (by decide) (Nat.le_of_ble_eq_true rfl) rfl (by decide) hX1 ⟨by decide, by decide⟩ rfl ?_
  rintro z2 h2 ⟨ez, hI2⟩ hX2
  rw [ez]
  exact x_same 827 (xd DLw rfl) rfl (back h2 hI2 hX2)
set_option maxRecDepth 100000 in
set_option maxHeartbeats 4000000 in
theorem lw_entry {K : XK} {nm : String} {h : XH} {zi : Int} (hsc : ∀ j, xrg (scA K j)) (hL : scN K ≤ 2048) (h0 : 0 ≤ zi) (h1 : zi + 3 < (scN K : Int)) (hI : INV h) (hX : xXS 274 h) (back : ∀ h2, INV h2 → xXS 274 h2 → WX K (mLw nm) RLaw qLw (274, 274, 3349) 827 (LLw zi) [] h2) : WX K (mLw nm) RLaw qLw (274, 274, 3349) 383 (LLw zi) [] h := by
  obtain ⟨A, hA, hB⟩ := pr_entry (K := K) (n := 274) (scA K (zi + 1)) (scA K (zi + 2)) hI (hsc _) (hsc _)
  refine x_aload_n 384 (xd DLw rfl) rfl rfl ?_
  refine x_aload_n 385 (xd DLw rfl) rfl rfl ?_
  refine x_iload_n 386 (xd DLw rfl) rfl rfl ?_
  refine x_iconst 387 (xd DLw rfl) rfl ?_
  refine x_iadd 388 (xd DLw rfl) rfl ?_
  refine x_sci 389 (by omega) (by omega) hL (xd DLw rfl) rfl ?_
  refine x_aload_n 390 (xd DLw rfl) rfl rfl ?_
  refine x_iload_n 391 (xd DLw rfl) rfl rfl ?_
  refine x_iconst 392 (xd DLw rfl) rfl ?_
  refine x_iadd 393 (xd DLw rfl) rfl ?_
  refine x_sci 394 (by omega) (by omega) hL (xd DLw rfl) rfl ?_
  refine x_Vi0 397 hA FX8_entry VX8_entry CLw_53 (xd DLw rfl) rfl rfl rfl ⟨by decide, rfl⟩ ⟨by decide, by decide⟩ (by decide) (Nat.le_of_ble_eq_true rfl) rfl (by decide) hX ⟨by decide, by decide⟩ rfl ?_
  intro z1 h1 hz1 hX1
  refine x_aload_n 398 (xd DLw rfl) rfl rfl ?_
  refine x_aload_n 399 (xd DLw rfl) rfl rfl ?_
  refine x_iload_n 400 (xd DLw rfl) rfl rfl ?_
  refine x_iconst 401 (xd DLw rfl) rfl ?_
  refine x_iadd 402 (xd DLw rfl) rfl ?_
  refine x_sci 403 (by omega) (by omega) hL (xd DLw rfl) rfl ?_
  refine x_aload_n 404 (xd DLw rfl) rfl rfl ?_
  refine x_iload_n 405 (xd DLw rfl) rfl rfl ?_
  refine x_iconst 406 (xd DLw rfl) rfl ?_
  refine x_iadd 407 (xd DLw rfl) rfl ?_
  refine x_sci 408 (by omega) (by omega) hL (xd DLw rfl) rfl ?_
  refine x_Vi0 411 (hB z1 h1 hz1) FX9_entry VX9_entry CLw_56 (xd DLw rfl) rfl rfl rfl ⟨by decide, rfl⟩ ⟨by decide, by decide⟩ (by decide) (Nat.le_of_ble_eq_true rfl) rfl (by decide) hX1 ⟨by decide, by decide⟩ rfl ?_
  rintro z2 h2 ⟨ez, hI2⟩ hX2
  rw [ez]
  exact x_same 827 (xd DLw rfl) rfl (back h2 hI2 hX2)
set_option maxRecDepth 100000 in
set_option maxHeartbeats 4000000 in
theorem lw_part {K : XK} {nm : String} {h : XH} {zi : Int} (hsc : ∀ j, xrg (scA K j)) (hL : scN K ≤ 2048) (h0 : 0 ≤ zi) (h1 : zi + 3 < (scN K : Int)) (hI : INV h) (hX : xXS 274 h) (back : ∀ h2, INV h2 → xXS 274 h2 → WX K (mLw nm) RLaw qLw (274, 274, 3349) 827 (LLw zi) [] h2) : WX K (mLw nm) RLaw qLw (274, 274, 3349) 416 (LLw zi) [] h := by
  obtain ⟨A, hA, hB⟩ := pr_part (K := K) (n := 274) (scA K (zi + 1)) (scA K (zi + 2)) (scA K (zi + 3)) hI (hsc _) (hsc _) (hsc _)
  refine x_aload_n 417 (xd DLw rfl) rfl rfl ?_
  refine x_aload_n 418 (xd DLw rfl) rfl rfl ?_
  refine x_iload_n 419 (xd DLw rfl) rfl rfl ?_
  refine x_iconst 420 (xd DLw rfl) rfl ?_
  refine x_iadd 421 (xd DLw rfl) rfl ?_
  refine x_sci 422 (by omega) (by omega) hL (xd DLw rfl) rfl ?_
  refine x_aload_n 423 (xd DLw rfl) rfl rfl ?_
  refine x_iload_n 424 (xd DLw rfl) rfl rfl ?_
  refine x_iconst 425 (xd DLw rfl) rfl ?_
  refine x_iadd 426 (xd DLw rfl) rfl ?_
  refine x_sci 427 (by omega) (by omega) hL (xd DLw rfl) rfl ?_
  refine x_aload_n 428 (xd DLw rfl) rfl rfl ?_
  refine x_iload_n 429 (xd DLw rfl) rfl rfl ?_
  refine x_iconst 430 (xd DLw rfl) rfl ?_
  refine x_iadd 431 (xd DLw rfl) rfl ?_
  refine x_sci 432 (by omega) (by omega) hL (xd DLw rfl) rfl ?_
  refine x_Vi0 435 hA FX8_part VX8_part CLw_57 (xd DLw rfl) rfl rfl rfl ⟨by decide, rfl⟩ ⟨by decide, by decide⟩ (by decide) (Nat.le_of_ble_eq_true rfl) rfl (by decide) hX ⟨by decide, by decide⟩ rfl ?_
  intro z1 h1 hz1 hX1
  refine x_aload_n 436 (xd DLw rfl) rfl rfl ?_
  refine x_aload_n 437 (xd DLw rfl) rfl rfl ?_
  refine x_iload_n 438 (xd DLw rfl) rfl rfl ?_
  refine x_iconst 439 (xd DLw rfl) rfl ?_
  refine x_iadd 440 (xd DLw rfl) rfl ?_
  refine x_sci 441 (by omega) (by omega) hL (xd DLw rfl) rfl ?_
  refine x_aload_n 442 (xd DLw rfl) rfl rfl ?_
  refine x_iload_n 443 (xd DLw rfl) rfl rfl ?_
  refine x_iconst 444 (xd DLw rfl) rfl ?_
  refine x_iadd 445 (xd DLw rfl) rfl ?_
  refine x_sci 446 (by omega) (by omega) hL (xd DLw rfl) rfl ?_
  refine x_aload_n 447 (xd DLw rfl) rfl rfl ?_
  refine x_iload_n 448 (xd DLw rfl) rfl rfl ?_
  refine x_iconst 449 (xd DLw rfl) rfl ?_
  refine x_iadd 450 (xd DLw rfl) rfl ?_
  refine x_sci 451 (by omega) (by omega) hL (xd DLw rfl) rfl ?_
  refine x_Vi0 454 (hB z1 h1 hz1) FX9_part VX9_part CLw_60 (xd DLw rfl) rfl rfl rfl ⟨by decide, rfl⟩ ⟨by decide, by decide⟩ (by decide) (Nat.le_of_ble_eq_true rfl) rfl (by decide) hX1 ⟨by decide, by decide⟩ rfl ?_
  rintro z2 h2 ⟨ez, hI2⟩ hX2
  rw [ez]
  exact x_same 827 (xd DLw rfl) rfl (back h2 hI2 hX2)
set_option maxRecDepth 100000 in
set_option maxHeartbeats 4000000 in
theorem lw_wide {K : XK} {nm : String} {h : XH} {zi : Int} (hsc : ∀ j, xrg (scA K j)) (hL : scN K ≤ 2048) (h0 : 0 ≤ zi) (h1 : zi + 3 < (scN K : Int)) (hI : INV h) (hX : xXS 274 h) (back : ∀ h2, INV h2 → xXS 274 h2 → WX K (mLw nm) RLaw qLw (274, 274, 3349) 827 (LLw zi) [] h2) : WX K (mLw nm) RLaw qLw (274, 274, 3349) 459 (LLw zi) [] h := by
  obtain ⟨A, hA, hB⟩ := pr_wide (K := K) (n := 274) (scA K (zi + 1)) hI (hsc _)
  refine x_aload_n 460 (xd DLw rfl) rfl rfl ?_
  refine x_aload_n 461 (xd DLw rfl) rfl rfl ?_
  refine x_iload_n 462 (xd DLw rfl) rfl rfl ?_
  refine x_iconst 463 (xd DLw rfl) rfl ?_
  refine x_iadd 464 (xd DLw rfl) rfl ?_
  refine x_sci 465 (by omega) (by omega) hL (xd DLw rfl) rfl ?_
  refine x_Vi0 468 hA FX8_wide VX8_wide CLw_61 (xd DLw rfl) rfl rfl rfl ⟨by decide, rfl⟩ ⟨by decide, by decide⟩ (by decide) (Nat.le_of_ble_eq_true rfl) rfl (by decide) hX ⟨by decide, by decide⟩ rfl ?_
  intro z1 h1 hz1 hX1
  refine x_aload_n 469 (xd DLw rfl) rfl rfl ?_
  refine x_aload_n 470 (xd DLw rfl) rfl rfl ?_
  refine x_iload_n 471 (xd DLw rfl) rfl rfl ?_
  refine x_iconst 472 (xd DLw rfl) rfl ?_
  refine x_iadd 473 (xd DLw rfl) rfl ?_
  refine x_sci 474 (by omega) (by omega) hL (xd DLw rfl) rfl ?_
  refine x_Vi0 477 (hB z1 h1 hz1) FX9_wide VX9_wide CLw_64 (xd DLw rfl) rfl rfl rfl ⟨by decide, rfl⟩ ⟨by decide, by decide⟩ (by decide) (Nat.le_of_ble_eq_true rfl) rfl (by decide) hX1 ⟨by decide, by decide⟩ rfl ?_
  rintro z2 h2 ⟨ez, hI2⟩ hX2
  rw [ez]
  exact x_same 827 (xd DLw rfl) rfl (back h2 hI2 hX2)
set_option maxRecDepth 100000 in
set_option maxHeartbeats 4000000 in
theorem lw_hold {K : XK} {nm : String} {h : XH} {zi : Int} (hsc : ∀ j, xrg (scA K j)) (hL : scN K ≤ 2048) (h0 : 0 ≤ zi) (h1 : zi + 3 < (scN K : Int)) (hI : INV h) (hX : xXS 274 h) (back : ∀ h2, INV h2 → xXS 274 h2 → WX K (mLw nm) RLaw qLw (274, 274, 3349) 827 (LLw zi) [] h2) : WX K (mLw nm) RLaw qLw (274, 274, 3349) 482 (LLw zi) [] h := by
  obtain ⟨A, hA, hB⟩ := pr_hold (K := K) (n := 274) (scA K (zi + 1)) hI (hsc _)
  refine x_aload_n 483 (xd DLw rfl) rfl rfl ?_
  refine x_aload_n 484 (xd DLw rfl) rfl rfl ?_
  refine x_iload_n 485 (xd DLw rfl) rfl rfl ?_
  refine x_iconst 486 (xd DLw rfl) rfl ?_
  refine x_iadd 487 (xd DLw rfl) rfl ?_
  refine x_sci 488 (by omega) (by omega) hL (xd DLw rfl) rfl ?_
  refine x_Vi0 491 hA FX8_hold VX8_hold CLw_65 (xd DLw rfl) rfl rfl rfl ⟨by decide, rfl⟩ ⟨by decide, by decide⟩ (by decide) (Nat.le_of_ble_eq_true rfl) rfl (by decide) hX ⟨by decide, by decide⟩ rfl ?_
  intro z1 h1 hz1 hX1
  refine x_aload_n 492 (xd DLw rfl) rfl rfl ?_
  refine x_aload_n 493 (xd DLw rfl) rfl rfl ?_
  refine x_iload_n 494 (xd DLw rfl) rfl rfl ?_
  refine x_iconst 495 (xd DLw rfl) rfl ?_
  refine x_iadd 496 (xd DLw rfl) rfl ?_
  refine x_sci 497 (by omega) (by omega) hL (xd DLw rfl) rfl ?_
  refine x_Vi0 500 (hB z1 h1 hz1) FX9_hold VX9_hold CLw_68 (xd DLw rfl) rfl rfl rfl ⟨by decide, rfl⟩ ⟨by decide, by decide⟩ (by decide) (Nat.le_of_ble_eq_true rfl) rfl (by decide) hX1 ⟨by decide, by decide⟩ rfl ?_
  rintro z2 h2 ⟨ez, hI2⟩ hX2
  rw [ez]
  exact x_same 827 (xd DLw rfl) rfl (back h2 hI2 hX2)
set_option maxRecDepth 100000 in
set_option maxHeartbeats 4000000 in
theorem lw_undo {K : XK} {nm : String} {h : XH} {zi : Int} (hsc : ∀ j, xrg (scA K j)) (hL : scN K ≤ 2048) (h0 : 0 ≤ zi) (h1 : zi + 3 < (scN K : Int)) (hI : INV h) (hX : xXS 274 h) (back : ∀ h2, INV h2 → xXS 274 h2 → WX K (mLw nm) RLaw qLw (274, 274, 3349) 827 (LLw zi) [] h2) : WX K (mLw nm) RLaw qLw (274, 274, 3349) 505 (LLw zi) [] h := by
  obtain ⟨A, hA, hB⟩ := pr_undo (K := K) (n := 274)  hI
  refine x_aload_n 506 (xd DLw rfl) rfl rfl ?_
  refine x_Vi0 509 hA FX8_undo VX8_undo CLw_69 (xd DLw rfl) rfl rfl rfl ⟨by decide, rfl⟩ ⟨by decide, by decide⟩ (by decide) (Nat.le_of_ble_eq_true rfl) rfl (by decide) hX ⟨by decide, by decide⟩ rfl ?_
  intro z1 h1 hz1 hX1
  refine x_aload_n 510 (xd DLw rfl) rfl rfl ?_
  refine x_Vi0 513 (hB z1 h1 hz1) FX9_undo VX9_undo CLw_72 (xd DLw rfl) rfl rfl rfl ⟨by decide, rfl⟩ ⟨by decide, by decide⟩ (by decide) (Nat.le_of_ble_eq_true rfl) rfl (by decide) hX1 ⟨by decide, by decide⟩ rfl ?_
  rintro z2 h2 ⟨ez, hI2⟩ hX2
  rw [ez]
  exact x_same 827 (xd DLw rfl) rfl (back h2 hI2 hX2)
set_option maxRecDepth 100000 in
set_option maxHeartbeats 4000000 in
theorem lw_size {K : XK} {nm : String} {h : XH} {zi : Int} (hsc : ∀ j, xrg (scA K j)) (hL : scN K ≤ 2048) (h0 : 0 ≤ zi) (h1 : zi + 3 < (scN K : Int)) (hI : INV h) (hX : xXS 274 h) (back : ∀ h2, INV h2 → xXS 274 h2 → WX K (mLw nm) RLaw qLw (274, 274, 3349) 827 (LLw zi) [] h2) : WX K (mLw nm) RLaw qLw (274, 274, 3349) 518 (LLw zi) [] h := by
  obtain ⟨A, hA, hB⟩ := pr_size (K := K) (n := 274) (scA K (zi + 1)) hI (hsc _)
  refine x_aload_n 519 (xd DLw rfl) rfl rfl ?_
  refine x_aload_n 520 (xd DLw rfl) rfl rfl ?_
  refine x_iload_n 521 (xd DLw rfl) rfl rfl ?_
  refine x_iconst 522 (xd DLw rfl) rfl ?_
  refine x_iadd 523 (xd DLw rfl) rfl ?_
  refine x_sci 524 (by omega) (by omega) hL (xd DLw rfl) rfl ?_
  refine x_Vi0 527 hA FX8_size VX8_size CLw_73 (xd DLw rfl) rfl rfl rfl ⟨by decide, rfl⟩ ⟨by decide, by decide⟩ (by decide) (Nat.le_of_ble_eq_true rfl) rfl (by decide) hX ⟨by decide, by decide⟩ rfl ?_
  intro z1 h1 hz1 hX1
  refine x_aload_n 528 (xd DLw rfl) rfl rfl ?_
  refine x_aload_n 529 (xd DLw rfl) rfl rfl ?_
  refine x_iload_n 530 (xd DLw rfl) rfl rfl ?_
  refine x_iconst 531 (xd DLw rfl) rfl ?_
  refine x_iadd 532 (xd DLw rfl) rfl ?_
  refine x_sci 533 (by omega) (by omega) hL (xd DLw rfl) rfl ?_
  refine x_Vi0 536 (hB z1 h1 hz1) FX9_size VX9_size CLw_76 (xd DLw rfl) rfl rfl rfl ⟨by decide, rfl⟩ ⟨by decide, by decide⟩ (by decide) (Nat.le_of_ble_eq_true rfl) rfl (by decide) hX1 ⟨by decide, by decide⟩ rfl ?_
  rintro z2 h2 ⟨ez, hI2⟩ hX2
  rw [ez]
  exact x_same 827 (xd DLw rfl) rfl (back h2 hI2 hX2)
set_option maxRecDepth 100000 in
set_option maxHeartbeats 4000000 in
theorem lw_nibble {K : XK} {nm : String} {h : XH} {zi : Int} (hsc : ∀ j, xrg (scA K j)) (hL : scN K ≤ 2048) (h0 : 0 ≤ zi) (h1 : zi + 3 < (scN K : Int)) (hI : INV h) (hX : xXS 274 h) (back : ∀ h2, INV h2 → xXS 274 h2 → WX K (mLw nm) RLaw qLw (274, 274, 3349) 827 (LLw zi) [] h2) : WX K (mLw nm) RLaw qLw (274, 274, 3349) 541 (LLw zi) [] h := by
  obtain ⟨A, hA, hB⟩ := pr_nibble (K := K) (n := 274) (scA K (zi + 1)) hI (hsc _)
  refine x_aload_n 542 (xd DLw rfl) rfl rfl ?_
  refine x_aload_n 543 (xd DLw rfl) rfl rfl ?_
  refine x_iload_n 544 (xd DLw rfl) rfl rfl ?_
  refine x_iconst 545 (xd DLw rfl) rfl ?_
  refine x_iadd 546 (xd DLw rfl) rfl ?_
  refine x_sci 547 (by omega) (by omega) hL (xd DLw rfl) rfl ?_
  refine x_Vi0 550 hA FX8_nibble VX8_nibble CLw_77 (xd DLw rfl) rfl rfl rfl ⟨by decide, rfl⟩ ⟨by decide, by decide⟩ (by decide) (Nat.le_of_ble_eq_true rfl) rfl (by decide) hX ⟨by decide, by decide⟩ rfl ?_
  intro z1 h1 hz1 hX1
  refine x_aload_n 551 (xd DLw rfl) rfl rfl ?_
  refine x_aload_n 552 (xd DLw rfl) rfl rfl ?_
  refine x_iload_n 553 (xd DLw rfl) rfl rfl ?_
  refine x_iconst 554 (xd DLw rfl) rfl ?_
  refine x_iadd 555 (xd DLw rfl) rfl ?_
  refine x_sci 556 (by omega) (by omega) hL (xd DLw rfl) rfl ?_
  refine x_Vi0 559 (hB z1 h1 hz1) FX9_nibble VX9_nibble CLw_80 (xd DLw rfl) rfl rfl rfl ⟨by decide, rfl⟩ ⟨by decide, by decide⟩ (by decide) (Nat.le_of_ble_eq_true rfl) rfl (by decide) hX1 ⟨by decide, by decide⟩ rfl ?_
  rintro z2 h2 ⟨ez, hI2⟩ hX2
  rw [ez]
  exact x_same 827 (xd DLw rfl) rfl (back h2 hI2 hX2)
set_option maxRecDepth 100000 in
set_option maxHeartbeats 4000000 in
theorem lw_address {K : XK} {nm : String} {h : XH} {zi : Int} (hsc : ∀ j, xrg (scA K j)) (hL : scN K ≤ 2048) (h0 : 0 ≤ zi) (h1 : zi + 3 < (scN K : Int)) (hI : INV h) (hX : xXS 274 h) (back : ∀ h2, INV h2 → xXS 274 h2 → WX K (mLw nm) RLaw qLw (274, 274, 3349) 827 (LLw zi) [] h2) : WX K (mLw nm) RLaw qLw (274, 274, 3349) 564 (LLw zi) [] h := by
  obtain ⟨A, hA, hB⟩ := pr_address (K := K) (n := 274) (scA K (zi + 1)) hI (hsc _)
  refine x_aload_n 565 (xd DLw rfl) rfl rfl ?_
  refine x_aload_n 566 (xd DLw rfl) rfl rfl ?_
  refine x_iload_n 567 (xd DLw rfl) rfl rfl ?_
  refine x_iconst 568 (xd DLw rfl) rfl ?_
  refine x_iadd 569 (xd DLw rfl) rfl ?_
  refine x_sci 570 (by omega) (by omega) hL (xd DLw rfl) rfl ?_
  refine x_Vi0 573 hA FX8_address VX8_address CLw_81 (xd DLw rfl) rfl rfl rfl ⟨by decide, rfl⟩ ⟨by decide, by decide⟩ (by decide) (Nat.le_of_ble_eq_true rfl) rfl (by decide) hX ⟨by decide, by decide⟩ rfl ?_
  intro z1 h1 hz1 hX1
  refine x_aload_n 574 (xd DLw rfl) rfl rfl ?_
  refine x_aload_n 575 (xd DLw rfl) rfl rfl ?_
  refine x_iload_n 576 (xd DLw rfl) rfl rfl ?_
  refine x_iconst 577 (xd DLw rfl) rfl ?_
  refine x_iadd 578 (xd DLw rfl) rfl ?_
  refine x_sci 579 (by omega) (by omega) hL (xd DLw rfl) rfl ?_
  refine x_Vi0 582 (hB z1 h1 hz1) FX9_address VX9_address CLw_84 (xd DLw rfl) rfl rfl rfl ⟨by decide, rfl⟩ ⟨by decide, by decide⟩ (by decide) (Nat.le_of_ble_eq_true rfl) rfl (by decide) hX1 ⟨by decide, by decide⟩ rfl ?_
  rintro z2 h2 ⟨ez, hI2⟩ hX2
  rw [ez]
  exact x_same 827 (xd DLw rfl) rfl (back h2 hI2 hX2)
set_option maxRecDepth 100000 in
set_option maxHeartbeats 4000000 in
theorem lw_at {K : XK} {nm : String} {h : XH} {zi : Int} (hsc : ∀ j, xrg (scA K j)) (hL : scN K ≤ 2048) (h0 : 0 ≤ zi) (h1 : zi + 3 < (scN K : Int)) (hI : INV h) (hX : xXS 274 h) (back : ∀ h2, INV h2 → xXS 274 h2 → WX K (mLw nm) RLaw qLw (274, 274, 3349) 827 (LLw zi) [] h2) : WX K (mLw nm) RLaw qLw (274, 274, 3349) 587 (LLw zi) [] h := by
  obtain ⟨A, hA, hB⟩ := pr_at (K := K) (n := 274) (scA K (zi + 1)) hI (hsc _)
  refine x_aload_n 588 (xd DLw rfl) rfl rfl ?_
  refine x_aload_n 589 (xd DLw rfl) rfl rfl ?_
  refine x_iload_n 590 (xd DLw rfl) rfl rfl ?_
  refine x_iconst 591 (xd DLw rfl) rfl ?_
  refine x_iadd 592 (xd DLw rfl) rfl ?_
  refine x_sci 593 (by omega) (by omega) hL (xd DLw rfl) rfl ?_
  refine x_Vi0 596 hA FX8_at VX8_at CLw_85 (xd DLw rfl) rfl rfl rfl ⟨by decide, rfl⟩ ⟨by decide, by decide⟩ (by decide) (Nat.le_of_ble_eq_true rfl) rfl (by decide) hX ⟨by decide, by decide⟩ rfl ?_
  intro z1 h1 hz1 hX1
  refine x_aload_n 597 (xd DLw rfl) rfl rfl ?_
  refine x_aload_n 598 (xd DLw rfl) rfl rfl ?_
  refine x_iload_n 599 (xd DLw rfl) rfl rfl ?_
  refine x_iconst 600 (xd DLw rfl) rfl ?_
  refine x_iadd 601 (xd DLw rfl) rfl ?_
  refine x_sci 602 (by omega) (by omega) hL (xd DLw rfl) rfl ?_
  refine x_Vi0 605 (hB z1 h1 hz1) FX9_at VX9_at CLw_88 (xd DLw rfl) rfl rfl rfl ⟨by decide, rfl⟩ ⟨by decide, by decide⟩ (by decide) (Nat.le_of_ble_eq_true rfl) rfl (by decide) hX1 ⟨by decide, by decide⟩ rfl ?_
  rintro z2 h2 ⟨ez, hI2⟩ hX2
  rw [ez]
  exact x_same 827 (xd DLw rfl) rfl (back h2 hI2 hX2)
set_option maxRecDepth 100000 in
set_option maxHeartbeats 4000000 in
theorem lw_line {K : XK} {nm : String} {h : XH} {zi : Int} (hsc : ∀ j, xrg (scA K j)) (hL : scN K ≤ 2048) (h0 : 0 ≤ zi) (h1 : zi + 3 < (scN K : Int)) (hI : INV h) (hX : xXS 274 h) (back : ∀ h2, INV h2 → xXS 274 h2 → WX K (mLw nm) RLaw qLw (274, 274, 3349) 827 (LLw zi) [] h2) : WX K (mLw nm) RLaw qLw (274, 274, 3349) 610 (LLw zi) [] h := by
  obtain ⟨A, hA, hB⟩ := pr_line (K := K) (n := 274) (scA K (zi + 1)) (scA K (zi + 2)) hI (hsc _) (hsc _)
  refine x_aload_n 611 (xd DLw rfl) rfl rfl ?_
  refine x_aload_n 612 (xd DLw rfl) rfl rfl ?_
  refine x_iload_n 613 (xd DLw rfl) rfl rfl ?_
  refine x_iconst 614 (xd DLw rfl) rfl ?_
  refine x_iadd 615 (xd DLw rfl) rfl ?_
  refine x_sci 616 (by omega) (by omega) hL (xd DLw rfl) rfl ?_
  refine x_aload_n 617 (xd DLw rfl) rfl rfl ?_
  refine x_iload_n 618 (xd DLw rfl) rfl rfl ?_
  refine x_iconst 619 (xd DLw rfl) rfl ?_
  refine x_iadd 620 (xd DLw rfl) rfl ?_
  refine x_sci 621 (by omega) (by omega) hL (xd DLw rfl) rfl ?_
  refine x_Vi0 624 hA FX8_line VX8_line CLw_89 (xd DLw rfl) rfl rfl rfl ⟨by decide, rfl⟩ ⟨by decide, by decide⟩ (by decide) (Nat.le_of_ble_eq_true rfl) rfl (by decide) hX ⟨by decide, by decide⟩ rfl ?_
  intro z1 h1 hz1 hX1
  refine x_aload_n 625 (xd DLw rfl) rfl rfl ?_
  refine x_aload_n 626 (xd DLw rfl) rfl rfl ?_
  refine x_iload_n 627 (xd DLw rfl) rfl rfl ?_
  refine x_iconst 628 (xd DLw rfl) rfl ?_
  refine x_iadd 629 (xd DLw rfl) rfl ?_
  refine x_sci 630 (by omega) (by omega) hL (xd DLw rfl) rfl ?_
  refine x_aload_n 631 (xd DLw rfl) rfl rfl ?_
  refine x_iload_n 632 (xd DLw rfl) rfl rfl ?_
  refine x_iconst 633 (xd DLw rfl) rfl ?_
  refine x_iadd 634 (xd DLw rfl) rfl ?_
  refine x_sci 635 (by omega) (by omega) hL (xd DLw rfl) rfl ?_
  refine x_Vi0 638 (hB z1 h1 hz1) FX9_line VX9_line CLw_92 (xd DLw rfl) rfl rfl rfl ⟨by decide, rfl⟩ ⟨by decide, by decide⟩ (by decide) (Nat.le_of_ble_eq_true rfl) rfl (by decide) hX1 ⟨by decide, by decide⟩ rfl ?_
  rintro z2 h2 ⟨ez, hI2⟩ hX2
  rw [ez]
  exact x_same 827 (xd DLw rfl) rfl (back h2 hI2 hX2)
set_option maxRecDepth 100000 in
set_option maxHeartbeats 4000000 in
theorem lw_seek {K : XK} {nm : String} {h : XH} {zi : Int} (hsc : ∀ j, xrg (scA K j)) (hL : scN K ≤ 2048) (h0 : 0 ≤ zi) (h1 : zi + 3 < (scN K : Int)) (hI : INV h) (hX : xXS 274 h) (back : ∀ h2, INV h2 → xXS 274 h2 → WX K (mLw nm) RLaw qLw (274, 274, 3349) 827 (LLw zi) [] h2) : WX K (mLw nm) RLaw qLw (274, 274, 3349) 643 (LLw zi) [] h := by
  obtain ⟨A, hA, hB⟩ := pr_seek (K := K) (n := 274) (scA K (zi + 1)) hI (hsc _)
  refine x_aload_n 644 (xd DLw rfl) rfl rfl ?_
  refine x_aload_n 645 (xd DLw rfl) rfl rfl ?_
  refine x_iload_n 646 (xd DLw rfl) rfl rfl ?_
  refine x_iconst 647 (xd DLw rfl) rfl ?_
  refine x_iadd 648 (xd DLw rfl) rfl ?_
  refine x_sci 649 (by omega) (by omega) hL (xd DLw rfl) rfl ?_
  refine x_Vi0 652 hA FX8_seek VX8_seek CLw_93 (xd DLw rfl) rfl rfl rfl ⟨by decide, rfl⟩ ⟨by decide, by decide⟩ (by decide) (Nat.le_of_ble_eq_true rfl) rfl (by decide) hX ⟨by decide, by decide⟩ rfl ?_
  intro z1 h1 hz1 hX1
  refine x_aload_n 653 (xd DLw rfl) rfl rfl ?_
  refine x_aload_n 654 (xd DLw rfl) rfl rfl ?_
  refine x_iload_n 655 (xd DLw rfl) rfl rfl ?_
  refine x_iconst 656 (xd DLw rfl) rfl ?_
  refine x_iadd 657 (xd DLw rfl) rfl ?_
  refine x_sci 658 (by omega) (by omega) hL (xd DLw rfl) rfl ?_
  refine x_Vi0 661 (hB z1 h1 hz1) FX9_seek VX9_seek CLw_96 (xd DLw rfl) rfl rfl rfl ⟨by decide, rfl⟩ ⟨by decide, by decide⟩ (by decide) (Nat.le_of_ble_eq_true rfl) rfl (by decide) hX1 ⟨by decide, by decide⟩ rfl ?_
  rintro z2 h2 ⟨ez, hI2⟩ hX2
  rw [ez]
  exact x_same 827 (xd DLw rfl) rfl (back h2 hI2 hX2)
set_option maxRecDepth 100000 in
set_option maxHeartbeats 4000000 in
theorem lw_start {K : XK} {nm : String} {h : XH} {zi : Int} (hsc : ∀ j, xrg (scA K j)) (hL : scN K ≤ 2048) (h0 : 0 ≤ zi) (h1 : zi + 3 < (scN K : Int)) (hI : INV h) (hX : xXS 274 h) (back : ∀ h2, INV h2 → xXS 274 h2 → WX K (mLw nm) RLaw qLw (274, 274, 3349) 827 (LLw zi) [] h2) : WX K (mLw nm) RLaw qLw (274, 274, 3349) 666 (LLw zi) [] h := by
  obtain ⟨A, hA, hB⟩ := pr_start (K := K) (n := 274) (scA K (zi + 1)) hI (hsc _)
  refine x_aload_n 667 (xd DLw rfl) rfl rfl ?_
  refine x_aload_n 668 (xd DLw rfl) rfl rfl ?_
  refine x_iload_n 669 (xd DLw rfl) rfl rfl ?_
  refine x_iconst 670 (xd DLw rfl) rfl ?_
  refine x_iadd 671 (xd DLw rfl) rfl ?_
  refine x_sci 672 (by omega) (by omega) hL (xd DLw rfl) rfl ?_
  refine x_Vi0 675 hA FX8_start VX8_start CLw_97 (xd DLw rfl) rfl rfl rfl ⟨by decide, rfl⟩ ⟨by decide, by decide⟩ (by decide) (Nat.le_of_ble_eq_true rfl) rfl (by decide) hX ⟨by decide, by decide⟩ rfl ?_
  intro z1 h1 hz1 hX1
  refine x_aload_n 676 (xd DLw rfl) rfl rfl ?_
  refine x_aload_n 677 (xd DLw rfl) rfl rfl ?_
  refine x_iload_n 678 (xd DLw rfl) rfl rfl ?_
  refine x_iconst 679 (xd DLw rfl) rfl ?_
  refine x_iadd 680 (xd DLw rfl) rfl ?_
  refine x_sci 681 (by omega) (by omega) hL (xd DLw rfl) rfl ?_
  refine x_Vi0 684 (hB z1 h1 hz1) FX9_start VX9_start CLw_100 (xd DLw rfl) rfl rfl rfl ⟨by decide, rfl⟩ ⟨by decide, by decide⟩ (by decide) (Nat.le_of_ble_eq_true rfl) rfl (by decide) hX1 ⟨by decide, by decide⟩ rfl ?_
  rintro z2 h2 ⟨ez, hI2⟩ hX2
  rw [ez]
  exact x_same 827 (xd DLw rfl) rfl (back h2 hI2 hX2)
set_option maxRecDepth 100000 in
set_option maxHeartbeats 4000000 in
theorem lw_step {K : XK} {nm : String} {h : XH} {zi : Int} (hsc : ∀ j, xrg (scA K j)) (hL : scN K ≤ 2048) (h0 : 0 ≤ zi) (h1 : zi + 3 < (scN K : Int)) (hI : INV h) (hX : xXS 274 h) (back : ∀ h2, INV h2 → xXS 274 h2 → WX K (mLw nm) RLaw qLw (274, 274, 3349) 827 (LLw zi) [] h2) : WX K (mLw nm) RLaw qLw (274, 274, 3349) 689 (LLw zi) [] h := by
  obtain ⟨A, hA, hB⟩ := pr_step (K := K) (n := 274) (scA K (zi + 1)) hI (hsc _)
  refine x_aload_n 690 (xd DLw rfl) rfl rfl ?_
  refine x_aload_n 691 (xd DLw rfl) rfl rfl ?_
  refine x_iload_n 692 (xd DLw rfl) rfl rfl ?_
  refine x_iconst 693 (xd DLw rfl) rfl ?_
  refine x_iadd 694 (xd DLw rfl) rfl ?_
  refine x_sci 695 (by omega) (by omega) hL (xd DLw rfl) rfl ?_
  refine x_Vi0 698 hA FX8_step VX8_step CLw_101 (xd DLw rfl) rfl rfl rfl ⟨by decide, rfl⟩ ⟨by decide, by decide⟩ (by decide) (Nat.le_of_ble_eq_true rfl) rfl (by decide) hX ⟨by decide, by decide⟩ rfl ?_
  intro z1 h1 hz1 hX1
  refine x_aload_n 699 (xd DLw rfl) rfl rfl ?_
  refine x_aload_n 700 (xd DLw rfl) rfl rfl ?_
  refine x_iload_n 701 (xd DLw rfl) rfl rfl ?_
  refine x_iconst 702 (xd DLw rfl) rfl ?_
  refine x_iadd 703 (xd DLw rfl) rfl ?_
  refine x_sci 704 (by omega) (by omega) hL (xd DLw rfl) rfl ?_
  refine x_Vi0 707 (hB z1 h1 hz1) FX9_step VX9_step CLw_104 (xd DLw rfl) rfl rfl rfl ⟨by decide, rfl⟩ ⟨by decide, by decide⟩ (by decide) (Nat.le_of_ble_eq_true rfl) rfl (by decide) hX1 ⟨by decide, by decide⟩ rfl ?_
  rintro z2 h2 ⟨ez, hI2⟩ hX2
  rw [ez]
  exact x_same 827 (xd DLw rfl) rfl (back h2 hI2 hX2)
set_option maxRecDepth 100000 in
set_option maxHeartbeats 4000000 in
theorem lw_now {K : XK} {nm : String} {h : XH} {zi : Int} (hsc : ∀ j, xrg (scA K j)) (hL : scN K ≤ 2048) (h0 : 0 ≤ zi) (h1 : zi + 3 < (scN K : Int)) (hI : INV h) (hX : xXS 274 h) (back : ∀ h2, INV h2 → xXS 274 h2 → WX K (mLw nm) RLaw qLw (274, 274, 3349) 827 (LLw zi) [] h2) : WX K (mLw nm) RLaw qLw (274, 274, 3349) 712 (LLw zi) [] h := by
  obtain ⟨A, hA, hB⟩ := pr_now (K := K) (n := 274) (scA K (zi + 1)) hI (hsc _)
  refine x_aload_n 713 (xd DLw rfl) rfl rfl ?_
  refine x_aload_n 714 (xd DLw rfl) rfl rfl ?_
  refine x_iload_n 715 (xd DLw rfl) rfl rfl ?_
  refine x_iconst 716 (xd DLw rfl) rfl ?_
  refine x_iadd 717 (xd DLw rfl) rfl ?_
  refine x_sci 718 (by omega) (by omega) hL (xd DLw rfl) rfl ?_
  refine x_Vi0 721 hA FX8_now VX8_now CLw_105 (xd DLw rfl) rfl rfl rfl ⟨by decide, rfl⟩ ⟨by decide, by decide⟩ (by decide) (Nat.le_of_ble_eq_true rfl) rfl (by decide) hX ⟨by decide, by decide⟩ rfl ?_
  intro z1 h1 hz1 hX1
  refine x_aload_n 722 (xd DLw rfl) rfl rfl ?_
  refine x_aload_n 723 (xd DLw rfl) rfl rfl ?_
  refine x_iload_n 724 (xd DLw rfl) rfl rfl ?_
  refine x_iconst 725 (xd DLw rfl) rfl ?_
  refine x_iadd 726 (xd DLw rfl) rfl ?_
  refine x_sci 727 (by omega) (by omega) hL (xd DLw rfl) rfl ?_
  refine x_Vi0 730 (hB z1 h1 hz1) FX9_now VX9_now CLw_108 (xd DLw rfl) rfl rfl rfl ⟨by decide, rfl⟩ ⟨by decide, by decide⟩ (by decide) (Nat.le_of_ble_eq_true rfl) rfl (by decide) hX1 ⟨by decide, by decide⟩ rfl ?_
  rintro z2 h2 ⟨ez, hI2⟩ hX2
  rw [ez]
  exact x_same 827 (xd DLw rfl) rfl (back h2 hI2 hX2)
set_option maxRecDepth 100000 in
set_option maxHeartbeats 4000000 in
theorem lw_held {K : XK} {nm : String} {h : XH} {zi : Int} (hsc : ∀ j, xrg (scA K j)) (hL : scN K ≤ 2048) (h0 : 0 ≤ zi) (h1 : zi + 3 < (scN K : Int)) (hI : INV h) (hX : xXS 274 h) (back : ∀ h2, INV h2 → xXS 274 h2 → WX K (mLw nm) RLaw qLw (274, 274, 3349) 827 (LLw zi) [] h2) : WX K (mLw nm) RLaw qLw (274, 274, 3349) 735 (LLw zi) [] h := by
  obtain ⟨A, hA, hB⟩ := pr_held (K := K) (n := 274) (scA K (zi + 1)) hI (hsc _)
  refine x_aload_n 736 (xd DLw rfl) rfl rfl ?_
  refine x_aload_n 737 (xd DLw rfl) rfl rfl ?_
  refine x_iload_n 738 (xd DLw rfl) rfl rfl ?_
  refine x_iconst 739 (xd DLw rfl) rfl ?_
  refine x_iadd 740 (xd DLw rfl) rfl ?_
  refine x_sci 741 (by omega) (by omega) hL (xd DLw rfl) rfl ?_
  refine x_Vi0 744 hA FX8_held VX8_held CLw_109 (xd DLw rfl) rfl rfl rfl ⟨by decide, rfl⟩ ⟨by decide, by decide⟩ (by decide) (Nat.le_of_ble_eq_true rfl) rfl (by decide) hX ⟨by decide, by decide⟩ rfl ?_
  intro z1 h1 hz1 hX1
  refine x_aload_n 745 (xd DLw rfl) rfl rfl ?_
  refine x_aload_n 746 (xd DLw rfl) rfl rfl ?_
  refine x_iload_n 747 (xd DLw rfl) rfl rfl ?_
  refine x_iconst 748 (xd DLw rfl) rfl ?_
  refine x_iadd 749 (xd DLw rfl) rfl ?_
  refine x_sci 750 (by omega) (by omega) hL (xd DLw rfl) rfl ?_
  refine x_Vi0 753 (hB z1 h1 hz1) FX9_held VX9_held CLw_112 (xd DLw rfl) rfl rfl rfl ⟨by decide, rfl⟩ ⟨by decide, by decide⟩ (by decide) (Nat.le_of_ble_eq_true rfl) rfl (by decide) hX1 ⟨by decide, by decide⟩ rfl ?_
  rintro z2 h2 ⟨ez, hI2⟩ hX2
  rw [ez]
  exact x_same 827 (xd DLw rfl) rfl (back h2 hI2 hX2)
set_option maxRecDepth 100000 in
set_option maxHeartbeats 4000000 in
theorem lw_cell {K : XK} {nm : String} {h : XH} {zi : Int} (hsc : ∀ j, xrg (scA K j)) (hL : scN K ≤ 2048) (h0 : 0 ≤ zi) (h1 : zi + 3 < (scN K : Int)) (hI : INV h) (hX : xXS 274 h) (back : ∀ h2, INV h2 → xXS 274 h2 → WX K (mLw nm) RLaw qLw (274, 274, 3349) 827 (LLw zi) [] h2) : WX K (mLw nm) RLaw qLw (274, 274, 3349) 758 (LLw zi) [] h := by
  obtain ⟨A, hA, hB⟩ := pr_cell (K := K) (n := 274) (scA K (zi + 1)) hI (hsc _)
  refine x_aload_n 759 (xd DLw rfl) rfl rfl ?_
  refine x_aload_n 760 (xd DLw rfl) rfl rfl ?_
  refine x_iload_n 761 (xd DLw rfl) rfl rfl ?_
  refine x_iconst 762 (xd DLw rfl) rfl ?_
  refine x_iadd 763 (xd DLw rfl) rfl ?_
  refine x_sci 764 (by omega) (by omega) hL (xd DLw rfl) rfl ?_
  refine x_Vi0 767 hA FX8_cell VX8_cell CLw_113 (xd DLw rfl) rfl rfl rfl ⟨by decide, rfl⟩ ⟨by decide, by decide⟩ (by decide) (Nat.le_of_ble_eq_true rfl) rfl (by decide) hX ⟨by decide, by decide⟩ rfl ?_
  intro z1 h1 hz1 hX1
  refine x_aload_n 768 (xd DLw rfl) rfl rfl ?_
  refine x_aload_n 769 (xd DLw rfl) rfl rfl ?_
  refine x_iload_n 770 (xd DLw rfl) rfl rfl ?_
  refine x_iconst 771 (xd DLw rfl) rfl ?_
  refine x_iadd 772 (xd DLw rfl) rfl ?_
  refine x_sci 773 (by omega) (by omega) hL (xd DLw rfl) rfl ?_
  refine x_Vi0 776 (hB z1 h1 hz1) FX9_cell VX9_cell CLw_116 (xd DLw rfl) rfl rfl rfl ⟨by decide, rfl⟩ ⟨by decide, by decide⟩ (by decide) (Nat.le_of_ble_eq_true rfl) rfl (by decide) hX1 ⟨by decide, by decide⟩ rfl ?_
  rintro z2 h2 ⟨ez, hI2⟩ hX2
  rw [ez]
  exact x_same 827 (xd DLw rfl) rfl (back h2 hI2 hX2)
set_option maxRecDepth 100000 in
set_option maxHeartbeats 4000000 in
theorem lw_out {K : XK} {nm : String} {h : XH} {zi : Int} (hsc : ∀ j, xrg (scA K j)) (hL : scN K ≤ 2048) (h0 : 0 ≤ zi) (h1 : zi + 3 < (scN K : Int)) (hI : INV h) (hX : xXS 274 h) (back : ∀ h2, INV h2 → xXS 274 h2 → WX K (mLw nm) RLaw qLw (274, 274, 3349) 827 (LLw zi) [] h2) : WX K (mLw nm) RLaw qLw (274, 274, 3349) 781 (LLw zi) [] h := by
  obtain ⟨A, hA, hB⟩ := pr_out (K := K) (n := 274) (scA K (zi + 1)) hI (hsc _)
  refine x_aload_n 782 (xd DLw rfl) rfl rfl ?_
  refine x_aload_n 783 (xd DLw rfl) rfl rfl ?_
  refine x_iload_n 784 (xd DLw rfl) rfl rfl ?_
  refine x_iconst 785 (xd DLw rfl) rfl ?_
  refine x_iadd 786 (xd DLw rfl) rfl ?_
  refine x_sci 787 (by omega) (by omega) hL (xd DLw rfl) rfl ?_
  refine x_Vi0 790 hA FX8_out VX8_out CLw_117 (xd DLw rfl) rfl rfl rfl ⟨by decide, rfl⟩ ⟨by decide, by decide⟩ (by decide) (Nat.le_of_ble_eq_true rfl) rfl (by decide) hX ⟨by decide, by decide⟩ rfl ?_
  intro z1 h1 hz1 hX1
  refine x_aload_n 791 (xd DLw rfl) rfl rfl ?_
  refine x_aload_n 792 (xd DLw rfl) rfl rfl ?_
  refine x_iload_n 793 (xd DLw rfl) rfl rfl ?_
  refine x_iconst 794 (xd DLw rfl) rfl ?_
  refine x_iadd 795 (xd DLw rfl) rfl ?_
  refine x_sci 796 (by omega) (by omega) hL (xd DLw rfl) rfl ?_
  refine x_Vi0 799 (hB z1 h1 hz1) FX9_out VX9_out CLw_120 (xd DLw rfl) rfl rfl rfl ⟨by decide, rfl⟩ ⟨by decide, by decide⟩ (by decide) (Nat.le_of_ble_eq_true rfl) rfl (by decide) hX1 ⟨by decide, by decide⟩ rfl ?_
  rintro z2 h2 ⟨ez, hI2⟩ hX2
  rw [ez]
  exact x_same 827 (xd DLw rfl) rfl (back h2 hI2 hX2)
set_option maxRecDepth 100000 in
set_option maxHeartbeats 4000000 in
theorem lw_count {K : XK} {nm : String} {h : XH} {zi : Int} (hsc : ∀ j, xrg (scA K j)) (hL : scN K ≤ 2048) (h0 : 0 ≤ zi) (h1 : zi + 3 < (scN K : Int)) (hI : INV h) (hX : xXS 274 h) (back : ∀ h2, INV h2 → xXS 274 h2 → WX K (mLw nm) RLaw qLw (274, 274, 3349) 827 (LLw zi) [] h2) : WX K (mLw nm) RLaw qLw (274, 274, 3349) 804 (LLw zi) [] h := by
  obtain ⟨A, hA, hB⟩ := pr_count (K := K) (n := 274) (scA K (zi + 1)) hI (hsc _)
  refine x_aload_n 805 (xd DLw rfl) rfl rfl ?_
  refine x_aload_n 806 (xd DLw rfl) rfl rfl ?_
  refine x_iload_n 807 (xd DLw rfl) rfl rfl ?_
  refine x_iconst 808 (xd DLw rfl) rfl ?_
  refine x_iadd 809 (xd DLw rfl) rfl ?_
  refine x_sci 810 (by omega) (by omega) hL (xd DLw rfl) rfl ?_
  refine x_Vi0 813 hA FX8_count VX8_count CLw_121 (xd DLw rfl) rfl rfl rfl ⟨by decide, rfl⟩ ⟨by decide, by decide⟩ (by decide) (Nat.le_of_ble_eq_true rfl) rfl (by decide) hX ⟨by decide, by decide⟩ rfl ?_
  intro z1 h1 hz1 hX1
  refine x_aload_n 814 (xd DLw rfl) rfl rfl ?_
  refine x_aload_n 815 (xd DLw rfl) rfl rfl ?_
  refine x_iload_n 816 (xd DLw rfl) rfl rfl ?_
  refine x_iconst 817 (xd DLw rfl) rfl ?_
  refine x_iadd 818 (xd DLw rfl) rfl ?_
  refine x_sci 819 (by omega) (by omega) hL (xd DLw rfl) rfl ?_
  refine x_Vi0 822 (hB z1 h1 hz1) FX9_count VX9_count CLw_124 (xd DLw rfl) rfl rfl rfl ⟨by decide, rfl⟩ ⟨by decide, by decide⟩ (by decide) (Nat.le_of_ble_eq_true rfl) rfl (by decide) hX1 ⟨by decide, by decide⟩ rfl ?_
  rintro z2 h2 ⟨ez, hI2⟩ hX2
  rw [ez]
  exact x_same 827 (xd DLw rfl) rfl (back h2 hI2 hX2)
set_option maxRecDepth 100000 in
set_option maxHeartbeats 4000000 in
theorem lw_loop {K : XK} {nm : String} (hsc : ∀ j, xrg (scA K j)) (hL : scN K ≤ 2048) : ∀ (f : Nat) (zi : Int) (h : XH), 0 ≤ zi → zi < 3000 → (scN K : Int) - zi < (f : Int) → INV h → xXS 274 h → WX K (mLw nm) RLaw qLw (274, 274, 3349) 18 (LLw zi) [] h := by
  intro f
  induction f with
  | zero =>
    intro zi h a a2 b hI hX
    refine x_iload_n 19 (xd DLw rfl) rfl rfl ?_
    refine x_aload_n 20 (xd DLw rfl) rfl rfl ?_
    refine x_scl 21 (xd DLw rfl) rfl ?_
    refine x_iconst 22 (xd DLw rfl) rfl ?_
    refine x_isub 23 (xd DLw rfl) rfl ?_
    refine x_icmp_gt 26 833 (xd DLw rfl) rfl (by omega) (by omega) rfl (fun kc => ?_) (fun kc => by omega)
    refine x_iconst 834 (xd DLw rfl) rfl ?_
    exact x_zreturn (xd DLw rfl) rfl rfl (Or.inr rfl) rfl
  | succ f ih =>
    intro zi h a a2 b hI hX
    refine x_iload_n 19 (xd DLw rfl) rfl rfl ?_
    refine x_aload_n 20 (xd DLw rfl) rfl rfl ?_
    refine x_scl 21 (xd DLw rfl) rfl ?_
    refine x_iconst 22 (xd DLw rfl) rfl ?_
    refine x_isub 23 (xd DLw rfl) rfl ?_
    refine x_icmp_gt 26 833 (xd DLw rfl) rfl (by omega) (by omega) rfl (fun kc => ?_) (fun kc => ?_)
    · refine x_iconst 834 (xd DLw rfl) rfl ?_
      exact x_zreturn (xd DLw rfl) rfl rfl (Or.inr rfl) rfl
    · have hz3 : zi + 3 < (scN K : Int) := by omega
      have back : ∀ h2, INV h2 → xXS 274 h2 → WX K (mLw nm) RLaw qLw (274, 274, 3349) 827 (LLw zi) [] h2 := fun h2 hI2 hX2 => by
        refine x_iinc (L' := LLw (zi + 4)) 830 (xd DLw rfl) rfl (Nat.le_of_ble_eq_true rfl) rfl rfl rfl ?_
        refine x_goto 18 (xd DLw rfl) rfl ?_
        exact ih (zi + 4) h2 (by omega) (by omega) (by omega) hI2 hX2
      refine x_aload_n 27 (xd DLw rfl) rfl rfl ?_
      refine x_iload_n 28 (xd DLw rfl) rfl rfl ?_
      refine x_sci 29 a (by omega) hL (xd DLw rfl) rfl ?_
      refine x_bipush 31 (xd DLw rfl) rfl rfl ?_
      refine x_iand31 32 (xd DLw rfl) rfl ?_
      have hm : 0 ≤ scA K zi % 32 ∧ scA K zi % 32 < 32 := by omega
      by_cases hq : scA K zi % 32 ≤ 26
      · have : scA K zi % 32 = 0 ∨ scA K zi % 32 = 1 ∨ scA K zi % 32 = 2 ∨ scA K zi % 32 = 3 ∨ scA K zi % 32 = 4 ∨ scA K zi % 32 = 5 ∨ scA K zi % 32 = 6 ∨ scA K zi % 32 = 7 ∨ scA K zi % 32 = 8 ∨ scA K zi % 32 = 9 ∨ scA K zi % 32 = 10 ∨ scA K zi % 32 = 11 ∨ scA K zi % 32 = 12 ∨ scA K zi % 32 = 13 ∨ scA K zi % 32 = 14 ∨ scA K zi % 32 = 15 ∨ scA K zi % 32 = 16 ∨ scA K zi % 32 = 17 ∨ scA K zi % 32 = 18 ∨ scA K zi % 32 = 19 ∨ scA K zi % 32 = 20 ∨ scA K zi % 32 = 21 ∨ scA K zi % 32 = 22 ∨ scA K zi % 32 = 23 ∨ scA K zi % 32 = 24 ∨ scA K zi % 32 = 25 ∨ scA K zi % 32 = 26 := by omega
        rcases this with w | w | w | w | w | w | w | w | w | w | w | w | w | w | w | w | w | w | w | w | w | w | w | w | w | w | w
        · exact x_tableIn 156 (xd DLw rfl) (by omega) (by omega) (by omega) (by rw [w]; rfl) rfl (lw_write hsc hL a hz3 hI hX back)
        · exact x_tableIn 179 (xd DLw rfl) (by omega) (by omega) (by omega) (by rw [w]; rfl) rfl (lw_wipe hsc hL a hz3 hI hX back)
        · exact x_tableIn 192 (xd DLw rfl) (by omega) (by omega) (by omega) (by rw [w]; rfl) rfl (lw_fault hsc hL a hz3 hI hX back)
        · exact x_tableIn 205 (xd DLw rfl) (by omega) (by omega) (by omega) (by rw [w]; rfl) rfl (lw_lay hsc hL a hz3 hI hX back)
        · exact x_tableIn 218 (xd DLw rfl) (by omega) (by omega) (by omega) (by rw [w]; rfl) rfl (lw_code hsc hL a hz3 hI hX back)
        · exact x_tableIn 251 (xd DLw rfl) (by omega) (by omega) (by omega) (by rw [w]; rfl) rfl (lw_add hsc hL a hz3 hI hX back)
        · exact x_tableIn 294 (xd DLw rfl) (by omega) (by omega) (by omega) (by rw [w]; rfl) rfl (lw_drop hsc hL a hz3 hI hX back)
        · exact x_tableIn 317 (xd DLw rfl) (by omega) (by omega) (by omega) (by rw [w]; rfl) rfl (lw_gain hsc hL a hz3 hI hX back)
        · exact x_tableIn 360 (xd DLw rfl) (by omega) (by omega) (by omega) (by rw [w]; rfl) rfl (lw_choose hsc hL a hz3 hI hX back)
        · exact x_tableIn 383 (xd DLw rfl) (by omega) (by omega) (by omega) (by rw [w]; rfl) rfl (lw_entry hsc hL a hz3 hI hX back)
        · exact x_tableIn 416 (xd DLw rfl) (by omega) (by omega) (by omega) (by rw [w]; rfl) rfl (lw_part hsc hL a hz3 hI hX back)
        · exact x_tableIn 459 (xd DLw rfl) (by omega) (by omega) (by omega) (by rw [w]; rfl) rfl (lw_wide hsc hL a hz3 hI hX back)
        · exact x_tableIn 482 (xd DLw rfl) (by omega) (by omega) (by omega) (by rw [w]; rfl) rfl (lw_hold hsc hL a hz3 hI hX back)
        · exact x_tableIn 505 (xd DLw rfl) (by omega) (by omega) (by omega) (by rw [w]; rfl) rfl (lw_undo hsc hL a hz3 hI hX back)
        · exact x_tableIn 518 (xd DLw rfl) (by omega) (by omega) (by omega) (by rw [w]; rfl) rfl (lw_size hsc hL a hz3 hI hX back)
        · exact x_tableIn 541 (xd DLw rfl) (by omega) (by omega) (by omega) (by rw [w]; rfl) rfl (lw_nibble hsc hL a hz3 hI hX back)
        · exact x_tableIn 564 (xd DLw rfl) (by omega) (by omega) (by omega) (by rw [w]; rfl) rfl (lw_address hsc hL a hz3 hI hX back)
        · exact x_tableIn 587 (xd DLw rfl) (by omega) (by omega) (by omega) (by rw [w]; rfl) rfl (lw_at hsc hL a hz3 hI hX back)
        · exact x_tableIn 610 (xd DLw rfl) (by omega) (by omega) (by omega) (by rw [w]; rfl) rfl (lw_line hsc hL a hz3 hI hX back)
        · exact x_tableIn 643 (xd DLw rfl) (by omega) (by omega) (by omega) (by rw [w]; rfl) rfl (lw_seek hsc hL a hz3 hI hX back)
        · exact x_tableIn 666 (xd DLw rfl) (by omega) (by omega) (by omega) (by rw [w]; rfl) rfl (lw_start hsc hL a hz3 hI hX back)
        · exact x_tableIn 689 (xd DLw rfl) (by omega) (by omega) (by omega) (by rw [w]; rfl) rfl (lw_step hsc hL a hz3 hI hX back)
        · exact x_tableIn 712 (xd DLw rfl) (by omega) (by omega) (by omega) (by rw [w]; rfl) rfl (lw_now hsc hL a hz3 hI hX back)
        · exact x_tableIn 735 (xd DLw rfl) (by omega) (by omega) (by omega) (by rw [w]; rfl) rfl (lw_held hsc hL a hz3 hI hX back)
        · exact x_tableIn 758 (xd DLw rfl) (by omega) (by omega) (by omega) (by rw [w]; rfl) rfl (lw_cell hsc hL a hz3 hI hX back)
        · exact x_tableIn 781 (xd DLw rfl) (by omega) (by omega) (by omega) (by rw [w]; rfl) rfl (lw_out hsc hL a hz3 hI hX back)
        · exact x_tableIn 804 (xd DLw rfl) (by omega) (by omega) (by omega) (by rw [w]; rfl) rfl (lw_count hsc hL a hz3 hI hX back)
      · exact x_tableOut 827 (xd DLw rfl) (by omega) (Or.inr (by omega)) rfl (back h hI hX)
set_option maxRecDepth 100000 in
set_option maxHeartbeats 4000000 in
theorem lw_all {K : XK} {nm : String} {h : XH} (hMN : XMN K) (hsc : ∀ j, xrg (scA K j)) (hL : scN K ≤ 2048) : WX K (mLw nm) RLaw qLw (0, 0, 0) 0 [(0, vr 1000004)] [] h := by
  refine x_newc 3 (ci := 8) (xd DLw rfl) rfl rfl clX8 rfl KLw_7 NX8 IX8 okX8 (by decide) (by decide) (by decide) rfl ?_
  refine x_dupr 4 (xd DLw rfl) rfl ?_
  refine x_callI (pX8_init hMN rset_s) FX8_init VX8_init rfl CLw_9 (xd DLw rfl) rfl rfl (by decide) ⟨by decide, by decide, by decide⟩ (Nat.le_of_ble_eq_true rfl) ⟨fun q => (by cases q), fun q => (by cases q)⟩ ?_
  rintro v n' g ⟨e1, e2, hB⟩
  subst e1; subst e2
  refine x_astore_n (L' := [(0, _), (1, _)]) 8 (xd DLw rfl) (Nat.le_of_ble_eq_true rfl) rfl rfl rfl ?_
  refine x_newc 11 (ci := 9) (xd DLw rfl) rfl rfl clX9 rfl KLw_10 NX9 IX9 okX9 (by decide) (by decide) (by decide) rfl ?_
  refine x_dupr 12 (xd DLw rfl) rfl ?_
  refine x_callI (pX9_init (hB.mv (fun c q => rset_c (Nat.ne_of_lt q))) rset_s) FX9_init VX9_init rfl CLw_12 (xd DLw rfl) rfl rfl (by decide) ⟨by decide, by decide, by decide⟩ (Nat.le_of_ble_eq_true rfl) ⟨fun q => (by cases q), fun q => (by cases q)⟩ ?_
  rintro v n' g2 ⟨e1, e2, hX, hI⟩
  subst e1; subst e2
  refine x_astore_n (L' := [(0, _), (1, _), (2, _)]) 16 (xd DLw rfl) (Nat.le_of_ble_eq_true rfl) rfl rfl rfl ?_
  refine x_iconst 17 (xd DLw rfl) rfl ?_
  refine x_istore_n (L' := [(0, _), (1, _), (2, _), (3, _)]) 18 (xd DLw rfl) (Nat.le_of_ble_eq_true rfl) rfl rfl rfl ?_
  exact lw_loop hsc hL (scN K + 1) 0 g2 (by omega) (by omega) (by omega) hI hX
