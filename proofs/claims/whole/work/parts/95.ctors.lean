/-! constructors: words, entry, setup, history, text, program, layout, choice, run-/
theorem IX8 : Cond.initialized RX8 ∈ xTb := xTb_mem 55 (by decide +kernel) rfl
theorem IX7 : Cond.initialized RX7 ∈ xTb := xTb_mem 56 (by decide +kernel) rfl
theorem IX4 : Cond.initialized RX4 ∈ xTb := xTb_mem 57 (by decide +kernel) rfl
theorem IX6 : Cond.initialized RX6 ∈ xTb := xTb_mem 58 (by decide +kernel) rfl
theorem IX1 : Cond.initialized RX1 ∈ xTb := xTb_mem 59 (by decide +kernel) rfl
theorem IX2 : Cond.initialized RX2 ∈ xTb := xTb_mem 60 (by decide +kernel) rfl
theorem IX3 : Cond.initialized RX3 ∈ xTb := xTb_mem 61 (by decide +kernel) rfl
theorem IX0 : Cond.initialized RX0 ∈ xTb := xTb_mem 62 (by decide +kernel) rfl
theorem IX5 : Cond.initialized RX5 ∈ xTb := xTb_mem 63 (by decide +kernel) rfl
theorem IX9 : Cond.initialized RX9 ∈ xTb := xTb_mem 70 (by decide +kernel) rfl
theorem NX8 : Cond.instantiable RX8 7 ∈ xTb := xTb_mem 72 (by decide +kernel) rfl
theorem OX8 : Cond.methodLink RX8 3 (⟨"java/lang/Object", "<init>", "()V"⟩ : MethodName) ∈ xTb := xTb_mem 76 (by decide +kernel) rfl
theorem KX8_9 : Cond.classLink RX8 9 RX7 ∈ xTb := xTb_mem 79 (by decide +kernel) rfl
theorem NX7 : Cond.instantiable RX7 4 ∈ xTb := xTb_mem 80 (by decide +kernel) rfl
theorem OX7 : Cond.methodLink RX7 3 (⟨"java/lang/Object", "<init>", "()V"⟩ : MethodName) ∈ xTb := xTb_mem 84 (by decide +kernel) rfl
theorem KX8_16 : Cond.classLink RX8 16 RX4 ∈ xTb := xTb_mem 103 (by decide +kernel) rfl
theorem NX4 : Cond.instantiable RX4 4 ∈ xTb := xTb_mem 104 (by decide +kernel) rfl
theorem OX4 : Cond.methodLink RX4 3 (⟨"java/lang/Object", "<init>", "()V"⟩ : MethodName) ∈ xTb := xTb_mem 108 (by decide +kernel) rfl
theorem KX8_23 : Cond.classLink RX8 23 RX6 ∈ xTb := xTb_mem 138 (by decide +kernel) rfl
theorem NX6 : Cond.instantiable RX6 4 ∈ xTb := xTb_mem 139 (by decide +kernel) rfl
theorem OX6 : Cond.methodLink RX6 3 (⟨"java/lang/Object", "<init>", "()V"⟩ : MethodName) ∈ xTb := xTb_mem 143 (by decide +kernel) rfl
theorem KX6_9 : Cond.classLink RX6 9 RX1 ∈ xTb := xTb_mem 144 (by decide +kernel) rfl
theorem NX1 : Cond.instantiable RX1 4 ∈ xTb := xTb_mem 146 (by decide +kernel) rfl
theorem OX1 : Cond.methodLink RX1 3 (⟨"java/lang/Object", "<init>", "()V"⟩ : MethodName) ∈ xTb := xTb_mem 150 (by decide +kernel) rfl
theorem KX8_30 : Cond.classLink RX8 30 RX2 ∈ xTb := xTb_mem 193 (by decide +kernel) rfl
theorem NX2 : Cond.instantiable RX2 2 ∈ xTb := xTb_mem 194 (by decide +kernel) rfl
theorem OX2 : Cond.methodLink RX2 3 (⟨"java/lang/Object", "<init>", "()V"⟩ : MethodName) ∈ xTb := xTb_mem 198 (by decide +kernel) rfl
theorem KX2_9 : Cond.classLink RX2 9 RX6 ∈ xTb := xTb_mem 199 (by decide +kernel) rfl
theorem KX8_37 : Cond.classLink RX8 37 RX3 ∈ xTb := xTb_mem 210 (by decide +kernel) rfl
theorem NX3 : Cond.instantiable RX3 16 ∈ xTb := xTb_mem 211 (by decide +kernel) rfl
theorem OX3 : Cond.methodLink RX3 3 (⟨"java/lang/Object", "<init>", "()V"⟩ : MethodName) ∈ xTb := xTb_mem 215 (by decide +kernel) rfl
theorem KX3_29 : Cond.classLink RX3 29 RX1 ∈ xTb := xTb_mem 218 (by decide +kernel) rfl
theorem KX8_46 : Cond.classLink RX8 46 RX0 ∈ xTb := xTb_mem 278 (by decide +kernel) rfl
theorem NX0 : Cond.instantiable RX0 6 ∈ xTb := xTb_mem 279 (by decide +kernel) rfl
theorem OX0 : Cond.methodLink RX0 3 (⟨"java/lang/Object", "<init>", "()V"⟩ : MethodName) ∈ xTb := xTb_mem 283 (by decide +kernel) rfl
theorem KX8_55 : Cond.classLink RX8 55 RX5 ∈ xTb := xTb_mem 306 (by decide +kernel) rfl
theorem NX5 : Cond.instantiable RX5 17 ∈ xTb := xTb_mem 307 (by decide +kernel) rfl
theorem OX5 : Cond.methodLink RX5 3 (⟨"java/lang/Object", "<init>", "()V"⟩ : MethodName) ∈ xTb := xTb_mem 311 (by decide +kernel) rfl
theorem NX9 : Cond.instantiable RX9 31 ∈ xTb := xTb_mem 898 (by decide +kernel) rfl
theorem OX9 : Cond.methodLink RX9 1 (⟨"java/lang/Object", "<init>", "()V"⟩ : MethodName) ∈ xTb := xTb_mem 902 (by decide +kernel) rfl
theorem TA_char : Cond.arrayClass .char ∈ xTb := xTb_mem 101 (by decide +kernel) rfl
theorem TA_int : Cond.arrayClass .int ∈ xTb := xTb_mem 102 (by decide +kernel) rfl
theorem TA_boolean : Cond.arrayClass .boolean ∈ xTb := xTb_mem 137 (by decide +kernel) rfl
theorem okX0 : ∀ j, j < 6 → xokT (xFT 0 j) = true := by decide
theorem okX1 : ∀ j, j < 4 → xokT (xFT 1 j) = true := by decide
theorem okX2 : ∀ j, j < 2 → xokT (xFT 2 j) = true := by decide
theorem okX3 : ∀ j, j < 16 → xokT (xFT 3 j) = true := by decide
theorem okX4 : ∀ j, j < 4 → xokT (xFT 4 j) = true := by decide
theorem okX5 : ∀ j, j < 17 → xokT (xFT 5 j) = true := by decide
theorem okX6 : ∀ j, j < 4 → xokT (xFT 6 j) = true := by decide
theorem okX7 : ∀ j, j < 4 → xokT (xFT 7 j) = true := by decide
theorem okX8 : ∀ j, j < 7 → xokT (xFT 8 j) = true := by decide
theorem okX9 : ∀ j, j < 31 → xokT (xFT 9 j) = true := by decide
theorem PX0_9 : xLP RX0 9 0 0 := ⟨RX0, TX0, 6, rfl, xTb_mem 284 (by decide +kernel) rfl⟩
theorem PX0_15 : xLP RX0 15 0 1 := ⟨RX0, TX0, 6, rfl, xTb_mem 285 (by decide +kernel) rfl⟩
theorem PX1_9 : xLP RX1 9 1 0 := ⟨RX1, TX1, 4, rfl, xTb_mem 151 (by decide +kernel) rfl⟩
theorem PX1_15 : xLP RX1 15 1 1 := ⟨RX1, TX1, 4, rfl, xTb_mem 153 (by decide +kernel) rfl⟩
theorem PX2_11 : xLP RX2 11 2 0 := ⟨RX2, TX2, 2, rfl, xTb_mem 202 (by decide +kernel) rfl⟩
theorem PX3_9 : xLP RX3 9 3 2 := ⟨RX3, TX3, 16, rfl, xTb_mem 223 (by decide +kernel) rfl⟩
theorem PX3_17 : xLP RX3 17 3 3 := ⟨RX3, TX3, 16, rfl, xTb_mem 224 (by decide +kernel) rfl⟩
theorem PX3_20 : xLP RX3 20 3 4 := ⟨RX3, TX3, 16, rfl, xTb_mem 225 (by decide +kernel) rfl⟩
theorem PX3_23 : xLP RX3 23 3 5 := ⟨RX3, TX3, 16, rfl, xTb_mem 226 (by decide +kernel) rfl⟩
theorem PX3_26 : xLP RX3 26 3 6 := ⟨RX3, TX3, 16, rfl, xTb_mem 227 (by decide +kernel) rfl⟩
theorem PX3_32 : xLP RX3 32 3 7 := ⟨RX3, TX3, 16, rfl, xTb_mem 228 (by decide +kernel) rfl⟩
theorem PX3_36 : xLP RX3 36 3 8 := ⟨RX3, TX3, 16, rfl, xTb_mem 229 (by decide +kernel) rfl⟩
theorem PX3_39 : xLP RX3 39 3 9 := ⟨RX3, TX3, 16, rfl, xTb_mem 231 (by decide +kernel) rfl⟩
theorem PX3_42 : xLP RX3 42 3 10 := ⟨RX3, TX3, 16, rfl, xTb_mem 233 (by decide +kernel) rfl⟩
theorem PX3_45 : xLP RX3 45 3 11 := ⟨RX3, TX3, 16, rfl, xTb_mem 236 (by decide +kernel) rfl⟩
theorem PX3_48 : xLP RX3 48 3 12 := ⟨RX3, TX3, 16, rfl, xTb_mem 238 (by decide +kernel) rfl⟩
theorem PX3_51 : xLP RX3 51 3 0 := ⟨RX3, TX3, 16, rfl, xTb_mem 220 (by decide +kernel) rfl⟩
theorem PX3_55 : xLP RX3 55 3 1 := ⟨RX3, TX3, 16, rfl, xTb_mem 222 (by decide +kernel) rfl⟩
theorem PX4_9 : xLP RX4 9 4 0 := ⟨RX4, TX4, 4, rfl, xTb_mem 109 (by decide +kernel) rfl⟩
theorem PX4_15 : xLP RX4 15 4 1 := ⟨RX4, TX4, 4, rfl, xTb_mem 114 (by decide +kernel) rfl⟩
theorem PX4_18 : xLP RX4 18 4 2 := ⟨RX4, TX4, 4, rfl, xTb_mem 119 (by decide +kernel) rfl⟩
theorem PX5_9 : xLP RX5 9 5 2 := ⟨RX5, TX5, 17, rfl, xTb_mem 314 (by decide +kernel) rfl⟩
theorem PX5_15 : xLP RX5 15 5 3 := ⟨RX5, TX5, 17, rfl, xTb_mem 316 (by decide +kernel) rfl⟩
theorem PX5_18 : xLP RX5 18 5 4 := ⟨RX5, TX5, 17, rfl, xTb_mem 318 (by decide +kernel) rfl⟩
theorem PX5_21 : xLP RX5 21 5 0 := ⟨RX5, TX5, 17, rfl, xTb_mem 312 (by decide +kernel) rfl⟩
theorem PX5_25 : xLP RX5 25 5 1 := ⟨RX5, TX5, 17, rfl, xTb_mem 313 (by decide +kernel) rfl⟩
theorem PX6_11 : xLP RX6 11 6 0 := ⟨RX6, TX6, 4, rfl, xTb_mem 172 (by decide +kernel) rfl⟩
theorem PX7_9 : xLP RX7 9 7 0 := ⟨RX7, TX7, 4, rfl, xTb_mem 85 (by decide +kernel) rfl⟩
theorem PX7_15 : xLP RX7 15 7 1 := ⟨RX7, TX7, 4, rfl, xTb_mem 86 (by decide +kernel) rfl⟩
theorem PX8_12 : xLP RX8 12 8 0 := ⟨RX8, TX8, 7, rfl, xTb_mem 585 (by decide +kernel) rfl⟩
theorem PX8_19 : xLP RX8 19 8 1 := ⟨RX8, TX8, 7, rfl, xTb_mem 586 (by decide +kernel) rfl⟩
theorem PX8_26 : xLP RX8 26 8 2 := ⟨RX8, TX8, 7, rfl, xTb_mem 587 (by decide +kernel) rfl⟩
theorem PX8_33 : xLP RX8 33 8 3 := ⟨RX8, TX8, 7, rfl, xTb_mem 588 (by decide +kernel) rfl⟩
theorem PX8_42 : xLP RX8 42 8 4 := ⟨RX8, TX8, 7, rfl, xTb_mem 589 (by decide +kernel) rfl⟩
theorem PX8_51 : xLP RX8 51 8 5 := ⟨RX8, TX8, 7, rfl, xTb_mem 590 (by decide +kernel) rfl⟩
theorem PX8_60 : xLP RX8 60 8 6 := ⟨RX8, TX8, 7, rfl, xTb_mem 591 (by decide +kernel) rfl⟩
theorem PX9_7 : xLP RX9 7 9 1 := ⟨RX9, TX9, 31, rfl, xTb_mem 949 (by decide +kernel) rfl⟩
theorem PX9_13 : xLP RX9 13 9 3 := ⟨RX9, TX9, 31, rfl, xTb_mem 951 (by decide +kernel) rfl⟩
theorem PX9_16 : xLP RX9 16 9 4 := ⟨RX9, TX9, 31, rfl, xTb_mem 952 (by decide +kernel) rfl⟩
theorem PX9_19 : xLP RX9 19 9 6 := ⟨RX9, TX9, 31, rfl, xTb_mem 954 (by decide +kernel) rfl⟩
theorem PX9_22 : xLP RX9 22 9 7 := ⟨RX9, TX9, 31, rfl, xTb_mem 955 (by decide +kernel) rfl⟩
theorem PX9_25 : xLP RX9 25 9 8 := ⟨RX9, TX9, 31, rfl, xTb_mem 956 (by decide +kernel) rfl⟩
theorem PX9_28 : xLP RX9 28 9 9 := ⟨RX9, TX9, 31, rfl, xTb_mem 957 (by decide +kernel) rfl⟩
theorem PX9_31 : xLP RX9 31 9 10 := ⟨RX9, TX9, 31, rfl, xTb_mem 958 (by decide +kernel) rfl⟩
theorem PX9_34 : xLP RX9 34 9 12 := ⟨RX9, TX9, 31, rfl, xTb_mem 960 (by decide +kernel) rfl⟩
theorem PX9_37 : xLP RX9 37 9 13 := ⟨RX9, TX9, 31, rfl, xTb_mem 961 (by decide +kernel) rfl⟩
theorem PX9_40 : xLP RX9 40 9 14 := ⟨RX9, TX9, 31, rfl, xTb_mem 962 (by decide +kernel) rfl⟩
theorem PX9_43 : xLP RX9 43 9 24 := ⟨RX9, TX9, 31, rfl, xTb_mem 972 (by decide +kernel) rfl⟩
theorem PX9_46 : xLP RX9 46 9 25 := ⟨RX9, TX9, 31, rfl, xTb_mem 973 (by decide +kernel) rfl⟩
theorem PX9_49 : xLP RX9 49 9 27 := ⟨RX9, TX9, 31, rfl, xTb_mem 975 (by decide +kernel) rfl⟩
/-- what a place holds when its object is made -/
def ini (c j : Nat) : Int := if (xTY c).1 = 6 ∧ j = 2 then 8 else if (xTY c).1 = 6 ∧ j = 3 then 2 else (xRF c j : Int)
theorem ini_arr {c N a : Nat} (hT : xTY c = (a, N)) (ha : a = 10 ∨ a = 11 ∨ a = 12) (j : Nat) : ini c j = 0 := by
  unfold ini
  have h6 : ¬ (xTY c).1 = 6 := by rw [hT]; show ¬ a = 6; omega
  rw [if_neg (fun q => h6 q.1), if_neg (fun q => h6 q.1), xRF_arr hT ha j]
  rfl
theorem ini_rf {c j : Nat} (h6 : ¬ (xTY c).1 = 6) : ini c j = (xRF c j : Int) := by
  unfold ini
  rw [if_neg (fun q => h6 q.1), if_neg (fun q => h6 q.1)]
/-- the cells from a to b hold what they are made with -/
def Mk (a b : Nat) (h : XH) : Prop := ∀ c, a ≤ c → c < b → ∀ j : Nat, j < (xTY c).2 → h c j = ini c j
def qC (c0 n' : Nat) (h : XH) : Option XV → Nat → XH → Prop := fun v n2 h' => v = none ∧ n2 = n' ∧ (∀ c, c < c0 → h' c = h c) ∧ Mk c0 n' h'
section XCTOR
variable {K : XK} {M : XM} {R : XR} {Q : Option XV → Nat → XH → Prop} {u : Nat × Nat × Nat} {pc : Nat} {L : List (Nat × XV)} {st st0 : List XV} {h : XH}
variable {M' : XM} {as : List XV} {a : Nat}
theorem x_ctor (p' : Nat) {d' cs ss c0 n' i : Nat} (hM : MX K M' (false, d', cs, ss) u.1 (vr c0 :: as) h (qC c0 n' h)) (hF : xMF M' a) (hV : xMI M') (hr : M'.2.2.2.1 = none) (hl : xML M.2.1.cls i M'.2.1) (hd : decode M.1 pc = .ok (.invokespecial i, 3)) (hst : as.reverse ++ vr c0 :: st = st0) (hlen : as.length = a) (hc : c0 < 1000000) (hR1 : d' + 1 ≤ R.2.1) (hR2 : u.2.1 + cs ≤ R.2.2.1) (hR3 : u.2.2 + ss ≤ R.2.2.2) (hw : xcs st ≤ 8) (hm : R.1 = false)
    (hp : pc + 3 = p') (kk : ∀ h', (∀ c, c < c0 → h' c = h c) → Mk c0 n' h' → WX K M R Q (n', u.2.1 + cs, u.2.2 + ss) p' L st h') : WX K M R Q u pc L st0 h := by
  subst hp
  refine x_callI hM hF hV hr hl hd hst hlen hc ⟨hR1, hR2, hR3⟩ hw ⟨fun q => (by rw [hm] at q; cases q), fun q => (by cases q)⟩ (fun v n2 h' hq => ?_)
  obtain ⟨e1, e2, e3, e4⟩ := hq
  subst e1; subst e2
  exact kk h' e3 e4
end XCTOR
def EntAt (c : Nat) : Prop := xTY c = (1, 4) ∧ xTY (c + 1) = (11, 4) ∧ xTY (c + 2) = (11, 4) ∧ xRF c 0 = c + 2 ∧ xRF c 1 = c + 3 ∧ xRF c 2 = 0 ∧ xRF c 3 = 0 ∧ c < 1000
theorem Mk.arr {a N c : Nat} {h : XH} (hT : xTY c = (a, N)) (ha : a = 10 ∨ a = 11 ∨ a = 12) (h0 : ∀ j : Nat, h c j = 0) : Mk c (c + 1) h := fun d p q j _ => by
  have : d = c := by omega
  subst this
  rw [h0, ini_arr hT ha]
theorem Mk.app {a b c : Nat} {h : XH} (h1 : Mk a b h) (h2 : Mk b c h) : Mk a c h := fun d p q j hj => by
  by_cases w : d < b
  · exact h1 d p w j hj
  · exact h2 d (by omega) q j hj
theorem Mk.keep {a b : Nat} {h h' : XH} (h1 : Mk a b h) (e : ∀ c, a ≤ c → c < b → h' c = h c) : Mk a b h' := fun d p q j hj => by rw [e d p q]; exact h1 d p q j hj
set_option maxRecDepth 100000 in
set_option maxHeartbeats 4000000 in
theorem pX1_init {K : XK} {h : XH} (c0 : Nat) (hE : EntAt c0) (h0 : h c0 = fun _ => 0) : MX K mX1_init (false, 1, 2, 8) (c0 + 1) [vr c0] h (qC c0 (c0 + 3) h) := by
  have hc0 := hE.2.2.2.2.2.2.2
  refine xMeth FX1_init (Nat.le_of_ble_eq_true rfl) ?_
  refine x_aload_n 1 (xd DX1_init rfl) rfl rfl ?_
  refine x_obj 4 (xd DX1_init rfl) OX1 (by decide) (by decide) rfl ?_
  refine x_aload_n 5 (xd DX1_init rfl) rfl rfl ?_
  refine x_iconst 6 (xd DX1_init rfl) rfl ?_
  refine x_newa 8 (a := 11) (xd DX1_init rfl) rfl hE.2.1 (by unfold xAty; decide) TA_int rfl (by decide) (by first | decide | omega | (dsimp only; omega)) (by first | decide | omega | (dsimp only; omega)) (by first | decide | omega | (dsimp only; omega)) rfl ?_
  refine x_pr 11 LX1_9 (xd DX1_init rfl) rfl PX1_9 rfl rfl rfl hE.1 ⟨(by first | decide | omega | (dsimp only; omega)), (by first | decide | omega | (dsimp only; omega))⟩ (by first | decide | omega | (dsimp only; omega)) rfl ?_
  refine x_aload_n 12 (xd DX1_init rfl) rfl rfl ?_
  refine x_iconst 13 (xd DX1_init rfl) rfl ?_
  refine x_newa 15 (a := 11) (xd DX1_init rfl) rfl hE.2.2.1 (by unfold xAty; decide) TA_int rfl (by decide) (by first | decide | omega | (dsimp only; omega)) (by first | decide | omega | (dsimp only; omega)) (by first | decide | omega | (dsimp only; omega)) rfl ?_
  refine x_pr 18 LX1_15 (xd DX1_init rfl) rfl PX1_15 rfl rfl rfl hE.1 ⟨(by first | decide | omega | (dsimp only; omega)), (by first | decide | omega | (dsimp only; omega))⟩ (by first | decide | omega | (dsimp only; omega)) rfl ?_
  refine x_return (xd DX1_init rfl) rfl rfl ⟨rfl, rfl, ?_, ?_⟩
  · intro c hc
    rw [hset_c (by omega), rset_c (by omega), hset_c (by omega), rset_c (by omega)]
  · intro c p q j hj
    have : c = c0 ∨ c = c0 + 1 ∨ c = c0 + 2 := by omega
    rcases this with w | w | w
    · subst w
      rw [hE.1] at hj
      have h6 : ¬ (xTY c).1 = 6 := by rw [hE.1]; decide
      rw [ini_rf h6]
      have hj : j < 4 := hj
      have : j = 0 ∨ j = 1 ∨ j = 2 ∨ j = 3 := by omega
      rcases this with w | w | w | w <;> subst w
      · rw [hset_i (by decide), rset_c (by omega), hE.2.2.2.1]
        show hset _ c ((0 : Nat) : Int) _ c ((0 : Nat) : Int) = _
        rw [hset_s]
        push_cast
        omega
      · rw [hE.2.2.2.2.1]
        show hset _ c ((1 : Nat) : Int) _ c ((1 : Nat) : Int) = _
        rw [hset_s]
        push_cast
        omega
      · rw [hset_i (by decide), rset_c (by omega), hset_i (by decide), rset_c (by omega), h0, hE.2.2.2.2.2.1]
        rfl
      · rw [hset_i (by decide), rset_c (by omega), hset_i (by decide), rset_c (by omega), h0, hE.2.2.2.2.2.2.1]
        rfl
    · subst w
      rw [hset_c (by omega), rset_c (by omega), hset_c (by omega), rset_s, ini_arr hE.2.1 (by decide)]
    · subst w
      rw [hset_c (by omega), rset_s, ini_arr hE.2.2.1 (by decide)]
