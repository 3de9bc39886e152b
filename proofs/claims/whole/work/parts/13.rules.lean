/-! rows of the small machine: the pure instructions -/
def xget : List (Nat × XV) → Nat → Option XV
  | [], _ => none
  | q :: L, k => cond (Nat.beq q.1 k) (some q.2) (xget L k)
def xdel (k : Nat) : List (Nat × XV) → List (Nat × XV)
  | [] => []
  | q :: L => cond (Nat.beq q.1 k) (xdel k L) (q :: xdel k L)
def xins (k : Nat) (v : XV) : List (Nat × XV) → List (Nat × XV)
  | [] => [(k, v)]
  | q :: L => cond (Nat.ble q.1 k) (q :: xins k v L) ((k, v) :: q :: L)
def xset (L : List (Nat × XV)) (k : Nat) (v : XV) : List (Nat × XV) := xins k v (xdel k L)
def xnl : List (Nat × XV) → Bool
  | [] => true
  | (_, .inr (.inr _)) :: _ => false
  | _ :: L => xnl L
theorem xget_mem : ∀ {L : List (Nat × XV)} {k : Nat} {v : XV}, xget L k = some v → (k, v) ∈ L
  | [], _, _, h => by cases h
  | q :: L, k, v, h => by
    unfold xget at h
    cases hb : Nat.beq q.1 k with
    | true =>
      rw [hb] at h
      have e1 : q.1 = k := Nat.eq_of_beq_eq_true hb
      have e2 : q.2 = v := Option.some.inj h
      rw [← e1, ← e2]
      exact List.mem_cons_self
    | false =>
      rw [hb] at h
      exact List.mem_cons_of_mem _ (xget_mem h)
theorem xdel_mem : ∀ {L : List (Nat × XV)} {k : Nat} {q : Nat × XV}, q ∈ xdel k L → q ∈ L ∧ q.1 ≠ k
  | [], _, _, h => by cases h
  | a :: L, k, q, h => by
    unfold xdel at h
    cases hb : Nat.beq a.1 k with
    | true =>
      rw [hb] at h
      have := xdel_mem (L := L) h
      exact ⟨List.mem_cons_of_mem _ this.1, this.2⟩
    | false =>
      rw [hb] at h
      rcases List.mem_cons.mp h with e | h
      · subst e
        exact ⟨List.mem_cons_self, Nat.ne_of_beq_eq_false hb⟩
      · have := xdel_mem (L := L) h
        exact ⟨List.mem_cons_of_mem _ this.1, this.2⟩
theorem xins_mem : ∀ {L : List (Nat × XV)} {k : Nat} {v : XV} {q : Nat × XV}, q ∈ xins k v L → q = (k, v) ∨ q ∈ L
  | [], _, _, _, h => Or.inl (List.mem_singleton.mp h)
  | a :: L, k, v, q, h => by
    unfold xins at h
    cases hb : Nat.ble a.1 k with
    | true =>
      rw [hb] at h
      rcases List.mem_cons.mp h with e | h
      · exact Or.inr (by rw [e]; exact List.mem_cons_self)
      · rcases xins_mem (L := L) h with e | h
        · exact Or.inl e
        · exact Or.inr (List.mem_cons_of_mem _ h)
    | false =>
      rw [hb] at h
      rcases List.mem_cons.mp h with e | h
      · exact Or.inl e
      · exact Or.inr h
theorem xnl_mem : ∀ {L : List (Nat × XV)}, xnl L = true → ∀ {q : Nat × XV}, q ∈ L → ∀ K : XK, ¬ (xv K q.2).category = 2
  | [], _, _, h, _ => by cases h
  | (i, .inl z) :: L, hn, q, h, K => by
    rcases List.mem_cons.mp h with e | h
    · subst e; intro q; cases q
    · exact xnl_mem (L := L) hn h K
  | (i, .inr (.inl z)) :: L, hn, q, h, K => by
    rcases List.mem_cons.mp h with e | h
    · subst e; intro q; cases q
    · exact xnl_mem (L := L) hn h K
  | (i, .inr (.inr z)) :: L, hn, q, h, K => by cases hn
theorem xL_mem {K : XK} {L : List (Nat × XV)} {q : Nat × XV} (h : q ∈ L) : (q.1, xv K q.2) ∈ xL K L := List.mem_map.mpr ⟨q, h, rfl⟩
theorem xlk {K : XK} {ls : Array Slot} {n : Nat} {L : List (Nat × XV)} {k : Nat} {v : XV} (hl : lv_has ls n (xL K L)) (hg : xget L k = some v) : ls[k]? = some (.val (xv K v)) := hl.2.2 _ (xL_mem (xget_mem hg))
/-- fewer locals, in any order -/
theorem xlsub {K : XK} {ls : Array Slot} {n : Nat} {L L' : List (Nat × XV)} (hl : lv_has ls n (xL K L)) (h : ∀ q ∈ L', q ∈ L) : lv_has ls n (xL K L') := by
  refine ⟨hl.1, hl.2.1, fun q hq => ?_⟩
  obtain ⟨q0, h0, rfl⟩ := List.mem_map.mp hq
  exact hl.2.2 _ (xL_mem (h q0 h0))
theorem xlset {K : XK} {ls : Array Slot} {n : Nat} {L : List (Nat × XV)} {k : Nat} {v : XV} (hn : xnl L = true)
    (hl : lv_has ls n ((k, xv K v) :: (xL K L).filter (fun q => !(q.1 == k) && !(q.1 + 1 == k && q.2.category == 2)))) : lv_has ls n (xL K (xset L k v)) := by
  refine ⟨hl.1, hl.2.1, fun q hq => ?_⟩
  obtain ⟨q0, h0, rfl⟩ := List.mem_map.mp hq
  rcases xins_mem h0 with e | h1
  · subst e
    exact hl.2.2 _ List.mem_cons_self
  · obtain ⟨h2, h3⟩ := xdel_mem h1
    refine hl.2.2 (q0.1, xv K q0.2) (List.mem_cons_of_mem _ (List.mem_filter.mpr ⟨xL_mem h2, ?_⟩))
    have h4 := xnl_mem hn h2 K
    simp [h3, h4]
section XRULES
variable {K : XK} {M : XM} {R : XR} {Q : Option XV → Nat → XH → Prop} {u : Nat × Nat × Nat} {pc : Nat} {L : List (Nat × XV)} {st : List XV} {h : XH}
theorem WX.locals {L' : List (Nat × XV)} (hs : ∀ q ∈ L', q ∈ L) (kk : WX K M R Q u pc L' st h) : WX K M R Q u pc L st h := by
  intro hmd p e s m args below meth c E H locs ls hH hP hS hl
  exact kk hmd p e s m args below meth c E H locs ls hH hP hS (xlsub hl hs)
theorem WX.heap {h' : XH} (hs : h' = h) (kk : WX K M R Q u pc L st h') : WX K M R Q u pc L st h := by subst hs; exact kk
theorem x_iload_n (p' : Nat) {k : Fin 4} {z : Int} (hd : decode M.1 pc = .ok (.iload_n k, 1)) (hg : xget L k.val = some (vi z)) (hp : pc + 1 = p') (kk : WX K M R Q u p' L (vi z :: st) h) : WX K M R Q u pc L (st) h := by
  subst hp
  intro hmd p e s m args below meth c E H locs ls hH hP hS hl
  exact lv_iload_n E.1 E.2.1 hd rfl (xlk hl hg) (kk hmd p e s m args below meth c E H locs ls hH hP hS hl)
theorem x_iload (p' : Nat) {k : Nat} {z : Int} (hd : decode M.1 pc = .ok (.iload k, 2)) (hg : xget L k = some (vi z)) (hp : pc + 2 = p') (kk : WX K M R Q u p' L (vi z :: st) h) : WX K M R Q u pc L (st) h := by
  subst hp
  intro hmd p e s m args below meth c E H locs ls hH hP hS hl
  exact lv_iload E.1 E.2.1 hd (xlk hl hg) (kk hmd p e s m args below meth c E H locs ls hH hP hS hl)
theorem x_aload_n (p' : Nat) {k : Fin 4} {z : Nat} (hd : decode M.1 pc = .ok (.aload_n k, 1)) (hg : xget L k.val = some (vr z)) (hp : pc + 1 = p') (kk : WX K M R Q u p' L (vr z :: st) h) : WX K M R Q u pc L (st) h := by
  subst hp
  intro hmd p e s m args below meth c E H locs ls hH hP hS hl
  exact lv_aload_n E.1 E.2.1 hd rfl (xlk hl hg) (kk hmd p e s m args below meth c E H locs ls hH hP hS hl)
theorem x_aload (p' : Nat) {k : Nat} {z : Nat} (hd : decode M.1 pc = .ok (.aload k, 2)) (hg : xget L k = some (vr z)) (hp : pc + 2 = p') (kk : WX K M R Q u p' L (vr z :: st) h) : WX K M R Q u pc L (st) h := by
  subst hp
  intro hmd p e s m args below meth c E H locs ls hH hP hS hl
  exact lv_aload E.1 E.2.1 hd (xlk hl hg) (kk hmd p e s m args below meth c E H locs ls hH hP hS hl)
theorem x_lload_n (p' : Nat) {k : Fin 4} {z : Int} (hd : decode M.1 pc = .ok (.lload_n k, 1)) (hg : xget L k.val = some (vl z)) (hp : pc + 1 = p') (kk : WX K M R Q u p' L (vl z :: st) h) : WX K M R Q u pc L (st) h := by
  subst hp
  intro hmd p e s m args below meth c E H locs ls hH hP hS hl
  exact lv_lload_n E.1 E.2.1 hd rfl (xlk hl hg) (kk hmd p e s m args below meth c E H locs ls hH hP hS hl)
theorem x_lload (p' : Nat) {k : Nat} {z : Int} (hd : decode M.1 pc = .ok (.lload k, 2)) (hg : xget L k = some (vl z)) (hp : pc + 2 = p') (kk : WX K M R Q u p' L (vl z :: st) h) : WX K M R Q u pc L (st) h := by
  subst hp
  intro hmd p e s m args below meth c E H locs ls hH hP hS hl
  exact lv_lload E.1 E.2.1 hd (xlk hl hg) (kk hmd p e s m args below meth c E H locs ls hH hP hS hl)
theorem x_iconst (p' : Nat) {z : Int} (hd : decode M.1 pc = .ok (.iconst z, 1)) (hp : pc + 1 = p') (kk : WX K M R Q u p' L (vi z :: st) h) : WX K M R Q u pc L (st) h := by
  subst hp
  intro hmd p e s m args below meth c E H locs ls hH hP hS hl
  exact lv_iconst E.1 E.2.1 hd rfl (kk hmd p e s m args below meth c E H locs ls hH hP hS hl)
theorem x_bipush (p' : Nat) {z : Int} (hd : decode M.1 pc = .ok (.bipush z, 2)) (hz : (Int8.ofInt z).toInt32 = Int32.ofInt z) (hp : pc + 2 = p') (kk : WX K M R Q u p' L (vi z :: st) h) : WX K M R Q u pc L (st) h := by
  subst hp
  intro hmd p e s m args below meth c E H locs ls hH hP hS hl
  exact lv_bipush E.1 E.2.1 hd hz (kk hmd p e s m args below meth c E H locs ls hH hP hS hl)
theorem x_sipush (p' : Nat) {z : Int} (hd : decode M.1 pc = .ok (.sipush z, 3)) (hz : (Int16.ofInt z).toInt32 = Int32.ofInt z) (hp : pc + 3 = p') (kk : WX K M R Q u p' L (vi z :: st) h) : WX K M R Q u pc L (st) h := by
  subst hp
  intro hmd p e s m args below meth c E H locs ls hH hP hS hl
  exact lv_sipush E.1 E.2.1 hd hz (kk hmd p e s m args below meth c E H locs ls hH hP hS hl)
theorem x_lconst (p' : Nat) {k : Fin 2} {z : Int} (hd : decode M.1 pc = .ok (.lconst k, 1)) (hz : Int64.ofNat (k : Nat) = Int64.ofInt z) (hp : pc + 1 = p') (kk : WX K M R Q u p' L (vl z :: st) h) : WX K M R Q u pc L (st) h := by
  subst hp
  intro hmd p e s m args below meth c E H locs ls hH hP hS hl
  exact lv_lconst E.1 E.2.1 hd hz (kk hmd p e s m args below meth c E H locs ls hH hP hS hl)
theorem x_ldc (p' : Nat) {z : Int} {i : Nat} (hd : decode M.1 pc = .ok (.ldc i, 2)) (hc : Cond.constant M.2.1.cls i (Int32.ofInt z) ∈ xTb) (hp : pc + 2 = p') (kk : WX K M R Q u p' L (vi z :: st) h) : WX K M R Q u pc L (st) h := by
  subst hp
  intro hmd p e s m args below meth c E H locs ls hH hP hS hl
  exact lv_ldc E.1 E.2.1 E.2.2.2.2.2.2.1 (E.2.2.2.2.2.2.2.1 _ hc) hd (kk hmd p e s m args below meth c E H locs ls hH hP hS hl)
theorem x_ldc2 (p' : Nat) {z : Int} {i : Nat} (hd : decode M.1 pc = .ok (.ldc2_w i, 3)) (hc : Cond.constantLong M.2.1.cls i (Int64.ofInt z) ∈ xTb) (hp : pc + 3 = p') (kk : WX K M R Q u p' L (vl z :: st) h) : WX K M R Q u pc L (st) h := by
  subst hp
  intro hmd p e s m args below meth c E H locs ls hH hP hS hl
  exact lv_ldc2 E.1 E.2.1 E.2.2.2.2.2.2.1 (E.2.2.2.2.2.2.2.1 _ hc) hd (kk hmd p e s m args below meth c E H locs ls hH hP hS hl)
theorem x_iadd (p' : Nat) {a b : Int} (hd : decode M.1 pc = .ok (.iadd, 1)) (hp : pc + 1 = p') (kk : WX K M R Q u p' L (vi (a + b) :: st) h) : WX K M R Q u pc L (vi b :: vi a :: st) h := by
  subst hp
  intro hmd p e s m args below meth c E H locs ls hH hP hS hl
  refine lv_iadd E.1 E.2.1 hd ?_
  have k2 := (kk hmd p e s m args below meth c E H locs ls hH hP hS hl)
  rw [List.map_cons, show xv K (vi (a + b)) = Value.int (Int32.ofInt (a + b)) from rfl, Int32.ofInt_add] at k2
  exact k2
theorem x_isub (p' : Nat) {a b : Int} (hd : decode M.1 pc = .ok (.isub, 1)) (hp : pc + 1 = p') (kk : WX K M R Q u p' L (vi (a - b) :: st) h) : WX K M R Q u pc L (vi b :: vi a :: st) h := by
  subst hp
  intro hmd p e s m args below meth c E H locs ls hH hP hS hl
  refine lv_isub E.1 E.2.1 hd ?_
  have k2 := (kk hmd p e s m args below meth c E H locs ls hH hP hS hl)
  rw [List.map_cons, show xv K (vi (a - b)) = Value.int (Int32.ofInt (a - b)) from rfl, Int32.ofInt_sub] at k2
  exact k2
theorem x_imul (p' : Nat) {a b : Int} (hd : decode M.1 pc = .ok (.imul, 1)) (hp : pc + 1 = p') (kk : WX K M R Q u p' L (vi (a * b) :: st) h) : WX K M R Q u pc L (vi b :: vi a :: st) h := by
  subst hp
  intro hmd p e s m args below meth c E H locs ls hH hP hS hl
  refine lv_imul E.1 E.2.1 hd ?_
  have k2 := (kk hmd p e s m args below meth c E H locs ls hH hP hS hl)
  rw [List.map_cons, show xv K (vi (a * b)) = Value.int (Int32.ofInt (a * b)) from rfl, Int32.ofInt_mul] at k2
  exact k2
theorem x_idiv (p' : Nat) {a b : Int} (ha : 0 ≤ a) (ha2 : a < 2147483648) (hb : 0 < b) (hb2 : b < 2147483648) (hd : decode M.1 pc = .ok (.idiv, 1)) (hp : pc + 1 = p') (kk : WX K M R Q u p' L (vi (a / b) :: st) h) : WX K M R Q u pc L (vi b :: vi a :: st) h := by
  subst hp
  intro hmd p e s m args below meth c E H locs ls hH hP hS hl
  have k2 := (kk hmd p e s m args below meth c E H locs ls hH hP hS hl)
  rw [List.map_cons, show xv K (vi (a / b)) = Value.int (Int32.ofInt (a / b)) from rfl, ← xdiv ha ha2 hb hb2] at k2
  exact lv_idiv E.1 E.2.1 hd (fun q => by rw [xz, xeq ⟨by omega, by omega⟩ xrg0] at q; omega) k2
theorem x_irem (p' : Nat) {a b : Int} (ha : 0 ≤ a) (ha2 : a < 2147483648) (hb : 0 < b) (hb2 : b < 2147483648) (hd : decode M.1 pc = .ok (.irem, 1)) (hp : pc + 1 = p') (kk : WX K M R Q u p' L (vi (a % b) :: st) h) : WX K M R Q u pc L (vi b :: vi a :: st) h := by
  subst hp
  intro hmd p e s m args below meth c E H locs ls hH hP hS hl
  have k2 := (kk hmd p e s m args below meth c E H locs ls hH hP hS hl)
  rw [List.map_cons, show xv K (vi (a % b)) = Value.int (Int32.ofInt (a % b)) from rfl, ← xrem ha ha2 hb hb2] at k2
  exact lv_irem E.1 E.2.1 hd (fun q => by rw [xz, xeq ⟨by omega, by omega⟩ xrg0] at q; omega) k2
theorem x_iand65535 (p' : Nat) {a : Int}  (hd : decode M.1 pc = .ok (.iand, 1)) (hp : pc + 1 = p') (kk : WX K M R Q u p' L (vi (a % 65536) :: st) h) : WX K M R Q u pc L (vi 65535 :: vi a :: st) h := by
  subst hp
  intro hmd p e s m args below meth c E H locs ls hH hP hS hl
  have k2 := (kk hmd p e s m args below meth c E H locs ls hH hP hS hl)
  rw [List.map_cons, show xv K (vi (a % 65536)) = Value.int (Int32.ofInt (a % 65536)) from rfl, ← xand65535 a] at k2
  exact lv_iand E.1 E.2.1 hd k2
theorem x_iand15 (p' : Nat) {a : Int}  (hd : decode M.1 pc = .ok (.iand, 1)) (hp : pc + 1 = p') (kk : WX K M R Q u p' L (vi (a % 16) :: st) h) : WX K M R Q u pc L (vi 15 :: vi a :: st) h := by
  subst hp
  intro hmd p e s m args below meth c E H locs ls hH hP hS hl
  have k2 := (kk hmd p e s m args below meth c E H locs ls hH hP hS hl)
  rw [List.map_cons, show xv K (vi (a % 16)) = Value.int (Int32.ofInt (a % 16)) from rfl, ← xand15 a] at k2
  exact lv_iand E.1 E.2.1 hd k2
theorem x_ixor (p' : Nat) {a b : Int}  (hd : decode M.1 pc = .ok (.ixor, 1)) (hp : pc + 1 = p') (kk : WX K M R Q u p' L (vi (xxor a b) :: st) h) : WX K M R Q u pc L (vi b :: vi a :: st) h := by
  subst hp
  intro hmd p e s m args below meth c E H locs ls hH hP hS hl
  have k2 := (kk hmd p e s m args below meth c E H locs ls hH hP hS hl)
  rw [List.map_cons, show xv K (vi (xxor a b)) = Value.int (Int32.ofInt (xxor a b)) from rfl, ← xxor_of a b] at k2
  exact lv_ixor E.1 E.2.1 hd k2
theorem x_ishr (p' : Nat) {a : Int} {k : Nat} (ha : xrg a) (hk : k < 32) (hd : decode M.1 pc = .ok (.ishr, 1)) (hp : pc + 1 = p') (kk : WX K M R Q u p' L (vi (a / (2 ^ k : Nat)) :: st) h) : WX K M R Q u pc L (vi (k : Int) :: vi a :: st) h := by
  subst hp
  intro hmd p e s m args below meth c E H locs ls hH hP hS hl
  have k2 := (kk hmd p e s m args below meth c E H locs ls hH hP hS hl)
  rw [List.map_cons, show xv K (vi (a / (2 ^ k : Nat))) = Value.int (Int32.ofInt (a / (2 ^ k : Nat))) from rfl, ← xshr ha hk] at k2
  exact lv_ishr E.1 E.2.1 hd k2
theorem x_ishl (p' : Nat) {a : Int} {k : Nat} (hk : k < 32) (hd : decode M.1 pc = .ok (.ishl, 1)) (hp : pc + 1 = p') (kk : WX K M R Q u p' L (vi (a * (2 ^ k : Nat)) :: st) h) : WX K M R Q u pc L (vi (k : Int) :: vi a :: st) h := by
  subst hp
  intro hmd p e s m args below meth c E H locs ls hH hP hS hl
  have k2 := (kk hmd p e s m args below meth c E H locs ls hH hP hS hl)
  rw [List.map_cons, show xv K (vi (a * (2 ^ k : Nat))) = Value.int (Int32.ofInt (a * (2 ^ k : Nat))) from rfl, ← xshl a hk] at k2
  exact lv_ishl E.1 E.2.1 hd k2
theorem x_lcmp (p' : Nat) {a b : Int} (ha : xrl a) (hb : xrl b) (hd : decode M.1 pc = .ok (.lcmp, 1)) (hp : pc + 1 = p') (kk : WX K M R Q u p' L (vi (if b < a then 1 else if a = b then 0 else -1) :: st) h) : WX K M R Q u pc L (vl b :: vl a :: st) h := by
  subst hp
  intro hmd p e s m args below meth c E H locs ls hH hP hS hl
  have k2 := (kk hmd p e s m args below meth c E H locs ls hH hP hS hl)
  rw [List.map_cons, show xv K (vi (if b < a then 1 else if a = b then 0 else -1)) = Value.int (Int32.ofInt (if b < a then 1 else if a = b then 0 else -1)) from rfl, ← xlcmp ha hb] at k2
  exact W.lcmp E.1 E.2.1 hd k2
theorem x_i2l (p' : Nat) {a : Int} (ha : xrg a) (hd : decode M.1 pc = .ok (.i2l, 1)) (hp : pc + 1 = p') (kk : WX K M R Q u p' L (vl a :: st) h) : WX K M R Q u pc L (vi a :: st) h := by
  subst hp
  intro hmd p e s m args below meth c E H locs ls hH hP hS hl
  exact lv_i2l E.1 E.2.1 hd (xlong ha) (kk hmd p e s m args below meth c E H locs ls hH hP hS hl)
theorem x_dupi (p' : Nat) {a : Int} (hd : decode M.1 pc = .ok (.dup, 1)) (hp : pc + 1 = p') (kk : WX K M R Q u p' L (vi a :: vi a :: st) h) : WX K M R Q u pc L (vi a :: st) h := by
  subst hp
  intro hmd p e s m args below meth c E H locs ls hH hP hS hl
  exact lv_dup E.1 E.2.1 hd rfl (kk hmd p e s m args below meth c E H locs ls hH hP hS hl)
theorem x_dupr (p' : Nat) {a : Nat} (hd : decode M.1 pc = .ok (.dup, 1)) (hp : pc + 1 = p') (kk : WX K M R Q u p' L (vr a :: vr a :: st) h) : WX K M R Q u pc L (vr a :: st) h := by
  subst hp
  intro hmd p e s m args below meth c E H locs ls hH hP hS hl
  exact lv_dup E.1 E.2.1 hd rfl (kk hmd p e s m args below meth c E H locs ls hH hP hS hl)
theorem x_dup2 (p' : Nat) {a : Int} {b : Nat} (hd : decode M.1 pc = .ok (.dup2, 1)) (hp : pc + 1 = p') (kk : WX K M R Q u p' L (vi a :: vr b :: vi a :: vr b :: st) h) : WX K M R Q u pc L (vi a :: vr b :: st) h := by
  subst hp
  intro hmd p e s m args below meth c E H locs ls hH hP hS hl
  exact lv_dup2_11 E.1 E.2.1 hd rfl rfl (kk hmd p e s m args below meth c E H locs ls hH hP hS hl)
theorem x_popi (p' : Nat) {a : Int} (hd : decode M.1 pc = .ok (.pop, 1)) (hp : pc + 1 = p') (kk : WX K M R Q u p' L (st) h) : WX K M R Q u pc L (vi a :: st) h := by
  subst hp
  intro hmd p e s m args below meth c E H locs ls hH hP hS hl
  exact lv_pop E.1 E.2.1 hd rfl (kk hmd p e s m args below meth c E H locs ls hH hP hS hl)
theorem x_goto {off : Int} (tgt : Nat) (hd : decode M.1 pc = .ok (.goto off, 3)) (ht : (pc : Int) + off = (tgt : Int)) (kk : WX K M R Q u tgt L (st) h) : WX K M R Q u pc L (st) h := by
  intro hmd p e s m args below meth c E H locs ls hH hP hS hl
  exact lv_goto E.1 E.2.1 hd ht (kk hmd p e s m args below meth c E H locs ls hH hP hS hl)
theorem x_istore_n (p' : Nat) {k : Fin 4} {z : Int} {L' : List (Nat × XV)} (hd : decode M.1 pc = .ok (.istore_n k, 1)) (hk : k.val < M.2.2.1) (hn : xnl L = true) (hL : xset L k.val (vi z) = L') (hp : pc + 1 = p') (kk : WX K M R Q u p' L' st h) : WX K M R Q u pc L (vi z :: st) h := by
  subst hp
  subst hL
  intro hmd p e s m args below meth c E H locs ls hH hP hS hl
  exact lv_istore_n E.1 E.2.1 hd rfl hl hk rfl (fun ls' hl' => kk hmd p e s m args below meth c E H locs ls' hH hP hS (xlset hn hl'))
theorem x_istore (p' : Nat) {k : Nat} {z : Int} {L' : List (Nat × XV)} (hd : decode M.1 pc = .ok (.istore k, 2)) (hk : k < M.2.2.1) (hn : xnl L = true) (hL : xset L k (vi z) = L') (hp : pc + 2 = p') (kk : WX K M R Q u p' L' st h) : WX K M R Q u pc L (vi z :: st) h := by
  subst hp
  subst hL
  intro hmd p e s m args below meth c E H locs ls hH hP hS hl
  exact lv_istore E.1 E.2.1 hd hl hk rfl (fun ls' hl' => kk hmd p e s m args below meth c E H locs ls' hH hP hS (xlset hn hl'))
theorem x_astore_n (p' : Nat) {k : Fin 4} {z : Nat} {L' : List (Nat × XV)} (hd : decode M.1 pc = .ok (.astore_n k, 1)) (hk : k.val < M.2.2.1) (hn : xnl L = true) (hL : xset L k.val (vr z) = L') (hp : pc + 1 = p') (kk : WX K M R Q u p' L' st h) : WX K M R Q u pc L (vr z :: st) h := by
  subst hp
  subst hL
  intro hmd p e s m args below meth c E H locs ls hH hP hS hl
  exact lv_astore_n E.1 E.2.1 hd rfl hl hk rfl (fun ls' hl' => kk hmd p e s m args below meth c E H locs ls' hH hP hS (xlset hn hl'))
theorem x_astore (p' : Nat) {k : Nat} {z : Nat} {L' : List (Nat × XV)} (hd : decode M.1 pc = .ok (.astore k, 2)) (hk : k < M.2.2.1) (hn : xnl L = true) (hL : xset L k (vr z) = L') (hp : pc + 2 = p') (kk : WX K M R Q u p' L' st h) : WX K M R Q u pc L (vr z :: st) h := by
  subst hp
  subst hL
  intro hmd p e s m args below meth c E H locs ls hH hP hS hl
  exact lv_astore E.1 E.2.1 hd hl hk rfl (fun ls' hl' => kk hmd p e s m args below meth c E H locs ls' hH hP hS (xlset hn hl'))
theorem x_iinc (p' : Nat) {k : Nat} {z d : Int} {L' : List (Nat × XV)} (hd : decode M.1 pc = .ok (.iinc k d, 3)) (hg : xget L k = some (vi z)) (hk : k < M.2.2.1) (hn : xnl L = true) (hL : xset L k (vi (z + d)) = L') (hp : pc + 3 = p') (kk : WX K M R Q u p' L' st h) : WX K M R Q u pc L st h := by
  subst hp
  subst hL
  intro hmd p e s m args below meth c E H locs ls hH hP hS hl
  obtain ⟨i, hi⟩ := List.getElem?_of_mem (xL_mem (K := K) (xget_mem hg))
  refine lv_iinc E.1 E.2.1 hd hl hi (v := Int32.ofInt (z + d)) (by rw [Int32.ofInt_add]) hk rfl (fun ls' hl' => ?_)
  exact kk hmd p e s m args below meth c E H locs ls' hH hP hS (xlset hn hl')
theorem x_icmp_eq (p' : Nat) {a b : Int} {off : Int} (tgt : Nat) (hd : decode M.1 pc = .ok (.if_icmp .eq off, 3)) (ht : (pc : Int) + off = (tgt : Int)) (ra : xrg a) (rb : xrg b) (hp : pc + 3 = p') (kt : a = b → WX K M R Q u tgt L st h) (kf : a ≠ b → WX K M R Q u p' L st h) : WX K M R Q u pc L (vi b :: vi a :: st) h := by
  subst hp
  intro hmd p e s m args below meth c E H locs ls hH hP hS hl
  exact lv_icmp_eq E.1 E.2.1 hd ht (fun q => kt ((xeq ra rb).mp q) hmd p e s m args below meth c E H locs ls hH hP hS hl) (fun q => kf (fun z => q ((xeq ra rb).mpr z)) hmd p e s m args below meth c E H locs ls hH hP hS hl)
theorem x_icmp_ne (p' : Nat) {a b : Int} {off : Int} (tgt : Nat) (hd : decode M.1 pc = .ok (.if_icmp .ne off, 3)) (ht : (pc : Int) + off = (tgt : Int)) (ra : xrg a) (rb : xrg b) (hp : pc + 3 = p') (kt : a ≠ b → WX K M R Q u tgt L st h) (kf : a = b → WX K M R Q u p' L st h) : WX K M R Q u pc L (vi b :: vi a :: st) h := by
  subst hp
  intro hmd p e s m args below meth c E H locs ls hH hP hS hl
  exact lv_icmp_ne E.1 E.2.1 hd ht (fun q => kt (fun z => q ((xeq ra rb).mpr z)) hmd p e s m args below meth c E H locs ls hH hP hS hl) (fun q => kf ((xeq ra rb).mp q) hmd p e s m args below meth c E H locs ls hH hP hS hl)
theorem x_icmp_lt (p' : Nat) {a b : Int} {off : Int} (tgt : Nat) (hd : decode M.1 pc = .ok (.if_icmp .lt off, 3)) (ht : (pc : Int) + off = (tgt : Int)) (ra : xrg a) (rb : xrg b) (hp : pc + 3 = p') (kt : a < b → WX K M R Q u tgt L st h) (kf : b ≤ a → WX K M R Q u p' L st h) : WX K M R Q u pc L (vi b :: vi a :: st) h := by
  subst hp
  intro hmd p e s m args below meth c E H locs ls hH hP hS hl
  exact lv_icmp_lt E.1 E.2.1 hd ht (fun q => kt ((xlt ra rb).mp q) hmd p e s m args below meth c E H locs ls hH hP hS hl) (fun q => kf (Int.not_lt.mp fun z => q ((xlt ra rb).mpr z)) hmd p e s m args below meth c E H locs ls hH hP hS hl)
theorem x_icmp_ge (p' : Nat) {a b : Int} {off : Int} (tgt : Nat) (hd : decode M.1 pc = .ok (.if_icmp .ge off, 3)) (ht : (pc : Int) + off = (tgt : Int)) (ra : xrg a) (rb : xrg b) (hp : pc + 3 = p') (kt : b ≤ a → WX K M R Q u tgt L st h) (kf : a < b → WX K M R Q u p' L st h) : WX K M R Q u pc L (vi b :: vi a :: st) h := by
  subst hp
  intro hmd p e s m args below meth c E H locs ls hH hP hS hl
  exact lv_icmp_ge E.1 E.2.1 hd ht (fun q => kt ((xle rb ra).mp q) hmd p e s m args below meth c E H locs ls hH hP hS hl) (fun q => kf (Int.not_le.mp fun z => q ((xle rb ra).mpr z)) hmd p e s m args below meth c E H locs ls hH hP hS hl)
theorem x_icmp_gt (p' : Nat) {a b : Int} {off : Int} (tgt : Nat) (hd : decode M.1 pc = .ok (.if_icmp .gt off, 3)) (ht : (pc : Int) + off = (tgt : Int)) (ra : xrg a) (rb : xrg b) (hp : pc + 3 = p') (kt : b < a → WX K M R Q u tgt L st h) (kf : a ≤ b → WX K M R Q u p' L st h) : WX K M R Q u pc L (vi b :: vi a :: st) h := by
  subst hp
  intro hmd p e s m args below meth c E H locs ls hH hP hS hl
  exact lv_icmp_gt E.1 E.2.1 hd ht (fun q => kt ((xlt rb ra).mp q) hmd p e s m args below meth c E H locs ls hH hP hS hl) (fun q => kf (Int.not_lt.mp fun z => q ((xlt rb ra).mpr z)) hmd p e s m args below meth c E H locs ls hH hP hS hl)
theorem x_icmp_le (p' : Nat) {a b : Int} {off : Int} (tgt : Nat) (hd : decode M.1 pc = .ok (.if_icmp .le off, 3)) (ht : (pc : Int) + off = (tgt : Int)) (ra : xrg a) (rb : xrg b) (hp : pc + 3 = p') (kt : a ≤ b → WX K M R Q u tgt L st h) (kf : b < a → WX K M R Q u p' L st h) : WX K M R Q u pc L (vi b :: vi a :: st) h := by
  subst hp
  intro hmd p e s m args below meth c E H locs ls hH hP hS hl
  exact lv_icmp_le E.1 E.2.1 hd ht (fun q => kt ((xle ra rb).mp q) hmd p e s m args below meth c E H locs ls hH hP hS hl) (fun q => kf (Int.not_le.mp fun z => q ((xle ra rb).mpr z)) hmd p e s m args below meth c E H locs ls hH hP hS hl)
theorem x_if_eq (p' : Nat) {a : Int} {off : Int} (tgt : Nat) (hd : decode M.1 pc = .ok (.ifCond .eq off, 3)) (ht : (pc : Int) + off = (tgt : Int)) (ra : xrg a) (hp : pc + 3 = p') (kt : a = 0 → WX K M R Q u tgt L st h) (kf : a ≠ 0 → WX K M R Q u p' L st h) : WX K M R Q u pc L (vi a :: st) h := by
  subst hp
  intro hmd p e s m args below meth c E H locs ls hH hP hS hl
  exact lv_if_eq E.1 E.2.1 hd ht (fun q => kt ((xeq ra xrg0).mp q) hmd p e s m args below meth c E H locs ls hH hP hS hl) (fun q => kf (fun z => q ((xeq ra xrg0).mpr z)) hmd p e s m args below meth c E H locs ls hH hP hS hl)
theorem x_if_ne (p' : Nat) {a : Int} {off : Int} (tgt : Nat) (hd : decode M.1 pc = .ok (.ifCond .ne off, 3)) (ht : (pc : Int) + off = (tgt : Int)) (ra : xrg a) (hp : pc + 3 = p') (kt : a ≠ 0 → WX K M R Q u tgt L st h) (kf : a = 0 → WX K M R Q u p' L st h) : WX K M R Q u pc L (vi a :: st) h := by
  subst hp
  intro hmd p e s m args below meth c E H locs ls hH hP hS hl
  exact lv_if_ne E.1 E.2.1 hd ht (fun q => kt (fun z => q ((xeq ra xrg0).mpr z)) hmd p e s m args below meth c E H locs ls hH hP hS hl) (fun q => kf ((xeq ra xrg0).mp q) hmd p e s m args below meth c E H locs ls hH hP hS hl)
theorem x_if_lt (p' : Nat) {a : Int} {off : Int} (tgt : Nat) (hd : decode M.1 pc = .ok (.ifCond .lt off, 3)) (ht : (pc : Int) + off = (tgt : Int)) (ra : xrg a) (hp : pc + 3 = p') (kt : a < 0 → WX K M R Q u tgt L st h) (kf : 0 ≤ a → WX K M R Q u p' L st h) : WX K M R Q u pc L (vi a :: st) h := by
  subst hp
  intro hmd p e s m args below meth c E H locs ls hH hP hS hl
  exact lv_if_lt E.1 E.2.1 hd ht (fun q => kt ((xlt ra xrg0).mp q) hmd p e s m args below meth c E H locs ls hH hP hS hl) (fun q => kf (Int.not_lt.mp fun z => q ((xlt ra xrg0).mpr z)) hmd p e s m args below meth c E H locs ls hH hP hS hl)
theorem x_if_ge (p' : Nat) {a : Int} {off : Int} (tgt : Nat) (hd : decode M.1 pc = .ok (.ifCond .ge off, 3)) (ht : (pc : Int) + off = (tgt : Int)) (ra : xrg a) (hp : pc + 3 = p') (kt : 0 ≤ a → WX K M R Q u tgt L st h) (kf : a < 0 → WX K M R Q u p' L st h) : WX K M R Q u pc L (vi a :: st) h := by
  subst hp
  intro hmd p e s m args below meth c E H locs ls hH hP hS hl
  exact lv_if_ge E.1 E.2.1 hd ht (fun q => kt ((xle xrg0 ra).mp q) hmd p e s m args below meth c E H locs ls hH hP hS hl) (fun q => kf (Int.not_le.mp fun z => q ((xle xrg0 ra).mpr z)) hmd p e s m args below meth c E H locs ls hH hP hS hl)
theorem x_if_gt (p' : Nat) {a : Int} {off : Int} (tgt : Nat) (hd : decode M.1 pc = .ok (.ifCond .gt off, 3)) (ht : (pc : Int) + off = (tgt : Int)) (ra : xrg a) (hp : pc + 3 = p') (kt : 0 < a → WX K M R Q u tgt L st h) (kf : a ≤ 0 → WX K M R Q u p' L st h) : WX K M R Q u pc L (vi a :: st) h := by
  subst hp
  intro hmd p e s m args below meth c E H locs ls hH hP hS hl
  exact lv_if_gt E.1 E.2.1 hd ht (fun q => kt ((xlt xrg0 ra).mp q) hmd p e s m args below meth c E H locs ls hH hP hS hl) (fun q => kf (Int.not_lt.mp fun z => q ((xlt xrg0 ra).mpr z)) hmd p e s m args below meth c E H locs ls hH hP hS hl)
theorem x_if_le (p' : Nat) {a : Int} {off : Int} (tgt : Nat) (hd : decode M.1 pc = .ok (.ifCond .le off, 3)) (ht : (pc : Int) + off = (tgt : Int)) (ra : xrg a) (hp : pc + 3 = p') (kt : a ≤ 0 → WX K M R Q u tgt L st h) (kf : 0 < a → WX K M R Q u p' L st h) : WX K M R Q u pc L (vi a :: st) h := by
  subst hp
  intro hmd p e s m args below meth c E H locs ls hH hP hS hl
  exact lv_if_le E.1 E.2.1 hd ht (fun q => kt ((xle ra xrg0).mp q) hmd p e s m args below meth c E H locs ls hH hP hS hl) (fun q => kf (Int.not_le.mp fun z => q ((xle ra xrg0).mpr z)) hmd p e s m args below meth c E H locs ls hH hP hS hl)
theorem x_tableIn {a : Int} {dflt lo hi : Int} {offs : Array Int} {len : Nat} {off : Int} (tgt : Nat) (hd : decode M.1 pc = .ok (.tableswitch dflt lo hi offs, len)) (ra : xrg a) (h1 : lo ≤ a) (h2 : a ≤ hi) (ho : offs[(a - lo).toNat]? = some off) (ht : (pc : Int) + off = (tgt : Int)) (kk : WX K M R Q u tgt L st h) : WX K M R Q u pc L (vi a :: st) h := by
  intro hmd p e s m args below meth c E H locs ls hH hP hS hl
  exact lv_tableIn E.1 E.2.1 hd (by rw [xI ra]; omega) (by rw [xI ra]; omega) (by rw [xI ra]; exact ho) ht (kk hmd p e s m args below meth c E H locs ls hH hP hS hl)
theorem x_tableOut {a : Int} {dflt lo hi : Int} {offs : Array Int} {len : Nat} (tgt : Nat) (hd : decode M.1 pc = .ok (.tableswitch dflt lo hi offs, len)) (ra : xrg a) (h1 : a < lo ∨ hi < a) (ht : (pc : Int) + dflt = (tgt : Int)) (kk : WX K M R Q u tgt L st h) : WX K M R Q u pc L (vi a :: st) h := by
  intro hmd p e s m args below meth c E H locs ls hH hP hS hl
  exact lv_tableOut E.1 E.2.1 hd (by rw [xI ra]; exact h1) ht (kk hmd p e s m args below meth c E H locs ls hH hP hS hl)
theorem x_lookup {a : Int} {dflt : Int} {ps : Array (Int × Int)} {len : Nat} {off : Int} (tgt : Nat) (hd : decode M.1 pc = .ok (.lookupswitch dflt ps, len)) (ra : xrg a) (hp : (ps.toList.zip (ps.toList.drop 1)).all (fun (a, next) => a.1 < next.1) = true) (ho : Op.lookupswitch.offset ps.toList dflt a = off) (ht : (pc : Int) + off = (tgt : Int)) (kk : WX K M R Q u tgt L st h) : WX K M R Q u pc L (vi a :: st) h := by
  intro hmd p e s m args below meth c E H locs ls hH hP hS hl
  exact lv_lookup E.1 E.2.1 hd hp (by rw [xI ra]; exact ho) ht (kk hmd p e s m args below meth c E H locs ls hH hP hS hl)
end XRULES
