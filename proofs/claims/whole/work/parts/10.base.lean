/-! THE SMALL MACHINE: values are whole numbers (of any size, told to the machine modulo 2^32), cells are rows of whole numbers -/
def xTb : List Cond := lw_tbl.filter goodWord
theorem xTb_mem {w : Cond} (i : Nat) (h : lw_tbl[i]? = some w) (g : goodWord w = true) : w ∈ xTb := List.mem_filter.mpr ⟨List.mem_of_getElem? h, g⟩
theorem xTb_good {w : Cond} (h : w ∈ xTb) : (w.onTables && w.keeps) = true ∨ ∃ ty, w = .arrayClass ty := good_of_word (List.mem_filter.mp h).2
/-- words that speak of a nest mate's members: they go along as facts of the state -/
def xNw : Cond → Bool
  | .fieldLinkNest _ _ _ _ _ _ => true
  | .methodLinkNest _ _ _ _ => true
  | _ => false
def xTn : List Cond := lw_tbl.filter xNw
theorem xTn_mem {w : Cond} (i : Nat) (h : lw_tbl[i]? = some w) (g : xNw w = true) : w ∈ xTn := List.mem_filter.mpr ⟨List.mem_of_getElem? h, g⟩
theorem xNw_tab {w : Cond} (h : xNw w = true) : w.onTables = true := by cases w <;> first | rfl | cases h
theorem xNw_warm {w : Cond} {s U : State} (g : xNw w = true) (hW : s.WarmedH U.vm) (h : va_Nw w s) : va_Nw w U := by
  cases w <;> first | exact va_Nw.warmF hW h | exact va_Nw.warmM hW h | cases g
theorem xGoodIn {y : MethodName} {cc : ByteArray} {n : Nat} {r : Option FieldType} (h : Cond.code y cc n r ∈ xTb) : GoodIn xTb (Cond.code y cc n r :: xTb) := fun w hw => by
  rcases List.mem_cons.mp hw with rfl | hw
  · exact ⟨h, xTb_good h⟩
  · exact ⟨hw, xTb_good hw⟩
abbrev XV : Type := Int ⊕ (Nat ⊕ Int)
abbrev vi (z : Int) : XV := Sum.inl z
abbrev vr (k : Nat) : XV := Sum.inr (Sum.inl k)
abbrev vl (z : Int) : XV := Sum.inr (Sum.inr z)
abbrev XH : Type := Nat → Int → Int
def hset (h : XH) (c : Nat) (k z : Int) : XH := fun c' k' => if c' = c ∧ k' = k then z else h c' k'
/-- launch, classes and slots, the first cell's address, array classes, the constant texts' addresses and their rows' -/
abbrev XK : Type := Launch × va_G × Nat × (Nat → ClassId) × (Nat → Nat) × (Nat → Nat)
def xad (K : XK) (k : Nat) : Nat := if k < 1000000 then K.2.2.1 + k else K.2.2.2.2.1 (k - 1000000)
def xv (K : XK) (v : XV) : Value := match v with
  | .inl z => .int (Int32.ofInt z)
  | .inr (.inl k) => .ref (xad K k)
  | .inr (.inr z) => .long (Int64.ofInt z)
def xro (K : XK) (z : Int) : Option Nat := if z ≤ 0 then none else some (K.2.2.1 + (z.toNat - 1))
def xFT (ci : Nat) : Nat → FieldType := match ci with
  | 0 => tyX0
  | 1 => tyX1
  | 2 => tyX2
  | 3 => tyX3
  | 4 => tyX4
  | 5 => tyX5
  | 6 => tyX6
  | 7 => tyX7
  | 8 => tyX8
  | _ => tyX9
/-- of a field: 0 whole number, 1 truth value, 2 reference -/
def xsort (t : FieldType) : Nat := match t with
  | .int => 0
  | .boolean => 1
  | _ => 2
def xFS (ci k : Nat) : Nat := xsort (xFT ci k)
def xSetT (o : Nat) : Nat × Nat := if o = 0 then (6, 4) else if o = 1 then (13, 8) else if (o - 2) % 3 = 0 then (1, 4) else (11, 4)
/-- what a cell is: below 10 an object of that class and how many fields; else an array (10 char, 11 int, 12 boolean, 13 Entry, 14 Setup, 15 int rows) and how long -/
def xTY (c : Nat) : Nat × Nat :=
  if c < 8 then [(8, 7), (7, 4), (10, 200), (11, 48), (4, 4), (11, 48), (11, 48), (12, 48)].getD c (0, 0)
  else if c < 34 then xSetT (c - 8)
  else if c < 36 then [(2, 2), (14, 6)].getD (c - 34) (0, 0)
  else if c < 192 then xSetT ((c - 36) % 26)
  else if c < 195 then [(3, 16), (11, 48), (15, 48)].getD (c - 192) (0, 0)
  else if c < 243 then (11, 5)
  else [(11, 49), (11, 48), (11, 49), (1, 4), (11, 4), (11, 4), (11, 48), (11, 48), (11, 48), (11, 48), (11, 192), (0, 6), (5, 17), (11, 10), (11, 12), (11, 4),
    (9, 31), (11, 200), (11, 48), (11, 48), (11, 48), (11, 48), (11, 48), (11, 93), (11, 498), (11, 49), (11, 48), (11, 49), (11, 10), (11, 12), (11, 5)].getD (c - 243) (0, 0)
/-- which cell (and one) a place holds for good, 0: it holds a number -/
def xRF (c k : Nat) : Nat :=
  if c < 8 then (if c = 0 then [2, 5, 9, 35, 193, 255, 256].getD k 0 else if c = 1 then [3, 4].getD k 0 else if c = 4 then [6, 7, 8].getD k 0 else 0)
  else if c < 192 then (if (xTY c).1 = 6 then (if k = 0 then c + 2 else 0) else if (xTY c).1 = 13 then (if k < 8 then c + 2 + 3 * k else 0) else if (xTY c).1 = 1 then (if k = 0 then c + 2 else if k = 1 then c + 3 else 0) else if (xTY c).1 = 2 then (if k = 0 then 36 else 0) else if (xTY c).1 = 14 then (if k < 6 then 37 + 26 * k else 0) else 0)
  else if c = 192 then [5, 9, 194, 195, 244, 245, 246, 247, 250, 251, 252, 253, 254].getD k 0
  else if c = 194 then (if k < 48 then 196 + k else 0)
  else if c < 246 then 0
  else if c = 246 then [248, 249].getD k 0
  else if c = 254 then [193, 9].getD k 0
  else if c = 255 then [5, 193, 257, 258, 259].getD k 0
  else if c = 259 then [0, 261, 0, 262, 263, 0, 264, 265, 266, 267, 268, 0, 269, 270, 271, 0, 0, 0, 0, 0, 0, 0, 0, 0, 272, 273, 0, 274].getD k 0
  else 0
def xe (K : XK) (t : Nat × Nat) (row : Int → Int) : va_E :=
  if t.1 < 10 then .inr (t.1, (List.range t.2).map fun (k : Nat) => if xFS t.1 k = 2 then va_rf (xro K (row k)) else .int (Int32.ofInt (row k)))
  else if t.1 < 13 then .inl (K.2.2.2.1 (t.1 - 10), t.2, .inl fun (j : Nat) => Int32.ofInt (row j))
  else .inl (K.2.2.2.1 (t.1 - 10), t.2, .inr (.inr (.inr (.inr fun (j : Nat) => xro K (row j)))))
def xw (K : XK) (n : Nat) (h : XH) : va_W := (List.range n).map fun c => (K.2.2.1 + c, xe K (xTY c) (h c))
theorem xw_get {K : XK} {n : Nat} {h : XH} {c : Nat} (hc : c < n) : (xw K n h)[c]? = some (K.2.2.1 + c, xe K (xTY c) (h c)) := by
  unfold xw
  rw [List.getElem?_map, List.getElem?_range hc]
  rfl
theorem xw_len {K : XK} {n : Nat} {h : XH} : (xw K n h).length = n := by simp [xw]
theorem xw_set {K : XK} {n : Nat} {h : XH} {c : Nat} {k z : Int} {e : va_E} (hc : c < n) (he : e = xe K (xTY c) (hset h c k z c)) : (xw K n h).set c (K.2.2.1 + c, e) = xw K n (hset h c k z) := by
  subst he
  apply List.ext_getElem?
  intro i
  by_cases hi : i < n
  · rw [xw_get hi]
    by_cases e : i = c
    · subst e
      rw [List.getElem?_set_self (by rw [xw_len]; exact hi)]
    · rw [List.getElem?_set_ne (Ne.symm e), xw_get hi]
      have : hset h c k z i = h i := by
        funext j
        simp [hset, e]
      rw [this]
  · rw [List.getElem?_eq_none (by rw [List.length_set, xw_len]; omega), List.getElem?_eq_none (by rw [xw_len]; omega)]
theorem xw_push {K : XK} {n : Nat} {h : XH} : xw K n h ++ [(K.2.2.1 + n, xe K (xTY n) (h n))] = xw K (n + 1) h := by
  simp [xw, List.range_succ]
def xA (K : XK) : Nat → Prop := fun q => K.2.2.1 ≤ q
theorem xw_D {K : XK} {n : Nat} {h : XH} : va_D (xA K) (xw K n h) := by
  have key : ∀ (i : Nat) (p : Nat × va_E), (xw K n h)[i]? = some p → p.1 = K.2.2.1 + i := by
    intro i p hp
    have hi : i < n := by
      have := (List.getElem?_eq_some_iff.mp hp).1
      rwa [xw_len] at this
    rw [xw_get hi] at hp
    cases hp
    rfl
  refine ⟨fun i j p q hi hj hpq => ?_, fun k q hk => ?_⟩
  · have h1 := key i p hi
    have h2 := key j q hj
    omega
  · rw [key k q hk]
    exact Nat.le_add_right _ _
def xtys (K : XK) : List (ClassId × FieldType) := [(K.2.2.2.1 0, .char), (K.2.2.2.1 1, .int), (K.2.2.2.1 2, .boolean), (K.2.2.2.1 3, .object RX1), (K.2.2.2.1 4, .object RX6), (K.2.2.2.1 5, .array .int)]
def xAOA (U : State) : Prop := (Cond.arrayOver (.array .int)).before #[] U = true
theorem xAOA_spec {args : Array Value} {first s : State} {o : Option Outcome} {idx : List Nat} (h : (Cond.arrayOver (.array .int)).holds args first o s idx = true) :
    ∃ comp c k, s.vm.findClass (FieldType.array .int).toString = some comp ∧ (s.vm.classes.findIdx? fun x => match x.kind with | .array component _ => component == comp | _ => false) = some c ∧ s.vm.classes[c]? = some k ∧ (∃ comp', k.kind = .array comp' (.array .int)) ∧
      s.vm.findClass ("[" ++ (FieldType.array .int).toString) = some c := by
  simp only [Cond.holds, Cond.value, beq_iff_eq] at h
  cases hc : s.vm.findClass (FieldType.array .int).toString with
  | none => simp [hc] at h
  | some comp =>
    simp only [hc, Option.bind_some, Option.bind_eq_some_iff, Option.map_eq_some_iff] at h
    obtain ⟨c, hi, k, hk, hb⟩ := h
    cases hkind : k.kind with
    | array component ty =>
      rw [hkind] at hb
      simp at hb
      exact ⟨comp, c, k, rfl, hi, hk, ⟨component, by rw [hkind, hb.1]⟩, hb.2⟩
    | _ => rw [hkind] at hb; simp at hb
theorem xAOA.moved {u U : State} (hvm : u.vm.Alike U.vm) (h : xAOA u) : xAOA U := by
  obtain ⟨comp, c, k, h1, h2, h3, ⟨comp', h4⟩, h5⟩ := xAOA_spec h
  obtain ⟨k', hk', he⟩ := hvm.2.2 _ _ h3
  have hi : (U.vm.classes.findIdx? fun (x : Class) => match x.kind with | .array component _ => component == comp | _ => false) = some c := by
    refine (va_idx_bare U.vm comp).symm.trans (Eq.trans ?_ ((va_idx_bare u.vm comp).trans h2))
    first | rw [hvm.bare_eq] | rw [← hvm.bare_eq]
  have hkind : k'.kind = .array comp' (.array .int) := by rw [he]; exact h4
  have f1 : U.vm.findClass (FieldType.array .int).toString = some comp := by rw [hvm.findClass]; exact h1
  have f2 : U.vm.findClass ("[" ++ (FieldType.array .int).toString) = some c := by rw [hvm.findClass]; exact h5
  unfold xAOA Cond.before Cond.holds
  simp only [Cond.value]
  rw [f1, Option.bind_some]
  refine (congrArg (fun o : Option Nat => (o.bind (fun c => (U.vm.classes[c]?).map fun (k : Class) => match k.kind with | .array _ ty => decide (ty = FieldType.array .int) && decide (U.vm.findClass ("[" ++ (FieldType.array .int).toString) = some c) | _ => false) == some true)) hi).trans ?_
  simp [hk', hkind, f2]

