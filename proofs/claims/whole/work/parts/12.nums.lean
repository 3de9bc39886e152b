/-! whole numbers, told to the machine modulo 2^32 -/
abbrev xrg (z : Int) : Prop := -2147483648 ≤ z ∧ z < 2147483648
theorem xI {z : Int} (h : xrg z) : (Int32.ofInt z).toInt = z := Int32.toInt_ofInt_of_le h.1 h.2
theorem xle {a b : Int} (ha : xrg a) (hb : xrg b) : Int32.ofInt a ≤ Int32.ofInt b ↔ a ≤ b := by rw [Int32.le_iff_toInt_le, xI ha, xI hb]
theorem xlt {a b : Int} (ha : xrg a) (hb : xrg b) : Int32.ofInt a < Int32.ofInt b ↔ a < b := by rw [Int32.lt_iff_toInt_lt, xI ha, xI hb]
theorem xeq {a b : Int} (ha : xrg a) (hb : xrg b) : Int32.ofInt a = Int32.ofInt b ↔ a = b := by rw [← Int32.toInt_inj, xI ha, xI hb]
theorem xrg0 : xrg 0 := by decide
theorem xz : (0 : Int32) = Int32.ofInt 0 := rfl
theorem xclamp {z : Int} (h : 0 ≤ z) (h2 : z < 2147483648) : (Int32.ofInt z).toNatClampNeg = z.toNat := by
  rw [← Int32.toNat_toInt, xI ⟨by omega, h2⟩]
theorem xin {z : Int} {n : Nat} (h : 0 ≤ z) (h2 : z < n) (hn : n < 2147483648) : vp_in (Int32.ofInt z) n := by
  rintro (q | q)
  · rw [xz, xlt ⟨by omega, by omega⟩ xrg0] at q
    omega
  · rw [xclamp h (by omega)] at q
    omega
theorem xbv (a : Int) : (Int32.ofInt a).toBitVec.toNat = (a % 4294967296).toNat := by
  show (BitVec.ofInt 32 a).toNat = _
  rw [BitVec.toNat_ofInt]
  rfl
theorem xnI (n : Nat) : nI n = Int32.ofInt n := by
  unfold nI
  rfl
theorem xand (a : Int) (k : Nat) (m : Int) (hm : (Int32.ofInt m).toBitVec.toNat = 2 ^ k - 1) (hk : k ≤ 30) : Int32.ofInt a &&& Int32.ofInt m = Int32.ofInt (a % (2 ^ k : Nat)) := by
  rw [pk_and _ k hm, xnI, xbv]
  congr 1
  have h2 : (4294967296 : Int) = ((2 ^ k : Nat) : Int) * ((2 ^ (32 - k) : Nat) : Int) := by
    rw [← Int.natCast_mul, ← Nat.pow_add, show k + (32 - k) = 32 by omega]
    rfl
  have h3 : 0 ≤ a % 4294967296 := Int.emod_nonneg _ (by decide)
  rw [Int.natCast_emod, Int.toNat_of_nonneg h3, h2, Int.emod_emod_of_dvd _ (Int.dvd_mul_right _ _)]
theorem xand65535 (a : Int) : Int32.ofInt a &&& Int32.ofInt 65535 = Int32.ofInt (a % 65536) := xand a 16 65535 (by decide) (by decide)
theorem xand15 (a : Int) : Int32.ofInt a &&& Int32.ofInt 15 = Int32.ofInt (a % 16) := xand a 4 15 (by decide) (by decide)
theorem xand31 (a : Int) : Int32.ofInt a &&& Int32.ofInt 31 = Int32.ofInt (a % 32) := xand a 5 31 (by decide) (by decide)
def xxor (a b : Int) : Int := (Int32.ofInt a ^^^ Int32.ofInt b).toInt
theorem xxor_of (a b : Int) : Int32.ofInt a ^^^ Int32.ofInt b = Int32.ofInt (xxor a b) := by unfold xxor; exact (Int32.ofInt_toInt _).symm
theorem xxor_rg {a b : Int} (ha : 0 ≤ a) (ha' : a < 65536) (hb : 0 ≤ b) (hb' : b < 65536) : 0 ≤ xxor a b ∧ xxor a b < 65536 := by
  have e : (Int32.ofInt a ^^^ Int32.ofInt b).toBitVec.toNat = (a % 4294967296).toNat ^^^ (b % 4294967296).toNat := by
    rw [Int32.toBitVec_xor, BitVec.toNat_xor, xbv, xbv]
  have h1 : (a % 4294967296).toNat < 2 ^ 16 := by omega
  have h2 : (b % 4294967296).toNat < 2 ^ 16 := by omega
  have h3 := Nat.xor_lt_two_pow h1 h2
  have h4 : xxor a b = ((a % 4294967296).toNat ^^^ (b % 4294967296).toNat : Nat) := by
    unfold xxor
    rw [← e]
    show (Int32.ofInt a ^^^ Int32.ofInt b).toBitVec.toInt = _
    rw [BitVec.toInt_eq_toNat_cond, if_pos (by rw [e]; omega)]
  omega
theorem xdiv {a b : Int} (ha : 0 ≤ a) (ha' : a < 2147483648) (hb : 0 < b) (hb' : b < 2147483648) : Int32.ofInt a / Int32.ofInt b = Int32.ofInt (a / b) := by
  obtain ⟨x, rfl⟩ := Int.eq_ofNat_of_zero_le ha
  obtain ⟨y, rfl⟩ := Int.eq_ofNat_of_zero_le (Int.le_of_lt hb)
  have := pk_div (a := x) (d := y) (by omega) (by omega) (by omega)
  rw [xnI, xnI, xnI] at this
  rw [this]
  rfl
theorem xrem {a b : Int} (ha : 0 ≤ a) (ha' : a < 2147483648) (hb : 0 < b) (hb' : b < 2147483648) : Int32.ofInt a - Int32.ofInt a / Int32.ofInt b * Int32.ofInt b = Int32.ofInt (a % b) := by
  obtain ⟨x, rfl⟩ := Int.eq_ofNat_of_zero_le ha
  obtain ⟨y, rfl⟩ := Int.eq_ofNat_of_zero_le (Int.le_of_lt hb)
  have := pk_rem (a := x) (d := y) (by omega) (by omega) (by omega)
  rw [xnI, xnI, xnI] at this
  rw [this]
  rfl
theorem xshc : ∀ k : Fin 32, ((Int32.ofInt k.val &&& 31).toBitVec.smod 32).toNat = k.val := by decide
theorem xshr {a : Int} (ha : xrg a) {k : Nat} (hk : k < 32) : Int32.ofInt a >>> (Int32.ofInt k &&& 31) = Int32.ofInt (a / (2 ^ k : Nat)) := by
  apply Int32.toInt_inj.mp
  rw [pk_shr _ _ k (xshc ⟨k, hk⟩), xI ha, Int.shiftRight_eq_div_pow, xI]
  have hp : (0 : Int) < ((2 ^ k : Nat) : Int) := by exact_mod_cast Nat.two_pow_pos k
  refine ⟨Int.le_trans ?_ (Int.le_of_eq rfl), ?_⟩
  · rw [Int.le_ediv_iff_mul_le hp]
    have h1 : (1 : Int) ≤ ((2 ^ k : Nat) : Int) := hp
    have h2 : (-2147483648 : Int) * ((2 ^ k : Nat) : Int) ≤ -2147483648 * 1 := Int.mul_le_mul_of_nonpos_left (by decide) h1
    exact Int.le_trans h2 (by have := ha.1; omega)
  · rw [Int.ediv_lt_iff_lt_mul hp]
    have h1 : (1 : Int) ≤ ((2 ^ k : Nat) : Int) := hp
    have h2 : (2147483648 : Int) * 1 ≤ 2147483648 * ((2 ^ k : Nat) : Int) := Int.mul_le_mul_of_nonneg_left h1 (by decide)
    exact Int.lt_of_lt_of_le ha.2 (by simpa using h2)
theorem xshl (a : Int) {k : Nat} (hk : k < 32) : Int32.ofInt a <<< (Int32.ofInt k &&& 31) = Int32.ofInt (a * (2 ^ k : Nat)) := by
  apply Int32.toBitVec_inj.mp
  apply BitVec.eq_of_toNat_eq
  rw [pk_shl _ _ k (xshc ⟨k, hk⟩), xbv, xbv]
  have hm : (2:Nat) ^ 32 = 4294967296 := by decide
  rw [hm]
  have e1 : 0 ≤ a % 4294967296 := Int.emod_nonneg _ (by decide)
  have e2 : 0 ≤ (a * (2 ^ k : Nat)) % 4294967296 := Int.emod_nonneg _ (by decide)
  apply Int.natCast_inj.mp
  rw [Int.natCast_emod, Int.natCast_mul, Int.toNat_of_nonneg e1, Int.toNat_of_nonneg e2]
  show a % 4294967296 * ((2 ^ k : Nat) : Int) % 4294967296 = _
  rw [Int.mul_emod, Int.emod_emod, ← Int.mul_emod]
theorem xlong {a : Int} (ha : xrg a) : (Int32.ofInt a).toInt64 = Int64.ofInt a := by
  rw [← Int64.ofInt_int32ToInt, xI ha]
abbrev xrl (z : Int) : Prop := -9223372036854775808 ≤ z ∧ z < 9223372036854775808
theorem xL64 {z : Int} (h : xrl z) : (Int64.ofInt z).toInt = z := Int64.toInt_ofInt_of_le h.1 h.2
theorem xlcmp {a b : Int} (ha : xrl a) (hb : xrl b) : lg_cmp (Int64.ofInt a) (Int64.ofInt b) = Int32.ofInt (if b < a then 1 else if a = b then 0 else -1) := by
  unfold lg_cmp
  have e1 : (Int64.ofInt a > Int64.ofInt b) ↔ b < a := by rw [gt_iff_lt, Int64.lt_iff_toInt_lt, xL64 ha, xL64 hb]
  have e2 : (Int64.ofInt a = Int64.ofInt b) ↔ a = b := by rw [← Int64.toInt_inj, xL64 ha, xL64 hb]
  by_cases h1 : b < a
  · rw [if_pos (e1.mpr h1), if_pos h1]; rfl
  · rw [if_neg (fun q => h1 (e1.mp q)), if_neg h1]
    by_cases h2 : a = b
    · rw [if_pos (e2.mpr h2), if_pos h2]; rfl
    · rw [if_neg (fun q => h2 (e2.mp q)), if_neg h2]; rfl
