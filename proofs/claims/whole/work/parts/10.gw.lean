/-! GW: a layer over the kit. Numbers are kept as integers: iZ z, lZ z; rows of them as zA f, lA f. gW: the judgement 'from this pc, with these cells, locals and stack, the machine comes to Q'; gM: a method's contract. -/
def iZ (z : Int) : Int32 := Int32.ofInt z
def lZ (z : Int) : Int64 := Int64.ofInt z
def zA (f : Int → Int) : Nat → Int32 := fun j => iZ (f (j : Int))
def lA (f : Int → Int) : Nat → Int64 := fun j => lZ (f (j : Int))
def upZ (f : Int → Int) (k v : Int) : Int → Int := fun j => if j = k then v else f j
theorem upZ_s {f : Int → Int} {k v : Int} : upZ f k v k = v := by simp [upZ]
theorem upZ_n {f : Int → Int} {k v j : Int} (h : j ≠ k) : upZ f k v j = f j := by simp [upZ, h]
theorem iZ_toInt {z : Int} (h : -2147483648 ≤ z ∧ z ≤ 2147483647) : (iZ z).toInt = z := Int32.toInt_ofInt_of_le (by simpa using h.1) (by simp; omega)
theorem lZ_toInt {z : Int} (h : -9223372036854775808 ≤ z ∧ z ≤ 9223372036854775807) : (lZ z).toInt = z := Int64.toInt_ofInt_of_le (by simpa using h.1) (by simp; omega)
theorem iZ_of (x : Int32) : x = iZ x.toInt := by simp [iZ]
theorem lZ_of (x : Int64) : x = lZ x.toInt := by simp [lZ]
theorem iZ_rng (x : Int32) : -2147483648 ≤ x.toInt ∧ x.toInt ≤ 2147483647 := by
  have h1 := x.le_toInt
  have h2 := x.toInt_lt
  constructor <;> simp at h1 h2 <;> omega
theorem iZ_ex (x : Int32) : ∃ z : Int, x = iZ z ∧ -2147483648 ≤ z ∧ z ≤ 2147483647 := ⟨x.toInt, iZ_of x, iZ_rng x⟩
theorem iZ_add (a b : Int) : iZ a + iZ b = iZ (a + b) := (Int32.ofInt_add a b).symm
theorem iZ_sub (a b : Int) : iZ a - iZ b = iZ (a - b) := (Int32.ofInt_sub a b).symm
theorem iZ_mul (a b : Int) : iZ a * iZ b = iZ (a * b) := (Int32.ofInt_mul a b).symm
theorem iZ_neg (a : Int) : - iZ a = iZ (-a) := (Int32.ofInt_neg a).symm
theorem lZ_add (a b : Int) : lZ a + lZ b = lZ (a + b) := (Int64.ofInt_add a b).symm
theorem lZ_sub (a b : Int) : lZ a - lZ b = lZ (a - b) := (Int64.ofInt_sub a b).symm
theorem lZ_mul (a b : Int) : lZ a * lZ b = lZ (a * b) := (Int64.ofInt_mul a b).symm
theorem iZ_lt {a b : Int} (ha : -2147483648 ≤ a ∧ a ≤ 2147483647) (hb : -2147483648 ≤ b ∧ b ≤ 2147483647) : iZ a < iZ b ↔ a < b := by rw [Int32.lt_iff_toInt_lt, iZ_toInt ha, iZ_toInt hb]
theorem iZ_le {a b : Int} (ha : -2147483648 ≤ a ∧ a ≤ 2147483647) (hb : -2147483648 ≤ b ∧ b ≤ 2147483647) : iZ a ≤ iZ b ↔ a ≤ b := by rw [Int32.le_iff_toInt_le, iZ_toInt ha, iZ_toInt hb]
theorem iZ_eq {a b : Int} (ha : -2147483648 ≤ a ∧ a ≤ 2147483647) (hb : -2147483648 ≤ b ∧ b ≤ 2147483647) : iZ a = iZ b ↔ a = b := by rw [← Int32.toInt_inj, iZ_toInt ha, iZ_toInt hb]
theorem lZ_lt {a b : Int} (ha : -9223372036854775808 ≤ a ∧ a ≤ 9223372036854775807) (hb : -9223372036854775808 ≤ b ∧ b ≤ 9223372036854775807) : lZ a < lZ b ↔ a < b := by rw [Int64.lt_iff_toInt_lt, lZ_toInt ha, lZ_toInt hb]
theorem lZ_eq {a b : Int} (ha : -9223372036854775808 ≤ a ∧ a ≤ 9223372036854775807) (hb : -9223372036854775808 ≤ b ∧ b ≤ 9223372036854775807) : lZ a = lZ b ↔ a = b := by rw [← Int64.toInt_inj, lZ_toInt ha, lZ_toInt hb]
theorem iZ_l {z : Int} (h : -2147483648 ≤ z ∧ z ≤ 2147483647) : (iZ z).toInt64 = lZ z := by
  rw [← Int64.toInt_inj, Int32.toInt_toInt64, iZ_toInt h, lZ_toInt (by omega)]
theorem lZ_i (z : Int) : (lZ z).toInt32 = iZ z := Int64.toInt32_ofInt z
theorem iZ_clamp {z : Int} (h : 0 ≤ z ∧ z ≤ 2147483647) : (iZ z).toNatClampNeg = z.toNat := by
  show (iZ z).toInt.toNat = _
  rw [iZ_toInt (by omega)]
theorem zA_at (f : Int → Int) {z : Int} (h : 0 ≤ z) : zA f z.toNat = iZ (f z) := by simp [zA, Int.toNat_of_nonneg h]
theorem lA_at (f : Int → Int) {z : Int} (h : 0 ≤ z) : lA f z.toNat = lZ (f z) := by simp [lA, Int.toNat_of_nonneg h]
theorem zA_up (f : Int → Int) {z v : Int} (h : 0 ≤ z) : upd (zA f) z.toNat (iZ v) = zA (upZ f z v) := by
  funext j
  simp only [upd, zA, upZ]
  by_cases e : j = z.toNat
  · have e2 : (j : Int) = z := by omega
    simp [e, e2, Int.toNat_of_nonneg h]
  · have e2 : ¬ (j : Int) = z := by omega
    simp [e, e2]
theorem lA_up (f : Int → Int) {z v : Int} (h : 0 ≤ z) : vp_updL (lA f) z.toNat (lZ v) = lA (upZ f z v) := by
  funext j
  simp only [vp_updL, lA, upZ]
  by_cases e : j = z.toNat
  · have e2 : (j : Int) = z := by omega
    simp [e, e2, Int.toNat_of_nonneg h]
  · have e2 : ¬ (j : Int) = z := by omega
    simp [e, e2]
theorem vp_in_iZ {z : Int} {n : Nat} (h : 0 ≤ z ∧ z < n) (hn : (n : Int) ≤ 2147483647) : vp_in (iZ z) n := by
  rw [vp_in_iff, iZ_toInt (by omega)]
  exact h
theorem vp_in_ofZ {z : Int} {n : Nat} (h : vp_in (iZ z) n) (hz : -2147483648 ≤ z ∧ z ≤ 2147483647) : 0 ≤ z ∧ z < n := by
  rw [vp_in_iff, iZ_toInt hz] at h
  exact h
theorem iZ_div {a b : Int} (ha : 0 ≤ a ∧ a ≤ 2147483647) (hb : 0 < b ∧ b ≤ 2147483647) : iZ a / iZ b = iZ (a / b) := by
  have h1 : iZ a = nI a.toNat := by simp [iZ, nI, Int32.ofNat_eq_ofInt, Int.toNat_of_nonneg ha.1]
  have h2 : iZ b = nI b.toNat := by simp [iZ, nI, Int32.ofNat_eq_ofInt, Int.toNat_of_nonneg (Int.le_of_lt hb.1)]
  have h3 : (((a.toNat / b.toNat : Nat)) : Int) = a / b := by
    rw [Int.natCast_ediv, Int.toNat_of_nonneg ha.1, Int.toNat_of_nonneg (Int.le_of_lt hb.1)]
  rw [h1, h2, pk_div (by omega) (by omega) (by omega), ← h3]
  simp [iZ, nI, Int32.ofNat_eq_ofInt]
theorem iZ_rem {a b : Int} (ha : 0 ≤ a ∧ a ≤ 2147483647) (hb : 0 < b ∧ b ≤ 2147483647) : iZ a - iZ a / iZ b * iZ b = iZ (a % b) := by
  rw [iZ_div ha hb, iZ_mul, iZ_sub]
  congr 1
  have := Int.emod_add_mul_ediv a b
  have e : b * (a / b) = a / b * b := Int.mul_comm _ _
  omega
theorem lZ_div {a b : Int} (ha : 0 ≤ a ∧ a ≤ 9223372036854775807) (hb : 0 < b ∧ b ≤ 9223372036854775807) : lZ a / lZ b = lZ (a / b) := by
  have h1 : lZ a = lN a.toNat := by simp [lZ, lN, Int64.ofNat_eq_ofInt, Int.toNat_of_nonneg ha.1]
  have h2 : lZ b = lN b.toNat := by simp [lZ, lN, Int64.ofNat_eq_ofInt, Int.toNat_of_nonneg (Int.le_of_lt hb.1)]
  have h3 : (((a.toNat / b.toNat : Nat)) : Int) = a / b := by
    rw [Int.natCast_ediv, Int.toNat_of_nonneg ha.1, Int.toNat_of_nonneg (Int.le_of_lt hb.1)]
  rw [h1, h2, pk_lDiv (by omega) (by omega) (by omega), ← h3]
  simp [lZ, lN, Int64.ofNat_eq_ofInt]
theorem vp_nar_bool {z : Int} (h : z = 0 ∨ z = 1) : vp_nar .boolean (iZ z) = iZ z := by
  rcases h with rfl | rfl <;> rfl
