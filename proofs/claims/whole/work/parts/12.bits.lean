/-! bits: rows pasted from kit/laws/BITS.to-paste (wb_, g_or), then own ones -/
theorem wb_tb (n : Nat) : (lN n).toBitVec = BitVec.ofNat 64 n := rfl
theorem wb_inj {a b : Int64} (h : a.toBitVec = b.toBitVec) : a = b := Int64.toBitVec_inj.mp h
theorem wb_tn {n : Nat} (h : n < 2 ^ 64) : (lN n).toBitVec.toNat = n := by rw [wb_tb, BitVec.toNat_ofNat, Nat.mod_eq_of_lt h]
theorem wb_of (x : Int64) : ∃ n, n < 2 ^ 64 ∧ x = lN n := ⟨x.toBitVec.toNat, x.toBitVec.isLt, wb_inj (by rw [wb_tb]; simp)⟩
theorem wb_of32 (x : Int32) : ∃ n, n < 2 ^ 32 ∧ x = nI n := ⟨x.toBitVec.toNat, x.toBitVec.isLt, Int32.toBitVec_inj.mp (by show _ = BitVec.ofNat 32 _; simp)⟩
theorem wb_c : ∀ k, k < 64 → ((nI k).toInt64 &&& 63) = lN k := by decide +kernel
theorem wb_cu : ∀ k, k < 64 → ((nI k).toInt64.toUInt64 &&& Int64.toUInt64 63) = UInt64.ofNat k := by decide +kernel
theorem wb_sm : ∀ k, k < 64 → (BitVec.ofNat 64 k).smod 64 = BitVec.ofNat 64 k := by decide +kernel
theorem wb_pw {a b : Nat} (h : a ≤ b) : 2 ^ b = 2 ^ a * 2 ^ (b - a) := by rw [← Nat.pow_add]; congr 1; omega
theorem wb_lt2 {a b : Nat} (h : a < b) : 2 ^ a < 2 ^ b := Nat.pow_lt_pow_right (by decide) h
theorem wb_mod (n : Nat) : lN n = lN (n % 2 ^ 64) := wb_inj (by rw [wb_tb, wb_tb]; apply BitVec.eq_of_toNat_eq; rw [BitVec.toNat_ofNat, BitVec.toNat_ofNat, Nat.mod_mod])
theorem wb_shr {n k : Nat} (hn : n < 2 ^ 64) (hk : k < 64) : ((lN n).toUInt64 >>> ((nI k).toInt64.toUInt64 &&& Int64.toUInt64 63)).toInt64 = lN (n / 2 ^ k) := by
  rw [wb_cu k hk]
  apply wb_inj
  apply BitVec.eq_of_toNat_eq
  show ((lN n).toUInt64 >>> UInt64.ofNat k).toNat = (BitVec.ofNat 64 _).toNat
  have h1 : (UInt64.ofNat k).toNat = k := by
    show (BitVec.ofNat 64 k).toNat = k
    rw [BitVec.toNat_ofNat, Nat.mod_eq_of_lt (by omega)]
  have h2 : (lN n).toUInt64.toNat = n := wb_tn hn
  rw [UInt64.toNat_shiftRight, h1, h2, Nat.mod_eq_of_lt hk, Nat.shiftRight_eq_div_pow, BitVec.toNat_ofNat, Nat.mod_eq_of_lt (Nat.lt_of_le_of_lt (Nat.div_le_self _ _) hn)]
theorem wb_shl (n : Nat) {k : Nat} (hk : k < 64) : lN n <<< ((nI k).toInt64 &&& 63) = lN (n * 2 ^ k) := by
  rw [wb_c k hk]
  apply wb_inj
  rw [Int64.toBitVec_shiftLeft, wb_tb, wb_tb, wb_tb, wb_sm k hk]
  apply BitVec.eq_of_toNat_eq
  rw [BitVec.shiftLeft_eq', BitVec.toNat_shiftLeft, BitVec.toNat_ofNat, BitVec.toNat_ofNat, BitVec.toNat_ofNat, Nat.mod_eq_of_lt (show k < 2 ^ 64 by omega), Nat.shiftLeft_eq, Nat.mul_mod, Nat.mod_mod, ← Nat.mul_mod]
theorem wb_and {a b : Nat} (ha : a < 2 ^ 64) (hb : b < 2 ^ 64) : lN a &&& lN b = lN (a &&& b) := by
  apply wb_inj
  rw [Int64.toBitVec_and, wb_tb, wb_tb, wb_tb]
  apply BitVec.eq_of_toNat_eq
  rw [BitVec.toNat_and, BitVec.toNat_ofNat, BitVec.toNat_ofNat, BitVec.toNat_ofNat, Nat.mod_eq_of_lt ha, Nat.mod_eq_of_lt hb, Nat.mod_eq_of_lt (Nat.and_lt_two_pow _ hb)]
theorem wb_or {a b : Nat} (ha : a < 2 ^ 64) (hb : b < 2 ^ 64) : lN a ||| lN b = lN (a ||| b) := by
  apply wb_inj
  rw [Int64.toBitVec_or, wb_tb, wb_tb, wb_tb]
  apply BitVec.eq_of_toNat_eq
  rw [BitVec.toNat_or, BitVec.toNat_ofNat, BitVec.toNat_ofNat, BitVec.toNat_ofNat, Nat.mod_eq_of_lt ha, Nat.mod_eq_of_lt hb, Nat.mod_eq_of_lt (Nat.or_lt_two_pow ha hb)]
theorem u_tn {n : Nat} (h : n < 2 ^ 64) : (UInt64.ofNat n).toNat = n := Nat.mod_eq_of_lt h
theorem g_or {k p a b : Nat} (hp : 2 ^ k = p) (ha : a < p) (h : b * p + a < 2 ^ 64) : lN (b * p) ||| lN a = lN (b * p + a) := by
  subst hp
  have h1 : b * 2 ^ k ||| a = b * 2 ^ k + a := by rw [← Nat.shiftLeft_eq, Nat.shiftLeft_add_eq_or_of_lt ha]
  have h3 : UInt64.ofNat (b * 2 ^ k) ||| UInt64.ofNat a = UInt64.ofNat (b * 2 ^ k + a) := UInt64.toNat_inj.mp (by rw [UInt64.toNat_or, u_tn (by omega), u_tn (by omega), u_tn h, h1])
  have h2 := congrArg UInt64.toInt64 h3
  exact h2
theorem nI_iZ (n : Nat) : nI n = iZ n := i32_ext (by
  rw [iZ_bv]
  show (BitVec.ofNat 32 n).toNat = _
  rw [BitVec.toNat_ofNat]
  omega)
theorem iZ_mod (z : Int) : iZ (z % 4294967296) = iZ z := i32_ext (by rw [iZ_bv, iZ_bv]; omega)
theorem iZ_ushr {z : Int} {y : Int32} {k : Nat} (hk : ((y.toUInt32 &&& Int32.toUInt32 31).toBitVec % 32).toNat = k) : ((iZ z).toUInt32 >>> (y.toUInt32 &&& Int32.toUInt32 31)).toInt32 = iZ (((z % 4294967296).toNat / 2 ^ k : Nat) : Int) := i32_ext (by
  rw [pk_ushr _ _ k hk, iZ_bv, iZ_bv]
  have h : (z % 4294967296).toNat / 2 ^ k ≤ (z % 4294967296).toNat := Nat.div_le_self _ _
  have h2 : (z % 4294967296).toNat < 4294967296 := by omega
  generalize (z % 4294967296).toNat / 2 ^ k = q at h ⊢
  omega)
theorem iZ_and255 (z : Int) : iZ z &&& iZ 255 = iZ (z % 256) := by
  rw [pk_and (iZ z) (m := iZ 255) 8 (by decide), nI_iZ, iZ_bv]
  congr 1
  omega
theorem iZ_and15 (z : Int) : iZ z &&& iZ 15 = iZ (z % 16) := by
  rw [pk_and (iZ z) (m := iZ 15) 4 (by decide), nI_iZ, iZ_bv]
  congr 1
  omega
theorem lN_lZ (n : Nat) : lN n = lZ n := by
  apply wb_inj
  rw [wb_tb]
  show _ = BitVec.ofInt 64 (n : Int)
  exact (BitVec.ofInt_natCast 64 n).symm
/-- the head in k places from a on -/
def isHd (f : Int → Int) (a k : Int) : Prop := 1 ≤ k ∧ k ≤ 12 ∧ ∀ j, 0 ≤ j → j < k → 97 ≤ f (a + j) ∧ f (a + j) ≤ 122
def encZ (f : Int → Int) (a : Int) : Nat → Int
  | 0 => 0
  | n + 1 => encZ f a n + (f (a + n) - 96) * 2 ^ (55 - 5 * n)
def hdVal (f : Int → Int) (a k r : Int) : Prop := (isHd f a k ∧ r = encZ f a k.toNat) ∨ (¬ isHd f a k ∧ r = 0)
theorem encZ_q (f : Int → Int) (a : Int) : ∀ n : Nat, n ≤ 11 → (∀ j : Nat, j < n → 97 ≤ f (a + j) ∧ f (a + j) ≤ 122) → ∃ b : Nat, encZ f a n = (b : Int) * 2 ^ (60 - 5 * n) ∧ b < 2 ^ (5 * n)
  | 0, _, _ => ⟨0, by simp [encZ], by simp⟩
  | n + 1, hn, h => by
    obtain ⟨b, hb, hlt⟩ := encZ_q f a n (by omega) (fun j hj => h j (by omega))
    have h1 := h n (by omega)
    obtain ⟨d, hd⟩ : ∃ d : Nat, f (a + n) - 96 = (d : Int) := ⟨(f (a + n) - 96).toNat, by omega⟩
    refine ⟨b * 32 + d, ?_, ?_⟩
    · rw [encZ, hb, hd]
      have e : 60 - 5 * n = (55 - 5 * n) + 5 := by omega
      have e2 : 60 - 5 * (n + 1) = 55 - 5 * n := by omega
      rw [e, e2, Int.pow_add]
      simp only [Int.natCast_add, Int.natCast_mul, Int.add_mul, Int.mul_assoc]
      have : (2 : Int) ^ (55 - 5 * n) * 2 ^ 5 = 32 * 2 ^ (55 - 5 * n) := by rw [Int.mul_comm]; rfl
      rw [this]
      rfl
    · have e : 5 * (n + 1) = 5 * n + 5 := by omega
      rw [e, Nat.pow_add]
      have : d < 32 := by omega
      have h2 : (2 : Nat) ^ 5 = 32 := by decide
      rw [h2]
      omega
theorem encZ_lt (f : Int → Int) (a : Int) (n : Nat) (hn : n ≤ 12) (h : ∀ j : Nat, j < n → 97 ≤ f (a + j) ∧ f (a + j) ≤ 122) : 0 ≤ encZ f a n ∧ encZ f a n < 1152921504606846976 := by
  rcases Nat.lt_or_ge n 12 with hl | hl
  · obtain ⟨b, hb, hlt⟩ := encZ_q f a n (by omega) h
    rw [hb]
    have h1 : (b * 2 ^ (60 - 5 * n) : Nat) < 2 ^ (5 * n) * 2 ^ (60 - 5 * n) := Nat.mul_lt_mul_of_pos_right hlt (Nat.pow_pos (by decide))
    rw [← Nat.pow_add, show 5 * n + (60 - 5 * n) = 60 by omega] at h1
    have h2 : ((b * 2 ^ (60 - 5 * n) : Nat) : Int) = (b : Int) * 2 ^ (60 - 5 * n) := by simp
    rw [← h2]
    omega
  · obtain rfl : n = 12 := by omega
    obtain ⟨b, hb, hlt⟩ := encZ_q f a 11 (by omega) (fun j hj => h j (by omega))
    have h1 := h 11 (by omega)
    rw [encZ, hb]
    simp at hlt ⊢
    have e : a + (11 : Nat) = a + 11 := rfl
    simp at h1
    omega
theorem hd_shl {z : Int} {sh : Int} {n : Nat} (hn : n ≤ 11) (hs : sh = 55 - 5 * (n : Int)) (hz : 0 ≤ z ∧ z ≤ 31) : lZ z <<< ((iZ sh).toInt64 &&& 63) = lZ (z * 2 ^ (55 - 5 * n)) := by
  have e1 : iZ sh = nI (55 - 5 * n) := by rw [nI_iZ]; congr 1; omega
  have e2 : lZ z = lN z.toNat := lZ_lN (by omega)
  rw [e1, e2, wb_shl _ (by omega), lN_lZ]
  congr 1
  rw [Int.natCast_mul, Int.toNat_of_nonneg hz.1]
  simp
theorem hd_lor (f : Int → Int) (a : Int) (n : Nat) (hn : n ≤ 11) (h : ∀ j : Nat, j < n + 1 → 97 ≤ f (a + j) ∧ f (a + j) ≤ 122) : lZ (encZ f a n) ||| lZ ((f (a + n) - 96) * 2 ^ (55 - 5 * n)) = lZ (encZ f a (n + 1)) := by
  obtain ⟨b, hb, hlt⟩ := encZ_q f a n hn (fun j hj => h j (by omega))
  have h1 := h n (by omega)
  have hle := encZ_lt f a (n + 1) (by omega) h
  obtain ⟨d, hd⟩ : ∃ d : Nat, f (a + n) - 96 = (d : Int) := ⟨(f (a + n) - 96).toNat, by omega⟩
  have h2 : ((b * 2 ^ (60 - 5 * n) : Nat) : Int) = (b : Int) * 2 ^ (60 - 5 * n) := by simp
  have h3 : ((d * 2 ^ (55 - 5 * n) : Nat) : Int) = (d : Int) * 2 ^ (55 - 5 * n) := by simp
  have e : encZ f a (n + 1) = ((b * 2 ^ (60 - 5 * n) + d * 2 ^ (55 - 5 * n) : Nat) : Int) := by
    rw [encZ, hb, hd, Int.natCast_add, h2, h3]
  rw [e, hb, hd, ← h2, ← h3, ← lN_lZ, ← lN_lZ, ← lN_lZ]
  rw [e] at hle
  refine g_or (k := 60 - 5 * n) rfl ?_ (by omega)
  have e3 : 60 - 5 * n = 5 + (55 - 5 * n) := by omega
  rw [e3, Nat.pow_add]
  exact Nat.mul_lt_mul_of_pos_right (by omega) (Nat.pow_pos (by decide))
theorem hd_ushr {z : Int} (hz : 0 ≤ z ∧ z < 1152921504606846976) : ((lZ z).toUInt64 >>> ((iZ 55).toInt64.toUInt64 &&& Int64.toUInt64 63)).toInt64 = lZ (z / 36028797018963968) := by
  rw [lZ_lN (by omega), show iZ 55 = nI 55 from (nI_iZ 55).symm, wb_shr (by omega) (by decide), lN_lZ]
  congr 1
  omega
