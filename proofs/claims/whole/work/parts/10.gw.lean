/-! GW: a layer over the kit. Numbers are kept as integers: iZ z, lZ z; rows of them as zA f, lA f. gW: the judgement 'from this pc, with these cells, locals and stack, the machine comes to Q'; gM: a method's contract. -/
def iZ (z : Int) : Int32 := Int32.ofInt z
def lZ (z : Int) : Int64 := Int64.ofInt z
def zA (f : Int → Int) : Nat → Int32 := fun j => iZ (f (j : Int))
def lA (f : Int → Int) : Nat → Int64 := fun j => lZ (f (j : Int))
def upZ (f : Int → Int) (k v : Int) : Int → Int := fun j => if j = k then v else f j
theorem upZ_s {f : Int → Int} {k v : Int} : upZ f k v k = v := by simp [upZ]
theorem upZ_n {f : Int → Int} {k v j : Int} (h : j ≠ k) : upZ f k v j = f j := by simp [upZ, h]
theorem iZ_toInt {z : Int} (h : -2147483648 ≤ z ∧ z ≤ 2147483647) : (iZ z).toInt = z := Int32.toInt_ofInt_of_le (by simpa using h.1) (by simp; omega)
theorem lZ_toInt {z : Int} (h : -9223372036854775808 ≤ z ∧ z ≤ 9223372036854775807) : (lZ z).toInt = z := Int64.toInt_ofInt_of_le (by simpa using h.1) (by simp; omega)
theorem iZ_of (x : Int32) : x = iZ x.toInt := by simp [iZ]
theorem lZ_of (x : Int64) : x = lZ x.toInt := by simp [lZ]
theorem iZ_rng (x : Int32) : -2147483648 ≤ x.toInt ∧ x.toInt ≤ 2147483647 := by
  have h1 := x.le_toInt
  have h2 := x.toInt_lt
  constructor <;> simp at h1 h2 <;> omega
theorem iZ_ex (x : Int32) : ∃ z : Int, x = iZ z ∧ -2147483648 ≤ z ∧ z ≤ 2147483647 := ⟨x.toInt, iZ_of x, iZ_rng x⟩
theorem iZ_add (a b : Int) : iZ a + iZ b = iZ (a + b) := (Int32.ofInt_add a b).symm
theorem iZ_sub (a b : Int) : iZ a - iZ b = iZ (a - b) := (Int32.ofInt_sub a b).symm
theorem iZ_mul (a b : Int) : iZ a * iZ b = iZ (a * b) := (Int32.ofInt_mul a b).symm
theorem iZ_neg (a : Int) : - iZ a = iZ (-a) := (Int32.ofInt_neg a).symm
theorem lZ_add (a b : Int) : lZ a + lZ b = lZ (a + b) := (Int64.ofInt_add a b).symm
theorem lZ_sub (a b : Int) : lZ a - lZ b = lZ (a - b) := (Int64.ofInt_sub a b).symm
theorem lZ_mul (a b : Int) : lZ a * lZ b = lZ (a * b) := (Int64.ofInt_mul a b).symm
theorem iZ_lt {a b : Int} (ha : -2147483648 ≤ a ∧ a ≤ 2147483647) (hb : -2147483648 ≤ b ∧ b ≤ 2147483647) : iZ a < iZ b ↔ a < b := by rw [Int32.lt_iff_toInt_lt, iZ_toInt ha, iZ_toInt hb]
theorem iZ_le {a b : Int} (ha : -2147483648 ≤ a ∧ a ≤ 2147483647) (hb : -2147483648 ≤ b ∧ b ≤ 2147483647) : iZ a ≤ iZ b ↔ a ≤ b := by rw [Int32.le_iff_toInt_le, iZ_toInt ha, iZ_toInt hb]
theorem iZ_eq {a b : Int} (ha : -2147483648 ≤ a ∧ a ≤ 2147483647) (hb : -2147483648 ≤ b ∧ b ≤ 2147483647) : iZ a = iZ b ↔ a = b := by rw [← Int32.toInt_inj, iZ_toInt ha, iZ_toInt hb]
theorem lZ_lt {a b : Int} (ha : -9223372036854775808 ≤ a ∧ a ≤ 9223372036854775807) (hb : -9223372036854775808 ≤ b ∧ b ≤ 9223372036854775807) : lZ a < lZ b ↔ a < b := by rw [Int64.lt_iff_toInt_lt, lZ_toInt ha, lZ_toInt hb]
theorem lZ_eq {a b : Int} (ha : -9223372036854775808 ≤ a ∧ a ≤ 9223372036854775807) (hb : -9223372036854775808 ≤ b ∧ b ≤ 9223372036854775807) : lZ a = lZ b ↔ a = b := by rw [← Int64.toInt_inj, lZ_toInt ha, lZ_toInt hb]
theorem iZ_l {z : Int} (h : -2147483648 ≤ z ∧ z ≤ 2147483647) : (iZ z).toInt64 = lZ z := by
  rw [← Int64.toInt_inj, Int32.toInt_toInt64, iZ_toInt h, lZ_toInt (by omega)]
theorem lZ_i (z : Int) : (lZ z).toInt32 = iZ z := by simp [lZ, iZ]
theorem iZ_clamp {z : Int} (h : 0 ≤ z ∧ z ≤ 2147483647) : (iZ z).toNatClampNeg = z.toNat := by
  show (iZ z).toInt.toNat = _
  rw [iZ_toInt (by omega)]
theorem zA_at (f : Int → Int) {z : Int} (h : 0 ≤ z) : zA f z.toNat = iZ (f z) := by simp [zA, Int.toNat_of_nonneg h]
theorem lA_at (f : Int → Int) {z : Int} (h : 0 ≤ z) : lA f z.toNat = lZ (f z) := by simp [lA, Int.toNat_of_nonneg h]
theorem zA_up (f : Int → Int) {z v : Int} (h : 0 ≤ z) : upd (zA f) z.toNat (iZ v) = zA (upZ f z v) := by
  funext j
  simp only [upd, zA, upZ]
  by_cases e : j = z.toNat
  · have e2 : (j : Int) = z := by omega
    simp [e, e2, Int.toNat_of_nonneg h]
  · have e2 : ¬ (j : Int) = z := by omega
    simp [e, e2]
theorem lA_up (f : Int → Int) {z v : Int} (h : 0 ≤ z) : vp_updL (lA f) z.toNat (lZ v) = lA (upZ f z v) := by
  funext j
  simp only [vp_updL, lA, upZ]
  by_cases e : j = z.toNat
  · have e2 : (j : Int) = z := by omega
    simp [e, e2, Int.toNat_of_nonneg h]
  · have e2 : ¬ (j : Int) = z := by omega
    simp [e, e2]
theorem vp_in_iZ {z : Int} {n : Nat} (h : 0 ≤ z ∧ z < n) (hn : (n : Int) ≤ 2147483647) : vp_in (iZ z) n := by
  rw [vp_in_iff, iZ_toInt (by omega)]
  exact h
theorem vp_in_ofZ {z : Int} {n : Nat} (h : vp_in (iZ z) n) (hz : -2147483648 ≤ z ∧ z ≤ 2147483647) : 0 ≤ z ∧ z < n := by
  rw [vp_in_iff, iZ_toInt hz] at h
  exact h
theorem iZ_nI {a : Int} (ha : 0 ≤ a ∧ a ≤ 2147483647) : iZ a = nI a.toNat := by
  rw [← Int32.toInt_inj, iZ_toInt (by omega), nI_toInt (by omega)]
  omega
theorem lZ_lN {a : Int} (ha : 0 ≤ a ∧ a ≤ 9223372036854775807) : lZ a = lN a.toNat := by
  rw [← Int64.toInt_inj, lZ_toInt (by omega), pk_lT (by omega)]
  omega
theorem iZ_div {a b : Int} (ha : 0 ≤ a ∧ a ≤ 2147483647) (hb : 0 < b ∧ b ≤ 2147483647) : iZ a / iZ b = iZ (a / b) := by
  have h3 : (((a.toNat / b.toNat : Nat)) : Int) = a / b := by
    rw [Int.natCast_ediv, Int.toNat_of_nonneg ha.1, Int.toNat_of_nonneg (Int.le_of_lt hb.1)]
  have h4 : 0 ≤ a / b := Int.ediv_nonneg ha.1 (Int.le_of_lt hb.1)
  have h5 : a / b ≤ a := Int.ediv_le_self b ha.1
  rw [iZ_nI ha, iZ_nI (by omega : 0 ≤ b ∧ b ≤ 2147483647), pk_div (by omega) (by omega) (by omega), iZ_nI (by omega : 0 ≤ a / b ∧ a / b ≤ 2147483647), ← h3, Int.toNat_natCast]
theorem iZ_rem {a b : Int} (ha : 0 ≤ a ∧ a ≤ 2147483647) (hb : 0 < b ∧ b ≤ 2147483647) : iZ a - iZ a / iZ b * iZ b = iZ (a % b) := by
  rw [iZ_div ha hb, iZ_mul, iZ_sub]
  congr 1
  have := Int.emod_add_mul_ediv a b
  have e : b * (a / b) = a / b * b := Int.mul_comm _ _
  omega
theorem lZ_div {a b : Int} (ha : 0 ≤ a ∧ a ≤ 9223372036854775807) (hb : 0 < b ∧ b ≤ 9223372036854775807) : lZ a / lZ b = lZ (a / b) := by
  have h3 : (((a.toNat / b.toNat : Nat)) : Int) = a / b := by
    rw [Int.natCast_ediv, Int.toNat_of_nonneg ha.1, Int.toNat_of_nonneg (Int.le_of_lt hb.1)]
  have h4 : 0 ≤ a / b := Int.ediv_nonneg ha.1 (Int.le_of_lt hb.1)
  have h5 : a / b ≤ a := Int.ediv_le_self b ha.1
  rw [lZ_lN ha, lZ_lN (by omega : 0 ≤ b ∧ b ≤ 9223372036854775807), pk_lDiv (by omega) (by omega) (by omega), lZ_lN (by omega : 0 ≤ a / b ∧ a / b ≤ 9223372036854775807), ← h3, Int.toNat_natCast]
theorem vp_nar_bool {z : Int} (h : z = 0 ∨ z = 1) : vp_nar .boolean (iZ z) = iZ z := by
  rcases h with rfl | rfl <;> rfl
abbrev vwCl : List vw_C := [(RX0, TX0, 9), (RX1, TX1, 8), (RX2, TX2, 2), (RX3, TX3, 5), (RX4, TX4, 10), (RX5, TX5, 46)]
/-- the array classes: byte 0, int 1, long 2, boolean 3 -/
abbrev gT (cB cI cJ cY : ClassId) : List (ClassId × FieldType) := [(cB, .byte), (cI, .int), (cJ, .long), (cY, .boolean)]
/-- the links to private fields of nest mates -/
def gNest : List Cond := tables_1.filter (fun w => match w with | .fieldLinkNest _ _ _ _ _ _ => true | _ => false)
def gN (U : State) : Prop := ∀ w ∈ gNest, va_Nw w U
theorem gN.warm {s U : State} (hW : s.WarmedH U.vm) (h : gN s) : gN U := by
  intro w hw
  have h1 := h w hw
  have h2 := (List.mem_filter.mp hw).2
  cases w <;> simp at h2
  exact va_Nw.warmF hW h1
theorem gN.same {s U : State} (hvm : s.vm = U.vm) (h : gN s) : gN U := by
  intro w hw
  have h1 := h w hw
  have h2 := (List.mem_filter.mp hw).2
  cases w <;> simp at h2
  exact va_Nw.same rfl hvm h1
/-- what stands fast while a method runs -/
def gX (p : Program) (s : State) (m : MethodId) (args : Array Value) (meth : Method) (c : Code) (cc : ByteArray) (nL : Nat) (Ts : List Cond) (own : String) (D : va_G) (tys : List (ClassId × FieldType)) (A : Nat → Prop) : Prop :=
  p.tables.exec = Jvm.exec ∧ c.code = cc ∧ c.maxLocals = nL ∧ s.vm.findClass own = some m.cls ∧ (∀ w ∈ Ts, w.before args s = true) ∧ va_K D vwCl tys s ∧ (∀ q, s.heap.size ≤ q → A q) ∧ meth.locks = false ∧ gN s
def gW (p : Program) (l : Launch) (e : Env) (R : Room) (s : State) (m : MethodId) (args : Array Value) (below : List Frame) (meth : Method) (c : Code) (D : va_G) (A : Nat → Prop) (nL cells slots : Nat) (Q : State → Prop) (ws : va_W) (pc : Nat) (lv : List (Nat × Value)) (st : List Value) : Prop :=
  ∀ (H : Heap) (locs : List Loc) (ls : Array Slot), va_P D vwCl ws H → va_D A ws → va_S A s.heap H locs → lv_has ls nL lv → W p l e R s m args below meth c H locs cells slots Q (F0 m pc ls st)
/-- what a contract says of its end -/
def gQ (D : va_G) (tys : List (ClassId × FieldType)) (Qp : Option Value → va_W → Prop) (A : Nat → Prop) : Array Value → State → Outcome → State → Prop := fun _ st oc t =>
  (∃ (v : Option Value) (w1 : va_W), oc = .returned v ∧ Qp v w1 ∧ va_P D vwCl w1 t.heap ∧ va_K D vwCl tys t ∧ va_D A w1) ∧ va_F A st t
/-- .. and of its start -/
def gP (D : va_G) (tys : List (ClassId × FieldType)) (av : List Value) (ws : va_W) (sz : Nat) : Array Value → State → Prop := va_Pc av (fun U => U.heap.size = sz ∧ va_P D vwCl ws U.heap ∧ va_K D vwCl tys U ∧ va_D (fun _ => True) ws ∧ gN U)
def gM (l : Launch) (y : MethodName) (wy : List Cond) (rm : Room) (D : va_G) (tys : List (ClassId × FieldType)) (av : List Value) (ws : va_W) (mc ms : Nat) (Qp : Option Value → va_W → Prop) : Prop :=
  ∀ sz : Nat, Met l y wy rm (gP D tys av ws sz) (gQ D tys Qp (va_A ws sz)) mc ms (va_A ws sz)
theorem g_start {l : Launch} {y : MethodName} {wy ws' : List Cond} {rm : Room} {D : va_G} {tys : List (ClassId × FieldType)} {av : List Value} {ws : va_W} {mc ms : Nat} {Qp : Option Value → va_W → Prop} {cc : ByteArray} {maxL : Nat} {ret : Option FieldType} {lv : List (Nat × Value)}
    (hy : plainName y.cls = true) (hw : wy = Cond.code y cc maxL ret :: ws') (hl : (lg_sl av).length ≤ maxL) (hlv : lv_args 0 av = lv)
    (body : ∀ p e s m args below meth c A, gX p s m args meth c cc maxL wy y.cls D tys A → meth.sig.returnType = ret → meth.name = y.name → gW p l e rm s m args below meth c D A maxL 0 0 (MQ below (gQ D tys Qp A) args s mc ms A) ws 0 lv []) : gM l y wy rm D tys av ws mc ms Qp := by
  intro sz
  refine Met.ofW (cc := cc) (maxL := maxL) (ret := ret) hy hw ?_
  intro p e s m args below meth c s₁ B hml hv
  obtain ⟨rfl, hsz, hP, hK, hD0, hN⟩ := hv
  have hts := atoms_spec (ws := wy) B.pre
  have hown : s.vm.findClass y.cls = some m.cls := findClass_of_methodNamed (x := y) B.named
  subst hsz
  have hD := hD0.self (sz := s.heap.size)
  have hA : ∀ q : Nat, s.heap.size ≤ q → va_A ws s.heap.size q := fun q h => Or.inr h
  have hlv' := lv_entry av (n := maxL) hl
  rw [lg_entry_eq]
  rw [hlv] at hlv'
  exact body p e s m _ below meth c _ ⟨B.exec, B.bytes, hml, hown, hts, hK, hA, B.notSynchronized, hN⟩ B.returns (name_of_methodNamed B.named B.method).1 s.heap [] _ hP hD va_S.rf hlv'
