theorem i32_ext {x y : Int32} (h : x.toBitVec.toNat = y.toBitVec.toNat) : x = y := Int32.toBitVec_inj.mp (BitVec.eq_of_toNat_eq h)
theorem iZ_bv (z : Int) : (iZ z).toBitVec.toNat = (z % 4294967296).toNat := by
  show (BitVec.ofInt 32 z).toNat = _
  rw [BitVec.toNat_ofInt]
  rfl
/-! instruction rules over gW, printed by wip/whole/gen/mkrules.py -/
def cmpZ (a b : Int) : Int := if b < a then 1 else if a = b then 0 else -1
theorem cmpZ_lt {a b : Int} : cmpZ a b < 0 ↔ a < b := by unfold cmpZ; split; omega; split <;> omega
theorem cmpZ_le {a b : Int} : cmpZ a b ≤ 0 ↔ a ≤ b := by unfold cmpZ; split; omega; split <;> omega
theorem cmpZ_eq {a b : Int} : cmpZ a b = 0 ↔ a = b := by unfold cmpZ; split; omega; split <;> omega
theorem cmpZ_rng (a b : Int) : -1 ≤ cmpZ a b ∧ cmpZ a b ≤ 1 := by unfold cmpZ; split; omega; split <;> omega
theorem lg_cmpZ {a b : Int} (ha : -9223372036854775808 ≤ a ∧ a ≤ 9223372036854775807) (hb : -9223372036854775808 ≤ b ∧ b ≤ 9223372036854775807) : lg_cmp (lZ a) (lZ b) = iZ (cmpZ a b) := by
  unfold lg_cmp cmpZ
  simp only [gt_iff_lt, lZ_lt hb ha, lZ_eq ha hb]
  split
  · rfl
  · split <;> rfl
def minZ (a b : Int) : Int := if b < a then b else a
def maxZ (a b : Int) : Int := if a < b then b else a
def absZ (a : Int) : Int := if a < 0 then -a else a
section GR
variable {p : Program} {l : Launch} {e : Env} {R : Room} {s : State} {m : MethodId} {args : Array Value} {below : List Frame} {meth : Method} {c : Code} {cells slots : Nat} {Q : State → Prop}
variable {cc : ByteArray} {nL : Nat} {Ts : List Cond} {own : String} {D : va_G} {tys : List (ClassId × FieldType)} {A : Nat → Prop} {ws : va_W} {pc : Nat} {lv : List (Nat × Value)} {st : List Value}
theorem g_eq {ws' : va_W} {pc' : Nat} {lv' : List (Nat × Value)} {st' : List Value} (h1 : ws = ws') (h2 : pc = pc') (h3 : lv = lv') (h4 : st = st') (k : gW p l e R s m args below meth c D A nL cells slots Q ws' pc' lv' st') : gW p l e R s m args below meth c D A nL cells slots Q ws pc lv st := by
  subst h1; subst h2; subst h3; subst h4; exact k
theorem g_perm {ws' : va_W} (is : List Nat) (hn : va_nd is = true) (hs : is.map (fun i => ws[i]?) = ws'.map some) (k : gW p l e R s m args below meth c D A nL cells slots Q ws' pc lv st) : gW p l e R s m args below meth c D A nL cells slots Q ws pc lv st := by
  intro H locs ls hP hD hS hl
  refine k H locs ls (hP.sub is ?_) (hD.sub is hn hs) hS hl
  have h1 : is.filterMap (fun i => ws[i]?) = (is.map (fun i => ws[i]?)).filterMap id := by rw [List.filterMap_map]; rfl
  rw [h1, hs, List.filterMap_map]
  exact List.filterMap_some
theorem g_widen {k n : Nat} (h1 : cells ≤ k) (h2 : slots ≤ n) (kk : gW p l e R s m args below meth c D A nL k n Q ws pc lv st) : gW p l e R s m args below meth c D A nL cells slots Q ws pc lv st := by
  intro H locs ls hP hD hS hl
  exact W.widen h1 h2 (kk H locs ls hP hD hS hl)
theorem g_lv {lv' : List (Nat × Value)} (ks : List Nat) (h : lv_pick lv ks = lv') (k : gW p l e R s m args below meth c D A nL cells slots Q ws pc lv' st) : gW p l e R s m args below meth c D A nL cells slots Q ws pc lv st := by
  intro H locs ls hP hD hS hl
  exact k H locs ls hP hD hS (lv_sub hl ks h)
theorem g_iconst (X : gX p s m args meth c cc nL Ts own D tys A) {n : Int} (hd : decode cc pc = .ok (.iconst n, 1)) (k : gW p l e R s m args below meth c D A nL cells slots Q ws (pc + 1) lv (.int (iZ n) :: st)) : gW p l e R s m args below meth c D A nL cells slots Q ws pc lv (st) := by
  intro H locs ls hP hD hS hl
  refine lv_iconst X.1 X.2.1 hd rfl ?_
  exact k H locs ls hP hD hS hl
theorem g_bipush (X : gX p s m args meth c cc nL Ts own D tys A) {n : Int} (hd : decode cc pc = .ok (.bipush n, 2)) (hv : (Int8.ofInt n).toInt32 = iZ n) (k : gW p l e R s m args below meth c D A nL cells slots Q ws (pc + 2) lv (.int (iZ n) :: st)) : gW p l e R s m args below meth c D A nL cells slots Q ws pc lv (st) := by
  intro H locs ls hP hD hS hl
  refine lv_bipush X.1 X.2.1 hd hv ?_
  exact k H locs ls hP hD hS hl
theorem g_sipush (X : gX p s m args meth c cc nL Ts own D tys A) {n : Int} (hd : decode cc pc = .ok (.sipush n, 3)) (hv : (Int16.ofInt n).toInt32 = iZ n) (k : gW p l e R s m args below meth c D A nL cells slots Q ws (pc + 3) lv (.int (iZ n) :: st)) : gW p l e R s m args below meth c D A nL cells slots Q ws pc lv (st) := by
  intro H locs ls hP hD hS hl
  refine lv_sipush X.1 X.2.1 hd hv ?_
  exact k H locs ls hP hD hS hl
theorem g_lconst (X : gX p s m args meth c cc nL Ts own D tys A) {n : Fin 2} {z : Int} (hd : decode cc pc = .ok (.lconst n, 1)) (hv : Int64.ofNat (n : Nat) = lZ z) (k : gW p l e R s m args below meth c D A nL cells slots Q ws (pc + 1) lv (.long (lZ z) :: st)) : gW p l e R s m args below meth c D A nL cells slots Q ws pc lv (st) := by
  intro H locs ls hP hD hS hl
  refine lv_lconst X.1 X.2.1 hd hv ?_
  exact k H locs ls hP hD hS hl
theorem g_ldc2 (X : gX p s m args meth c cc nL Ts own D tys A) {index : Nat} {v : Int64} {z : Int} (hd : decode cc pc = .ok (.ldc2_w index, 3)) (hw : .constantLong own index v ∈ Ts) (hv : v = lZ z) (k : gW p l e R s m args below meth c D A nL cells slots Q ws (pc + 3) lv (.long (lZ z) :: st)) : gW p l e R s m args below meth c D A nL cells slots Q ws pc lv (st) := by
  intro H locs ls hP hD hS hl
  subst hv
  refine lv_ldc2 X.1 X.2.1 X.2.2.2.1 (X.2.2.2.2.1 _ hw) hd ?_
  exact k H locs ls hP hD hS hl
theorem g_iload_n (X : gX p s m args meth c cc nL Ts own D tys A) {k0 : Fin 4} {i : Nat} {x : Int32} (q : Nat) (hd : decode cc pc = .ok (.iload_n k0, 1)) (hi : (k0 : Nat) = i) (hq : lv[q]? = some (i, .int x)) (k : gW p l e R s m args below meth c D A nL cells slots Q ws (pc + 1) lv (.int x :: st)) : gW p l e R s m args below meth c D A nL cells slots Q ws pc lv (st) := by
  intro H locs ls hP hD hS hl
  refine lv_iload_n X.1 X.2.1 hd hi (lv_at hl q hq) ?_
  exact k H locs ls hP hD hS hl
theorem g_iload (X : gX p s m args meth c cc nL Ts own D tys A) {i : Nat} {x : Int32} (q : Nat) (hd : decode cc pc = .ok (.iload i, 2)) (hq : lv[q]? = some (i, .int x)) (k : gW p l e R s m args below meth c D A nL cells slots Q ws (pc + 2) lv (.int x :: st)) : gW p l e R s m args below meth c D A nL cells slots Q ws pc lv (st) := by
  intro H locs ls hP hD hS hl
  refine lv_iload X.1 X.2.1 hd (lv_at hl q hq) ?_
  exact k H locs ls hP hD hS hl
theorem g_istore_n (X : gX p s m args meth c cc nL Ts own D tys A) {k0 : Fin 4} {i : Nat} {x : Int32} {lv2 : List (Nat × Value)} (hd : decode cc pc = .ok (.istore_n k0, 1)) (hi : (k0 : Nat) = i) (hn : i < nL) (hlv : (i, Value.int x) :: lv.filter (fun q => !(q.1 == i) && !(q.1 + 1 == i && q.2.category == 2)) = lv2) (k : gW p l e R s m args below meth c D A nL cells slots Q ws (pc + 1) lv2 (st)) : gW p l e R s m args below meth c D A nL cells slots Q ws pc lv (.int x :: st) := by
  intro H locs ls hP hD hS hl
  refine lv_istore_n X.1 X.2.1 hd hi hl hn hlv (fun ls hl => ?_)
  exact k H locs ls hP hD hS hl
theorem g_istore (X : gX p s m args meth c cc nL Ts own D tys A) {i : Nat} {x : Int32} {lv2 : List (Nat × Value)} (hd : decode cc pc = .ok (.istore i, 2)) (hn : i < nL) (hlv : (i, Value.int x) :: lv.filter (fun q => !(q.1 == i) && !(q.1 + 1 == i && q.2.category == 2)) = lv2) (k : gW p l e R s m args below meth c D A nL cells slots Q ws (pc + 2) lv2 (st)) : gW p l e R s m args below meth c D A nL cells slots Q ws pc lv (.int x :: st) := by
  intro H locs ls hP hD hS hl
  refine lv_istore X.1 X.2.1 hd hl hn hlv (fun ls hl => ?_)
  exact k H locs ls hP hD hS hl
theorem g_lload_n (X : gX p s m args meth c cc nL Ts own D tys A) {k0 : Fin 4} {i : Nat} {x : Int64} (q : Nat) (hd : decode cc pc = .ok (.lload_n k0, 1)) (hi : (k0 : Nat) = i) (hq : lv[q]? = some (i, .long x)) (k : gW p l e R s m args below meth c D A nL cells slots Q ws (pc + 1) lv (.long x :: st)) : gW p l e R s m args below meth c D A nL cells slots Q ws pc lv (st) := by
  intro H locs ls hP hD hS hl
  refine lv_lload_n X.1 X.2.1 hd hi (lv_at hl q hq) ?_
  exact k H locs ls hP hD hS hl
theorem g_lload (X : gX p s m args meth c cc nL Ts own D tys A) {i : Nat} {x : Int64} (q : Nat) (hd : decode cc pc = .ok (.lload i, 2)) (hq : lv[q]? = some (i, .long x)) (k : gW p l e R s m args below meth c D A nL cells slots Q ws (pc + 2) lv (.long x :: st)) : gW p l e R s m args below meth c D A nL cells slots Q ws pc lv (st) := by
  intro H locs ls hP hD hS hl
  refine lv_lload X.1 X.2.1 hd (lv_at hl q hq) ?_
  exact k H locs ls hP hD hS hl
theorem g_lstore_n (X : gX p s m args meth c cc nL Ts own D tys A) {k0 : Fin 4} {i : Nat} {x : Int64} {lv2 : List (Nat × Value)} (hd : decode cc pc = .ok (.lstore_n k0, 1)) (hi : (k0 : Nat) = i) (hn : i + 1 < nL) (hlv : (i, Value.long x) :: lv.filter (fun q => !(q.1 == i) && (!(q.1 == i + 1) && !(q.1 + 1 == i && q.2.category == 2))) = lv2) (k : gW p l e R s m args below meth c D A nL cells slots Q ws (pc + 1) lv2 (st)) : gW p l e R s m args below meth c D A nL cells slots Q ws pc lv (.long x :: st) := by
  intro H locs ls hP hD hS hl
  refine lv_lstore_n X.1 X.2.1 hd hi hl hn hlv (fun ls hl => ?_)
  exact k H locs ls hP hD hS hl
theorem g_lstore (X : gX p s m args meth c cc nL Ts own D tys A) {i : Nat} {x : Int64} {lv2 : List (Nat × Value)} (hd : decode cc pc = .ok (.lstore i, 2)) (hn : i + 1 < nL) (hlv : (i, Value.long x) :: lv.filter (fun q => !(q.1 == i) && (!(q.1 == i + 1) && !(q.1 + 1 == i && q.2.category == 2))) = lv2) (k : gW p l e R s m args below meth c D A nL cells slots Q ws (pc + 2) lv2 (st)) : gW p l e R s m args below meth c D A nL cells slots Q ws pc lv (.long x :: st) := by
  intro H locs ls hP hD hS hl
  refine lv_lstore X.1 X.2.1 hd hl hn hlv (fun ls hl => ?_)
  exact k H locs ls hP hD hS hl
theorem g_aload_n (X : gX p s m args meth c cc nL Ts own D tys A) {k0 : Fin 4} {i : Nat} {x : Nat} (q : Nat) (hd : decode cc pc = .ok (.aload_n k0, 1)) (hi : (k0 : Nat) = i) (hq : lv[q]? = some (i, .ref x)) (k : gW p l e R s m args below meth c D A nL cells slots Q ws (pc + 1) lv (.ref x :: st)) : gW p l e R s m args below meth c D A nL cells slots Q ws pc lv (st) := by
  intro H locs ls hP hD hS hl
  refine lv_aload_n X.1 X.2.1 hd hi (lv_at hl q hq) ?_
  exact k H locs ls hP hD hS hl
theorem g_aload (X : gX p s m args meth c cc nL Ts own D tys A) {i : Nat} {x : Nat} (q : Nat) (hd : decode cc pc = .ok (.aload i, 2)) (hq : lv[q]? = some (i, .ref x)) (k : gW p l e R s m args below meth c D A nL cells slots Q ws (pc + 2) lv (.ref x :: st)) : gW p l e R s m args below meth c D A nL cells slots Q ws pc lv (st) := by
  intro H locs ls hP hD hS hl
  refine lv_aload X.1 X.2.1 hd (lv_at hl q hq) ?_
  exact k H locs ls hP hD hS hl
theorem g_astore_n (X : gX p s m args meth c cc nL Ts own D tys A) {k0 : Fin 4} {i : Nat} {x : Nat} {lv2 : List (Nat × Value)} (hd : decode cc pc = .ok (.astore_n k0, 1)) (hi : (k0 : Nat) = i) (hn : i < nL) (hlv : (i, Value.ref x) :: lv.filter (fun q => !(q.1 == i) && !(q.1 + 1 == i && q.2.category == 2)) = lv2) (k : gW p l e R s m args below meth c D A nL cells slots Q ws (pc + 1) lv2 (st)) : gW p l e R s m args below meth c D A nL cells slots Q ws pc lv (.ref x :: st) := by
  intro H locs ls hP hD hS hl
  refine lv_astore_n X.1 X.2.1 hd hi hl hn hlv (fun ls hl => ?_)
  exact k H locs ls hP hD hS hl
theorem g_astore (X : gX p s m args meth c cc nL Ts own D tys A) {i : Nat} {x : Nat} {lv2 : List (Nat × Value)} (hd : decode cc pc = .ok (.astore i, 2)) (hn : i < nL) (hlv : (i, Value.ref x) :: lv.filter (fun q => !(q.1 == i) && !(q.1 + 1 == i && q.2.category == 2)) = lv2) (k : gW p l e R s m args below meth c D A nL cells slots Q ws (pc + 2) lv2 (st)) : gW p l e R s m args below meth c D A nL cells slots Q ws pc lv (.ref x :: st) := by
  intro H locs ls hP hD hS hl
  refine lv_astore X.1 X.2.1 hd hl hn hlv (fun ls hl => ?_)
  exact k H locs ls hP hD hS hl
theorem g_iinc (X : gX p s m args meth c cc nL Ts own D tys A) {i q : Nat} {n a : Int} {lv2 : List (Nat × Value)} (hd : decode cc pc = .ok (.iinc i n, 3)) (hq : lv[q]? = some (i, .int (iZ a))) (hn : i < nL) (hlv : (i, Value.int (iZ (a + n))) :: lv.filter (fun q => !(q.1 == i) && !(q.1 + 1 == i && q.2.category == 2)) = lv2) (k : gW p l e R s m args below meth c D A nL cells slots Q ws (pc + 3) lv2 (st)) : gW p l e R s m args below meth c D A nL cells slots Q ws pc lv (st) := by
  intro H locs ls hP hD hS hl
  refine lv_iinc (v := iZ (a + n)) X.1 X.2.1 hd hl hq (iZ_add a n) hn hlv (fun ls hl => ?_)
  exact k H locs ls hP hD hS hl
theorem g_iadd (X : gX p s m args meth c cc nL Ts own D tys A) {a b : Int} (hd : decode cc pc = .ok (.iadd, 1)) (k : gW p l e R s m args below meth c D A nL cells slots Q ws (pc + 1) lv (.int (iZ (a + b)) :: st)) : gW p l e R s m args below meth c D A nL cells slots Q ws pc lv (.int (iZ b) :: .int (iZ a) :: st) := by
  intro H locs ls hP hD hS hl
  refine lv_iadd X.1 X.2.1 hd ?_
  rw [iZ_add]
  exact k H locs ls hP hD hS hl
theorem g_isub (X : gX p s m args meth c cc nL Ts own D tys A) {a b : Int} (hd : decode cc pc = .ok (.isub, 1)) (k : gW p l e R s m args below meth c D A nL cells slots Q ws (pc + 1) lv (.int (iZ (a - b)) :: st)) : gW p l e R s m args below meth c D A nL cells slots Q ws pc lv (.int (iZ b) :: .int (iZ a) :: st) := by
  intro H locs ls hP hD hS hl
  refine lv_isub X.1 X.2.1 hd ?_
  rw [iZ_sub]
  exact k H locs ls hP hD hS hl
theorem g_imul (X : gX p s m args meth c cc nL Ts own D tys A) {a b : Int} (hd : decode cc pc = .ok (.imul, 1)) (k : gW p l e R s m args below meth c D A nL cells slots Q ws (pc + 1) lv (.int (iZ (a * b)) :: st)) : gW p l e R s m args below meth c D A nL cells slots Q ws pc lv (.int (iZ b) :: .int (iZ a) :: st) := by
  intro H locs ls hP hD hS hl
  refine lv_imul X.1 X.2.1 hd ?_
  rw [iZ_mul]
  exact k H locs ls hP hD hS hl
theorem g_ladd (X : gX p s m args meth c cc nL Ts own D tys A) {a b : Int} (hd : decode cc pc = .ok (.ladd, 1)) (k : gW p l e R s m args below meth c D A nL cells slots Q ws (pc + 1) lv (.long (lZ (a + b)) :: st)) : gW p l e R s m args below meth c D A nL cells slots Q ws pc lv (.long (lZ b) :: .long (lZ a) :: st) := by
  intro H locs ls hP hD hS hl
  refine lv_ladd X.1 X.2.1 hd ?_
  rw [lZ_add]
  exact k H locs ls hP hD hS hl
theorem g_lsub (X : gX p s m args meth c cc nL Ts own D tys A) {a b : Int} (hd : decode cc pc = .ok (.lsub, 1)) (k : gW p l e R s m args below meth c D A nL cells slots Q ws (pc + 1) lv (.long (lZ (a - b)) :: st)) : gW p l e R s m args below meth c D A nL cells slots Q ws pc lv (.long (lZ b) :: .long (lZ a) :: st) := by
  intro H locs ls hP hD hS hl
  refine lv_lsub X.1 X.2.1 hd ?_
  rw [lZ_sub]
  exact k H locs ls hP hD hS hl
theorem g_lmul (X : gX p s m args meth c cc nL Ts own D tys A) {a b : Int} (hd : decode cc pc = .ok (.lmul, 1)) (k : gW p l e R s m args below meth c D A nL cells slots Q ws (pc + 1) lv (.long (lZ (a * b)) :: st)) : gW p l e R s m args below meth c D A nL cells slots Q ws pc lv (.long (lZ b) :: .long (lZ a) :: st) := by
  intro H locs ls hP hD hS hl
  refine lv_lmul X.1 X.2.1 hd ?_
  rw [lZ_mul]
  exact k H locs ls hP hD hS hl
theorem g_ineg (X : gX p s m args meth c cc nL Ts own D tys A) {a : Int} (hd : decode cc pc = .ok (.ineg, 1)) (k : gW p l e R s m args below meth c D A nL cells slots Q ws (pc + 1) lv (.int (iZ (-a)) :: st)) : gW p l e R s m args below meth c D A nL cells slots Q ws pc lv (.int (iZ a) :: st) := by
  intro H locs ls hP hD hS hl
  refine lv_ineg X.1 X.2.1 hd ?_
  rw [iZ_neg]
  exact k H locs ls hP hD hS hl
theorem g_idiv (X : gX p s m args meth c cc nL Ts own D tys A) {a b : Int} (hd : decode cc pc = .ok (.idiv, 1)) (ha : 0 ≤ a ∧ a ≤ 2147483647) (hb : 0 < b ∧ b ≤ 2147483647) (k : gW p l e R s m args below meth c D A nL cells slots Q ws (pc + 1) lv (.int (iZ (a / b)) :: st)) : gW p l e R s m args below meth c D A nL cells slots Q ws pc lv (.int (iZ b) :: .int (iZ a) :: st) := by
  intro H locs ls hP hD hS hl
  refine lv_idiv X.1 X.2.1 hd (fun h => by have := (iZ_eq (a := b) (b := 0) (by omega) (by omega)).mp h; omega) ?_
  rw [iZ_div ha hb]
  exact k H locs ls hP hD hS hl
theorem g_irem (X : gX p s m args meth c cc nL Ts own D tys A) {a b : Int} (hd : decode cc pc = .ok (.irem, 1)) (ha : 0 ≤ a ∧ a ≤ 2147483647) (hb : 0 < b ∧ b ≤ 2147483647) (k : gW p l e R s m args below meth c D A nL cells slots Q ws (pc + 1) lv (.int (iZ (a % b)) :: st)) : gW p l e R s m args below meth c D A nL cells slots Q ws pc lv (.int (iZ b) :: .int (iZ a) :: st) := by
  intro H locs ls hP hD hS hl
  refine lv_irem X.1 X.2.1 hd (fun h => by have := (iZ_eq (a := b) (b := 0) (by omega) (by omega)).mp h; omega) ?_
  rw [iZ_rem ha hb]
  exact k H locs ls hP hD hS hl
theorem g_ldiv (X : gX p s m args meth c cc nL Ts own D tys A) {a b : Int} (hd : decode cc pc = .ok (.ldiv, 1)) (ha : 0 ≤ a ∧ a ≤ 9223372036854775807) (hb : 0 < b ∧ b ≤ 9223372036854775807) (k : gW p l e R s m args below meth c D A nL cells slots Q ws (pc + 1) lv (.long (lZ (a / b)) :: st)) : gW p l e R s m args below meth c D A nL cells slots Q ws pc lv (.long (lZ b) :: .long (lZ a) :: st) := by
  intro H locs ls hP hD hS hl
  refine lv_ldiv X.1 X.2.1 hd (fun h => by have := (lZ_eq (a := b) (b := 0) (by omega) (by omega)).mp h; omega) ?_
  rw [lZ_div ha hb]
  exact k H locs ls hP hD hS hl
theorem g_i2l (X : gX p s m args meth c cc nL Ts own D tys A) {a : Int} (hd : decode cc pc = .ok (.i2l, 1)) (ha : -2147483648 ≤ a ∧ a ≤ 2147483647) (k : gW p l e R s m args below meth c D A nL cells slots Q ws (pc + 1) lv (.long (lZ a) :: st)) : gW p l e R s m args below meth c D A nL cells slots Q ws pc lv (.int (iZ a) :: st) := by
  intro H locs ls hP hD hS hl
  refine lv_i2l X.1 X.2.1 hd (iZ_l ha) ?_
  exact k H locs ls hP hD hS hl
theorem g_l2i (X : gX p s m args meth c cc nL Ts own D tys A) {a : Int} (hd : decode cc pc = .ok (.l2i, 1)) (k : gW p l e R s m args below meth c D A nL cells slots Q ws (pc + 1) lv (.int (iZ a) :: st)) : gW p l e R s m args below meth c D A nL cells slots Q ws pc lv (.long (lZ a) :: st) := by
  intro H locs ls hP hD hS hl
  refine lv_l2i X.1 X.2.1 hd (lZ_i a) ?_
  exact k H locs ls hP hD hS hl
theorem g_lcmp (X : gX p s m args meth c cc nL Ts own D tys A) {a b : Int} (hd : decode cc pc = .ok (.lcmp, 1)) (ha : -9223372036854775808 ≤ a ∧ a ≤ 9223372036854775807) (hb : -9223372036854775808 ≤ b ∧ b ≤ 9223372036854775807) (k : gW p l e R s m args below meth c D A nL cells slots Q ws (pc + 1) lv (.int (iZ (cmpZ a b)) :: st)) : gW p l e R s m args below meth c D A nL cells slots Q ws pc lv (.long (lZ b) :: .long (lZ a) :: st) := by
  intro H locs ls hP hD hS hl
  refine W.lcmp X.1 X.2.1 hd ?_
  rw [lg_cmpZ ha hb]
  exact k H locs ls hP hD hS hl
theorem g_iand (X : gX p s m args meth c cc nL Ts own D tys A) {x y : Int32} {z : Int} (hd : decode cc pc = .ok (.iand, 1)) (hv : x &&& y = iZ z) (k : gW p l e R s m args below meth c D A nL cells slots Q ws (pc + 1) lv (.int (iZ z) :: st)) : gW p l e R s m args below meth c D A nL cells slots Q ws pc lv (.int y :: .int x :: st) := by
  intro H locs ls hP hD hS hl
  refine lv_iand X.1 X.2.1 hd ?_
  rw [hv]
  exact k H locs ls hP hD hS hl
theorem g_ior (X : gX p s m args meth c cc nL Ts own D tys A) {x y : Int32} {z : Int} (hd : decode cc pc = .ok (.ior, 1)) (hv : x ||| y = iZ z) (k : gW p l e R s m args below meth c D A nL cells slots Q ws (pc + 1) lv (.int (iZ z) :: st)) : gW p l e R s m args below meth c D A nL cells slots Q ws pc lv (.int y :: .int x :: st) := by
  intro H locs ls hP hD hS hl
  refine lv_ior X.1 X.2.1 hd ?_
  rw [hv]
  exact k H locs ls hP hD hS hl
theorem g_ishl (X : gX p s m args meth c cc nL Ts own D tys A) {x y : Int32} {z : Int} (hd : decode cc pc = .ok (.ishl, 1)) (hv : x <<< (y &&& 31) = iZ z) (k : gW p l e R s m args below meth c D A nL cells slots Q ws (pc + 1) lv (.int (iZ z) :: st)) : gW p l e R s m args below meth c D A nL cells slots Q ws pc lv (.int y :: .int x :: st) := by
  intro H locs ls hP hD hS hl
  refine lv_ishl X.1 X.2.1 hd ?_
  rw [hv]
  exact k H locs ls hP hD hS hl
theorem g_ishr (X : gX p s m args meth c cc nL Ts own D tys A) {x y : Int32} {z : Int} (hd : decode cc pc = .ok (.ishr, 1)) (hv : x >>> (y &&& 31) = iZ z) (k : gW p l e R s m args below meth c D A nL cells slots Q ws (pc + 1) lv (.int (iZ z) :: st)) : gW p l e R s m args below meth c D A nL cells slots Q ws pc lv (.int y :: .int x :: st) := by
  intro H locs ls hP hD hS hl
  refine lv_ishr X.1 X.2.1 hd ?_
  rw [hv]
  exact k H locs ls hP hD hS hl
theorem g_iushr (X : gX p s m args meth c cc nL Ts own D tys A) {x y : Int32} {z : Int} (hd : decode cc pc = .ok (.iushr, 1)) (hv : (x.toUInt32 >>> (y.toUInt32 &&& Int32.toUInt32 31)).toInt32 = iZ z) (k : gW p l e R s m args below meth c D A nL cells slots Q ws (pc + 1) lv (.int (iZ z) :: st)) : gW p l e R s m args below meth c D A nL cells slots Q ws pc lv (.int y :: .int x :: st) := by
  intro H locs ls hP hD hS hl
  refine lv_iushr X.1 X.2.1 hd hv ?_
  exact k H locs ls hP hD hS hl
theorem g_lushr (X : gX p s m args meth c cc nL Ts own D tys A) {x : Int64} {y : Int32} {z : Int} (hd : decode cc pc = .ok (.lushr, 1)) (hv : (x.toUInt64 >>> (y.toInt64.toUInt64 &&& Int64.toUInt64 63)).toInt64 = lZ z) (k : gW p l e R s m args below meth c D A nL cells slots Q ws (pc + 1) lv (.long (lZ z) :: st)) : gW p l e R s m args below meth c D A nL cells slots Q ws pc lv (.int y :: .long x :: st) := by
  intro H locs ls hP hD hS hl
  refine lv_lushr X.1 X.2.1 hd hv ?_
  exact k H locs ls hP hD hS hl
theorem g_lshl (X : gX p s m args meth c cc nL Ts own D tys A) {x : Int64} {y : Int32} {z : Int} (hd : decode cc pc = .ok (.lshl, 1)) (hv : x <<< (y.toInt64 &&& 63) = lZ z) (k : gW p l e R s m args below meth c D A nL cells slots Q ws (pc + 1) lv (.long (lZ z) :: st)) : gW p l e R s m args below meth c D A nL cells slots Q ws pc lv (.int y :: .long x :: st) := by
  intro H locs ls hP hD hS hl
  refine lv_lshl X.1 X.2.1 hd hv ?_
  exact k H locs ls hP hD hS hl
theorem g_lor (X : gX p s m args meth c cc nL Ts own D tys A) {x y : Int64} {z : Int} (hd : decode cc pc = .ok (.lor, 1)) (hv : x ||| y = lZ z) (k : gW p l e R s m args below meth c D A nL cells slots Q ws (pc + 1) lv (.long (lZ z) :: st)) : gW p l e R s m args below meth c D A nL cells slots Q ws pc lv (.long y :: .long x :: st) := by
  intro H locs ls hP hD hS hl
  refine lv_lor X.1 X.2.1 hd ?_
  rw [hv]
  exact k H locs ls hP hD hS hl
theorem g_i2b (X : gX p s m args meth c cc nL Ts own D tys A) {x : Int32} {z : Int} (hd : decode cc pc = .ok (.i2b, 1)) (hv : x.toInt8.toInt32 = iZ z) (k : gW p l e R s m args below meth c D A nL cells slots Q ws (pc + 1) lv (.int (iZ z) :: st)) : gW p l e R s m args below meth c D A nL cells slots Q ws pc lv (.int x :: st) := by
  intro H locs ls hP hD hS hl
  refine lv_i2b X.1 X.2.1 hd hv ?_
  exact k H locs ls hP hD hS hl
theorem g_dup (X : gX p s m args meth c cc nL Ts own D tys A) {va : Value} (hd : decode cc pc = .ok (.dup, 1)) (hva : va.category = 1) (k : gW p l e R s m args below meth c D A nL cells slots Q ws (pc + 1) lv (va :: va :: st)) : gW p l e R s m args below meth c D A nL cells slots Q ws pc lv (va :: st) := by
  intro H locs ls hP hD hS hl
  refine lv_dup X.1 X.2.1 hd hva ?_
  exact k H locs ls hP hD hS hl
theorem g_pop (X : gX p s m args meth c cc nL Ts own D tys A) {va : Value} (hd : decode cc pc = .ok (.pop, 1)) (hva : va.category = 1) (k : gW p l e R s m args below meth c D A nL cells slots Q ws (pc + 1) lv (st)) : gW p l e R s m args below meth c D A nL cells slots Q ws pc lv (va :: st) := by
  intro H locs ls hP hD hS hl
  refine lv_pop X.1 X.2.1 hd hva ?_
  exact k H locs ls hP hD hS hl
theorem g_dup_x1 (X : gX p s m args meth c cc nL Ts own D tys A) {va vb : Value} (hd : decode cc pc = .ok (.dup_x1, 1)) (hva : va.category = 1) (hvb : vb.category = 1) (k : gW p l e R s m args below meth c D A nL cells slots Q ws (pc + 1) lv (va :: vb :: va :: st)) : gW p l e R s m args below meth c D A nL cells slots Q ws pc lv (va :: vb :: st) := by
  intro H locs ls hP hD hS hl
  refine lv_dup_x1 X.1 X.2.1 hd hva hvb ?_
  exact k H locs ls hP hD hS hl
theorem g_dup_x2 (X : gX p s m args meth c cc nL Ts own D tys A) {va vb vd : Value} (hd : decode cc pc = .ok (.dup_x2, 1)) (hva : va.category = 1) (hvb : vb.category = 1) (hvd : vd.category = 1) (k : gW p l e R s m args below meth c D A nL cells slots Q ws (pc + 1) lv (va :: vb :: vd :: va :: st)) : gW p l e R s m args below meth c D A nL cells slots Q ws pc lv (va :: vb :: vd :: st) := by
  intro H locs ls hP hD hS hl
  refine lv_dup_x2 X.1 X.2.1 hd hva hvb hvd ?_
  exact k H locs ls hP hD hS hl
theorem g_dup2 (X : gX p s m args meth c cc nL Ts own D tys A) {va vb : Value} (hd : decode cc pc = .ok (.dup2, 1)) (hva : va.category = 1) (hvb : vb.category = 1) (k : gW p l e R s m args below meth c D A nL cells slots Q ws (pc + 1) lv (va :: vb :: va :: vb :: st)) : gW p l e R s m args below meth c D A nL cells slots Q ws pc lv (va :: vb :: st) := by
  intro H locs ls hP hD hS hl
  refine lv_dup2_11 X.1 X.2.1 hd hva hvb ?_
  exact k H locs ls hP hD hS hl
theorem g_goto (X : gX p s m args meth c cc nL Ts own D tys A) {off : Int} (tgt : Nat) (hd : decode cc pc = .ok (.goto off, 3)) (ht : (pc : Int) + off = (tgt : Int)) (k : gW p l e R s m args below meth c D A nL cells slots Q ws tgt lv (st)) : gW p l e R s m args below meth c D A nL cells slots Q ws pc lv (st) := by
  intro H locs ls hP hD hS hl
  refine lv_goto X.1 X.2.1 hd ht ?_
  exact k H locs ls hP hD hS hl
theorem g_icmp_eq (X : gX p s m args meth c cc nL Ts own D tys A) {a b off : Int} (tgt : Nat) (hd : decode cc pc = .ok (.if_icmp .eq off, 3)) (ht : (pc : Int) + off = (tgt : Int)) (ha : -2147483648 ≤ a ∧ a ≤ 2147483647) (hb : -2147483648 ≤ b ∧ b ≤ 2147483647) (kt : a = b → gW p l e R s m args below meth c D A nL cells slots Q ws tgt lv st) (kf : ¬ (a = b) → gW p l e R s m args below meth c D A nL cells slots Q ws (pc + 3) lv st) : gW p l e R s m args below meth c D A nL cells slots Q ws pc lv (.int (iZ b) :: .int (iZ a) :: st) := by
  intro H locs ls hP hD hS hl
  exact lv_icmp_eq X.1 X.2.1 hd ht (fun h => kt ((iZ_eq ha hb).mp h) H locs ls hP hD hS hl) (fun h => kf (fun q => h ((iZ_eq ha hb).mpr q)) H locs ls hP hD hS hl)
theorem g_if_eq (X : gX p s m args meth c cc nL Ts own D tys A) {a off : Int} (tgt : Nat) (hd : decode cc pc = .ok (.ifCond .eq off, 3)) (ht : (pc : Int) + off = (tgt : Int)) (ha : -2147483648 ≤ a ∧ a ≤ 2147483647) (kt : a = 0 → gW p l e R s m args below meth c D A nL cells slots Q ws tgt lv st) (kf : ¬ (a = 0) → gW p l e R s m args below meth c D A nL cells slots Q ws (pc + 3) lv st) : gW p l e R s m args below meth c D A nL cells slots Q ws pc lv (.int (iZ a) :: st) := by
  intro H locs ls hP hD hS hl
  have hb : -2147483648 ≤ (0 : Int) ∧ (0 : Int) ≤ 2147483647 := by omega
  exact lv_if_eq X.1 X.2.1 hd ht (fun h => kt ((iZ_eq ha hb).mp h) H locs ls hP hD hS hl) (fun h => kf (fun q => h ((iZ_eq ha hb).mpr q)) H locs ls hP hD hS hl)
theorem g_icmp_ne (X : gX p s m args meth c cc nL Ts own D tys A) {a b off : Int} (tgt : Nat) (hd : decode cc pc = .ok (.if_icmp .ne off, 3)) (ht : (pc : Int) + off = (tgt : Int)) (ha : -2147483648 ≤ a ∧ a ≤ 2147483647) (hb : -2147483648 ≤ b ∧ b ≤ 2147483647) (kt : ¬ a = b → gW p l e R s m args below meth c D A nL cells slots Q ws tgt lv st) (kf : a = b → gW p l e R s m args below meth c D A nL cells slots Q ws (pc + 3) lv st) : gW p l e R s m args below meth c D A nL cells slots Q ws pc lv (.int (iZ b) :: .int (iZ a) :: st) := by
  intro H locs ls hP hD hS hl
  exact lv_icmp_ne X.1 X.2.1 hd ht (fun h => kt (fun q => h ((iZ_eq ha hb).mpr q)) H locs ls hP hD hS hl) (fun h => kf ((iZ_eq ha hb).mp h) H locs ls hP hD hS hl)
theorem g_if_ne (X : gX p s m args meth c cc nL Ts own D tys A) {a off : Int} (tgt : Nat) (hd : decode cc pc = .ok (.ifCond .ne off, 3)) (ht : (pc : Int) + off = (tgt : Int)) (ha : -2147483648 ≤ a ∧ a ≤ 2147483647) (kt : ¬ a = 0 → gW p l e R s m args below meth c D A nL cells slots Q ws tgt lv st) (kf : a = 0 → gW p l e R s m args below meth c D A nL cells slots Q ws (pc + 3) lv st) : gW p l e R s m args below meth c D A nL cells slots Q ws pc lv (.int (iZ a) :: st) := by
  intro H locs ls hP hD hS hl
  have hb : -2147483648 ≤ (0 : Int) ∧ (0 : Int) ≤ 2147483647 := by omega
  exact lv_if_ne X.1 X.2.1 hd ht (fun h => kt (fun q => h ((iZ_eq ha hb).mpr q)) H locs ls hP hD hS hl) (fun h => kf ((iZ_eq ha hb).mp h) H locs ls hP hD hS hl)
theorem g_icmp_lt (X : gX p s m args meth c cc nL Ts own D tys A) {a b off : Int} (tgt : Nat) (hd : decode cc pc = .ok (.if_icmp .lt off, 3)) (ht : (pc : Int) + off = (tgt : Int)) (ha : -2147483648 ≤ a ∧ a ≤ 2147483647) (hb : -2147483648 ≤ b ∧ b ≤ 2147483647) (kt : a < b → gW p l e R s m args below meth c D A nL cells slots Q ws tgt lv st) (kf : ¬ (a < b) → gW p l e R s m args below meth c D A nL cells slots Q ws (pc + 3) lv st) : gW p l e R s m args below meth c D A nL cells slots Q ws pc lv (.int (iZ b) :: .int (iZ a) :: st) := by
  intro H locs ls hP hD hS hl
  exact lv_icmp_lt X.1 X.2.1 hd ht (fun h => kt ((iZ_lt ha hb).mp h) H locs ls hP hD hS hl) (fun h => kf (fun q => h ((iZ_lt ha hb).mpr q)) H locs ls hP hD hS hl)
theorem g_if_lt (X : gX p s m args meth c cc nL Ts own D tys A) {a off : Int} (tgt : Nat) (hd : decode cc pc = .ok (.ifCond .lt off, 3)) (ht : (pc : Int) + off = (tgt : Int)) (ha : -2147483648 ≤ a ∧ a ≤ 2147483647) (kt : a < 0 → gW p l e R s m args below meth c D A nL cells slots Q ws tgt lv st) (kf : ¬ (a < 0) → gW p l e R s m args below meth c D A nL cells slots Q ws (pc + 3) lv st) : gW p l e R s m args below meth c D A nL cells slots Q ws pc lv (.int (iZ a) :: st) := by
  intro H locs ls hP hD hS hl
  have hb : -2147483648 ≤ (0 : Int) ∧ (0 : Int) ≤ 2147483647 := by omega
  exact lv_if_lt X.1 X.2.1 hd ht (fun h => kt ((iZ_lt ha hb).mp h) H locs ls hP hD hS hl) (fun h => kf (fun q => h ((iZ_lt ha hb).mpr q)) H locs ls hP hD hS hl)
theorem g_icmp_ge (X : gX p s m args meth c cc nL Ts own D tys A) {a b off : Int} (tgt : Nat) (hd : decode cc pc = .ok (.if_icmp .ge off, 3)) (ht : (pc : Int) + off = (tgt : Int)) (ha : -2147483648 ≤ a ∧ a ≤ 2147483647) (hb : -2147483648 ≤ b ∧ b ≤ 2147483647) (kt : b ≤ a → gW p l e R s m args below meth c D A nL cells slots Q ws tgt lv st) (kf : ¬ (b ≤ a) → gW p l e R s m args below meth c D A nL cells slots Q ws (pc + 3) lv st) : gW p l e R s m args below meth c D A nL cells slots Q ws pc lv (.int (iZ b) :: .int (iZ a) :: st) := by
  intro H locs ls hP hD hS hl
  exact lv_icmp_ge X.1 X.2.1 hd ht (fun h => kt ((iZ_le hb ha).mp h) H locs ls hP hD hS hl) (fun h => kf (fun q => h ((iZ_le hb ha).mpr q)) H locs ls hP hD hS hl)
theorem g_if_ge (X : gX p s m args meth c cc nL Ts own D tys A) {a off : Int} (tgt : Nat) (hd : decode cc pc = .ok (.ifCond .ge off, 3)) (ht : (pc : Int) + off = (tgt : Int)) (ha : -2147483648 ≤ a ∧ a ≤ 2147483647) (kt : 0 ≤ a → gW p l e R s m args below meth c D A nL cells slots Q ws tgt lv st) (kf : ¬ (0 ≤ a) → gW p l e R s m args below meth c D A nL cells slots Q ws (pc + 3) lv st) : gW p l e R s m args below meth c D A nL cells slots Q ws pc lv (.int (iZ a) :: st) := by
  intro H locs ls hP hD hS hl
  have hb : -2147483648 ≤ (0 : Int) ∧ (0 : Int) ≤ 2147483647 := by omega
  exact lv_if_ge X.1 X.2.1 hd ht (fun h => kt ((iZ_le hb ha).mp h) H locs ls hP hD hS hl) (fun h => kf (fun q => h ((iZ_le hb ha).mpr q)) H locs ls hP hD hS hl)
theorem g_icmp_gt (X : gX p s m args meth c cc nL Ts own D tys A) {a b off : Int} (tgt : Nat) (hd : decode cc pc = .ok (.if_icmp .gt off, 3)) (ht : (pc : Int) + off = (tgt : Int)) (ha : -2147483648 ≤ a ∧ a ≤ 2147483647) (hb : -2147483648 ≤ b ∧ b ≤ 2147483647) (kt : b < a → gW p l e R s m args below meth c D A nL cells slots Q ws tgt lv st) (kf : ¬ (b < a) → gW p l e R s m args below meth c D A nL cells slots Q ws (pc + 3) lv st) : gW p l e R s m args below meth c D A nL cells slots Q ws pc lv (.int (iZ b) :: .int (iZ a) :: st) := by
  intro H locs ls hP hD hS hl
  exact lv_icmp_gt X.1 X.2.1 hd ht (fun h => kt ((iZ_lt hb ha).mp h) H locs ls hP hD hS hl) (fun h => kf (fun q => h ((iZ_lt hb ha).mpr q)) H locs ls hP hD hS hl)
theorem g_if_gt (X : gX p s m args meth c cc nL Ts own D tys A) {a off : Int} (tgt : Nat) (hd : decode cc pc = .ok (.ifCond .gt off, 3)) (ht : (pc : Int) + off = (tgt : Int)) (ha : -2147483648 ≤ a ∧ a ≤ 2147483647) (kt : 0 < a → gW p l e R s m args below meth c D A nL cells slots Q ws tgt lv st) (kf : ¬ (0 < a) → gW p l e R s m args below meth c D A nL cells slots Q ws (pc + 3) lv st) : gW p l e R s m args below meth c D A nL cells slots Q ws pc lv (.int (iZ a) :: st) := by
  intro H locs ls hP hD hS hl
  have hb : -2147483648 ≤ (0 : Int) ∧ (0 : Int) ≤ 2147483647 := by omega
  exact lv_if_gt X.1 X.2.1 hd ht (fun h => kt ((iZ_lt hb ha).mp h) H locs ls hP hD hS hl) (fun h => kf (fun q => h ((iZ_lt hb ha).mpr q)) H locs ls hP hD hS hl)
theorem g_icmp_le (X : gX p s m args meth c cc nL Ts own D tys A) {a b off : Int} (tgt : Nat) (hd : decode cc pc = .ok (.if_icmp .le off, 3)) (ht : (pc : Int) + off = (tgt : Int)) (ha : -2147483648 ≤ a ∧ a ≤ 2147483647) (hb : -2147483648 ≤ b ∧ b ≤ 2147483647) (kt : a ≤ b → gW p l e R s m args below meth c D A nL cells slots Q ws tgt lv st) (kf : ¬ (a ≤ b) → gW p l e R s m args below meth c D A nL cells slots Q ws (pc + 3) lv st) : gW p l e R s m args below meth c D A nL cells slots Q ws pc lv (.int (iZ b) :: .int (iZ a) :: st) := by
  intro H locs ls hP hD hS hl
  exact lv_icmp_le X.1 X.2.1 hd ht (fun h => kt ((iZ_le ha hb).mp h) H locs ls hP hD hS hl) (fun h => kf (fun q => h ((iZ_le ha hb).mpr q)) H locs ls hP hD hS hl)
theorem g_if_le (X : gX p s m args meth c cc nL Ts own D tys A) {a off : Int} (tgt : Nat) (hd : decode cc pc = .ok (.ifCond .le off, 3)) (ht : (pc : Int) + off = (tgt : Int)) (ha : -2147483648 ≤ a ∧ a ≤ 2147483647) (kt : a ≤ 0 → gW p l e R s m args below meth c D A nL cells slots Q ws tgt lv st) (kf : ¬ (a ≤ 0) → gW p l e R s m args below meth c D A nL cells slots Q ws (pc + 3) lv st) : gW p l e R s m args below meth c D A nL cells slots Q ws pc lv (.int (iZ a) :: st) := by
  intro H locs ls hP hD hS hl
  have hb : -2147483648 ≤ (0 : Int) ∧ (0 : Int) ≤ 2147483647 := by omega
  exact lv_if_le X.1 X.2.1 hd ht (fun h => kt ((iZ_le ha hb).mp h) H locs ls hP hD hS hl) (fun h => kf (fun q => h ((iZ_le ha hb).mpr q)) H locs ls hP hD hS hl)
theorem g_get (X : gX p s m args meth c cc nL Ts own D tys A) {C : String} {T : u_T} {N ci index : Nat} {ref : String} {fs : List Value} {a : Nat} (hin : ∀ w ∈ u_ws C T N, w ∈ Ts) (q0 : Nat) (he : ws[q0]? = some (a, .inr (ci, fs))) (hc : vwCl[ci]? = some (C, T, N)) (k0 : Nat) (hk : k0 < N) (href : (T k0).1 = ref) (hlink : .fieldLink own index ref (T k0).2.1 (T k0).2.2.1 ∈ Ts) {v : Value} (hv : fs[k0]? = some v) (hd : decode cc pc = .ok (.getfield index, 3)) (k : gW p l e R s m args below meth c D A nL cells slots Q ws (pc + 3) lv (v :: st)) : gW p l e R s m args below meth c D A nL cells slots Q ws pc lv (.ref a :: st) := by
  intro H locs ls hP hD hS hl
  refine va_get X.1 X.2.1 X.2.2.2.2.1 hin X.2.2.2.1 X.2.2.2.2.2.1 hP q0 he hc k0 hk (X.2.2.2.2.1 _ hlink) (fun _ h9 => href ▸ h9) hv hd ?_
  exact k H locs ls hP hD hS hl
theorem g_getN (X : gX p s m args meth c cc nL Ts own D tys A) {C : String} {T : u_T} {N ci index : Nat} {ref : String} {fs : List Value} {a : Nat} (hin : ∀ w ∈ u_ws C T N, w ∈ Ts) (q0 : Nat) (he : ws[q0]? = some (a, .inr (ci, fs))) (hc : vwCl[ci]? = some (C, T, N)) (k0 : Nat) (hk : k0 < N) (href : (T k0).1 = ref) {host : String} (hlink : .fieldLinkNest own index ref (T k0).2.1 (T k0).2.2.1 host ∈ gNest) {v : Value} (hv : fs[k0]? = some v) (hd : decode cc pc = .ok (.getfield index, 3)) (k : gW p l e R s m args below meth c D A nL cells slots Q ws (pc + 3) lv (v :: st)) : gW p l e R s m args below meth c D A nL cells slots Q ws pc lv (.ref a :: st) := by
  intro H locs ls hP hD hS hl
  refine va_getN X.1 X.2.1 X.2.2.2.2.1 hin X.2.2.2.1 X.2.2.2.2.2.1 hP q0 he hc k0 hk (va_Nw.use rfl (X.2.2.2.2.2.2.2.2 _ hlink)) (fun _ h9 => href ▸ h9) hv hd ?_
  exact k H locs ls hP hD hS hl
theorem g_put (X : gX p s m args meth c cc nL Ts own D tys A) {C : String} {T : u_T} {N ci index : Nat} {ref : String} {fs : List Value} {a : Nat} (hin : ∀ w ∈ u_ws C T N, w ∈ Ts) (q0 : Nat) (he : ws[q0]? = some (a, .inr (ci, fs))) (hc : vwCl[ci]? = some (C, T, N)) (k0 : Nat) (hk : k0 < N) (href : (T k0).1 = ref) (ty0 : Nat → FieldType) (hty : ∀ k, k < N → parseFieldDescriptor (T k).2.2.1 = some (ty0 k)) (hnm : ∀ a, a < N → ∀ b, b < N → a ≠ b → (T a).2.1 ≠ (T b).2.1) (hlink : .fieldLink own index ref (T k0).2.1 (T k0).2.2.1 ∈ Ts) (hfin : (T k0).2.2.2 = false) {ty : FieldType} {v : Value} (hdd : ty0 k0 = ty) (hnn : narrow ty v = v) (hfit : fits ty v = true) (hle : k0 < fs.length) {ws2 : va_W} (hws : ws.set q0 (a, .inr (ci, fs.set k0 v)) = ws2) (hd : decode cc pc = .ok (.putfield index, 3)) (k : gW p l e R s m args below meth c D A nL cells slots Q ws2 (pc + 3) lv st) : gW p l e R s m args below meth c D A nL cells slots Q ws pc lv (v :: .ref a :: st) := by
  intro H locs ls hP hD hS hl
  subst hws
  exact va_put X.1 X.2.1 X.2.2.2.2.1 hin ty0 hty hnm X.2.2.2.1 X.2.2.2.2.2.1 hP hD hS q0 he hc k0 hk (X.2.2.2.2.1 _ hlink) (fun _ h9 => href ▸ h9) hfin (by rw [hty k0 hk, hdd]) hnn hfit hle hd (fun H locs hP hD hS => k H locs ls hP hD hS hl)
theorem g_putN (X : gX p s m args meth c cc nL Ts own D tys A) {C : String} {T : u_T} {N ci index : Nat} {ref : String} {fs : List Value} {a : Nat} (hin : ∀ w ∈ u_ws C T N, w ∈ Ts) (q0 : Nat) (he : ws[q0]? = some (a, .inr (ci, fs))) (hc : vwCl[ci]? = some (C, T, N)) (k0 : Nat) (hk : k0 < N) (href : (T k0).1 = ref) (ty0 : Nat → FieldType) (hty : ∀ k, k < N → parseFieldDescriptor (T k).2.2.1 = some (ty0 k)) (hnm : ∀ a, a < N → ∀ b, b < N → a ≠ b → (T a).2.1 ≠ (T b).2.1) {host : String} (hlink : .fieldLinkNest own index ref (T k0).2.1 (T k0).2.2.1 host ∈ gNest) (hfin : (T k0).2.2.2 = false) {ty : FieldType} {v : Value} (hdd : ty0 k0 = ty) (hnn : narrow ty v = v) (hfit : fits ty v = true) (hle : k0 < fs.length) {ws2 : va_W} (hws : ws.set q0 (a, .inr (ci, fs.set k0 v)) = ws2) (hd : decode cc pc = .ok (.putfield index, 3)) (k : gW p l e R s m args below meth c D A nL cells slots Q ws2 (pc + 3) lv st) : gW p l e R s m args below meth c D A nL cells slots Q ws pc lv (v :: .ref a :: st) := by
  intro H locs ls hP hD hS hl
  subst hws
  exact va_putN X.1 X.2.1 X.2.2.2.2.1 hin ty0 hty hnm X.2.2.2.1 X.2.2.2.2.2.1 hP hD hS q0 he hc k0 hk (va_Nw.use rfl (X.2.2.2.2.2.2.2.2 _ hlink)) (fun _ h9 => href ▸ h9) hfin (by rw [hty k0 hk, hdd]) hnn hfit hle hd (fun H locs hP hD hS => k H locs ls hP hD hS hl)
theorem g_putF (X : gX p s m args meth c cc nL Ts own D tys A) {C : String} {T : u_T} {N ci index : Nat} {ref : String} {fs : List Value} {a : Nat} (hin : ∀ w ∈ u_ws C T N, w ∈ Ts) (q0 : Nat) (he : ws[q0]? = some (a, .inr (ci, fs))) (hc : vwCl[ci]? = some (C, T, N)) (k0 : Nat) (hk : k0 < N) (href : (T k0).1 = ref) (ty0 : Nat → FieldType) (hty : ∀ k, k < N → parseFieldDescriptor (T k).2.2.1 = some (ty0 k)) (hnm : ∀ a, a < N → ∀ b, b < N → a ≠ b → (T a).2.1 ≠ (T b).2.1) (hlink : .fieldLink own index ref (T k0).2.1 (T k0).2.2.1 ∈ Ts) (hfin : (T k0).2.2.2 = true) (hin2 : meth.name = "<init>") (hdecl : (T k0).1 = own) {ty : FieldType} {v : Value} (hdd : ty0 k0 = ty) (hnn : narrow ty v = v) (hfit : fits ty v = true) (hle : k0 < fs.length) {ws2 : va_W} (hws : ws.set q0 (a, .inr (ci, fs.set k0 v)) = ws2) (hd : decode cc pc = .ok (.putfield index, 3)) (k : gW p l e R s m args below meth c D A nL cells slots Q ws2 (pc + 3) lv st) : gW p l e R s m args below meth c D A nL cells slots Q ws pc lv (v :: .ref a :: st) := by
  intro H locs ls hP hD hS hl
  subst hws
  exact va_putF X.1 X.2.1 X.2.2.2.2.1 hin ty0 hty hnm X.2.2.2.1 X.2.2.2.2.2.1 hP hD hS q0 he hc k0 hk (X.2.2.2.2.1 _ hlink) (fun _ h9 => href ▸ h9) hfin hin2 hdecl (by rw [hty k0 hk, hdd]) hnn hfit hle hd (fun H locs hP hD hS => k H locs ls hP hD hS hl)
theorem g_iald (X : gX p s m args meth c cc nL Ts own D tys A) {cA : ClassId} {n : Nat} {f : Int → Int} {a : Nat} {z : Int} (q0 t0 : Nat) (ha : ws[q0]? = some (a, .inl (cA, n, .inl (zA f)))) (ht : tys[t0]? = some (cA, .int)) (hz : 0 ≤ z ∧ z < n) (hn : (n : Int) ≤ 2147483647) (hd : decode cc pc = .ok (.iaload, 1)) (k : gW p l e R s m args below meth c D A nL cells slots Q ws (pc + 1) lv (.int (iZ (f z)) :: st)) : gW p l e R s m args below meth c D A nL cells slots Q ws pc lv (.int (iZ z) :: .ref a :: st) := by
  intro H locs ls hP hD hS hl
  refine va_iald X.1 X.2.1 X.2.2.2.2.2.1 hP q0 t0 ha ht (vp_in_iZ hz hn) hd ?_
  rw [iZ_clamp (by omega), zA_at f hz.1]
  exact k H locs ls hP hD hS hl
theorem g_zald (X : gX p s m args meth c cc nL Ts own D tys A) {cA : ClassId} {n : Nat} {f : Int → Int} {a : Nat} {z : Int} (q0 t0 : Nat) (ha : ws[q0]? = some (a, .inl (cA, n, .inl (zA f)))) (ht : tys[t0]? = some (cA, .boolean)) (hz : 0 ≤ z ∧ z < n) (hn : (n : Int) ≤ 2147483647) (hd : decode cc pc = .ok (.baload, 1)) (k : gW p l e R s m args below meth c D A nL cells slots Q ws (pc + 1) lv (.int (iZ (f z)) :: st)) : gW p l e R s m args below meth c D A nL cells slots Q ws pc lv (.int (iZ z) :: .ref a :: st) := by
  intro H locs ls hP hD hS hl
  refine va_zald X.1 X.2.1 X.2.2.2.2.2.1 hP q0 t0 ha ht (vp_in_iZ hz hn) hd ?_
  rw [iZ_clamp (by omega), zA_at f hz.1]
  exact k H locs ls hP hD hS hl
theorem g_bald (X : gX p s m args meth c cc nL Ts own D tys A) {cA : ClassId} {n : Nat} {f : Int → Int} {a : Nat} {z : Int} (q0 t0 : Nat) (ha : ws[q0]? = some (a, .inl (cA, n, .inl (zA f)))) (ht : tys[t0]? = some (cA, .byte)) (hz : 0 ≤ z ∧ z < n) (hn : (n : Int) ≤ 2147483647) (hd : decode cc pc = .ok (.baload, 1)) (k : gW p l e R s m args below meth c D A nL cells slots Q ws (pc + 1) lv (.int (iZ (f z)) :: st)) : gW p l e R s m args below meth c D A nL cells slots Q ws pc lv (.int (iZ z) :: .ref a :: st) := by
  intro H locs ls hP hD hS hl
  refine va_bald X.1 X.2.1 X.2.2.2.2.2.1 hP q0 t0 ha ht (vp_in_iZ hz hn) hd ?_
  rw [iZ_clamp (by omega), zA_at f hz.1]
  exact k H locs ls hP hD hS hl
theorem g_lald (X : gX p s m args meth c cc nL Ts own D tys A) {cA : ClassId} {n : Nat} {f : Int → Int} {a : Nat} {z : Int} (q0 t0 : Nat) (ha : ws[q0]? = some (a, .inl (cA, n, .inr (.inl (lA f))))) (ht : tys[t0]? = some (cA, .long)) (hz : 0 ≤ z ∧ z < n) (hn : (n : Int) ≤ 2147483647) (hd : decode cc pc = .ok (.laload, 1)) (k : gW p l e R s m args below meth c D A nL cells slots Q ws (pc + 1) lv (.long (lZ (f z)) :: st)) : gW p l e R s m args below meth c D A nL cells slots Q ws pc lv (.int (iZ z) :: .ref a :: st) := by
  intro H locs ls hP hD hS hl
  refine va_lald X.1 X.2.1 X.2.2.2.2.2.1 hP q0 t0 ha ht (vp_in_iZ hz hn) hd ?_
  rw [iZ_clamp (by omega), lA_at f hz.1]
  exact k H locs ls hP hD hS hl
theorem g_iast (X : gX p s m args meth c cc nL Ts own D tys A) {cA : ClassId} {n : Nat} {f : Int → Int} {a : Nat} {z : Int} (q0 t0 : Nat) (ha : ws[q0]? = some (a, .inl (cA, n, .inl (zA f)))) (ht : tys[t0]? = some (cA, .int)) (hz : 0 ≤ z ∧ z < n) (hn : (n : Int) ≤ 2147483647) {v : Int} {ws2 : va_W} (hws : ws.set q0 (a, .inl (cA, n, .inl (zA (upZ f z v)))) = ws2) (hd : decode cc pc = .ok (.iastore, 1)) (k : gW p l e R s m args below meth c D A nL cells slots Q ws2 (pc + 1) lv st) : gW p l e R s m args below meth c D A nL cells slots Q ws pc lv (.int (iZ v) :: .int (iZ z) :: .ref a :: st) := by
  intro H locs ls hP hD hS hl
  subst hws
  refine va_iast X.1 X.2.1 X.2.2.2.2.2.1 hP hD hS q0 t0 ha ht (vp_in_iZ hz hn) hd (fun H locs hP hD hS => ?_)
  rw [iZ_clamp (by omega)] at hP hD
  rw [zA_up f hz.1] at hP hD
  exact k H locs ls hP hD hS hl
theorem g_zast (X : gX p s m args meth c cc nL Ts own D tys A) {cA : ClassId} {n : Nat} {f : Int → Int} {a : Nat} {z : Int} (q0 t0 : Nat) (ha : ws[q0]? = some (a, .inl (cA, n, .inl (zA f)))) (ht : tys[t0]? = some (cA, .boolean)) (hz : 0 ≤ z ∧ z < n) (hn : (n : Int) ≤ 2147483647) {v : Int} (hb1 : v = 0 ∨ v = 1) {ws2 : va_W} (hws : ws.set q0 (a, .inl (cA, n, .inl (zA (upZ f z v)))) = ws2) (hd : decode cc pc = .ok (.bastore, 1)) (k : gW p l e R s m args below meth c D A nL cells slots Q ws2 (pc + 1) lv st) : gW p l e R s m args below meth c D A nL cells slots Q ws pc lv (.int (iZ v) :: .int (iZ z) :: .ref a :: st) := by
  intro H locs ls hP hD hS hl
  subst hws
  refine va_zast X.1 X.2.1 X.2.2.2.2.2.1 hP hD hS q0 t0 ha ht (vp_in_iZ hz hn) hd (fun H locs hP hD hS => ?_)
  rw [iZ_clamp (by omega)] at hP hD
  rw [vp_nar_bool hb1] at hP hD
  rw [zA_up f hz.1] at hP hD
  exact k H locs ls hP hD hS hl
theorem g_bast (X : gX p s m args meth c cc nL Ts own D tys A) {cA : ClassId} {n : Nat} {f : Int → Int} {a : Nat} {z : Int} (q0 t0 : Nat) (ha : ws[q0]? = some (a, .inl (cA, n, .inl (zA f)))) (ht : tys[t0]? = some (cA, .byte)) (hz : 0 ≤ z ∧ z < n) (hn : (n : Int) ≤ 2147483647) {v : Int} (hb1 : vp_nar .byte (iZ v) = iZ v) {ws2 : va_W} (hws : ws.set q0 (a, .inl (cA, n, .inl (zA (upZ f z v)))) = ws2) (hd : decode cc pc = .ok (.bastore, 1)) (k : gW p l e R s m args below meth c D A nL cells slots Q ws2 (pc + 1) lv st) : gW p l e R s m args below meth c D A nL cells slots Q ws pc lv (.int (iZ v) :: .int (iZ z) :: .ref a :: st) := by
  intro H locs ls hP hD hS hl
  subst hws
  refine va_bast X.1 X.2.1 X.2.2.2.2.2.1 hP hD hS q0 t0 ha ht (vp_in_iZ hz hn) hd (fun H locs hP hD hS => ?_)
  rw [iZ_clamp (by omega)] at hP hD
  rw [hb1] at hP hD
  rw [zA_up f hz.1] at hP hD
  exact k H locs ls hP hD hS hl
theorem g_last (X : gX p s m args meth c cc nL Ts own D tys A) {cA : ClassId} {n : Nat} {f : Int → Int} {a : Nat} {z : Int} (q0 t0 : Nat) (ha : ws[q0]? = some (a, .inl (cA, n, .inr (.inl (lA f))))) (ht : tys[t0]? = some (cA, .long)) (hz : 0 ≤ z ∧ z < n) (hn : (n : Int) ≤ 2147483647) {v : Int} {ws2 : va_W} (hws : ws.set q0 (a, .inl (cA, n, .inr (.inl (lA (upZ f z v))))) = ws2) (hd : decode cc pc = .ok (.lastore, 1)) (k : gW p l e R s m args below meth c D A nL cells slots Q ws2 (pc + 1) lv st) : gW p l e R s m args below meth c D A nL cells slots Q ws pc lv (.long (lZ v) :: .int (iZ z) :: .ref a :: st) := by
  intro H locs ls hP hD hS hl
  subst hws
  refine va_last X.1 X.2.1 X.2.2.2.2.2.1 hP hD hS q0 t0 ha ht (vp_in_iZ hz hn) hd (fun H locs hP hD hS => ?_)
  rw [iZ_clamp (by omega)] at hP hD
  rw [lA_up f hz.1] at hP hD
  exact k H locs ls hP hD hS hl
theorem g_alen (X : gX p s m args meth c cc nL Ts own D tys A) {cA : ClassId} {x : vp_A} {a : Nat} {ty : FieldType} {z : Int} (q0 t0 : Nat) (ha : ws[q0]? = some (a, .inl (cA, x))) (ht : tys[t0]? = some (cA, ty)) (hz : (x.1 : Int) = z) (hd : decode cc pc = .ok (.arraylength, 1)) (k : gW p l e R s m args below meth c D A nL cells slots Q ws (pc + 1) lv (.int (iZ z) :: st)) : gW p l e R s m args below meth c D A nL cells slots Q ws pc lv (.ref a :: st) := by
  intro H locs ls hP hD hS hl
  subst hz
  refine va_alen X.1 X.2.1 X.2.2.2.2.2.1 hP q0 t0 ha ht (v := iZ (x.1 : Int)) (i32_ext (by rw [iZ_bv]; show (BitVec.ofNat 32 x.1).toNat = _; rw [BitVec.toNat_ofNat]; omega)) hd ?_
  exact k H locs ls hP hD hS hl
theorem g_iret (X : gX p s m args meth c cc nL Ts own D tys A) {Qp : Option Value → va_W → Prop} {mc ms : Nat} {v : Int32} (hr : meth.sig.returnType = some .int) (hc : cells ≤ mc) (hs : slots ≤ ms) (hd : decode cc pc = .ok (.ireturn, 1)) (hq : Qp (some (.int v)) ws) : gW p l e R s m args below meth c D A nL cells slots (MQ below (gQ D tys Qp A) args s mc ms A) ws pc lv [.int v] := by
  intro H locs ls hP hD hS hl
  have hlocks := X.2.2.2.2.2.2.2.1
  refine W.widen hc hs ?_
  exact W.iret X.1 X.2.1 hr (fun t ht hW => ⟨⟨_, ws, rfl, hq, by rw [ht]; exact hP, va_K.moved hW.alike X.2.2.2.2.2.1, hD⟩, hS.F ht⟩) hS.2.2 hd
theorem g_lret (X : gX p s m args meth c cc nL Ts own D tys A) {Qp : Option Value → va_W → Prop} {mc ms : Nat} {v : Int64} (hr : meth.sig.returnType = some .long) (hc : cells ≤ mc) (hs : slots ≤ ms) (hd : decode cc pc = .ok (.lreturn, 1)) (hq : Qp (some (.long v)) ws) : gW p l e R s m args below meth c D A nL cells slots (MQ below (gQ D tys Qp A) args s mc ms A) ws pc lv [.long v] := by
  intro H locs ls hP hD hS hl
  have hlocks := X.2.2.2.2.2.2.2.1
  refine W.widen hc hs ?_
  exact W.lret X.1 X.2.1 hr (fun t ht hW => ⟨⟨_, ws, rfl, hq, by rw [ht]; exact hP, va_K.moved hW.alike X.2.2.2.2.2.1, hD⟩, hS.F ht⟩) hS.2.2 hd
theorem g_vret (X : gX p s m args meth c cc nL Ts own D tys A) {Qp : Option Value → va_W → Prop} {mc ms : Nat}  (hr : meth.sig.returnType = none) (hc : cells ≤ mc) (hs : slots ≤ ms) (hd : decode cc pc = .ok (.return_, 1)) (hq : Qp (none) ws) : gW p l e R s m args below meth c D A nL cells slots (MQ below (gQ D tys Qp A) args s mc ms A) ws pc lv [] := by
  intro H locs ls hP hD hS hl
  have hlocks := X.2.2.2.2.2.2.2.1
  refine W.widen hc hs ?_
  exact W.vret X.1 X.2.1 hr (fun t ht hW => ⟨⟨_, ws, rfl, hq, by rw [ht]; exact hP, va_K.moved hW.alike X.2.2.2.2.2.1, hD⟩, hS.F ht⟩) hS.2.2 hd
theorem g_zret (X : gX p s m args meth c cc nL Ts own D tys A) {Qp : Option Value → va_W → Prop} {mc ms : Nat} {v : Int} (hv : v = 0 ∨ v = 1) (hr : meth.sig.returnType = some .boolean) (hc : cells ≤ mc) (hs : slots ≤ ms) (hd : decode cc pc = .ok (.ireturn, 1)) (hq : Qp (some (.int (iZ v))) ws) : gW p l e R s m args below meth c D A nL cells slots (MQ below (gQ D tys Qp A) args s mc ms A) ws pc lv [.int (iZ v)] := by
  intro H locs ls hP hD hS hl
  have hlocks := X.2.2.2.2.2.2.2.1
  refine W.widen hc hs ?_
  exact W.zret X.1 X.2.1 hr (by rcases hv with rfl | rfl <;> rfl) (fun t ht hW => ⟨⟨_, ws, rfl, hq, by rw [ht]; exact hP, va_K.moved hW.alike X.2.2.2.2.2.1, hD⟩, hS.F ht⟩) hS.2.2 hd
theorem g_go {H H0 : Heap} {locs : List Loc} {mc ms : Nat} {rest st0 : List Value} {a : Array Value} {A1 A0 : Nat → Prop} {ls : Array Slot} {Qp : Option Value → va_W → Prop}
    (hr : va_Run p l e R s m args below meth c H locs cells slots mc ms (F0 m pc ls st0) rest (gQ D tys Qp A1 a) A1) (hS : va_S A0 H0 H locs) (hA : ∀ q, A1 q → A0 q)
    (kk : ∀ (v : Option Value) (w1 : va_W) (t : State) (H1 : Heap) (locs1 : List Loc), t.heap = H1 → s.vm.Alike t.vm → Qp v w1 → va_P D vwCl w1 H1 → va_K D vwCl tys t → va_D A1 w1 → H.size ≤ H1.size → (∀ q : Nat, q < H.size → ¬ A1 q → H1[q]? = H[q]?) → va_S A0 H0 H1 locs1 → W p l e R s m args below meth c H1 locs1 (cells + mc) (slots + ms) Q (F0 m (pc + 3) ls (v.toList ++ rest))) : W p l e R s m args below meth c H locs cells slots Q (F0 m pc ls st0) := by
  intro T hT X
  obtain ⟨v, st₀, t, T', L, h0, X', hL, e1, e2, ⟨⟨v2, w1, hv, hq, hP1, hK1, hD1⟩, hz, hk⟩, st⟩ := hr T hT X
  cases hv
  rw [h0] at hz hk
  obtain ⟨t2, a1, b1⟩ := kk v w1 t T'.heap (locs ++ L) e1.symm (by rw [← e2]; exact X'.warmed.alike) hq (by rw [e1]; exact hP1) hK1 hD1 (by rw [e1]; exact hz) (fun q h1 h2 => by rw [e1]; exact hk q h1 h2)
    ⟨Nat.le_trans hS.1 (by rw [e1]; exact hz), fun q h1 h2 => by rw [e1, hk q (Nat.lt_of_lt_of_le h1 hS.1) (fun z => h2 (hA q z))]; exact hS.2.1 q h1 h2, fun q hq => by
      rcases List.mem_append.mp hq with h | h
      · exact hS.2.2 q h
      · exact hA _ (hL q h)⟩ T' rfl X'
  exact ⟨t2, st t2 a1, b1⟩
theorem g_callV (X : gX p s m args meth c cc nL Ts own D tys A) {y : MethodName} {wy : List Cond} {rm : Room} {C : String} {index maxL mc ms n : Nat} {bytes : ByteArray} {ret : Option FieldType} {As rest : List Value} {wc wr : va_W} {Qp : Option Value → va_W → Prop} {b ci : Nat} {fs : List Value} {T : u_T} {N : Nat} (hM : gM l y wy rm D tys (.ref b :: As) wc mc ms Qp) (cw : CallW R s args own C index y bytes maxL ret wy rm mc ms n) (q0 : Nat) (he : wc[q0]? = some (b, .inr (ci, fs))) (hc : vwCl[ci]? = some (C, T, N)) (isC isR : List Nat) (hC : isC.map (fun i => ws[i]?) = wc.map some) (hR : isR.map (fun i => ws[i]?) = wr.map some) (hnd : va_nd isC = true) (hn : va_nd isR = true) (hdis : ∀ i ∈ isR, i ∉ isC) (hlen : As.length = n) (hst : st = As.reverse ++ .ref b :: rest) (hW : (rest.map fun v => v.category).sum ≤ 8) (hroom : cells + mc ≤ R.cells ∧ slots + ms ≤ R.slots) (hd : decode cc pc = .ok (.invokevirtual index, 3)) (k : ∀ (v : Option Value) (w1 : va_W), Qp v w1 → gW p l e R s m args below meth c D A nL (cells + mc) (slots + ms) Q (wr ++ w1) (pc + 3) lv (v.toList ++ rest)) : gW p l e R s m args below meth c D A nL cells slots Q ws pc lv st := by
  intro H locs ls hP hD hS hl
  have hPc : va_P D vwCl wc H := hP.sub isC (by
    have h1 : isC.filterMap (fun i => ws[i]?) = (isC.map (fun i => ws[i]?)).filterMap id := by rw [List.filterMap_map]; rfl
    rw [h1, hC, List.filterMap_map]
    exact List.filterMap_some)
  have hDc := hD.sub isC hnd hC
  have hFc := va_free (wc := wc) hD hS X.2.2.2.2.2.2.1 isC hC
  obtain ⟨hx, hb, hml, hown, hts, hK, hA, hlk, hN⟩ := X
  have hbl : FrameBlind (gP D tys (.ref b :: As) wc H.size) := fun a U g mk q => by
    obtain ⟨q0, q1, qP, qK, qD, qN⟩ := q
    exact ⟨q0, q1, qP, va_K.moved (u := U) (U := U.calling g mk a) (Vm.Alike.refl U.vm) qK, qD, gN.same (s := U) (U := U.calling g mk a) rfl qN⟩
  have hpre : ∀ U : State, U.heap = H → s.WarmedH U.vm → gP D tys (.ref b :: As) wc H.size ((.ref b :: As)).toArray U := fun U hU hW => ⟨rfl, by rw [hU], by rw [hU]; exact hPc, va_K.moved hW.alike hK, hDc.weaken (fun _ _ _ _ => trivial), gN.warm hW hN⟩
  have hr := va_runV (g := F0 m pc ls st) (As := As) (rest := rest) ⟨hx, hb, hml, hown, hts⟩ (hM H.size) cw ⟨hbl, va_recv hK hPc hc he, hpre⟩ rfl hlen hl.1 hst (lv_room hW) hd hroom (below := below) (meth := meth) (locs := locs) (e := e)
  refine g_go hr hS hFc (fun v w1 t H1 locs1 ht hvm hq hP1 hK1 hD1 hz hk hS1 => ?_)
  obtain ⟨hP2, hD2⟩ := va_join (wr := wr) (w1 := w1) hP hD isC isR hC hR hn hdis hk hFc hP1 hD1
  exact k v w1 hq H1 locs1 ls hP2 hD2 hS1 hl
theorem g_callS (X : gX p s m args meth c cc nL Ts own D tys A) {y : MethodName} {wy : List Cond} {rm : Room} {index maxL mc ms n : Nat} {bytes : ByteArray} {ret : Option FieldType} {As rest : List Value} {wc wr : va_W} {Qp : Option Value → va_W → Prop} (hM : gM l y wy rm D tys As wc mc ms Qp) (cw : CallB R s args own index y bytes maxL ret wy rm mc ms n ∧ (Cond.static y).before args s = true) (isC isR : List Nat) (hC : isC.map (fun i => ws[i]?) = wc.map some) (hR : isR.map (fun i => ws[i]?) = wr.map some) (hnd : va_nd isC = true) (hn : va_nd isR = true) (hdis : ∀ i ∈ isR, i ∉ isC) (hlen : As.length = n) (hst : st = As.reverse ++ rest) (hW : (rest.map fun v => v.category).sum ≤ 8) (hroom : cells + mc ≤ R.cells ∧ slots + ms ≤ R.slots) (hd : decode cc pc = .ok (.invokestatic index, 3)) (k : ∀ (v : Option Value) (w1 : va_W), Qp v w1 → gW p l e R s m args below meth c D A nL (cells + mc) (slots + ms) Q (wr ++ w1) (pc + 3) lv (v.toList ++ rest)) : gW p l e R s m args below meth c D A nL cells slots Q ws pc lv st := by
  intro H locs ls hP hD hS hl
  have hPc : va_P D vwCl wc H := hP.sub isC (by
    have h1 : isC.filterMap (fun i => ws[i]?) = (isC.map (fun i => ws[i]?)).filterMap id := by rw [List.filterMap_map]; rfl
    rw [h1, hC, List.filterMap_map]
    exact List.filterMap_some)
  have hDc := hD.sub isC hnd hC
  have hFc := va_free (wc := wc) hD hS X.2.2.2.2.2.2.1 isC hC
  obtain ⟨hx, hb, hml, hown, hts, hK, hA, hlk, hN⟩ := X
  have hbl : FrameBlind (gP D tys As wc H.size) := fun a U g mk q => by
    obtain ⟨q0, q1, qP, qK, qD, qN⟩ := q
    exact ⟨q0, q1, qP, va_K.moved (u := U) (U := U.calling g mk a) (Vm.Alike.refl U.vm) qK, qD, gN.same (s := U) (U := U.calling g mk a) rfl qN⟩
  have hpre : ∀ U : State, U.heap = H → s.WarmedH U.vm → gP D tys As wc H.size (As).toArray U := fun U hU hW => ⟨rfl, by rw [hU], by rw [hU]; exact hPc, va_K.moved hW.alike hK, hDc.weaken (fun _ _ _ _ => trivial), gN.warm hW hN⟩
  have hr := va_runS (g := F0 m pc ls st) (As := As) (rest := rest) ⟨hx, hb, hml, hown, hts⟩ (hM H.size) cw ⟨hbl, hpre⟩ rfl hlen hl.1 hst (lv_room hW) hd hroom (below := below) (meth := meth) (locs := locs) (e := e)
  refine g_go hr hS hFc (fun v w1 t H1 locs1 ht hvm hq hP1 hK1 hD1 hz hk hS1 => ?_)
  obtain ⟨hP2, hD2⟩ := va_join (wr := wr) (w1 := w1) hP hD isC isR hC hR hn hdis hk hFc hP1 hD1
  exact k v w1 hq H1 locs1 ls hP2 hD2 hS1 hl
theorem g_callI (X : gX p s m args meth c cc nL Ts own D tys A) {y : MethodName} {wy : List Cond} {rm : Room} {index maxL mc ms n : Nat} {bytes : ByteArray} {ret : Option FieldType} {As rest : List Value} {wc wr : va_W} {Qp : Option Value → va_W → Prop} {b : Nat} (hM : gM l y wy rm D tys (.ref b :: As) wc mc ms Qp) (cw : CallB R s args own index y bytes maxL none wy rm mc ms n ∧ y.name = "<init>" ∧ (Cond.instanceMethod y).before args s = true) (isC isR : List Nat) (hC : isC.map (fun i => ws[i]?) = wc.map some) (hR : isR.map (fun i => ws[i]?) = wr.map some) (hnd : va_nd isC = true) (hn : va_nd isR = true) (hdis : ∀ i ∈ isR, i ∉ isC) (hlen : As.length = n) (hst : st = As.reverse ++ .ref b :: rest) (hW : (rest.map fun v => v.category).sum ≤ 8) (hroom : cells + mc ≤ R.cells ∧ slots + ms ≤ R.slots) (hd : decode cc pc = .ok (.invokespecial index, 3)) (k : ∀ (v : Option Value) (w1 : va_W), Qp v w1 → gW p l e R s m args below meth c D A nL (cells + mc) (slots + ms) Q (wr ++ w1) (pc + 3) lv (v.toList ++ rest)) : gW p l e R s m args below meth c D A nL cells slots Q ws pc lv st := by
  intro H locs ls hP hD hS hl
  have hPc : va_P D vwCl wc H := hP.sub isC (by
    have h1 : isC.filterMap (fun i => ws[i]?) = (isC.map (fun i => ws[i]?)).filterMap id := by rw [List.filterMap_map]; rfl
    rw [h1, hC, List.filterMap_map]
    exact List.filterMap_some)
  have hDc := hD.sub isC hnd hC
  have hFc := va_free (wc := wc) hD hS X.2.2.2.2.2.2.1 isC hC
  obtain ⟨hx, hb, hml, hown, hts, hK, hA, hlk, hN⟩ := X
  have hbl : FrameBlind (gP D tys (.ref b :: As) wc H.size) := fun a U g mk q => by
    obtain ⟨q0, q1, qP, qK, qD, qN⟩ := q
    exact ⟨q0, q1, qP, va_K.moved (u := U) (U := U.calling g mk a) (Vm.Alike.refl U.vm) qK, qD, gN.same (s := U) (U := U.calling g mk a) rfl qN⟩
  have hpre : ∀ U : State, U.heap = H → s.WarmedH U.vm → gP D tys (.ref b :: As) wc H.size ((.ref b :: As)).toArray U := fun U hU hW => ⟨rfl, by rw [hU], by rw [hU]; exact hPc, va_K.moved hW.alike hK, hDc.weaken (fun _ _ _ _ => trivial), gN.warm hW hN⟩
  have hr := va_runI (g := F0 m pc ls st) (As := As) (rest := rest) ⟨hx, hb, hml, hown, hts⟩ (hM H.size) cw ⟨hbl, hpre⟩ rfl hlen hl.1 hst (lv_room hW) hd hroom (below := below) (meth := meth) (locs := locs) (e := e)
  refine g_go hr hS hFc (fun v w1 t H1 locs1 ht hvm hq hP1 hK1 hD1 hz hk hS1 => ?_)
  obtain ⟨hP2, hD2⟩ := va_join (wr := wr) (w1 := w1) hP hD isC isR hC hR hn hdis hk hFc hP1 hD1
  exact k v w1 hq H1 locs1 ls hP2 hD2 hS1 hl
theorem g_objInit (X : gX p s m args meth c cc nL Ts own D tys A) {idx a : Nat} (hlink : .methodLink own idx objectInit ∈ Ts) (hinst : .instanceMethod objectInit ∈ Ts) (hcode : .code objectInit ⟨#[0xb1]⟩ 1 none ∈ Ts) (hd : decode cc pc = .ok (.invokespecial idx, 3)) (hframes : 1 ≤ R.frames) (hlocals : (st.map fun v => v.category).sum + 12 ≤ R.locals) (k : gW p l e R s m args below meth c D A nL cells slots Q ws (pc + 3) lv st) : gW p l e R s m args below meth c D A nL cells slots Q ws pc lv (.ref a :: st) := by
  intro H locs ls hP hD hS hl
  obtain ⟨hx, hb, hml, hown, hts, hK, hA, hlk, hN⟩ := X
  refine W.objInit hx hb hown (hts _ hlink) (hts _ hinst) (hts _ hcode) rfl (by rw [hml]; exact hl.1) rfl hd hframes (by show 2 * 0 + _ + 12 ≤ _; omega) ?_
  exact k H locs ls hP hD hS hl
theorem g_newarr (X : gX p s m args meth c cc nL Ts own D tys A) {atype : ArrayType} {ty : FieldType} {cA : ClassId} {z : Int} {N' : Nat} {a0 : vp_A} (t0 : Nat) (ht : tys[t0]? = some (cA, ty)) (harr : .arrayClass (newarray.typeOf atype) ∈ Ts) (hty : newarray.typeOf atype = ty) (hp : (∃ C, ty = .object C) → False) (ha : ∀ cA : ClassId, vp_cell cA a0 = arrV cA N' (fun _ => defaultValue ty)) (hz : z = N') (hbytes : N' * componentBytes ty ≤ 536870912) (hz2 : z ≤ 2147483647) (hcells : cells + 1 ≤ R.cells) (hslots : slots + N' ≤ R.slots) (hd : decode cc pc = .ok (.newarray atype, 2))
    (k : ∀ q : Nat, gW p l e R s m args below meth c D A nL (cells + 1) (slots + N') Q (ws ++ [(q, .inl (cA, a0))]) (pc + 2) lv (.ref q :: st)) : gW p l e R s m args below meth c D A nL cells slots Q ws pc lv (.int (iZ z) :: st) := by
  intro H locs ls hP hD hS hl
  obtain ⟨hx, hb, hml, hown, hts, hK, hA, hlk, hN⟩ := X
  refine va_newa hx hb (hts _ harr) hty hK hP hD hS hA ha (fun h => ?_) ?_ hbytes hcells hslots hd (fun q cA2 H1 hK2 hP2 hD2 hS2 => ?_)
  · have := (iZ_lt (a := z) (b := 0) (by omega) (by omega)).mp h
    omega
  · rw [iZ_clamp (by omega)]; omega
  · have h1 := (hK2.2 t0 (cA, ty) (by rw [List.getElem?_append_left (List.getElem?_eq_some_iff.mp ht).1]; exact ht)).2
    have h2 := (hK2.2 tys.length (cA2, ty) (by rw [List.getElem?_append_right (Nat.le_refl _)]; simp)).2
    have h3 : cA2 = cA := by
      cases ty with
      | object C => exact absurd ⟨C, rfl⟩ hp
      | _ => exact Option.some.inj (h2.symm.trans h1)
    subst h3
    exact k q H1 locs ls hP2 hD2 hS2 hl
theorem g_new (X : gX p s m args meth c cc nL Ts own D tys A) {C : String} {T : u_T} {N ci index : Nat} (hin : ∀ w ∈ u_ws C T N, w ∈ Ts) (ty0 : Nat → FieldType) (hty : ∀ k, k < N → parseFieldDescriptor (T k).2.2.1 = some (ty0 k)) (hcl : .classLink own index C ∈ Ts) (hinst : .instantiable C N ∈ Ts) (hini : .initialized C ∈ Ts) (hc : vwCl[ci]? = some (C, T, N)) {fs : List Value} (hfs : ∀ j, j < N → defaultValue (ty0 j) = vp_V fs j) (hcells : cells + 1 ≤ R.cells) (hslots : slots + N ≤ R.slots) (hd : decode cc pc = .ok (.new index, 3))
    (k : ∀ q : Nat, gW p l e R s m args below meth c D A nL (cells + 1) (slots + N) Q (ws ++ [(q, .inr (ci, fs))]) (pc + 3) lv (.ref q :: st)) : gW p l e R s m args below meth c D A nL cells slots Q ws pc lv st := by
  intro H locs ls hP hD hS hl
  obtain ⟨hx, hb, hml, hown, hts, hK, hA, hlk, hN⟩ := X
  exact va_new hx hb hts hin ty0 hty hown (hts _ hcl) (hts _ hinst) (hts _ hini) hK hP hD hS hA hc hfs hcells hslots hd (fun q H1 hP2 hD2 hS2 => k q H1 locs ls hP2 hD2 hS2 hl)
theorem g_mmax (X : gX p s m args meth c cc nL Ts own D tys A) {a b : Int} {index : Nat} (h1 : .methodLink own index Lib.Math.max.name ∈ Ts) (h2 : .static Lib.Math.max.name ∈ Ts) (h3 : .initialized "java/lang/Math" ∈ Ts) (h4 : .code Lib.Math.max.name Lib.Math.max.code 2 (some .int) ∈ Ts) (ha : -2147483648 ≤ a ∧ a ≤ 2147483647) (hb : -2147483648 ≤ b ∧ b ≤ 2147483647) (hfr : 1 ≤ R.frames) (hlo : (st.map fun v => v.category).sum + 13 ≤ R.locals) (hce : cells ≤ R.cells) (hsl : slots ≤ R.slots) (hd : decode cc pc = .ok (.invokestatic index, 3)) (k : gW p l e R s m args below meth c D A nL cells slots Q ws (pc + 3) lv (.int (iZ (maxZ a b)) :: st)) : gW p l e R s m args below meth c D A nL cells slots Q ws pc lv (.int (iZ b) :: .int (iZ a) :: st) := by
  intro H locs ls hP hD hS hl
  obtain ⟨hx, hbb, hml, hown, hts, hK, hA, hlk, hN⟩ := X
  have hv : (if iZ a < iZ b then iZ b else iZ a) = iZ (maxZ a b) := by
    have h0 := iZ_lt ha hb
    unfold maxZ
    by_cases h : a < b <;> simp [h0, h]
  refine va_mmax hx hbb (by rw [hml]; exact hl.1.symm) hown (hts _ h1) (hts _ h2) (hts _ h3) (hts _ h4) hfr (by omega) hce hsl hd ?_
  rw [hv]
  exact k H locs ls hP hD hS hl
theorem g_mmin (X : gX p s m args meth c cc nL Ts own D tys A) {a b : Int} {index : Nat} (h1 : .methodLink own index Lib.Math.min.name ∈ Ts) (h2 : .static Lib.Math.min.name ∈ Ts) (h3 : .initialized "java/lang/Math" ∈ Ts) (h4 : .code Lib.Math.min.name Lib.Math.min.code 2 (some .int) ∈ Ts) (ha : -2147483648 ≤ a ∧ a ≤ 2147483647) (hb : -2147483648 ≤ b ∧ b ≤ 2147483647) (hfr : 1 ≤ R.frames) (hlo : (st.map fun v => v.category).sum + 13 ≤ R.locals) (hce : cells ≤ R.cells) (hsl : slots ≤ R.slots) (hd : decode cc pc = .ok (.invokestatic index, 3)) (k : gW p l e R s m args below meth c D A nL cells slots Q ws (pc + 3) lv (.int (iZ (minZ a b)) :: st)) : gW p l e R s m args below meth c D A nL cells slots Q ws pc lv (.int (iZ b) :: .int (iZ a) :: st) := by
  intro H locs ls hP hD hS hl
  obtain ⟨hx, hbb, hml, hown, hts, hK, hA, hlk, hN⟩ := X
  have hv : (if iZ b < iZ a then iZ b else iZ a) = iZ (minZ a b) := by
    have h0 := iZ_lt hb ha
    unfold minZ
    by_cases h : b < a <;> simp [h0, h]
  refine va_mmin hx hbb (by rw [hml]; exact hl.1.symm) hown (hts _ h1) (hts _ h2) (hts _ h3) (hts _ h4) hfr (by omega) hce hsl hd ?_
  rw [hv]
  exact k H locs ls hP hD hS hl
theorem g_mabs (X : gX p s m args meth c cc nL Ts own D tys A) {a : Int} {index : Nat} (h1 : .methodLink own index Lib.Math.abs.name ∈ Ts) (h2 : .static Lib.Math.abs.name ∈ Ts) (h3 : .initialized "java/lang/Math" ∈ Ts) (h4 : .code Lib.Math.abs.name Lib.Math.abs.code 1 (some .int) ∈ Ts) (ha : -2147483648 ≤ a ∧ a ≤ 2147483647)  (hfr : 1 ≤ R.frames) (hlo : (st.map fun v => v.category).sum + 13 ≤ R.locals) (hce : cells ≤ R.cells) (hsl : slots ≤ R.slots) (hd : decode cc pc = .ok (.invokestatic index, 3)) (k : gW p l e R s m args below meth c D A nL cells slots Q ws (pc + 3) lv (.int (iZ (absZ a)) :: st)) : gW p l e R s m args below meth c D A nL cells slots Q ws pc lv (.int (iZ a) :: st) := by
  intro H locs ls hP hD hS hl
  obtain ⟨hx, hbb, hml, hown, hts, hK, hA, hlk, hN⟩ := X
  have hv : (if 0 ≤ iZ a then iZ a else 0 - iZ a) = iZ (absZ a) := by
    have h0 : 0 ≤ iZ a ↔ 0 ≤ a := iZ_le (a := 0) (by omega) ha
    have h1 : 0 - iZ a = iZ (-a) := by rw [show (0 : Int32) = iZ 0 from rfl, iZ_sub, Int.zero_sub]
    unfold absZ
    by_cases h : 0 ≤ a
    · rw [if_pos (h0.mpr h), if_neg (by omega)]
    · rw [if_neg (fun q => h (h0.mp q)), if_pos (by omega), h1]
  refine va_mabs hx hbb (by rw [hml]; exact hl.1.symm) hown (hts _ h1) (hts _ h2) (hts _ h3) (hts _ h4) hfr (by omega) hce hsl hd ?_
  rw [hv]
  exact k H locs ls hP hD hS hl
theorem g_topi {a b : Int} (h : a = b) (k : gW p l e R s m args below meth c D A nL cells slots Q ws pc lv (.int (iZ b) :: st)) : gW p l e R s m args below meth c D A nL cells slots Q ws pc lv (.int (iZ a) :: st) := by
  subst h; exact k
theorem g_topl {a b : Int} (h : a = b) (k : gW p l e R s m args below meth c D A nL cells slots Q ws pc lv (.long (lZ b) :: st)) : gW p l e R s m args below meth c D A nL cells slots Q ws pc lv (.long (lZ a) :: st) := by
  subst h; exact k
theorem g_callV0 (X : gX p s m args meth c cc nL Ts own D tys A) {y : MethodName} {wy : List Cond} {rm : Room} {C : String} {index maxL n : Nat} {bytes : ByteArray} {ret : Option FieldType} {As rest : List Value} {wc wr : va_W} {Qp : Option Value → va_W → Prop} {b ci : Nat} {fs : List Value} {T : u_T} {N : Nat} (hM : gM l y wy rm D tys (.ref b :: As) wc 0 0 Qp) (cw : CallW R s args own C index y bytes maxL ret wy rm 0 0 n) (q0 : Nat) (he : wc[q0]? = some (b, .inr (ci, fs))) (hc : vwCl[ci]? = some (C, T, N)) (isC isR : List Nat) (hC : isC.map (fun i => ws[i]?) = wc.map some) (hR : isR.map (fun i => ws[i]?) = wr.map some) (hnd : va_nd isC = true) (hn : va_nd isR = true) (hdis : ∀ i ∈ isR, i ∉ isC) (hlen : As.length = n) (hst : st = As.reverse ++ .ref b :: rest) (hW : (rest.map fun v => v.category).sum ≤ 8) (hroom : cells ≤ R.cells ∧ slots ≤ R.slots) (hd : decode cc pc = .ok (.invokevirtual index, 3)) (k : ∀ (v : Option Value) (w1 : va_W), Qp v w1 → gW p l e R s m args below meth c D A nL cells slots Q (wr ++ w1) (pc + 3) lv (v.toList ++ rest)) : gW p l e R s m args below meth c D A nL cells slots Q ws pc lv st :=
  g_callV X hM cw q0 he hc isC isR hC hR hnd hn hdis hlen hst hW hroom hd k
theorem g_callS0 (X : gX p s m args meth c cc nL Ts own D tys A) {y : MethodName} {wy : List Cond} {rm : Room} {index maxL n : Nat} {bytes : ByteArray} {ret : Option FieldType} {As rest : List Value} {wc wr : va_W} {Qp : Option Value → va_W → Prop} (hM : gM l y wy rm D tys As wc 0 0 Qp) (cw : CallB R s args own index y bytes maxL ret wy rm 0 0 n ∧ (Cond.static y).before args s = true)  (isC isR : List Nat) (hC : isC.map (fun i => ws[i]?) = wc.map some) (hR : isR.map (fun i => ws[i]?) = wr.map some) (hnd : va_nd isC = true) (hn : va_nd isR = true) (hdis : ∀ i ∈ isR, i ∉ isC) (hlen : As.length = n) (hst : st = As.reverse ++ rest) (hW : (rest.map fun v => v.category).sum ≤ 8) (hroom : cells ≤ R.cells ∧ slots ≤ R.slots) (hd : decode cc pc = .ok (.invokestatic index, 3)) (k : ∀ (v : Option Value) (w1 : va_W), Qp v w1 → gW p l e R s m args below meth c D A nL cells slots Q (wr ++ w1) (pc + 3) lv (v.toList ++ rest)) : gW p l e R s m args below meth c D A nL cells slots Q ws pc lv st :=
  g_callS X hM cw isC isR hC hR hnd hn hdis hlen hst hW hroom hd k
end GR
