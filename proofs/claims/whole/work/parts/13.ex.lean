/-! EX: what a throw needs, statics, switches; contracts of methods that may throw -/
def gNm : List String := ["java/lang/RuntimeException", "java/lang/Exception"]
def gBad : List Cond := ((vx_atS RX4 54 "java/lang/IllegalArgumentException" gNm) ++ (vx_atS RX4 142 "java/lang/IndexOutOfBoundsException" gNm)).filter (fun w => !goodWord w)
theorem gBad_ok : ∀ w ∈ gBad, (w.keepsFace && w.onTables) = true := by decide +kernel
def gStr : List (Nat × String) := [(136, "no such number is told"), (140, "no such column"), (155, "no such number of a column"), (160, "no such page"), (162, "a page has a first and a last guide"), (170, "no such letter"), (172, "an edge is 1 to 10,000 long"), (189, "there was no such entry"), (52, "no such value"), (63, "out of the value's range"), (65, "a sense has 1 to 20 lines"), (83, "not so many bytes")]
theorem gNw_warmB {w : Cond} (hw : (w.keepsFace && w.onTables) = true) {s U : State} (hW : s.WarmedH U.vm) (h : va_Nw w s) : va_Nw w U := by
  simp only [Bool.and_eq_true] at hw
  have h1 : w.before #[] (s.setVm U.vm) = true := Cond.before_shiftedFace (State.Shifted.of_warmed hW) w hw.1 h
  exact va_tabs hw.2 (rfl : (s.setVm U.vm).vm = U.vm) h1
def loF (j : Int) : Int := if j = 0 then 4 else if j = 1 then 1 else 0
def hiF (j : Int) : Int := if j = 0 then 60 else if j = 1 then 4 else if j = 2 then 3 else 1000
def gE (tL tH tS : Nat) (A : Nat → Prop) (U : State) (H : Heap) : Prop :=
  (∀ w ∈ gBad, va_Nw w U) ∧ (∀ q ∈ gStr, ∃ a, vk_R RX4 q.1 q.2 a U) ∧ vx_Zq Bundle.tN "UNASSIGNED_STACK" Bundle.steD A U H ∧ vx_Zq Bundle.tN "SUPPRESSED_SENTINEL" Bundle.listD A U H ∧
  va_Z "GuideWords" "LOWEST" "[I" (.ref tL) A U H ∧ va_Z "GuideWords" "HIGHEST" "[I" (.ref tH) A U H ∧ va_Z "GuideWords" "LINES_OF_SEE" "[I" (.ref tS) A U H ∧
  va_T .int tL 5 (fun j => .int (zA loF j)) A U H ∧ va_T .int tH 5 (fun j => .int (zA hiF j)) A U H ∧ va_T .int tS 1 (fun j => .int (zA (fun _ => 1) j)) A U H
theorem gE.warm {tL tH tS : Nat} {A : Nat → Prop} {s U : State} {H : Heap} (hW : s.WarmedH U.vm) (h : gE tL tH tS A s H) : gE tL tH tS A U H := by
  obtain ⟨h1, h2, h3, h4, h5, h6, h7, h8, h9, h10⟩ := h
  exact ⟨fun w hw => gNw_warmB (gBad_ok w hw) hW (h1 w hw), fun q hq => (h2 q hq).imp (fun a ha => ha.warm hW), h3.moved hW.alike, h4.moved hW.alike, h5.moved hW.alike, h6.moved hW.alike, h7.moved hW.alike, h8.moved hW.alike, h9.moved hW.alike, h10.moved hW.alike⟩
theorem gE.same {tL tH tS : Nat} {A : Nat → Prop} {s U : State} {H : Heap} (hv : s.vm = U.vm) (h : gE tL tH tS A s H) : gE tL tH tS A U H := by
  obtain ⟨h1, h2, h3, h4, h5, h6, h7, h8, h9, h10⟩ := h
  have ha : s.vm.Alike U.vm := by rw [← hv]; exact Vm.Alike.refl _
  refine ⟨fun w hw => va_Nw.same ?_ hv (h1 w hw), fun q hq => (h2 q hq).imp (fun a h => h.same hv.symm), h3.moved ha, h4.moved ha, h5.moved ha, h6.moved ha, h7.moved ha, h8.moved ha, h9.moved ha, h10.moved ha⟩
  have := gBad_ok w hw
  simp only [Bool.and_eq_true] at this
  exact this.2
theorem gE.kept {tL tH tS : Nat} {A : Nat → Prop} {U : State} {H H1 : Heap} (h : gE tL tH tS A U H) (hq : ∀ a : Nat, a < H.size → ¬ A a → H1[a]? = H[a]?) : gE tL tH tS A U H1 := by
  obtain ⟨h1, h2, h3, h4, h5, h6, h7, h8, h9, h10⟩ := h
  exact ⟨h1, h2, h3.kept hq, h4.kept hq, h5.kept hq, h6.kept hq, h7.kept hq, h8.kept hq, h9.kept hq, h10.kept hq⟩
theorem gE.narrow {tL tH tS : Nat} {A B : Nat → Prop} {U : State} {H : Heap} (h : gE tL tH tS A U H) (hAB : ∀ q, B q → A q) : gE tL tH tS B U H := by
  obtain ⟨h1, h2, h3, h4, h5, h6, h7, h8, h9, h10⟩ := h
  exact ⟨h1, h2, h3.narrow hAB, h4.narrow hAB, h5.narrow hAB, h6.narrow hAB, h7.narrow hAB, h8.narrow hAB, h9.narrow hAB, h10.narrow hAB⟩
/-- where a method has thrown E: the world -/
def gXC (D : va_G) (tys : List (ClassId × FieldType)) (Xp : String → va_W → Prop) (A : Nat → Prop) : String → State → State → Prop := fun E st t => ∃ w1 : va_W, Xp E w1 ∧ va_P D vwCl w1 t.heap ∧ va_K D vwCl tys t ∧ va_D A w1 ∧ va_F A st t
def gPx (tL tH tS : Nat) (D : va_G) (tys : List (ClassId × FieldType)) (av : List Value) (ws : va_W) (sz : Nat) : Array Value → State → Prop := va_Pc av (fun U => U.heap.size = sz ∧ va_P D vwCl ws U.heap ∧ va_K D vwCl tys U ∧ va_D (fun _ => True) ws ∧ gN U ∧ gE tL tH tS (va_A ws sz) U U.heap)
def gMx (l : Launch) (y : MethodName) (wy : List Cond) (rm : Room) (tL tH tS : Nat) (D : va_G) (tys : List (ClassId × FieldType)) (av : List Value) (ws : va_W) (mc ms : Nat) (Qp : Option Value → va_W → Prop) (Xp : String → va_W → Prop) : Prop :=
  ∀ sz : Nat, vx_Met l y wy rm (gPx tL tH tS D tys av ws sz) (gQ D tys Qp (va_A ws sz)) (gXC D tys Xp (va_A ws sz)) mc ms (va_A ws sz)
theorem g_startX {l : Launch} {y : MethodName} {wy ws' : List Cond} {rm : Room} {tL tH tS : Nat} {D : va_G} {tys : List (ClassId × FieldType)} {av : List Value} {ws : va_W} {mc ms : Nat} {Qp : Option Value → va_W → Prop} {Xp : String → va_W → Prop} {cc : ByteArray} {maxL : Nat} {ret : Option FieldType} {lv : List (Nat × Value)}
    (hy : plainName y.cls = true) (hw : wy = Cond.code y cc maxL ret :: ws') (hl : (lg_sl av).length ≤ maxL) (hlv : lv_args 0 av = lv)
    (body : ∀ p e s m args below meth c A, gX p s m args meth c cc maxL wy y.cls D tys A → gE tL tH tS A s s.heap → (∀ x ∈ c.exceptionTable.toList, False) → meth.sig.returnType = ret → gW p l e rm s m args below meth c D A maxL 0 0 (vx_MQ below (gQ D tys Qp A) (gXC D tys Xp A) args s mc ms A) ws 0 lv []) : gMx l y wy rm tL tH tS D tys av ws mc ms Qp Xp := by
  intro sz
  refine vx_ofW (cc := cc) (maxL := maxL) (ret := ret) hy hw ?_
  intro p e s m args below meth c s₁ B hml htab hv
  obtain ⟨rfl, hsz, hP, hK, hD0, hN, hE⟩ := hv
  have hts := atoms_spec (ws := wy) B.pre
  have hown : s.vm.findClass y.cls = some m.cls := findClass_of_methodNamed (x := y) B.named
  subst hsz
  have hD := hD0.self (sz := s.heap.size)
  have hA : ∀ q : Nat, s.heap.size ≤ q → va_A ws s.heap.size q := fun q h => Or.inr h
  have hlv' := lv_entry av (n := maxL) hl
  rw [lg_entry_eq]
  rw [hlv] at hlv'
  exact body p e s m _ below meth c _ ⟨B.exec, B.bytes, hml, hown, hts, hK, hA, B.notSynchronized, hN⟩ hE htab B.returns s.heap [] _ hP hD va_S.rf hlv'
section GE
variable {p : Program} {l : Launch} {e : Env} {R : Room} {s : State} {m : MethodId} {args : Array Value} {below : List Frame} {meth : Method} {c : Code} {cells slots : Nat} {Q : State → Prop}
variable {cc : ByteArray} {nL : Nat} {Ts : List Cond} {own : String} {D : va_G} {tys : List (ClassId × FieldType)} {A : Nat → Prop} {ws : va_W} {pc : Nat} {lv : List (Nat × Value)} {st : List Value} {tL tH tS : Nat}
theorem g_getsL (X : gX p s m args meth c cc nL Ts own D tys A) (hE : gE tL tH tS A s s.heap) {index : Nat} (hlink : .fieldLink own index "GuideWords" "LOWEST" "[I" ∈ Ts) (hd : decode cc pc = .ok (.getstatic index, 3)) (k : gW p l e R s m args below meth c D A nL cells slots Q ws (pc + 3) lv (.ref tL :: st)) : gW p l e R s m args below meth c D A nL cells slots Q ws pc lv st := by
  intro H locs ls hP hD hS hl
  exact va_gets X.1 X.2.1 hE.2.2.2.2.1 hS X.2.2.2.1 (X.2.2.2.2.1 _ hlink) (fun _ h => h) hd (k H locs ls hP hD hS hl)
theorem g_getsH (X : gX p s m args meth c cc nL Ts own D tys A) (hE : gE tL tH tS A s s.heap) {index : Nat} (hlink : .fieldLink own index "GuideWords" "HIGHEST" "[I" ∈ Ts) (hd : decode cc pc = .ok (.getstatic index, 3)) (k : gW p l e R s m args below meth c D A nL cells slots Q ws (pc + 3) lv (.ref tH :: st)) : gW p l e R s m args below meth c D A nL cells slots Q ws pc lv st := by
  intro H locs ls hP hD hS hl
  exact va_gets X.1 X.2.1 hE.2.2.2.2.2.1 hS X.2.2.2.1 (X.2.2.2.2.1 _ hlink) (fun _ h => h) hd (k H locs ls hP hD hS hl)
theorem g_getsS (X : gX p s m args meth c cc nL Ts own D tys A) (hE : gE tL tH tS A s s.heap) {index : Nat} (hlink : .fieldLink own index "GuideWords" "LINES_OF_SEE" "[I" ∈ Ts) (hd : decode cc pc = .ok (.getstatic index, 3)) (k : gW p l e R s m args below meth c D A nL cells slots Q ws (pc + 3) lv (.ref tS :: st)) : gW p l e R s m args below meth c D A nL cells slots Q ws pc lv st := by
  intro H locs ls hP hD hS hl
  exact va_gets X.1 X.2.1 hE.2.2.2.2.2.2.1 hS X.2.2.2.1 (X.2.2.2.2.1 _ hlink) (fun _ h => h) hd (k H locs ls hP hD hS hl)
/-- an element of a static row -/
theorem g_ti (X : gX p s m args meth c cc nL Ts own D tys A) {t N : Nat} {f : Int → Int} {z : Int} (hT : va_T .int t N (fun j => .int (zA f j)) A s s.heap) (hz : 0 ≤ z ∧ z < N) (hn : (N : Int) ≤ 2147483647) (hd : decode cc pc = .ok (.iaload, 1)) (k : gW p l e R s m args below meth c D A nL cells slots Q ws (pc + 1) lv (.int (iZ (f z)) :: st)) : gW p l e R s m args below meth c D A nL cells slots Q ws pc lv (.int (iZ z) :: .ref t :: st) := by
  intro H locs ls hP hD hS hl
  refine va_ti X.1 X.2.1 hT hS (vp_in_iZ hz hn) (v := .int (iZ (f z))) ?_ hd (k H locs ls hP hD hS hl)
  show Value.int (zA f _) = _
  rw [iZ_clamp (by omega), zA_at f hz.1]
theorem g_tsw (X : gX p s m args meth c cc nL Ts own D tys A) {dflt lo hi : Int} {offs : Array Int} {len : Nat} {z off : Int} (v : Int) (tgt : Nat) (hd : decode cc pc = .ok (.tableswitch dflt lo hi offs, len)) (hz : z = v) (hr : -2147483648 ≤ v ∧ v ≤ 2147483647) (h1 : ¬ v < lo) (h2 : ¬ hi < v) (ho : offs[(v - lo).toNat]? = some off) (ht : (pc : Int) + off = (tgt : Int)) (k : gW p l e R s m args below meth c D A nL cells slots Q ws tgt lv st) : gW p l e R s m args below meth c D A nL cells slots Q ws pc lv (.int (iZ z) :: st) := by
  intro H locs ls hP hD hS hl
  subst hz
  exact lv_tableIn X.1 X.2.1 hd (by rw [iZ_toInt hr]; exact h1) (by rw [iZ_toInt hr]; exact h2) (by rw [iZ_toInt hr]; exact ho) ht (k H locs ls hP hD hS hl)
theorem g_tswO (X : gX p s m args meth c cc nL Ts own D tys A) {dflt lo hi : Int} {offs : Array Int} {len : Nat} {z : Int} (tgt : Nat) (hd : decode cc pc = .ok (.tableswitch dflt lo hi offs, len)) (hr : -2147483648 ≤ z ∧ z ≤ 2147483647) (h : z < lo ∨ hi < z) (ht : (pc : Int) + dflt = (tgt : Int)) (k : gW p l e R s m args below meth c D A nL cells slots Q ws tgt lv st) : gW p l e R s m args below meth c D A nL cells slots Q ws pc lv (.int (iZ z) :: st) := by
  intro H locs ls hP hD hS hl
  exact lv_tableOut X.1 X.2.1 hd (by rw [iZ_toInt hr]; exact h) ht (k H locs ls hP hD hS hl)
theorem g_iretX (X : gX p s m args meth c cc nL Ts own D tys A) {Qp : Option Value → va_W → Prop} {XC : String → State → State → Prop} {mc ms : Nat} {v : Int32} (hr : meth.sig.returnType = some .int) (hc : cells ≤ mc) (hs : slots ≤ ms) (hd : decode cc pc = .ok (.ireturn, 1)) (hq : Qp (some (.int v)) ws) : gW p l e R s m args below meth c D A nL cells slots (vx_MQ below (gQ D tys Qp A) XC args s mc ms A) ws pc lv [.int v] := by
  intro H locs ls hP hD hS hl
  exact vx_ret (g_iret X hr hc hs hd hq H locs ls hP hD hS hl)
theorem g_zretX (X : gX p s m args meth c cc nL Ts own D tys A) {Qp : Option Value → va_W → Prop} {XC : String → State → State → Prop} {mc ms : Nat} {v : Int} (hv : v = 0 ∨ v = 1) (hr : meth.sig.returnType = some .boolean) (hc : cells ≤ mc) (hs : slots ≤ ms) (hd : decode cc pc = .ok (.ireturn, 1)) (hq : Qp (some (.int (iZ v))) ws) : gW p l e R s m args below meth c D A nL cells slots (vx_MQ below (gQ D tys Qp A) XC args s mc ms A) ws pc lv [.int (iZ v)] := by
  intro H locs ls hP hD hS hl
  exact vx_ret (g_zret X hv hr hc hs hd hq H locs ls hP hD hS hl)
theorem g_vretX (X : gX p s m args meth c cc nL Ts own D tys A) {Qp : Option Value → va_W → Prop} {XC : String → State → State → Prop} {mc ms : Nat} (hr : meth.sig.returnType = none) (hc : cells ≤ mc) (hs : slots ≤ ms) (hd : decode cc pc = .ok (.return_, 1)) (hq : Qp none ws) : gW p l e R s m args below meth c D A nL cells slots (vx_MQ below (gQ D tys Qp A) XC args s mc ms A) ws pc lv [] := by
  intro H locs ls hP hD hS hl
  exact vx_ret (g_vret X hr hc hs hd hq H locs ls hP hD hS hl)
/-- throw new cls("text") -/
theorem g_throw (X : gX p s m args meth c cc nL Ts RX4 D tys A) (hE : gE tL tH tS A s s.heap) (hl : l.stackTraces = false) (htab : ∀ x ∈ c.exceptionTable.toList, False) {Qc : Array Value → State → Outcome → State → Prop} {Xp : String → va_W → Prop} {cls text : String} {ik is ic mc ms : Nat}
    (hcls : Bundle.fit cls = true) (hnames : ∀ n ∈ gNm, Bundle.fit n = true) (hk : .classLink RX4 ik cls ∈ Ts) (hini : .initialized cls ∈ Ts) (hstr : (is, text) ∈ gStr) (hgd : ∀ w ∈ (vx_atS RX4 ic cls gNm).filter goodWord, w ∈ Ts) (hbd : ∀ w ∈ (vx_atS RX4 ic cls gNm).filter (fun w => !goodWord w), w ∈ gBad)
    (hgood : ∀ w ∈ Cond.classLink RX4 ik cls :: Cond.initialized cls :: vx_atS RX4 ic cls gNm, vx_ot w = true)
    (d0 : decode cc pc = .ok (.new ik, 3)) (d3 : decode cc (pc + 3) = .ok (.dup, 1)) (d4 : decode cc (pc + 4) = .ok (.ldc is, 2)) (d6 : decode cc (pc + 6) = .ok (.invokespecial ic, 3)) (d9 : decode cc (pc + 9) = .ok (.athrow, 1))
    (hRf : 5 < R.frames) (hRl : (st.map fun v => v.category).sum + 82 ≤ R.locals) (hRc : cells + 1 ≤ R.cells) (hRs : slots + 6 ≤ R.slots) (hc : cells + 1 ≤ mc) (hs : slots + 6 ≤ ms) (hxp : Xp cls ws) :
    gW p l e R s m args below meth c D A nL cells slots (vx_MQ below Qc (gXC D tys Xp A) args s mc ms A) ws pc lv st := by
  intro H locs ls hP hD hS hlv
  obtain ⟨sa, hsa⟩ := hE.2.1 _ hstr
  have hat : ∀ w ∈ vx_atS RX4 ic cls gNm, w.before args s = true := vx_hat (B := gBad) (fun w hw => X.2.2.2.2.1 w (hgd w hw)) hbd (fun w hw => by
    have h9 := gBad_ok w hw
    simp only [Bool.and_eq_true] at h9
    exact (hE.1 w hw).use h9.2)
  refine vx_throwS (A := A) X.1 X.2.1 hl X.2.2.2.1 hcls hnames (X.2.2.2.2.1 _ hk) (X.2.2.2.2.1 _ hini) hsa hat hgood hE.2.2.1 hE.2.2.2.1 hS (by rw [X.2.2.1]; exact hlv.1) d0 d3 d4 d6 d9 (fun x hx => (htab x hx).elim) hRf (by show _ + 82 ≤ _; exact hRl) hRc hRs X.2.2.2.2.2.2.2.1 (fun t hvm hsz hk => ?_) hS.2.2 hc hs
  refine ⟨ws, hxp, hP.kept (fun k q hq => hk q.1 ((hP k q hq).lt)), va_K.moved hvm X.2.2.2.2.2.1, hD, Nat.le_trans hS.1 hsz, fun q h1 h2 => ?_⟩
  rw [hk q (Nat.lt_of_lt_of_le h1 hS.1)]
  exact hS.2.1 q h1 h2
/-- behind a call of a method that may throw -/
theorem g_goX {H H0 : Heap} {locs : List Loc} {mc ms : Nat} {rest st0 : List Value} {a : Array Value} {A1 A0 : Nat → Prop} {ls : Array Slot} {Qp : Option Value → va_W → Prop} {Xp : String → va_W → Prop}
    (hr : vx_Run p l e R s m args below meth c H locs cells slots mc ms (F0 m pc ls st0) rest (gQ D tys Qp A1 a) (gXC D tys Xp A1) A1) (hS : va_S A0 H0 H locs) (hA : ∀ q, A1 q → A0 q)
    (kx : ∀ (E : String) (w1 : va_W) (ce : Cell) (q9 : Addr) (t : State) (H1 : Heap) (locs1 : List Loc), t.heap = H1 → s.vm.Alike t.vm → Xp E w1 → va_P D vwCl w1 H1 → va_D A1 w1 → H.size ≤ H1.size → (∀ q : Nat, q < H.size → ¬ A1 q → H1[q]? = H[q]?) → va_S A0 H0 H1 locs1 → H1[q9]? = some ce → ce.vm = .none → s.vm.findClass E = some ce.cls → vx_W p l e R s m args below meth c H1 locs1 (cells + mc) (slots + ms) Q (F0 m pc ls rest) q9)
    (kk : ∀ (v : Option Value) (w1 : va_W) (t : State) (H1 : Heap) (locs1 : List Loc), t.heap = H1 → s.vm.Alike t.vm → Qp v w1 → va_P D vwCl w1 H1 → va_D A1 w1 → H.size ≤ H1.size → (∀ q : Nat, q < H.size → ¬ A1 q → H1[q]? = H[q]?) → va_S A0 H0 H1 locs1 → W p l e R s m args below meth c H1 locs1 (cells + mc) (slots + ms) Q (F0 m (pc + 3) ls (v.toList ++ rest))) : W p l e R s m args below meth c H locs cells slots Q (F0 m pc ls st0) := by
  intro T hT X
  rcases hr T hT X with ⟨v, st₀, t, T', L, h0, X', hL, e1, e2, ⟨⟨v2, w1, hv, hq, hP1, hK1, hD1⟩, hF⟩, st⟩ | ⟨q, st₀, t, T', L, E, ce, h0, X', hL, e1, e2, ⟨w1, hx, hP1, hK1, hD1, hF⟩, hce, hcv, hcl, st⟩
  · cases hv
    obtain ⟨k1, k2, k3⟩ := vx_keep h0 e1 hS (fun q _ z => hA q z) hA hL hF
    obtain ⟨t2, a1, b1⟩ := kk v w1 t T'.heap (locs ++ L) e1.symm (by rw [← e2]; exact X'.warmed.alike) hq (by rw [e1]; exact hP1) hD1 k1 k2 k3 T' rfl X'
    exact ⟨t2, st t2 a1, b1⟩
  · obtain ⟨k1, k2, k3⟩ := vx_keep h0 e1 hS (fun q _ z => hA q z) hA hL hF
    obtain ⟨t2, a1, b1⟩ := kx E w1 ce q t T'.heap (locs ++ L) e1.symm (by rw [← e2]; exact X'.warmed.alike) hx (by rw [e1]; exact hP1) hD1 k1 k2 k3 (by rw [e1]; exact hce) hcv hcl T' rfl X'
    exact ⟨t2, st.trans a1, b1⟩
/-- a call of a method that may throw, by one without a handler -/
theorem g_callX (X : gX p s m args meth c cc nL Ts own D tys A) (hE : gE tL tH tS A s s.heap) (htab : ∀ x ∈ c.exceptionTable.toList, False) {Qc : Array Value → State → Outcome → State → Prop} {XpM : String → va_W → Prop} {mcM msM : Nat} {y : MethodName} {wy : List Cond} {rm : Room} {C : String} {index maxL mc ms n : Nat} {bytes : ByteArray} {ret : Option FieldType} {As rest : List Value} {wc wr : va_W} {Qp : Option Value → va_W → Prop} {Xp : String → va_W → Prop} {b ci : Nat} {fs : List Value} {T : u_T} {N : Nat}
    (hM : gMx l y wy rm tL tH tS D tys (.ref b :: As) wc mc ms Qp Xp) (cw : CallW R s args own C index y bytes maxL ret wy rm mc ms n) (q0 : Nat) (he : wc[q0]? = some (b, .inr (ci, fs))) (hc : vwCl[ci]? = some (C, T, N)) (isC isR : List Nat) (hC : isC.map (fun i => ws[i]?) = wc.map some) (hR : isR.map (fun i => ws[i]?) = wr.map some) (hnd : va_nd isC = true) (hn : va_nd isR = true) (hdis : ∀ i ∈ isR, i ∉ isC) (hlen : As.length = n) (hst : st = As.reverse ++ .ref b :: rest) (hW : (rest.map fun v => v.category).sum ≤ 8) (hroom : cells + mc ≤ R.cells ∧ slots + ms ≤ R.slots) (hd : decode cc pc = .ok (.invokevirtual index, 3))
    (hmc : cells + mc ≤ mcM) (hms : slots + ms ≤ msM) (kx : ∀ (E : String) (w1 : va_W), Xp E w1 → XpM E (wr ++ w1))
    (k : ∀ (v : Option Value) (w1 : va_W), Qp v w1 → gW p l e R s m args below meth c D A nL (cells + mc) (slots + ms) (vx_MQ below Qc (gXC D tys XpM A) args s mcM msM A) (wr ++ w1) (pc + 3) lv (v.toList ++ rest)) : gW p l e R s m args below meth c D A nL cells slots (vx_MQ below Qc (gXC D tys XpM A) args s mcM msM A) ws pc lv st := by
  intro H locs ls hP hD hS hl
  have hPc : va_P D vwCl wc H := hP.sub isC (by
    have h1 : isC.filterMap (fun i => ws[i]?) = (isC.map (fun i => ws[i]?)).filterMap id := by rw [List.filterMap_map]; rfl
    rw [h1, hC, List.filterMap_map]
    exact List.filterMap_some)
  have hDc := hD.sub isC hnd hC
  have hFc := va_free (wc := wc) hD hS X.2.2.2.2.2.2.1 isC hC
  obtain ⟨hx, hb, hml, hown, hts, hK, hA, hlk, hN⟩ := X
  have hbl : FrameBlind (gPx tL tH tS D tys (.ref b :: As) wc H.size) := fun a U g mk q => by
    obtain ⟨q0, q1, qP, qK, qD, qN, qE⟩ := q
    exact ⟨q0, q1, qP, va_K.moved (u := U) (U := U.calling g mk a) (Vm.Alike.refl U.vm) qK, qD, gN.same (s := U) (U := U.calling g mk a) rfl qN, gE.same (s := U) (U := U.calling g mk a) rfl qE⟩
  have hE2 : gE tL tH tS (va_A wc H.size) s H := (hE.kept (fun a h1 h2 => hS.2.1 a h1 h2)).narrow hFc
  have hpre : ∀ U : State, U.heap = H → s.WarmedH U.vm → gPx tL tH tS D tys (.ref b :: As) wc H.size ((.ref b :: As)).toArray U := fun U hU hW => ⟨rfl, by rw [hU], by rw [hU]; exact hPc, va_K.moved hW.alike hK, hDc.weaken (fun _ _ _ _ => trivial), gN.warm hW hN, by rw [hU]; exact hE2.warm hW⟩
  have hr := vx_runV (g := F0 m pc ls st) (As := As) (rest := rest) ⟨hx, hb, hml, hown, hts⟩ (hM H.size) cw ⟨hbl, va_recv hK hPc hc he, hpre⟩ rfl hlen hl.1 hst (lv_room hW) hd hroom (below := below) (meth := meth) (locs := locs) (e := e)
  refine g_goX hr hS hFc (fun E w1 ce q9 t H1 locs1 ht hvm hxx hP1 hD1 hz hk hS1 hce hcv hcl => ?_) (fun v w1 t H1 locs1 ht hvm hq hP1 hD1 hz hk hS1 => ?_)
  · obtain ⟨hP2, hD2⟩ := va_join (wr := wr) (w1 := w1) hP hD isC isR hC hR hn hdis hk hFc hP1 hD1
    refine vx_out (fun x hx => (htab x hx).elim) hlk hce hcv hcl (fun t2 ht2 hvm2 => ⟨wr ++ w1, kx E w1 hxx, by rw [ht2]; exact hP2, va_K.moved hvm2 hK, hD2, hS1.F ht2⟩) hS1.2.2 hmc hms
  · obtain ⟨hP2, hD2⟩ := va_join (wr := wr) (w1 := w1) hP hD isC isR hC hR hn hdis hk hFc hP1 hD1
    exact k v w1 hq H1 locs1 ls hP2 hD2 hS1 hl
end GE
