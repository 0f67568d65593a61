/-! WRAP: methods that catch, and what the law's own rows need -/
abbrev xIA : String := "java/lang/IllegalArgumentException"
abbrev xIO : String := "java/lang/IndexOutOfBoundsException"
/-- which throw is caught where -/
def gC (U : State) : Prop := va_Nw (.castable xIA xIA) U ∧ va_Nw (.castable xIO xIO) U ∧ va_Nc xIA xIO U
theorem gC.warm {s U : State} (hW : s.WarmedH U.vm) (h : gC s) : gC U := ⟨va_Nw.warmC hW h.1, va_Nw.warmC hW h.2.1, va_Nc.moved hW.alike h.2.2⟩
theorem gC.same {s U : State} (hv : s.vm = U.vm) (h : gC s) : gC U := ⟨va_Nw.same rfl hv h.1, va_Nw.same rfl hv h.2.1, va_Nc.moved (by rw [← hv]; exact Vm.Alike.refl _) h.2.2⟩
def gPw (tL tH tS : Nat) (D : va_G) (tys : List (ClassId × FieldType)) (av : List Value) (ws : va_W) (sz : Nat) : Array Value → State → Prop := va_Pc av (fun U => U.heap.size = sz ∧ va_P D vwCl ws U.heap ∧ va_K D vwCl tys U ∧ va_D (fun _ => True) ws ∧ gN U ∧ gE tL tH tS (va_A ws sz) U U.heap ∧ gC U)
def gNo : String → va_W → Prop := fun _ _ => False
/-- a method that calls what may throw, and catches all of it -/
def gMw (l : Launch) (y : MethodName) (wy : List Cond) (rm : Room) (tL tH tS : Nat) (D : va_G) (tys : List (ClassId × FieldType)) (av : List Value) (ws : va_W) (mc ms : Nat) (Qp : Option Value → va_W → Prop) : Prop :=
  ∀ sz : Nat, vx_Met l y wy rm (gPw tL tH tS D tys av ws sz) (gQ D tys Qp (va_A ws sz)) (gXC D tys gNo (va_A ws sz)) mc ms (va_A ws sz)
theorem g_startW {l : Launch} {y : MethodName} {wy ws' : List Cond} {rm : Room} {tL tH tS : Nat} {D : va_G} {tys : List (ClassId × FieldType)} {av : List Value} {ws : va_W} {mc ms : Nat} {Qp : Option Value → va_W → Prop} {cc : ByteArray} {maxL : Nat} {ret : Option FieldType} {hh : List (Nat × Nat × Nat × Nat)} {lv : List (Nat × Value)}
    (hy : plainName y.cls = true) (hw : wy = Cond.codeWith y cc maxL ret hh :: ws') (hl : (lg_sl av).length ≤ maxL) (hlv : lv_args 0 av = lv)
    (body : ∀ p e s m args below meth c A, gX p s m args meth c cc maxL wy y.cls D tys A → gE tL tH tS A s s.heap → gC s → c.exceptionTable.toList = tableOf hh → meth.sig.returnType = ret → gW p l e rm s m args below meth c D A maxL 0 0 (vx_MQ below (gQ D tys Qp A) (gXC D tys gNo A) args s mc ms A) ws 0 lv []) : gMw l y wy rm tL tH tS D tys av ws mc ms Qp := by
  intro sz
  refine vx_ofWH (cc := cc) (maxL := maxL) (ret := ret) (hh := hh) hy hw ?_
  intro p e s m args below meth c s₁ B hml hv
  obtain ⟨rfl, hsz, hP, hK, hD0, hN, hE, hC⟩ := hv
  have hts := atoms_spec (ws := wy) B.pre
  have htab : c.exceptionTable.toList = tableOf hh := vx_table (x := y) B (hts _ (by rw [hw]; exact List.mem_cons_self))
  have hown : s.vm.findClass y.cls = some m.cls := findClass_of_methodNamed (x := y) B.named
  subst hsz
  have hD := hD0.self (sz := s.heap.size)
  have hA : ∀ q : Nat, s.heap.size ≤ q → va_A ws s.heap.size q := fun q h => Or.inr h
  have hlv' := lv_entry av (n := maxL) hl
  rw [lg_entry_eq]
  rw [hlv] at hlv'
  exact body p e s m _ below meth c _ ⟨B.exec, B.bytes, hml, hown, hts, hK, hA, B.notSynchronized, hN⟩ hE hC htab B.returns s.heap [] _ hP hD va_S.rf hlv'
section GWr
variable {p : Program} {l : Launch} {e : Env} {R : Room} {s : State} {m : MethodId} {args : Array Value} {below : List Frame} {meth : Method} {c : Code} {cells slots : Nat} {Q : State → Prop}
variable {cc : ByteArray} {nL : Nat} {Ts : List Cond} {own : String} {D : va_G} {tys : List (ClassId × FieldType)} {A : Nat → Prop} {ws : va_W} {pc : Nat} {lv : List (Nat × Value)} {st : List Value} {tL tH tS : Nat}
/-- what is to be shown of a throw of E that is caught at a handler -/
def gCat (p : Program) (l : Launch) (e : Env) (R : Room) (s : State) (m : MethodId) (args : Array Value) (below : List Frame) (meth : Method) (c : Code) (own : String) (D : va_G) (A : Nat → Prop) (nL cells slots : Nat) (Q : State → Prop) (ws : va_W) (pc : Nat) (lv : List (Nat × Value)) (E : String) : Prop :=
  ∃ (pre : List ExceptionTableEntry) (x : ExceptionTableEntry) (suf : List ExceptionTableEntry) (name : String), c.exceptionTable.toList = pre ++ x :: suf ∧ (∀ z ∈ pre, covers z pc = false ∨ (z.catchType ≠ 0 ∧ ∃ nm : String, (Cond.classLink own z.catchType nm).before args s = true ∧ va_Nc E nm s)) ∧ covers x pc = true ∧ x.catchType ≠ 0 ∧ (Cond.classLink own x.catchType name).before args s = true ∧ (Cond.castable E name).before args s = true ∧ ∀ q9 : Nat, gW p l e R s m args below meth c D A nL cells slots Q ws x.handlerPc lv [.ref q9]
/-- a call of a method that may throw, by one with handlers -/
theorem g_callXH (X : gX p s m args meth c cc nL Ts own D tys A) (hE : gE tL tH tS A s s.heap) {y : MethodName} {wy : List Cond} {rm : Room} {C : String} {index maxL mc ms n : Nat} {bytes : ByteArray} {ret : Option FieldType} {As rest : List Value} {wc wr : va_W} {Qp : Option Value → va_W → Prop} {Xp : String → va_W → Prop} {b ci : Nat} {fs : List Value} {T : u_T} {N : Nat}
    (hM : gMx l y wy rm tL tH tS D tys (.ref b :: As) wc mc ms Qp Xp) (cw : CallW R s args own C index y bytes maxL ret wy rm mc ms n) (q0 : Nat) (he : wc[q0]? = some (b, .inr (ci, fs))) (hc : vwCl[ci]? = some (C, T, N)) (isC isR : List Nat) (hC : isC.map (fun i => ws[i]?) = wc.map some) (hR : isR.map (fun i => ws[i]?) = wr.map some) (hnd : va_nd isC = true) (hn : va_nd isR = true) (hdis : ∀ i ∈ isR, i ∉ isC) (hlen : As.length = n) (hst : st = As.reverse ++ .ref b :: rest) (hW : (rest.map fun v => v.category).sum ≤ 8) (hroom : cells + mc ≤ R.cells ∧ slots + ms ≤ R.slots) (hd : decode cc pc = .ok (.invokevirtual index, 3))
    (kx : ∀ (E : String) (w1 : va_W), Xp E w1 → gCat p l e R s m args below meth c own D A nL (cells + mc) (slots + ms) Q (wr ++ w1) pc lv E)
    (k : ∀ (v : Option Value) (w1 : va_W), Qp v w1 → gW p l e R s m args below meth c D A nL (cells + mc) (slots + ms) Q (wr ++ w1) (pc + 3) lv (v.toList ++ rest)) : gW p l e R s m args below meth c D A nL cells slots Q ws pc lv st := by
  intro H locs ls hP hD hS hl
  have hPc : va_P D vwCl wc H := hP.sub isC (by
    have h1 : isC.filterMap (fun i => ws[i]?) = (isC.map (fun i => ws[i]?)).filterMap id := by rw [List.filterMap_map]; rfl
    rw [h1, hC, List.filterMap_map]
    exact List.filterMap_some)
  have hDc := hD.sub isC hnd hC
  have hFc := va_free (wc := wc) hD hS X.2.2.2.2.2.2.1 isC hC
  obtain ⟨hx, hb, hml, hown, hts, hK, hA, hlk, hN⟩ := X
  have hbl : FrameBlind (gPx tL tH tS D tys (.ref b :: As) wc H.size) := fun a U g mk q => by
    obtain ⟨q0, q1, qP, qK, qD, qN, qE⟩ := q
    exact ⟨q0, q1, qP, va_K.moved (u := U) (U := U.calling g mk a) (Vm.Alike.refl U.vm) qK, qD, gN.same (s := U) (U := U.calling g mk a) rfl qN, gE.same (s := U) (U := U.calling g mk a) rfl qE⟩
  have hE2 : gE tL tH tS (va_A wc H.size) s H := (hE.kept (fun a h1 h2 => hS.2.1 a h1 h2)).narrow hFc
  have hpre : ∀ U : State, U.heap = H → s.WarmedH U.vm → gPx tL tH tS D tys (.ref b :: As) wc H.size ((.ref b :: As)).toArray U := fun U hU hW => ⟨rfl, by rw [hU], by rw [hU]; exact hPc, va_K.moved hW.alike hK, hDc.weaken (fun _ _ _ _ => trivial), gN.warm hW hN, by rw [hU]; exact hE2.warm hW⟩
  have hr := vx_runV (g := F0 m pc ls st) (As := As) (rest := rest) ⟨hx, hb, hml, hown, hts⟩ (hM H.size) cw ⟨hbl, va_recv hK hPc hc he, hpre⟩ rfl hlen hl.1 hst (lv_room hW) hd hroom (below := below) (meth := meth) (locs := locs) (e := e)
  refine g_goX hr hS hFc (fun E w1 ce q9 t H1 locs1 ht hvm hxx hP1 hD1 hz hk hS1 hce hcv hcl => ?_) (fun v w1 t H1 locs1 ht hvm hq hP1 hD1 hz hk hS1 => ?_)
  · obtain ⟨hP2, hD2⟩ := va_join (wr := wr) (w1 := w1) hP hD isC isR hC hR hn hdis hk hFc hP1 hD1
    obtain ⟨pre, x, suf, name, g1, g2, g3, g4, g5, g6, g7⟩ := kx E w1 hxx
    exact vx_catch hown pre x suf g1 g2 g3 g4 g5 g6 hce hcv hcl (g7 q9 H1 locs1 ls hP2 hD2 hS1 hl)
  · obtain ⟨hP2, hD2⟩ := va_join (wr := wr) (w1 := w1) hP hD isC isR hC hR hn hdis hk hFc hP1 hD1
    exact k v w1 hq H1 locs1 ls hP2 hD2 hS1 hl
/-- a static call of a method that catches all -/
theorem g_callSW (X : gX p s m args meth c cc nL Ts own D tys A) (hE : gE tL tH tS A s s.heap) (hCc : gC s) {y : MethodName} {wy : List Cond} {rm : Room} {index maxL mc ms n : Nat} {bytes : ByteArray} {ret : Option FieldType} {hh : List (Nat × Nat × Nat × Nat)} {As rest : List Value} {wc wr : va_W} {Qp : Option Value → va_W → Prop}
    (hM : gMw l y wy rm tL tH tS D tys As wc mc ms Qp) (cw : vx_CSW R s args own index y bytes maxL ret hh wy rm mc ms n) (isC isR : List Nat) (hC : isC.map (fun i => ws[i]?) = wc.map some) (hR : isR.map (fun i => ws[i]?) = wr.map some) (hnd : va_nd isC = true) (hn : va_nd isR = true) (hdis : ∀ i ∈ isR, i ∉ isC) (hlen : As.length = n) (hst : st = As.reverse ++ rest) (hW : (rest.map fun v => v.category).sum ≤ 8) (hroom : cells + mc ≤ R.cells ∧ slots + ms ≤ R.slots) (hd : decode cc pc = .ok (.invokestatic index, 3))
    (k : ∀ (v : Option Value) (w1 : va_W), Qp v w1 → gW p l e R s m args below meth c D A nL (cells + mc) (slots + ms) Q (wr ++ w1) (pc + 3) lv (v.toList ++ rest)) : gW p l e R s m args below meth c D A nL cells slots Q ws pc lv st := by
  intro H locs ls hP hD hS hl
  have hPc : va_P D vwCl wc H := hP.sub isC (by
    have h1 : isC.filterMap (fun i => ws[i]?) = (isC.map (fun i => ws[i]?)).filterMap id := by rw [List.filterMap_map]; rfl
    rw [h1, hC, List.filterMap_map]
    exact List.filterMap_some)
  have hDc := hD.sub isC hnd hC
  have hFc := va_free (wc := wc) hD hS X.2.2.2.2.2.2.1 isC hC
  obtain ⟨hx, hb, hml, hown, hts, hK, hA, hlk, hN⟩ := X
  have hbl : FrameBlind (gPw tL tH tS D tys As wc H.size) := fun a U g mk q => by
    obtain ⟨q0, q1, qP, qK, qD, qN, qE, qC⟩ := q
    exact ⟨q0, q1, qP, va_K.moved (u := U) (U := U.calling g mk a) (Vm.Alike.refl U.vm) qK, qD, gN.same (s := U) (U := U.calling g mk a) rfl qN, gE.same (s := U) (U := U.calling g mk a) rfl qE, gC.same (s := U) (U := U.calling g mk a) rfl qC⟩
  have hE2 : gE tL tH tS (va_A wc H.size) s H := (hE.kept (fun a h1 h2 => hS.2.1 a h1 h2)).narrow hFc
  have hpre : ∀ U : State, U.heap = H → s.WarmedH U.vm → gPw tL tH tS D tys As wc H.size As.toArray U := fun U hU hW => ⟨rfl, by rw [hU], by rw [hU]; exact hPc, va_K.moved hW.alike hK, hDc.weaken (fun _ _ _ _ => trivial), gN.warm hW hN, by rw [hU]; exact hE2.warm hW, gC.warm hW hCc⟩
  have hr := vx_runSX (g := F0 m pc ls st) (As := As) (rest := rest) ⟨hx, hb, hml, hown, hts⟩ (hM H.size) cw ⟨hbl, hpre⟩ rfl hlen hl.1 hst (lv_room hW) hd hroom (below := below) (meth := meth) (locs := locs) (e := e)
  refine g_goX hr hS hFc (fun E w1 ce q9 t H1 locs1 ht hvm hxx hP1 hD1 hz hk hS1 hce hcv hcl => hxx.elim) (fun v w1 t H1 locs1 ht hvm hq hP1 hD1 hz hk hS1 => ?_)
  obtain ⟨hP2, hD2⟩ := va_join (wr := wr) (w1 := w1) hP hD isC isR hC hR hn hdis hk hFc hP1 hD1
  exact k v w1 hq H1 locs1 ls hP2 hD2 hS1 hl
/-- the script -/
def xzF (xs : Nat → Int32) (z : Int) : Int := (xs z.toNat).toInt
theorem xzF_r (xs : Nat → Int32) (z : Int) : -2147483648 ≤ xzF xs z ∧ xzF xs z ≤ 2147483647 := iZ_rng _
theorem g_sld (X : gX p s m args meth c cc nL Ts own D tys A) {b L : Nat} {xs : Nat → Int32} {z : Int} (hX : va_X b L xs s s.heap) (hbl : b < s.heap.size) (hbA : ¬ A b) (hz : 0 ≤ z ∧ z < L) (hL : (L : Int) ≤ 2147483647) (hd : decode cc pc = .ok (.iaload, 1)) (k : gW p l e R s m args below meth c D A nL cells slots Q ws (pc + 1) lv (.int (iZ (xzF xs z)) :: st)) : gW p l e R s m args below meth c D A nL cells slots Q ws pc lv (.int (iZ z) :: .ref b :: st) := by
  intro H locs ls hP hD hS hl
  refine va_sld X.1 X.2.1 hX hbl hbA hS (vp_in_iZ hz hL) hd ?_
  rw [iZ_clamp (by omega), iZ_of (xs z.toNat)]
  exact k H locs ls hP hD hS hl
theorem g_slen (X : gX p s m args meth c cc nL Ts own D tys A) {b L : Nat} {xs : Nat → Int32} (hX : va_X b L xs s s.heap) (hbl : b < s.heap.size) (hbA : ¬ A b) (hd : decode cc pc = .ok (.arraylength, 1)) (k : gW p l e R s m args below meth c D A nL cells slots Q ws (pc + 1) lv (.int (iZ (L : Int)) :: st)) : gW p l e R s m args below meth c D A nL cells slots Q ws pc lv (.ref b :: st) := by
  intro H locs ls hP hD hS hl
  refine va_slen X.1 X.2.1 hX hbl hbA hS hd ?_
  have e : Int32.ofNat L = iZ (L : Int) := nI_iZ L
  rw [e]
  exact k H locs ls hP hD hS hl
end GWr
theorem iZ_cz (z : Int) : z = z ∧ iZ z = iZ (cz z) := ⟨rfl, iZ_of (iZ z)⟩
theorem cz_r (z : Int) : -2147483648 ≤ cz z ∧ cz z ≤ 2147483647 := iZ_rng (iZ z)
theorem g_topc {p : Program} {l : Launch} {e : Env} {R : Room} {s : State} {m : MethodId} {args : Array Value} {below : List Frame} {meth : Method} {c : Code} {cells slots : Nat} {Q : State → Prop} {nL : Nat} {D : va_G} {A : Nat → Prop} {ws : va_W} {pc : Nat} {lv : List (Nat × Value)} {st : List Value} {a : Int} (k : gW p l e R s m args below meth c D A nL cells slots Q ws pc lv (.int (iZ (cz a)) :: st)) : gW p l e R s m args below meth c D A nL cells slots Q ws pc lv (.int (iZ a) :: st) := by
  rw [(iZ_cz a).2]; exact k
