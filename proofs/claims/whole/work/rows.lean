section
-- ===== PART A: goes FIRST, ahead of the names: the tables' words, and 'selects' of the private methods out of them =====
/-- a private method of a class that the tables say can be made, by its rows of tables_1 -/
def lw_okq (q : MethodName × Nat) : Prop := (q.1.cls ≠ "java/lang/invoke/MethodHandle" ∧ q.1.cls ≠ "java/lang/invoke/VarHandle") ∧ Cond.instantiable q.1.cls q.2 ∈ tables_1 ∧ Cond.privateMethod q.1 ∈ tables_1 ∧ Cond.instanceMethod q.1 ∈ tables_1
theorem lw_p0 : lw_okq (⟨"GuideWords$Typesetter", "gather", "(LGuideWords$Lexicon;LGuideWords$Setting;)V"⟩, 5) := ⟨⟨by decide +kernel, by decide +kernel⟩, List.mem_of_getElem? (i := 79) (by decide +kernel), List.mem_of_getElem? (i := 202) (by decide +kernel), List.mem_of_getElem? (i := 203) (by decide +kernel)⟩
theorem lw_p1 : lw_okq (⟨"GuideWords$Typesetter", "weigh", "(II)I"⟩, 5) := ⟨⟨by decide +kernel, by decide +kernel⟩, List.mem_of_getElem? (i := 79) (by decide +kernel), List.mem_of_getElem? (i := 216) (by decide +kernel), List.mem_of_getElem? (i := 217) (by decide +kernel)⟩
theorem lw_p2 : lw_okq (⟨"GuideWords$Typesetter", "placeBehind", "(I)I"⟩, 5) := ⟨⟨by decide +kernel, by decide +kernel⟩, List.mem_of_getElem? (i := 79) (by decide +kernel), List.mem_of_getElem? (i := 220) (by decide +kernel), List.mem_of_getElem? (i := 221) (by decide +kernel)⟩
theorem lw_p3 : lw_okq (⟨"GuideWords$Typesetter", "weightOf", "(III)J"⟩, 5) := ⟨⟨by decide +kernel, by decide +kernel⟩, List.mem_of_getElem? (i := 79) (by decide +kernel), List.mem_of_getElem? (i := 225) (by decide +kernel), List.mem_of_getElem? (i := 226) (by decide +kernel)⟩
theorem lw_p4 : lw_okq (⟨"GuideWords$Typesetter", "layOut", "(LGuideWords$Setting;)V"⟩, 5) := ⟨⟨by decide +kernel, by decide +kernel⟩, List.mem_of_getElem? (i := 79) (by decide +kernel), List.mem_of_getElem? (i := 230) (by decide +kernel), List.mem_of_getElem? (i := 231) (by decide +kernel)⟩
theorem lw_p5 : lw_okq (⟨"GuideWords$Setting", "likePage", "(LGuideWords$Setting;I)Z"⟩, 8) := ⟨⟨by decide +kernel, by decide +kernel⟩, List.mem_of_getElem? (i := 101) (by decide +kernel), List.mem_of_getElem? (i := 249) (by decide +kernel), List.mem_of_getElem? (i := 250) (by decide +kernel)⟩
theorem lw_p6 : lw_okq (⟨"GuideWords$Setting", "firstColumn", "(I)I"⟩, 8) := ⟨⟨by decide +kernel, by decide +kernel⟩, List.mem_of_getElem? (i := 101) (by decide +kernel), List.mem_of_getElem? (i := 253) (by decide +kernel), List.mem_of_getElem? (i := 254) (by decide +kernel)⟩
theorem lw_p7 : lw_okq (⟨"GuideWords$Setting", "endColumn", "(I)I"⟩, 8) := ⟨⟨by decide +kernel, by decide +kernel⟩, List.mem_of_getElem? (i := 101) (by decide +kernel), List.mem_of_getElem? (i := 260) (by decide +kernel), List.mem_of_getElem? (i := 261) (by decide +kernel)⟩
theorem lw_p8 : lw_okq (⟨"GuideWords$Setting", "likeColumn", "(ILGuideWords$Setting;I)Z"⟩, 8) := ⟨⟨by decide +kernel, by decide +kernel⟩, List.mem_of_getElem? (i := 101) (by decide +kernel), List.mem_of_getElem? (i := 264) (by decide +kernel), List.mem_of_getElem? (i := 265) (by decide +kernel)⟩
theorem lw_p9 : lw_okq (⟨"java/lang/Throwable", "fillInStackTrace", "(I)Ljava/lang/Throwable;"⟩, 6) := ⟨⟨by decide +kernel, by decide +kernel⟩, List.mem_of_getElem? (i := 332) (by decide +kernel), List.mem_of_getElem? (i := 330) (by decide +kernel), List.mem_of_getElem? (i := 331) (by decide +kernel)⟩
theorem lw_p10 : lw_okq (⟨"GuideWords$Lexicon", "headsBelow", "(J)I"⟩, 9) := ⟨⟨by decide +kernel, by decide +kernel⟩, List.mem_of_getElem? (i := 37) (by decide +kernel), List.mem_of_getElem? (i := 395) (by decide +kernel), List.mem_of_getElem? (i := 396) (by decide +kernel)⟩
theorem lw_p11 : lw_okq (⟨"GuideWords", "checkEntry", "(I)V"⟩, 10) := ⟨⟨by decide +kernel, by decide +kernel⟩, List.mem_of_getElem? (i := 15) (by decide +kernel), List.mem_of_getElem? (i := 416) (by decide +kernel), List.mem_of_getElem? (i := 417) (by decide +kernel)⟩
theorem lw_p12 : lw_okq (⟨"GuideWords$Lexicon", "firstWith", "(J)I"⟩, 9) := ⟨⟨by decide +kernel, by decide +kernel⟩, List.mem_of_getElem? (i := 37) (by decide +kernel), List.mem_of_getElem? (i := 451) (by decide +kernel), List.mem_of_getElem? (i := 452) (by decide +kernel)⟩
theorem lw_p13 : lw_okq (⟨"GuideWordsModel", "bad", "(ZI)Z"⟩, 46) := ⟨⟨by decide +kernel, by decide +kernel⟩, List.mem_of_getElem? (i := 519) (by decide +kernel), List.mem_of_getElem? (i := 672) (by decide +kernel), List.mem_of_getElem? (i := 673) (by decide +kernel)⟩
theorem lw_p14 : lw_okq (⟨"GuideWordsModel", "isHead", "(II)Z"⟩, 46) := ⟨⟨by decide +kernel, by decide +kernel⟩, List.mem_of_getElem? (i := 519) (by decide +kernel), List.mem_of_getElem? (i := 688) (by decide +kernel), List.mem_of_getElem? (i := 689) (by decide +kernel)⟩
theorem lw_p15 : lw_okq (⟨"GuideWordsModel", "head", "([IIII)V"⟩, 46) := ⟨⟨by decide +kernel, by decide +kernel⟩, List.mem_of_getElem? (i := 519) (by decide +kernel), List.mem_of_getElem? (i := 692) (by decide +kernel), List.mem_of_getElem? (i := 693) (by decide +kernel)⟩
def lw_privs_1 : List (MethodName × Nat) := [(⟨"GuideWords$Typesetter", "gather", "(LGuideWords$Lexicon;LGuideWords$Setting;)V"⟩, 5), (⟨"GuideWords$Typesetter", "weigh", "(II)I"⟩, 5), (⟨"GuideWords$Typesetter", "placeBehind", "(I)I"⟩, 5), (⟨"GuideWords$Typesetter", "weightOf", "(III)J"⟩, 5), (⟨"GuideWords$Typesetter", "layOut", "(LGuideWords$Setting;)V"⟩, 5), (⟨"GuideWords$Setting", "likePage", "(LGuideWords$Setting;I)Z"⟩, 8), (⟨"GuideWords$Setting", "firstColumn", "(I)I"⟩, 8), (⟨"GuideWords$Setting", "endColumn", "(I)I"⟩, 8), (⟨"GuideWords$Setting", "likeColumn", "(ILGuideWords$Setting;I)Z"⟩, 8), (⟨"java/lang/Throwable", "fillInStackTrace", "(I)Ljava/lang/Throwable;"⟩, 6), (⟨"GuideWords$Lexicon", "headsBelow", "(J)I"⟩, 9), (⟨"GuideWords", "checkEntry", "(I)V"⟩, 10), (⟨"GuideWords$Lexicon", "firstWith", "(J)I"⟩, 9), (⟨"GuideWordsModel", "bad", "(ZI)Z"⟩, 46), (⟨"GuideWordsModel", "isHead", "(II)Z"⟩, 46), (⟨"GuideWordsModel", "head", "([IIII)V"⟩, 46)]
theorem lw_r1 : ∀ q ∈ lw_privs_1, lw_okq q := List.forall_mem_cons.mpr ⟨lw_p0, List.forall_mem_cons.mpr ⟨lw_p1, List.forall_mem_cons.mpr ⟨lw_p2, List.forall_mem_cons.mpr ⟨lw_p3, List.forall_mem_cons.mpr ⟨lw_p4, List.forall_mem_cons.mpr ⟨lw_p5, List.forall_mem_cons.mpr ⟨lw_p6, List.forall_mem_cons.mpr ⟨lw_p7, List.forall_mem_cons.mpr ⟨lw_p8, List.forall_mem_cons.mpr ⟨lw_p9, List.forall_mem_cons.mpr ⟨lw_p10, List.forall_mem_cons.mpr ⟨lw_p11, List.forall_mem_cons.mpr ⟨lw_p12, List.forall_mem_cons.mpr ⟨lw_p13, List.forall_mem_cons.mpr ⟨lw_p14, List.forall_mem_cons.mpr ⟨lw_p15, fun _ h => absurd h List.not_mem_nil⟩⟩⟩⟩⟩⟩⟩⟩⟩⟩⟩⟩⟩⟩⟩⟩
theorem lw_p16 : lw_okq (⟨"GuideWordsModel", "comes", "(Z)I"⟩, 46) := ⟨⟨by decide +kernel, by decide +kernel⟩, List.mem_of_getElem? (i := 519) (by decide +kernel), List.mem_of_getElem? (i := 696) (by decide +kernel), List.mem_of_getElem? (i := 697) (by decide +kernel)⟩
theorem lw_p17 : lw_okq (⟨"GuideWordsModel", "isEntry", "(I)Z"⟩, 46) := ⟨⟨by decide +kernel, by decide +kernel⟩, List.mem_of_getElem? (i := 519) (by decide +kernel), List.mem_of_getElem? (i := 708) (by decide +kernel), List.mem_of_getElem? (i := 709) (by decide +kernel)⟩
theorem lw_p18 : lw_okq (⟨"GuideWordsModel", "sorts", "()V"⟩, 46) := ⟨⟨by decide +kernel, by decide +kernel⟩, List.mem_of_getElem? (i := 519) (by decide +kernel), List.mem_of_getElem? (i := 716) (by decide +kernel), List.mem_of_getElem? (i := 717) (by decide +kernel)⟩
theorem lw_p19 : lw_okq (⟨"GuideWordsModel", "makes", "()V"⟩, 46) := ⟨⟨by decide +kernel, by decide +kernel⟩, List.mem_of_getElem? (i := 519) (by decide +kernel), List.mem_of_getElem? (i := 731) (by decide +kernel), List.mem_of_getElem? (i := 732) (by decide +kernel)⟩
theorem lw_p20 : lw_okq (⟨"GuideWordsModel", "best", "(II)V"⟩, 46) := ⟨⟨by decide +kernel, by decide +kernel⟩, List.mem_of_getElem? (i := 519) (by decide +kernel), List.mem_of_getElem? (i := 735) (by decide +kernel), List.mem_of_getElem? (i := 736) (by decide +kernel)⟩
theorem lw_p21 : lw_okq (⟨"GuideWordsModel", "isAlike", "(I)Z"⟩, 46) := ⟨⟨by decide +kernel, by decide +kernel⟩, List.mem_of_getElem? (i := 519) (by decide +kernel), List.mem_of_getElem? (i := 740) (by decide +kernel), List.mem_of_getElem? (i := 741) (by decide +kernel)⟩
theorem lw_p22 : lw_okq (⟨"GuideWordsModel", "counts", "()I"⟩, 46) := ⟨⟨by decide +kernel, by decide +kernel⟩, List.mem_of_getElem? (i := 519) (by decide +kernel), List.mem_of_getElem? (i := 764) (by decide +kernel), List.mem_of_getElem? (i := 765) (by decide +kernel)⟩
def lw_privs_2 : List (MethodName × Nat) := [(⟨"GuideWordsModel", "comes", "(Z)I"⟩, 46), (⟨"GuideWordsModel", "isEntry", "(I)Z"⟩, 46), (⟨"GuideWordsModel", "sorts", "()V"⟩, 46), (⟨"GuideWordsModel", "makes", "()V"⟩, 46), (⟨"GuideWordsModel", "best", "(II)V"⟩, 46), (⟨"GuideWordsModel", "isAlike", "(I)Z"⟩, 46), (⟨"GuideWordsModel", "counts", "()I"⟩, 46)]
theorem lw_r2 : ∀ q ∈ lw_privs_2, lw_okq q := List.forall_mem_cons.mpr ⟨lw_p16, List.forall_mem_cons.mpr ⟨lw_p17, List.forall_mem_cons.mpr ⟨lw_p18, List.forall_mem_cons.mpr ⟨lw_p19, List.forall_mem_cons.mpr ⟨lw_p20, List.forall_mem_cons.mpr ⟨lw_p21, List.forall_mem_cons.mpr ⟨lw_p22, fun _ h => absurd h List.not_mem_nil⟩⟩⟩⟩⟩⟩⟩
def lw_privs : List (MethodName × Nat) := lw_privs_1 ++ (lw_privs_2)
def lw_tbl : List Cond := k2_sels lw_privs ++ tables_1
theorem lw_privs_ok : ∀ q ∈ lw_privs, lw_okq q := by
  show ∀ q ∈ lw_privs_1 ++ (lw_privs_2), lw_okq q
  exact List.forall_mem_append.mpr ⟨lw_r1, lw_r2⟩
-- ===== end of PART A; then your names; then what follows =====
end
section
/-! ===== BEGIN words of one list among another's, by their places ===== -/
theorem goodIn_r {big : List Cond} (ws : List Cond) (ps : List Nat) (hp : ws = ps.filterMap (fun i => big[i]?)) (h : ws.all goodWord = true) : GoodIn big ws := by
  intro w hw
  have h1 := List.all_eq_true.mp h w hw
  rw [hp] at hw
  obtain ⟨i, -, hi⟩ := List.mem_filterMap.mp hw
  have hm : w ∈ big := by first | exact List.mem_of_getElem? hi | exact List.getElem?_mem hi
  exact ⟨hm, good_of_word h1⟩
theorem goodIn_app {big a b : List Cond} (ha : GoodIn big a) (hb : GoodIn big b) : GoodIn big (a ++ b) := fun w h => (List.mem_append.mp h).elim (ha w) (hb w)
theorem goodIn_ca {big a b : List Cond} {c : Cond} (ha : GoodIn big (c :: a)) (hb : GoodIn big b) : GoodIn big (c :: (a ++ b)) := fun w h => (List.mem_cons.mp h).elim (fun e => ha w (List.mem_cons.mpr (Or.inl e))) (fun h => (List.mem_append.mp h).elim (fun h => ha w (List.mem_cons.mpr (Or.inr h))) (hb w))
theorem goodIn_sub {big ws : List Cond} (hm : ∀ w ∈ ws, w ∈ big) (h : ws.all goodWord = true) : GoodIn big ws := fun w hw => ⟨hm w hw, good_of_word (List.all_eq_true.mp h w hw)⟩
/-! ===== END ===== -/

/-! ===== BEGIN exceptions that leave a method, and their catching by the caller (launches without stack traces) ===== -/
section VXA
/-! The laws vx_back, vx_callV, vx_callS, vx_callSW, vx_throw0, vx_throwS follow proofs of the library, with one case more: JvmDerived/Free/Laws.lean (Back.of_free), Shelf42/LK1.lean (callV, callS), Shelf/KitTraced.lean (throwNew0V, throwNewS). -/
/-- where a method has thrown q: the class by its name, the cell, what was written, the world -/
def vx_T (XC : String → State → State → Prop) (st : State) (q : Addr) (t : State) (mc ms : Nat) (free : Addr → Prop) : Prop :=
  ∃ (E : String) (ce : Cell) (L : List Loc), XC E st t ∧ t.heap[q]? = some ce ∧ ce.vm = .none ∧ st.vm.findClass E = some ce.cls ∧ st.WarmedH t.vm ∧ st.sameButNew ({ t with vm := st.vm } : State) L mc ms ∧ ∀ z ∈ L, free z.base
def vx_Q (Qc : Array Value → State → Outcome → State → Prop) (XC : String → State → State → Prop) (mc ms : Nat) (free : Addr → Prop) : Array Value → State → Outcome → State → Prop := fun a st o t =>
  (Qc a st o t ∧ ∃ L, FrameEnd st o t L mc ms ∧ ∀ q ∈ L, free q.base) ∨ ∃ q, o = .threw q ∧ vx_T XC st q t mc ms free
/-- a callee that returns or throws -/
def vx_Met (l : Launch) (y : MethodName) (ws : List Cond) (rm : Room) (Pc : Array Value → State → Prop) (Qc : Array Value → State → Outcome → State → Prop) (XC : String → State → State → Prop) (mc ms : Nat) (free : Addr → Prop) : Prop :=
  MetFree l y (headSpec ws rm) Pc (fun _ _ _ _ _ => True) (vx_Q Qc XC mc ms free)
def vx_Post (XC : String → State → State → Prop) (mc ms : Nat) (free : Addr → Prop) : Pt → Array Value → Addr → Pt → Prop := fun A a q B =>
  ∃ (g : JFrame) (mk : MethodId) (t : State) (L : List Loc) (E : String) (ce : Cell), B.U.heap = t.heap ∧ B.U.vm = t.vm ∧ XC E (A.U.calling g mk a) t ∧ t.heap[q]? = some ce ∧ ce.vm = .none ∧ A.U.vm.findClass E = some ce.cls ∧ B.locs = A.locs ++ L ∧ (∀ z ∈ L, free z.base) ∧ B.cells = A.cells + mc ∧ B.slots = A.slots + ms
def vx_Back (l : Launch) (R : Room) (p : Program) (e : Env) (below : List Frame) (s : State) (sargs : Array Value) (y : MethodName) (len W9 : Nat)
    (Pre : Pt → Array Value → Prop) (Post : Pt → Array Value → Option Value → Pt → Prop) (PostX : Pt → Array Value → Addr → Pt → Prop) : Prop :=
  ∀ (m : MethodId) (meth : Method) (c : Code) (A : Pt) (g : JFrame) (ig : Instr) (mk : MethodId) (a : Array Value),
    Stand p l e R s m sargs below meth c A.U A.locs A.cells A.slots → g.method = m → g.locals.size = c.maxLocals → decode c.code g.pc = .ok (ig, len) →
    2 * g.monitorRoom + (g.stack.map fun v => v.category).sum ≤ W9 → A.U.methodNamed? y = some mk → Pre A a →
    (∃ (v : Option Value) (B : Pt), Stand p l e R s m sargs below meth c B.U B.locs B.cells B.slots ∧ Post A a v B ∧
      Steps p.tables e below (doInvoke e (A.U.setTop g) [] mk a).1 (B.U.setTop { g with pc := g.pc + len, stack := v.toList ++ g.stack })) ∨
    (∃ (q : Addr) (B : Pt), Stand p l e R s m sargs below meth c B.U B.locs B.cells B.slots ∧ PostX A a q B ∧
      Steps p.tables e below (doInvoke e (A.U.setTop g) [] mk a).1 ((B.U.setTop g).pushFrame (.throwing q)))
section Payer
variable {l : Launch} {R : Room} {p : Program} {e : Env} {below : List Frame} {s : State} {sargs : Array Value} {y : MethodName} {len W9 : Nat}
theorem vx_back {ws : List Cond} {rm : Room} {Pc : Array Value → State → Prop} {Qc : Array Value → State → Outcome → State → Prop} {XC : String → State → State → Prop} {mc ms : Nat} {free : Addr → Prop} {bytes : ByteArray} {maxL : Nat} {ret : Option FieldType}
    (hM : vx_Met l y ws rm Pc Qc XC mc ms free) (hblind : FrameBlind Pc) (hrc : rm.cells = mc) (hrs : rm.slots = ms)
    (hframes : rm.frames + 1 ≤ R.frames) (hlocals : W9 + (maxL + 11) + rm.locals ≤ R.locals)
    (hws : ∀ w ∈ ws, ∀ a' U, s.WarmedH U.vm → w.before a' U = true) (hcode : Cond.code y bytes maxL ret ∈ ws) (hinit : ∀ a' U, s.WarmedH U.vm → (Cond.initialized y.cls).before a' U = true) :
    vx_Back l R p e below s sargs y len W9 (PreOf R mc ms Pc) (PostOf Qc mc ms free) (vx_Post XC mc ms free) := by
  intro m meth c A g ig mk a X hg hsize hdg hW hn hp
  have h1 : (headSpec ws rm).pre.before a A.U = true := atoms_intro fun w hw => hws w hw _ _ X.warmed
  have h2 : (Cond.code y bytes maxL ret).before a A.U = true := hws _ hcode _ _ X.warmed
  have h3 : (Cond.initialized y.cls).before a A.U = true := hinit _ _ X.warmed
  have h4 : A.cells + (headSpec ws rm).room.cells ≤ R.cells := by rw [show (headSpec ws rm).room.cells = mc from hrc]; exact hp.1
  have h5 : A.slots + (headSpec ws rm).room.slots ≤ R.slots := by rw [show (headSpec ws rm).room.slots = ms from hrs]; exact hp.2.1
  have hPc : Pc a (A.U.calling g mk a) := hblind _ _ _ _ hp.2.2
  obtain ⟨U, Ls, c0, s0⟩ := A
  dsimp only [Pt.U, Pt.locs, Pt.cells, Pt.slots] at h1 h2 h3 h4 h5 X hn hPc ⊢
  obtain ⟨methY, cY, hmY, hcY, -, hlY, -, -, -, -⟩ := Cond.code_spec hn h2
  obtain ⟨kY, hkY, -⟩ := className_of_methodNamed hn
  have hinitY : kY.init = .initialized := Cond.initialized_spec (findClass_of_methodNamed hn) hkY h3
  have h : At U g.method c below := by rw [hg]; exact X.here
  have hlocals9 : W9 + (maxL + 11) + (headSpec ws rm).room.locals ≤ R.locals := hlocals
  have happ : (headSpec ws rm).appliesLoose y e.platform (U.calling g mk a) = true :=
    Spec.appliesLoose_calling (g := g) h hdg hn hkY hinitY
      (X.room_calling (g := g) (R' := (headSpec ws rm).room) hsize hmY hcY hframes (by rw [hlY]; omega) h4 h5) h1
  obtain ⟨mid, hmid⟩ := h.above
  have hfr : (U.setTop g).frames = (.java g :: mid) ++ below := by rw [State.frames_setTop' g h.top, hmid]; rfl
  obtain ⟨o, s₂, hsteps, -, hend, hq⟩ := Steps.callFree hM p X.admits X.cas X.clock (acts := []) hfr happ hPc trivial
  have hq' : vx_Q Qc XC mc ms free a (U.calling g mk a) o s₂ := hq
  rw [State.frames_setTop' g h.top] at hend
  obtain ⟨g₀, hg0⟩ := Option.isSome_iff_exists.mp h.top
  obtain ⟨r, hr⟩ := State.topJava?_eq_some.mp hg0
  have hr' : (({ U with heap := s₂.heap, slotsUsed := s₂.slotsUsed } : State).setVm s₂.vm).frames = .java g₀ :: r := hr
  rcases hq' with ⟨hqc, L, hfe, hL⟩ | ⟨q, rfl, E, ce, L, hx, hce, hcv, hcl, hW₂, hsm, hL⟩
  · obtain ⟨⟨v, rfl⟩, hW₂, e2, q2, q3, q4, q5, q6⟩ := id hfe
    have e3 : s₂ = ({ (U.calling g mk a).setFrames s₂.frames with heap := s₂.heap, slotsUsed := s₂.slotsUsed } : State).setVm s₂.vm := by
      have : s₂ = ({ s₂ with vm := (U.calling g mk a).vm } : State).setVm s₂.vm := rfl
      rw [e2] at this
      exact this
    obtain ⟨c₂, i₂, len₂, hc₂, hd₂, hf₂⟩ := hend
    have hW' : U.WarmedH s₂.vm := hW₂
    have hcc : c₂ = c := by
      have h1 : s₂.code? g.method = U.code? g.method := by
        rw [State.code?_eq, State.code?_eq, hW'.alike.method?]
      exact Option.some.inj (hc₂.symm.trans (h1.trans h.code))
    subst hcc
    have hlen : len₂ = len := by rw [hdg] at hd₂; cases hd₂; rfl
    subst hlen
    have hs₂ : s₂ = (({ U with heap := s₂.heap, slotsUsed := s₂.slotsUsed } : State).setVm s₂.vm).setTop { g with pc := g.pc + len₂, stack := v.toList ++ g.stack } := by
      refine e3.trans ?_
      rw [hf₂, State.calling_eq h.top, State.setFrames_setFrames, State.setTop_of_frames _ hr', hr]
      rfl
    have hsame : U.sameButNew ({ U with heap := s₂.heap, slotsUsed := s₂.slotsUsed } : State) L mc ms := by
      refine ⟨?_, q2, q3, q4, q5, q6⟩
      obtain ⟨t, ht, -⟩ := State.frames_cons hr
      show ({ U with heap := s₂.heap, slotsUsed := s₂.slotsUsed } : State) = { U.setFrames U.frames with heap := s₂.heap, slotsUsed := s₂.slotsUsed }
      rw [State.setFrames_self ht]
    subst hg
    refine Or.inl ⟨v, ⟨(({ U with heap := s₂.heap, slotsUsed := s₂.slotsUsed } : State).setVm s₂.vm), Ls ++ L, c0 + mc, s0 + ms⟩,
      ⟨X.admits, X.cas, X.clock, X.frames, X.room, X.hears, X.method, X.code, (X.here.setHeapUsed s₂.heap s₂.slotsUsed).setVm hW'.alike, X.tail, State.WarmedH.trans X.warmed hW', X.limits, X.bytes, X.same.trans (hsame.setVm s.vm)⟩,
      ⟨g, mk, s₂, L, rfl, rfl, hqc, rfl, hL, rfl, rfl⟩, ?_⟩
    show Steps p.tables e below _ ((({ U with heap := s₂.heap, slotsUsed := s₂.slotsUsed } : State).setVm s₂.vm).setTop { g with pc := g.pc + len₂, stack := v.toList ++ g.stack })
    rw [← hs₂]
    exact hsteps
  · obtain ⟨e2, q2, q3, q4, q5, q6⟩ := id hsm
    have e3 : s₂ = ({ (U.calling g mk a).setFrames s₂.frames with heap := s₂.heap, slotsUsed := s₂.slotsUsed } : State).setVm s₂.vm := by
      have : s₂ = ({ s₂ with vm := (U.calling g mk a).vm } : State).setVm s₂.vm := rfl
      rw [e2] at this
      exact this
    have hf₂ : s₂.frames = .throwing q :: .java g :: U.frames.tail := hend
    have hW' : U.WarmedH s₂.vm := hW₂
    have hs₂ : s₂ = ((({ U with heap := s₂.heap, slotsUsed := s₂.slotsUsed } : State).setVm s₂.vm).setTop g).pushFrame (.throwing q) := by
      refine e3.trans ?_
      rw [hf₂, State.calling_eq h.top, State.setFrames_setFrames, State.pushFrame, State.frames_setTop _ hr', State.setTop_of_frames _ hr', State.setFrames_setFrames, hr]
      rfl
    have hsame : U.sameButNew ({ U with heap := s₂.heap, slotsUsed := s₂.slotsUsed } : State) L mc ms := by
      refine ⟨?_, q2, q3, q4, q5, q6⟩
      obtain ⟨t, ht, -⟩ := State.frames_cons hr
      show ({ U with heap := s₂.heap, slotsUsed := s₂.slotsUsed } : State) = { U.setFrames U.frames with heap := s₂.heap, slotsUsed := s₂.slotsUsed }
      rw [State.setFrames_self ht]
    subst hg
    refine Or.inr ⟨q, ⟨(({ U with heap := s₂.heap, slotsUsed := s₂.slotsUsed } : State).setVm s₂.vm), Ls ++ L, c0 + mc, s0 + ms⟩,
      ⟨X.admits, X.cas, X.clock, X.frames, X.room, X.hears, X.method, X.code, (X.here.setHeapUsed s₂.heap s₂.slotsUsed).setVm hW'.alike, X.tail, State.WarmedH.trans X.warmed hW', X.limits, X.bytes, X.same.trans (hsame.setVm s.vm)⟩,
      ⟨g, mk, s₂, L, E, ce, rfl, rfl, hx, hce, hcv, hcl, rfl, hL, rfl, rfl⟩, ?_⟩
    show Steps p.tables e below _ (((({ U with heap := s₂.heap, slotsUsed := s₂.slotsUsed } : State).setVm s₂.vm).setTop g).pushFrame (.throwing q))
    rw [← hs₂]
    exact hsteps
end Payer
section Calls
variable {p : Program} {l : Launch} {e : Env} {R : Room} {s : State} {m : MethodId} {args : Array Value} {below : List Frame} {meth : Method} {c : Code} {T : State} {locs : List Loc} {cells slots : Nat}
theorem vx_callV (X : Stand p l e R s m args below meth c T locs cells slots) (hexec : p.tables.exec = Jvm.exec) {own C : String} {index : Nat} {y : MethodName} {bytes : ByteArray} {maxL : Nat} {ret : Option FieldType}
    (hown : s.vm.findClass own = some m.cls) (hlink : (Cond.methodLink own index y).before args s = true) (hinst : (Cond.instanceMethod y).before args s = true) (hsel : (Cond.selects C y y).before args s = true)
    (hcode : (Cond.code y bytes maxL ret).before args s = true) (hy : y.cls ≠ "java/lang/invoke/MethodHandle" ∧ y.cls ≠ "java/lang/invoke/VarHandle")
    {W9 : Nat} {Pre : Pt → Array Value → Prop} {Post : Pt → Array Value → Option Value → Pt → Prop} {PostX : Pt → Array Value → Addr → Pt → Prop} (hK : vx_Back l R p e below s args y 3 W9 Pre Post PostX)
    {b : Addr} {cellB : Cell} (hcell : T.heap[b]? = some cellB) (hobj : cellB.vm.isStatics = false) (hcls : s.vm.findClass C = some cellB.cls)
    {g : JFrame} (hg : g.method = m) (hsize : g.locals.size = c.maxLocals) {argsL rest : List Value} (hlen : ∀ sig, parseMethodDescriptor y.desc = some sig → argsL.length = sig.parameters.length)
    (hstack : g.stack = argsL.reverse ++ .ref b :: rest) (hW : 2 * g.monitorRoom + (rest.map fun v => v.category).sum ≤ W9) (hdg : decode c.code g.pc = .ok (.invokevirtual index, 3))
    (hpre : ∀ vm₁, s.WarmedH vm₁ → Pre ⟨T.setVm vm₁, locs, cells, slots⟩ (Value.ref b :: argsL).toArray) :
    (∃ (v : Option Value) (vm₁ : Vm) (B : Pt), s.WarmedH vm₁ ∧ Stand p l e R s m args below meth c B.U B.locs B.cells B.slots ∧ Post ⟨T.setVm vm₁, locs, cells, slots⟩ (Value.ref b :: argsL).toArray v B ∧
      ∀ target, Steps p.tables e below (B.U.setTop { g with pc := g.pc + 3, stack := v.toList ++ rest }) target → Steps p.tables e below (T.setTop g) target) ∨
    (∃ (q : Addr) (vm₁ : Vm) (B : Pt), s.WarmedH vm₁ ∧ Stand p l e R s m args below meth c B.U B.locs B.cells B.slots ∧ PostX ⟨T.setVm vm₁, locs, cells, slots⟩ (Value.ref b :: argsL).toArray q B ∧
      Steps p.tables e below (T.setTop g) ((B.U.setTop { g with stack := rest }).pushFrame (.throwing q))) := by
  obtain ⟨mk, methM, hnamed, hmethM, hstM, habM⟩ := Cond.instanceMethod_spec hinst
  obtain ⟨methM', cM, hmethM', -, -, -, -, -, -, hsigM⟩ := Cond.code_spec hnamed hcode
  cases hmethM.symm.trans hmethM'
  obtain ⟨c2, r2, m2, q1, q2, q3, q4, kP, hkP, hkPi⟩ := Cond.selects_spec hsel
  cases hcls.symm.trans q1
  cases (State.methodFound?_of_named hnamed hy).symm.trans q2
  cases hnamed.symm.trans q3
  have hselP : selectMethod e.platform s.vm cellB.cls mk = .method mk := by rw [Launch.admits_selectMethod X.admits]; exact q4
  obtain ⟨vm₁, X₁, hstep₁⟩ := X.invokevirtual hexec hown hlink hnamed hmethM hstM hkP hkPi hy (a := b) (cell := cellB) hcell
    (fun z h => by rw [h] at hobj; cases hobj) hselP hmethM habM hkP hkPi (g := g) hg (argsL := argsL) (rest := rest) (hlen _ hsigM) hstack hdg
  rcases hK m meth c ⟨T.setVm vm₁, locs, cells, slots⟩ { g with stack := rest } (.invokevirtual index) mk (Value.ref b :: argsL).toArray X₁ hg hsize hdg hW (X₁.named hnamed) (hpre vm₁ X₁.warmed) with ⟨v, B, X', hpost, hsteps⟩ | ⟨q, B, X', hpost, hsteps⟩
  · exact Or.inl ⟨v, vm₁, B, X₁.warmed, X', hpost, fun target h => hstep₁ _ fun acts => by rw [doInvoke_state]; exact hsteps.trans h⟩
  · exact Or.inr ⟨q, vm₁, B, X₁.warmed, X', hpost, hstep₁ _ fun acts => by rw [doInvoke_state]; exact hsteps⟩
theorem vx_callS (X : Stand p l e R s m args below meth c T locs cells slots) (hexec : p.tables.exec = Jvm.exec) {own : String} {index : Nat} {y : MethodName} {bytes : ByteArray} {maxL : Nat} {ret : Option FieldType}
    (hown : s.vm.findClass own = some m.cls) (hlink : (Cond.methodLink own index y).before args s = true) (hstat : (Cond.static y).before args s = true) (hinit : (Cond.initialized y.cls).before args s = true)
    (hcode : (Cond.code y bytes maxL ret).before args s = true) (hy : y.cls ≠ "java/lang/invoke/MethodHandle" ∧ y.cls ≠ "java/lang/invoke/VarHandle")
    {W9 : Nat} {Pre : Pt → Array Value → Prop} {Post : Pt → Array Value → Option Value → Pt → Prop} {PostX : Pt → Array Value → Addr → Pt → Prop} (hK : vx_Back l R p e below s args y 3 W9 Pre Post PostX)
    {g : JFrame} (hg : g.method = m) (hsize : g.locals.size = c.maxLocals) {argsL rest : List Value} (hlen : ∀ sig, parseMethodDescriptor y.desc = some sig → argsL.length = sig.parameters.length)
    (hstack : g.stack = argsL.reverse ++ rest) (hW : 2 * g.monitorRoom + (rest.map fun v => v.category).sum ≤ W9) (hdg : decode c.code g.pc = .ok (.invokestatic index, 3))
    (hpre : ∀ vm₁, s.WarmedH vm₁ → Pre ⟨T.setVm vm₁, locs, cells, slots⟩ argsL.toArray) :
    (∃ (v : Option Value) (vm₁ : Vm) (B : Pt), s.WarmedH vm₁ ∧ Stand p l e R s m args below meth c B.U B.locs B.cells B.slots ∧ Post ⟨T.setVm vm₁, locs, cells, slots⟩ argsL.toArray v B ∧
      ∀ target, Steps p.tables e below (B.U.setTop { g with pc := g.pc + 3, stack := v.toList ++ rest }) target → Steps p.tables e below (T.setTop g) target) ∨
    (∃ (q : Addr) (vm₁ : Vm) (B : Pt), s.WarmedH vm₁ ∧ Stand p l e R s m args below meth c B.U B.locs B.cells B.slots ∧ PostX ⟨T.setVm vm₁, locs, cells, slots⟩ argsL.toArray q B ∧
      Steps p.tables e below (T.setTop g) ((B.U.setTop { g with stack := rest }).pushFrame (.throwing q))) := by
  obtain ⟨mk, hnamed⟩ := Cond.code_named hcode
  obtain ⟨methM, cM, hmethM, -, -, -, -, -, -, hsigM⟩ := Cond.code_spec hnamed hcode
  have hstatic : methM.isStatic = true := Cond.static_spec hnamed hmethM hstat
  obtain ⟨kP, hkP, -⟩ := className_of_methodNamed hnamed
  have hinitP : kP.init = .initialized := Cond.initialized_spec (findClass_of_methodNamed hnamed) hkP hinit
  obtain ⟨vm₁, X₁, hstep₁⟩ := X.invokestatic hexec hown hlink hnamed hmethM hstatic hkP hinitP hy (g := g) hg (argsL := argsL) (rest := rest) (hlen _ hsigM) hstack hdg
  rcases hK m meth c ⟨T.setVm vm₁, locs, cells, slots⟩ { g with stack := rest } (.invokestatic index) mk argsL.toArray X₁ hg hsize hdg hW (X₁.named hnamed) (hpre vm₁ X₁.warmed) with ⟨v, B, X', hpost, hsteps⟩ | ⟨q, B, X', hpost, hsteps⟩
  · exact Or.inl ⟨v, vm₁, B, X₁.warmed, X', hpost, fun target h => hstep₁ _ fun acts => by rw [doInvoke_state]; exact hsteps.trans h⟩
  · exact Or.inr ⟨q, vm₁, B, X₁.warmed, X', hpost, hstep₁ _ fun acts => by rw [doInvoke_state]; exact hsteps⟩
end Calls
theorem vx_cls {s : State} {T : State} {vm₁ : Vm} {E : String} {k : ClassId} (hW : s.WarmedH vm₁) (h : (T.setVm vm₁).vm.findClass E = some k) : s.vm.findClass E = some k := by
  have h1 : vm₁.findClass E = some k := h
  rw [hW.alike.findClass] at h1
  exact h1
/-- the method's frame g, with q thrown over it -/
def vx_W (p : Program) (l : Launch) (e : Env) (R : Room) (s : State) (m : MethodId) (args : Array Value) (below : List Frame) (meth : Method) (c : Code) (H : Heap) (locs : List Loc) (cells slots : Nat) (Q : State → Prop) (g : JFrame) (q : Addr) : Prop :=
  ∀ T : State, T.heap = H → Stand p l e R s m args below meth c T locs cells slots → ∃ t, Steps p.tables e below ((T.setTop g).pushFrame (.throwing q)) t ∧ Q t
def vx_Run (p : Program) (l : Launch) (e : Env) (R : Room) (s : State) (m : MethodId) (args : Array Value) (below : List Frame) (meth : Method) (c : Code) (H : Heap) (locs : List Loc) (cells slots mc ms : Nat) (g : JFrame) (rest : List Value) (Qa : State → Outcome → State → Prop) (XC : String → State → State → Prop) (free : Addr → Prop) : Prop :=
  ∀ T : State, T.heap = H → Stand p l e R s m args below meth c T locs cells slots →
    (∃ (v : Option Value) (st₀ t T' : State) (L : List Loc), st₀.heap = H ∧ Stand p l e R s m args below meth c T' (locs ++ L) (cells + mc) (slots + ms) ∧ (∀ q ∈ L, free q.base) ∧ T'.heap = t.heap ∧ T'.vm = t.vm ∧ Qa st₀ (.returned v) t ∧
      Goes p e below T g T' { g with pc := g.pc + 3, stack := v.toList ++ rest }) ∨
    (∃ (q : Addr) (st₀ t T' : State) (L : List Loc) (E : String) (ce : Cell), st₀.heap = H ∧ Stand p l e R s m args below meth c T' (locs ++ L) (cells + mc) (slots + ms) ∧ (∀ z ∈ L, free z.base) ∧ T'.heap = t.heap ∧ T'.vm = t.vm ∧ XC E st₀ t ∧ t.heap[q]? = some ce ∧ ce.vm = .none ∧ s.vm.findClass E = some ce.cls ∧
      Steps p.tables e below (T.setTop g) ((T'.setTop { g with stack := rest }).pushFrame (.throwing q)))
def vx_X {S : Type} (px : S → Prop) (B : String → S → State → Prop) (A : Nat → Prop) : String → State → State → Prop := fun E st t => ∃ u : S, px u ∧ B E u t ∧ va_F A st t
section Runs
variable {p : Program} {l : Launch} {e : Env} {R : Room} {s : State} {m : MethodId} {args : Array Value} {below : List Frame} {meth : Method} {c : Code} {H : Heap} {locs : List Loc} {cells slots : Nat}
variable {y : MethodName} {bytes cc : ByteArray} {maxL nL mc ms n index : Nat} {ret : Option FieldType} {ws : List Cond} {rm : Room} {Pc : Array Value → State → Prop} {Qc : Array Value → State → Outcome → State → Prop} {XC : String → State → State → Prop} {free : Addr → Prop} {Ts : List Cond} {own C : String} {b : Addr} {As rest : List Value} {g : JFrame}
theorem vx_callBack (cb : CallB R s args own index y bytes maxL ret ws rm mc ms n) (hM : vx_Met l y ws rm Pc Qc XC mc ms free) (hbl : FrameBlind Pc) : vx_Back l R p e below s args y 3 8 (PreOf R mc ms Pc) (PostOf Qc mc ms free) (vx_Post XC mc ms free) := by
  obtain ⟨hrc, hrs, hfr, hlo, hws, hcw, -, hini, -⟩ := cb
  exact vx_back (bytes := bytes) (maxL := maxL) (ret := ret) hM hbl hrc hrs hfr hlo hws hcw (fun a' U hW => word_at hW (Or.inl (by first | rfl | simp [Cond.onTables, Cond.keeps, Cond.steady])) hini)
theorem vx_runV (S : CallFix p m c cc nL s args Ts own) (hM : vx_Met l y ws rm Pc Qc XC mc ms free) (cw : CallW R s args own C index y bytes maxL ret ws rm mc ms n) (hp : PreV s H C b Pc As)
    (hg : g.method = m) (hn : As.length = n) (hsize : g.locals.size = nL) (hstack : g.stack = As.reverse ++ .ref b :: rest) (hW : 2 * g.monitorRoom + (rest.map fun v => v.category).sum ≤ 8) (hdg : decode cc g.pc = .ok (.invokevirtual index, 3)) (hf : cells + mc ≤ R.cells ∧ slots + ms ≤ R.slots) :
    vx_Run p l e R s m args below meth c H locs cells slots mc ms g rest (Qc (Value.ref b :: As).toArray) XC free := by
  have hK : vx_Back l R p e below s args y 3 8 (PreOf R mc ms Pc) (PostOf Qc mc ms free) (vx_Post XC mc ms free) := vx_callBack cw.1 hM hp.1
  obtain ⟨⟨-, -, -, -, -, -, hcode, -, hy, hlen, hl⟩, hin, hse⟩ := cw
  obtain ⟨hx, hb, hml, ho, -⟩ := S
  obtain ⟨-, ⟨cellB, hcB, hoB, hclB⟩, hPc⟩ := hp
  intro T hT X
  rcases vx_callV X hx (C := C) (bytes := bytes) (maxL := maxL) (ret := ret) ho hl hin hse hcode hy hK (by rw [hT]; exact hcB) hoB hclB hg (hsize.trans hml.symm) (argsL := As) (rest := rest) (fun sig h => hn.trans (hlen sig h)) hstack hW (by rw [hb]; exact hdg)
    (fun vm₁ hW₁ => ⟨hf.1, hf.2, hPc (T.setVm vm₁) hT hW₁⟩) with ⟨v, vm₁, ⟨U', l2, c2, s2⟩, hW₁, X', ⟨g', mk, t, L, e1, e2, hq, h1, hL, h2, h3⟩, st⟩ | ⟨q, vm₁, ⟨U', l2, c2, s2⟩, hW₁, X', ⟨g', mk, t, L, E, ce, e1, e2, hq, hce, hcv, hcl, h1, hL, h2, h3⟩, st⟩
  · dsimp only [Pt.U, Pt.locs, Pt.cells, Pt.slots] at X' e1 e2 h1 h2 h3 st
    subst h1; subst h2; subst h3
    exact Or.inl ⟨v, (T.setVm vm₁).calling g' mk (Value.ref b :: As).toArray, t, U', L, hT, X', hL, e1, e2, hq, st⟩
  · dsimp only [Pt.U, Pt.locs, Pt.cells, Pt.slots] at X' e1 e2 h1 h2 h3 st hcl
    subst h1; subst h2; subst h3
    exact Or.inr ⟨q, (T.setVm vm₁).calling g' mk (Value.ref b :: As).toArray, t, U', L, E, ce, hT, X', hL, e1, e2, hq, hce, hcv, vx_cls hW₁ hcl, st⟩
theorem vx_runS (S : CallFix p m c cc nL s args Ts own) (hM : vx_Met l y ws rm Pc Qc XC mc ms free) (cw : CallB R s args own index y bytes maxL ret ws rm mc ms n ∧ (Cond.static y).before args s = true) (hp : PreS s H Pc As)
    (hg : g.method = m) (hn : As.length = n) (hsize : g.locals.size = nL) (hstack : g.stack = As.reverse ++ rest) (hW : 2 * g.monitorRoom + (rest.map fun v => v.category).sum ≤ 8) (hdg : decode cc g.pc = .ok (.invokestatic index, 3)) (hf : cells + mc ≤ R.cells ∧ slots + ms ≤ R.slots) :
    vx_Run p l e R s m args below meth c H locs cells slots mc ms g rest (Qc As.toArray) XC free := by
  have hK : vx_Back l R p e below s args y 3 8 (PreOf R mc ms Pc) (PostOf Qc mc ms free) (vx_Post XC mc ms free) := vx_callBack cw.1 hM hp.1
  obtain ⟨⟨-, -, -, -, -, -, hcode, hini, hy, hlen, hl⟩, hstt⟩ := cw
  obtain ⟨hx, hb, hml, ho, -⟩ := S
  intro T hT X
  rcases vx_callS X hx (bytes := bytes) (maxL := maxL) (ret := ret) ho hl hstt hini hcode hy hK hg (hsize.trans hml.symm) (argsL := As) (rest := rest) (fun sig h => hn.trans (hlen sig h)) hstack hW (by rw [hb]; exact hdg)
    (fun vm₁ hW₁ => ⟨hf.1, hf.2, hp.2 (T.setVm vm₁) hT hW₁⟩) with ⟨v, vm₁, ⟨U', l2, c2, s2⟩, hW₁, X', ⟨g', mk, t, L, e1, e2, hq, h1, hL, h2, h3⟩, st⟩ | ⟨q, vm₁, ⟨U', l2, c2, s2⟩, hW₁, X', ⟨g', mk, t, L, E, ce, e1, e2, hq, hce, hcv, hcl, h1, hL, h2, h3⟩, st⟩
  · dsimp only [Pt.U, Pt.locs, Pt.cells, Pt.slots] at X' e1 e2 h1 h2 h3 st
    subst h1; subst h2; subst h3
    exact Or.inl ⟨v, (T.setVm vm₁).calling g' mk As.toArray, t, U', L, hT, X', hL, e1, e2, hq, st⟩
  · dsimp only [Pt.U, Pt.locs, Pt.cells, Pt.slots] at X' e1 e2 h1 h2 h3 st hcl
    subst h1; subst h2; subst h3
    exact Or.inr ⟨q, (T.setVm vm₁).calling g' mk As.toArray, t, U', L, E, ce, hT, X', hL, e1, e2, hq, hce, hcv, vx_cls hW₁ hcl, st⟩
end Runs
section Rows
variable {p : Program} {l : Launch} {e : Env} {R : Room} {s : State} {m : MethodId} {args : Array Value} {below : List Frame} {meth : Method} {c : Code} {H : Heap} {locs : List Loc} {cells slots : Nat} {Q : State → Prop}
variable {mc ms : Nat} {free : Addr → Prop} {A0 A1 : Nat → Prop} {H0 : Heap} {a : Array Value} {pc : Nat} {ls : Array Slot} {st0 rest : List Value}
theorem vx_keep {st₀ t T' : State} {L : List Loc} (h0 : st₀.heap = H) (e1 : T'.heap = t.heap) (hS : va_S A0 H0 H locs) (hA : ∀ q, q < H.size → A1 q → A0 q) (hf : ∀ q, free q → A0 q) (hL : ∀ q ∈ L, free q.base) (hF : va_F A1 st₀ t) :
    H.size ≤ T'.heap.size ∧ (∀ q : Nat, q < H.size → ¬ A1 q → T'.heap[q]? = H[q]?) ∧ va_S A0 H0 T'.heap (locs ++ L) := by
  obtain ⟨hz, hk⟩ := hF
  rw [h0] at hz hk
  exact ⟨by rw [e1]; exact hz, fun q h1 h2 => by rw [e1]; exact hk q h1 h2,
    ⟨Nat.le_trans hS.1 (by rw [e1]; exact hz), fun q h1 h2 => by rw [e1, hk q (Nat.lt_of_lt_of_le h1 hS.1) (fun z => h2 (hA q (Nat.lt_of_lt_of_le h1 hS.1) z))]; exact hS.2.1 q h1 h2, fun q hq => by
      rcases List.mem_append.mp hq with h | h
      · exact hS.2.2 q h
      · exact hf _ (hL q h)⟩⟩
theorem vx_calli {S SX : Type} {post : Int32 → S → Prop} {px : SX → Prop} {B : S → State → Prop} {BX : String → SX → State → Prop} {AX : Nat → Prop} (hr : vx_Run p l e R s m args below meth c H locs cells slots mc ms (F0 m pc ls st0) rest (va_Qi post B A1 a) (vx_X px BX AX) free) (hS : va_S A0 H0 H locs) (hA : ∀ q, q < H.size → A1 q → A0 q) (hf : ∀ q, free q → A0 q) (hAX : ∀ q, q < H.size → AX q → A0 q)
    (kx : ∀ (E : String) (ce : Cell) (q9 : Addr) (u : SX) (t : State) (H1 : Heap) (locs1 : List Loc), t.heap = H1 → s.vm.Alike t.vm → px u → BX E u t → H.size ≤ H1.size → (∀ q : Nat, q < H.size → ¬ AX q → H1[q]? = H[q]?) → va_S A0 H0 H1 locs1 → H1[q9]? = some ce → ce.vm = .none → s.vm.findClass E = some ce.cls → vx_W p l e R s m args below meth c H1 locs1 (cells + mc) (slots + ms) Q (F0 m pc ls rest) q9)
    (kk : ∀ (r : Int32) (u : S) (t : State) (H1 : Heap) (locs1 : List Loc), t.heap = H1 → s.vm.Alike t.vm → post r u → B u t → H.size ≤ H1.size → (∀ q : Nat, q < H.size → ¬ A1 q → H1[q]? = H[q]?) → va_S A0 H0 H1 locs1 → W p l e R s m args below meth c H1 locs1 (cells + mc) (slots + ms) Q (F0 m (pc + 3) ls (.int r :: rest))) : W p l e R s m args below meth c H locs cells slots Q (F0 m pc ls st0) := by
  intro T hT X
  rcases hr T hT X with ⟨v, st₀, t, T', L, h0, X', hL, e1, e2, ⟨⟨r, u, hv, hp, hb⟩, hF⟩, st⟩ | ⟨q, st₀, t, T', L, E, ce, h0, X', hL, e1, e2, ⟨u, hp, hb, hF⟩, hce, hcv, hcl, st⟩
  · cases hv
    obtain ⟨k1, k2, k3⟩ := vx_keep h0 e1 hS hA hf hL hF
    obtain ⟨t2, a1, b1⟩ := kk r u t T'.heap (locs ++ L) e1.symm (by rw [← e2]; exact X'.warmed.alike) hp hb k1 k2 k3 T' rfl X'
    exact ⟨t2, st t2 a1, b1⟩
  · obtain ⟨k1, k2, k3⟩ := vx_keep h0 e1 hS hAX hf hL hF
    obtain ⟨t2, a1, b1⟩ := kx E ce q u t T'.heap (locs ++ L) e1.symm (by rw [← e2]; exact X'.warmed.alike) hp hb k1 k2 k3 (by rw [e1]; exact hce) hcv hcl T' rfl X'
    exact ⟨t2, st.trans a1, b1⟩
theorem vx_calll {S SX : Type} {post : Int64 → S → Prop} {px : SX → Prop} {B : S → State → Prop} {BX : String → SX → State → Prop} {AX : Nat → Prop} (hr : vx_Run p l e R s m args below meth c H locs cells slots mc ms (F0 m pc ls st0) rest (va_Ql post B A1 a) (vx_X px BX AX) free) (hS : va_S A0 H0 H locs) (hA : ∀ q, q < H.size → A1 q → A0 q) (hf : ∀ q, free q → A0 q) (hAX : ∀ q, q < H.size → AX q → A0 q)
    (kx : ∀ (E : String) (ce : Cell) (q9 : Addr) (u : SX) (t : State) (H1 : Heap) (locs1 : List Loc), t.heap = H1 → s.vm.Alike t.vm → px u → BX E u t → H.size ≤ H1.size → (∀ q : Nat, q < H.size → ¬ AX q → H1[q]? = H[q]?) → va_S A0 H0 H1 locs1 → H1[q9]? = some ce → ce.vm = .none → s.vm.findClass E = some ce.cls → vx_W p l e R s m args below meth c H1 locs1 (cells + mc) (slots + ms) Q (F0 m pc ls rest) q9)
    (kk : ∀ (r : Int64) (u : S) (t : State) (H1 : Heap) (locs1 : List Loc), t.heap = H1 → s.vm.Alike t.vm → post r u → B u t → H.size ≤ H1.size → (∀ q : Nat, q < H.size → ¬ A1 q → H1[q]? = H[q]?) → va_S A0 H0 H1 locs1 → W p l e R s m args below meth c H1 locs1 (cells + mc) (slots + ms) Q (F0 m (pc + 3) ls (.long r :: rest))) : W p l e R s m args below meth c H locs cells slots Q (F0 m pc ls st0) := by
  intro T hT X
  rcases hr T hT X with ⟨v, st₀, t, T', L, h0, X', hL, e1, e2, ⟨⟨r, u, hv, hp, hb⟩, hF⟩, st⟩ | ⟨q, st₀, t, T', L, E, ce, h0, X', hL, e1, e2, ⟨u, hp, hb, hF⟩, hce, hcv, hcl, st⟩
  · cases hv
    obtain ⟨k1, k2, k3⟩ := vx_keep h0 e1 hS hA hf hL hF
    obtain ⟨t2, a1, b1⟩ := kk r u t T'.heap (locs ++ L) e1.symm (by rw [← e2]; exact X'.warmed.alike) hp hb k1 k2 k3 T' rfl X'
    exact ⟨t2, st t2 a1, b1⟩
  · obtain ⟨k1, k2, k3⟩ := vx_keep h0 e1 hS hAX hf hL hF
    obtain ⟨t2, a1, b1⟩ := kx E ce q u t T'.heap (locs ++ L) e1.symm (by rw [← e2]; exact X'.warmed.alike) hp hb k1 k2 k3 (by rw [e1]; exact hce) hcv hcl T' rfl X'
    exact ⟨t2, st.trans a1, b1⟩
theorem vx_callf {S SX : Type} {post : UInt32 → S → Prop} {px : SX → Prop} {B : S → State → Prop} {BX : String → SX → State → Prop} {AX : Nat → Prop} (hr : vx_Run p l e R s m args below meth c H locs cells slots mc ms (F0 m pc ls st0) rest (va_Qf post B A1 a) (vx_X px BX AX) free) (hS : va_S A0 H0 H locs) (hA : ∀ q, q < H.size → A1 q → A0 q) (hf : ∀ q, free q → A0 q) (hAX : ∀ q, q < H.size → AX q → A0 q)
    (kx : ∀ (E : String) (ce : Cell) (q9 : Addr) (u : SX) (t : State) (H1 : Heap) (locs1 : List Loc), t.heap = H1 → s.vm.Alike t.vm → px u → BX E u t → H.size ≤ H1.size → (∀ q : Nat, q < H.size → ¬ AX q → H1[q]? = H[q]?) → va_S A0 H0 H1 locs1 → H1[q9]? = some ce → ce.vm = .none → s.vm.findClass E = some ce.cls → vx_W p l e R s m args below meth c H1 locs1 (cells + mc) (slots + ms) Q (F0 m pc ls rest) q9)
    (kk : ∀ (r : UInt32) (u : S) (t : State) (H1 : Heap) (locs1 : List Loc), t.heap = H1 → s.vm.Alike t.vm → post r u → B u t → H.size ≤ H1.size → (∀ q : Nat, q < H.size → ¬ A1 q → H1[q]? = H[q]?) → va_S A0 H0 H1 locs1 → W p l e R s m args below meth c H1 locs1 (cells + mc) (slots + ms) Q (F0 m (pc + 3) ls (.float r :: rest))) : W p l e R s m args below meth c H locs cells slots Q (F0 m pc ls st0) := by
  intro T hT X
  rcases hr T hT X with ⟨v, st₀, t, T', L, h0, X', hL, e1, e2, ⟨⟨r, u, hv, hp, hb⟩, hF⟩, st⟩ | ⟨q, st₀, t, T', L, E, ce, h0, X', hL, e1, e2, ⟨u, hp, hb, hF⟩, hce, hcv, hcl, st⟩
  · cases hv
    obtain ⟨k1, k2, k3⟩ := vx_keep h0 e1 hS hA hf hL hF
    obtain ⟨t2, a1, b1⟩ := kk r u t T'.heap (locs ++ L) e1.symm (by rw [← e2]; exact X'.warmed.alike) hp hb k1 k2 k3 T' rfl X'
    exact ⟨t2, st t2 a1, b1⟩
  · obtain ⟨k1, k2, k3⟩ := vx_keep h0 e1 hS hAX hf hL hF
    obtain ⟨t2, a1, b1⟩ := kx E ce q u t T'.heap (locs ++ L) e1.symm (by rw [← e2]; exact X'.warmed.alike) hp hb k1 k2 k3 (by rw [e1]; exact hce) hcv hcl T' rfl X'
    exact ⟨t2, st.trans a1, b1⟩
theorem vx_calld {S SX : Type} {post : UInt64 → S → Prop} {px : SX → Prop} {B : S → State → Prop} {BX : String → SX → State → Prop} {AX : Nat → Prop} (hr : vx_Run p l e R s m args below meth c H locs cells slots mc ms (F0 m pc ls st0) rest (va_Qd post B A1 a) (vx_X px BX AX) free) (hS : va_S A0 H0 H locs) (hA : ∀ q, q < H.size → A1 q → A0 q) (hf : ∀ q, free q → A0 q) (hAX : ∀ q, q < H.size → AX q → A0 q)
    (kx : ∀ (E : String) (ce : Cell) (q9 : Addr) (u : SX) (t : State) (H1 : Heap) (locs1 : List Loc), t.heap = H1 → s.vm.Alike t.vm → px u → BX E u t → H.size ≤ H1.size → (∀ q : Nat, q < H.size → ¬ AX q → H1[q]? = H[q]?) → va_S A0 H0 H1 locs1 → H1[q9]? = some ce → ce.vm = .none → s.vm.findClass E = some ce.cls → vx_W p l e R s m args below meth c H1 locs1 (cells + mc) (slots + ms) Q (F0 m pc ls rest) q9)
    (kk : ∀ (r : UInt64) (u : S) (t : State) (H1 : Heap) (locs1 : List Loc), t.heap = H1 → s.vm.Alike t.vm → post r u → B u t → H.size ≤ H1.size → (∀ q : Nat, q < H.size → ¬ A1 q → H1[q]? = H[q]?) → va_S A0 H0 H1 locs1 → W p l e R s m args below meth c H1 locs1 (cells + mc) (slots + ms) Q (F0 m (pc + 3) ls (.double r :: rest))) : W p l e R s m args below meth c H locs cells slots Q (F0 m pc ls st0) := by
  intro T hT X
  rcases hr T hT X with ⟨v, st₀, t, T', L, h0, X', hL, e1, e2, ⟨⟨r, u, hv, hp, hb⟩, hF⟩, st⟩ | ⟨q, st₀, t, T', L, E, ce, h0, X', hL, e1, e2, ⟨u, hp, hb, hF⟩, hce, hcv, hcl, st⟩
  · cases hv
    obtain ⟨k1, k2, k3⟩ := vx_keep h0 e1 hS hA hf hL hF
    obtain ⟨t2, a1, b1⟩ := kk r u t T'.heap (locs ++ L) e1.symm (by rw [← e2]; exact X'.warmed.alike) hp hb k1 k2 k3 T' rfl X'
    exact ⟨t2, st t2 a1, b1⟩
  · obtain ⟨k1, k2, k3⟩ := vx_keep h0 e1 hS hAX hf hL hF
    obtain ⟨t2, a1, b1⟩ := kx E ce q u t T'.heap (locs ++ L) e1.symm (by rw [← e2]; exact X'.warmed.alike) hp hb k1 k2 k3 (by rw [e1]; exact hce) hcv hcl T' rfl X'
    exact ⟨t2, st.trans a1, b1⟩
theorem vx_callv {S SX : Type} {post : S → Prop} {px : SX → Prop} {B : S → State → Prop} {BX : String → SX → State → Prop} {AX : Nat → Prop} (hr : vx_Run p l e R s m args below meth c H locs cells slots mc ms (F0 m pc ls st0) rest (va_Qv post B A1 a) (vx_X px BX AX) free) (hS : va_S A0 H0 H locs) (hA : ∀ q, q < H.size → A1 q → A0 q) (hf : ∀ q, free q → A0 q) (hAX : ∀ q, q < H.size → AX q → A0 q)
    (kx : ∀ (E : String) (ce : Cell) (q9 : Addr) (u : SX) (t : State) (H1 : Heap) (locs1 : List Loc), t.heap = H1 → s.vm.Alike t.vm → px u → BX E u t → H.size ≤ H1.size → (∀ q : Nat, q < H.size → ¬ AX q → H1[q]? = H[q]?) → va_S A0 H0 H1 locs1 → H1[q9]? = some ce → ce.vm = .none → s.vm.findClass E = some ce.cls → vx_W p l e R s m args below meth c H1 locs1 (cells + mc) (slots + ms) Q (F0 m pc ls rest) q9)
    (kk : ∀ (u : S) (t : State) (H1 : Heap) (locs1 : List Loc), t.heap = H1 → s.vm.Alike t.vm → post u → B u t → H.size ≤ H1.size → (∀ q : Nat, q < H.size → ¬ A1 q → H1[q]? = H[q]?) → va_S A0 H0 H1 locs1 → W p l e R s m args below meth c H1 locs1 (cells + mc) (slots + ms) Q (F0 m (pc + 3) ls (rest))) : W p l e R s m args below meth c H locs cells slots Q (F0 m pc ls st0) := by
  intro T hT X
  rcases hr T hT X with ⟨v, st₀, t, T', L, h0, X', hL, e1, e2, ⟨⟨u, hv, hp, hb⟩, hF⟩, st⟩ | ⟨q, st₀, t, T', L, E, ce, h0, X', hL, e1, e2, ⟨u, hp, hb, hF⟩, hce, hcv, hcl, st⟩
  · cases hv
    obtain ⟨k1, k2, k3⟩ := vx_keep h0 e1 hS hA hf hL hF
    obtain ⟨t2, a1, b1⟩ := kk u t T'.heap (locs ++ L) e1.symm (by rw [← e2]; exact X'.warmed.alike) hp hb k1 k2 k3 T' rfl X'
    exact ⟨t2, st t2 a1, b1⟩
  · obtain ⟨k1, k2, k3⟩ := vx_keep h0 e1 hS hAX hf hL hF
    obtain ⟨t2, a1, b1⟩ := kx E ce q u t T'.heap (locs ++ L) e1.symm (by rw [← e2]; exact X'.warmed.alike) hp hb k1 k2 k3 (by rw [e1]; exact hce) hcv hcl T' rfl X'
    exact ⟨t2, st.trans a1, b1⟩
/-- caught by the row x of this method's table; the rows ahead don't take it -/
theorem vx_catch {own name : String} {E : String} {ce : Cell} {q : Addr} (hown : s.vm.findClass own = some m.cls) (pre : List ExceptionTableEntry) (x : ExceptionTableEntry) (suf : List ExceptionTableEntry) (hsplit : c.exceptionTable.toList = pre ++ x :: suf)
    (hpass : ∀ z ∈ pre, covers z pc = false ∨ (z.catchType ≠ 0 ∧ ∃ nm : String, (Cond.classLink own z.catchType nm).before args s = true ∧ va_Nc E nm s)) (hx : covers x pc = true) (h0 : x.catchType ≠ 0)
    (hlink : (Cond.classLink own x.catchType name).before args s = true) (hcast : (Cond.castable E name).before args s = true) (hcell : H[q]? = some ce) (hv : ce.vm = .none) (hcl : s.vm.findClass E = some ce.cls)
    (kk : W p l e R s m args below meth c H locs cells slots Q (F0 m x.handlerPc ls [.ref q])) : vx_W p l e R s m args below meth c H locs cells slots Q (F0 m pc ls rest) q := by
  intro T hT X
  have hpl : e.platform.magicAccessors = ({} : Platform).magicAccessors := by rw [X.admits.platform]
  obtain ⟨c3, c4, hc3, hc4, hasg⟩ := Cond.castable_spec hcast
  cases Option.some.inj (hc3.symm.trans hcl)
  obtain ⟨c5, hc5, hcl5⟩ := Cond.classLink_spec hown hlink e.platform hpl
  cases Option.some.inj (hc4.symm.trans hc5)
  obtain ⟨vm', X', st⟩ := Jvm.Stand.thenCaughtThrough X q (g := F0 m pc ls rest) rfl (Steps.refl _) (by rw [hT]; exact hcell) (by rw [hv]; rfl) (by obtain ⟨k9, h9, -⟩ := Vm.findClass_spec hcl; exact ⟨k9, h9⟩) pre x suf hsplit
    (fun z hz => by
      rcases hpass z hz with h | ⟨hz0, nm, hl1, hn1⟩
      · exact Or.inl h
      · obtain ⟨c6, hc6, hcl6⟩ := Cond.classLink_spec hown hl1 e.platform hpl
        obtain ⟨a8, b8, h1, h2, h3⟩ := hn1
        cases Option.some.inj (h1.symm.trans hcl)
        cases Option.some.inj (h2.symm.trans hc6)
        exact Or.inr ⟨hz0, _, hcl6, h3⟩) hx (Or.inr ⟨h0, c4, hcl5, hasg⟩)
  obtain ⟨t, a1, b1⟩ := kk (T.setVm vm') hT X'
  exact ⟨t, st.trans a1, b1⟩
end Rows
section Ends
variable {p : Program} {l : Launch} {e : Env} {R : Room} {s : State} {m : MethodId} {args : Array Value} {below : List Frame} {meth : Method} {c : Code} {H : Heap} {locs : List Loc} {cells slots : Nat} {Q : State → Prop}
variable {mc ms : Nat} {free : Addr → Prop} {A0 A1 : Nat → Prop} {H0 : Heap} {a : Array Value} {ls : Array Slot} {st0 rest : List Value}
variable {Qc : Array Value → State → Outcome → State → Prop} {XC : String → State → State → Prop}
/-- what a body that may throw owes at its end -/
def vx_MQ (below : List Frame) (Qc : Array Value → State → Outcome → State → Prop) (XC : String → State → State → Prop) (a : Array Value) (s : State) (mc ms : Nat) (free : Addr → Prop) : State → Prop := fun t =>
  ∃ o, t.status = .running ∧ Ended t below o ∧ vx_Q Qc XC mc ms free a s o t
theorem vx_ret {g : JFrame} {mc ms : Nat} (k : W p l e R s m args below meth c H locs cells slots (MQ below Qc args s mc ms free) g) : W p l e R s m args below meth c H locs cells slots (vx_MQ below Qc XC args s mc ms free) g := by
  intro T hT X
  obtain ⟨t, a1, o, b1, b2, b3, b4⟩ := k T hT X
  exact ⟨t, a1, o, b1, b2, Or.inl ⟨b3, b4⟩⟩
/-- not caught here: it goes on to the caller -/
theorem vx_widen {g : JFrame} {q : Addr} {k n : Nat} (h1 : cells ≤ k) (h2 : slots ≤ n) (kk : vx_W p l e R s m args below meth c H locs k n Q g q) : vx_W p l e R s m args below meth c H locs cells slots Q g q := fun T hT X => kk T hT (stand_widen X h1 h2)
theorem vx_out {pc : Nat} {E : String} {ce : Cell} {q : Addr} {mc ms : Nat} (hout : ∀ x ∈ c.exceptionTable.toList, covers x pc = false) (hlocks : meth.locks = false) (hcell : H[q]? = some ce) (hv : ce.vm = .none) (hcl : s.vm.findClass E = some ce.cls)
    (hx : ∀ t : State, t.heap = H → s.vm.Alike t.vm → XC E s t) (hf : ∀ z ∈ locs, free z.base) (hc : cells ≤ mc) (hs : slots ≤ ms) :
    vx_W p l e R s m args below meth c H locs cells slots (vx_MQ below Qc XC args s mc ms free) (F0 m pc ls rest) q := by
  intro T hT X
  obtain ⟨st1, hrun, hend, hW, hsm⟩ := X.leaveThrown q (g := F0 m pc ls rest) rfl rfl rfl hout hlocks
  have hcell9 : (T.setFrames (.throwing q :: below)).heap[q]? = some ce := by
    show T.heap[q]? = some ce
    rw [hT]; exact hcell
  exact ⟨_, st1, .threw q, hrun, hend, Or.inr ⟨q, rfl, E, ce, locs, hx _ hT hW.alike, hcell9, hv, hcl, hW, hsm.mono hc hs, hf⟩⟩
theorem vx_frame {U : State} {k n : Nat} (h : s.sameButNew ({ U with vm := s.vm } : State) locs k n) : s.heap.size ≤ U.heap.size ∧ ∀ q : Nat, q < s.heap.size → (∀ z ∈ locs, z.base ≠ q) → U.heap[q]? = s.heap[q]? := by
  obtain ⟨-, h2, -, -, -, h6⟩ := h
  refine ⟨h2, fun q hq hz => ?_⟩
  obtain ⟨c9, e1, e2, e3, e4⟩ := h6 q _ (Array.getElem?_eq_getElem hq)
  have hs : c9.slots = (s.heap[q]).slots := Array.ext_getElem? fun i => e4 i fun hm => hz _ hm rfl
  have h9 : c9 = s.heap[q] := by
    rw [hs] at e2
    exact e2
  have e5 : U.heap[q]? = some c9 := e1
  rw [e5, h9, Array.getElem?_eq_getElem hq]
/-- the words of a throw but the four that speak of the heap -/
def vx_no (w : Cond) : Bool := decide (w ≠ .isRef (.static Bundle.tN "UNASSIGNED_STACK" Bundle.steD)) && decide (w ≠ .isRef (.static Bundle.tN "SUPPRESSED_SENTINEL" Bundle.listD)) && decide (w ≠ .laysStatic Bundle.tN "UNASSIGNED_STACK" Bundle.steD) && decide (w ≠ .laysStatic Bundle.tN "SUPPRESSED_SENTINEL" Bundle.listD)
def vx_at0 (own : String) (ic : Nat) (X : String) (names : List String) : List Cond := (Bundle.ownAtoms0 own ic X names).filter vx_no
def vx_atS (own : String) (ic : Nat) (X : String) (names : List String) : List Cond := (Bundle.ownAtoms own ic X names).filter vx_no
/-- a word that the tables alone decide, or a good one -/
def vx_ot (w : Cond) : Bool := w.onTables || goodWord w
theorem vx_ot_at {args a' : Array Value} {s U : State} {w : Cond} (hW : s.WarmedH U.vm) (hvm : s.vm = U.vm) (hg : vx_ot w = true) (h : w.before args s = true) : w.before a' U = true := by
  simp only [vx_ot, Bool.or_eq_true] at hg
  rcases hg with hg | hg
  · exact va_tabs hg hvm h
  · exact word_at hW (good_of_word hg) h
/-- a list's words: the good ones out of the method's own list, the others by premises of their own -/
theorem vx_hat {args : Array Value} {s : State} {L B : List Cond} (h1 : ∀ w ∈ L.filter goodWord, w.before args s = true) (h2 : ∀ w ∈ L.filter (fun w => !goodWord w), w ∈ B) (h3 : ∀ w ∈ B, w.before args s = true) : ∀ w ∈ L, w.before args s = true := by
  intro w hw
  by_cases g : goodWord w = true
  · exact h1 w (List.mem_filter.mpr ⟨hw, g⟩)
  · refine h3 w (h2 w (List.mem_filter.mpr ⟨hw, ?_⟩))
    show (!goodWord w) = true
    cases hgw : goodWord w
    · rfl
    · exact absurd hgw g
theorem vx_c {args : Array Value} {s : State} {w : Cond} {B : List Cond} (h : w.before args s = true) (t : ∀ w ∈ B, w.before args s = true) : ∀ w' ∈ w :: B, w'.before args s = true := fun w' h' => (List.mem_cons.mp h').elim (fun e => by rw [e]; exact h) (t w')
theorem vx_n {args : Array Value} {s : State} : ∀ w ∈ ([] : List Cond), w.before args s = true := fun _ h => nomatch h
theorem vx_own {args : Array Value} {s : State} {L : List Cond} (h1 : ∀ w ∈ L.filter vx_no, w.before args s = true)
    (hU : (Cond.isRef (.static Bundle.tN "UNASSIGNED_STACK" Bundle.steD)).before args s = true) (hN : (Cond.isRef (.static Bundle.tN "SUPPRESSED_SENTINEL" Bundle.listD)).before args s = true)
    (lU : (Cond.laysStatic Bundle.tN "UNASSIGNED_STACK" Bundle.steD).before args s = true) (lN : (Cond.laysStatic Bundle.tN "SUPPRESSED_SENTINEL" Bundle.listD).before args s = true) : ∀ w ∈ L, w.before args s = true := by
  intro w hw
  by_cases e1 : w = .isRef (.static Bundle.tN "UNASSIGNED_STACK" Bundle.steD)
  · rw [e1]; exact hU
  · by_cases e2 : w = .isRef (.static Bundle.tN "SUPPRESSED_SENTINEL" Bundle.listD)
    · rw [e2]; exact hN
    · by_cases e3 : w = .laysStatic Bundle.tN "UNASSIGNED_STACK" Bundle.steD
      · rw [e3]; exact lU
      · by_cases e4 : w = .laysStatic Bundle.tN "SUPPRESSED_SENTINEL" Bundle.listD
        · rw [e4]; exact lN
        · exact h1 w (List.mem_filter.mpr ⟨hw, by unfold vx_no; rw [decide_eq_true e1, decide_eq_true e2, decide_eq_true e3, decide_eq_true e4]; rfl⟩)
/-- where a static field lies, its class's statics cell in H -/
def vx_L (C n d : String) (A : Nat → Prop) (U : State) (H : Heap) : Prop := ∃ (c : ClassId) (k : Class) (i : Nat) (f : Field) (a : Nat) (cell : Cell), U.vm.findClass C = some c ∧ U.fieldFound? C n d = some (c, k, i, f) ∧ f.isStatic = true ∧ k.statics = some a ∧ H[a]? = some cell ∧ cell.vm.isStatics = true ∧ cell.cls = c ∧ f.slot < cell.slots.size ∧ k.staticTypes[f.slot]? = some f.type ∧ ¬ A a
theorem vx_L.moved {C n d : String} {A : Nat → Prop} {u U : State} {H : Heap} (hvm : u.vm.Alike U.vm) (h : vx_L C n d A u H) : vx_L C n d A U H := by
  obtain ⟨c, k, i, f, a, cell, h1, h2, h3, h4, h5, h6, h7, h8, h9, h10⟩ := h
  obtain ⟨k', hi', he⟩ := State.fieldFound?_setVm hvm h2
  exact ⟨c, k', i, f, a, cell, by rw [hvm.findClass]; exact h1, hi', h3, by rw [he]; exact h4, h5, h6, h7, h8, by rw [he]; exact h9, h10⟩
theorem vx_L.kept {C n d : String} {A : Nat → Prop} {U : State} {H H1 : Heap} (h : vx_L C n d A U H) (hq : ∀ a : Nat, a < H.size → ¬ A a → H1[a]? = H[a]?) : vx_L C n d A U H1 := by
  obtain ⟨c, k, i, f, a, cell, h1, h2, h3, h4, h5, h6, h7, h8, h9, h10⟩ := h
  exact ⟨c, k, i, f, a, cell, h1, h2, h3, h4, by rw [hq a (Array.getElem?_eq_some_iff.mp h5).1 h10]; exact h5, h6, h7, h8, h9, h10⟩
theorem vx_L.narrow {C n d : String} {A B : Nat → Prop} {U : State} {H : Heap} (h : vx_L C n d A U H) (hAB : ∀ q, B q → A q) : vx_L C n d B U H := by
  obtain ⟨c, k, i, f, a, cell, h1, h2, h3, h4, h5, h6, h7, h8, h9, h10⟩ := h
  exact ⟨c, k, i, f, a, cell, h1, h2, h3, h4, h5, h6, h7, h8, h9, fun z => h10 (hAB _ z)⟩
theorem vx_L.word {C n d : String} {A : Nat → Prop} {s : State} {args : Array Value} (h : vx_L C n d A s s.heap) : (Cond.laysStatic C n d).before args s = true := by
  obtain ⟨c, k, i, f, a, cell, h1, h2, h3, h4, h5, h6, h7, h8, h9, -⟩ := h
  show (Cond.laysStatic C n d).holds args s none s [] = true
  exact Cond.laysStatic_of h1 h2 h3 h4 h5 h6 h7 h8 h9
/-- .. and what it holds: null or some reference -/
def vx_Zq (C n d : String) (A : Nat → Prop) (U : State) (H : Heap) : Prop := va_Zq C n d A U H ∧ vx_L C n d A U H
theorem vx_Zq.moved {C n d : String} {A : Nat → Prop} {u U : State} {H : Heap} (hvm : u.vm.Alike U.vm) (h : vx_Zq C n d A u H) : vx_Zq C n d A U H := ⟨va_Zq.moved hvm h.1, vx_L.moved hvm h.2⟩
theorem vx_Zq.kept {C n d : String} {A : Nat → Prop} {U : State} {H H1 : Heap} (h : vx_Zq C n d A U H) (hq : ∀ a : Nat, a < H.size → ¬ A a → H1[a]? = H[a]?) : vx_Zq C n d A U H1 := ⟨va_Zq.kept h.1 hq, vx_L.kept h.2 hq⟩
theorem vx_Zq.narrow {C n d : String} {A B : Nat → Prop} {U : State} {H : Heap} (h : vx_Zq C n d A U H) (hAB : ∀ q, B q → A q) : vx_Zq C n d B U H := ⟨va_Zq.narrow h.1 hAB, vx_L.narrow h.2 hAB⟩
theorem vx_Zqof {args : Array Value} {s : State} {C n d : String} {A : Nat → Prop} (hl : (Cond.laysStatic C n d).before args s = true) (hini : (Cond.initialized C).before args s = true) (h : (Cond.isRef (.static C n d)).before args s = true) (hA : ∀ a : Nat, a < s.heap.size → ¬ A a) : vx_Zq C n d A s s.heap := by
  refine ⟨va_Zqof hl hini h hA, ?_⟩
  obtain ⟨c, k, i, f, a, cell, h1, h2, h3, h4, h5, h6, h7, h8, h9⟩ := Cond.laysStatic_spec hl
  exact ⟨c, k, i, f, a, cell, h1, h2, h3, h4, h5, h6, h7, h8, h9, hA a (Array.getElem?_eq_some_iff.mp h5).1⟩
theorem vx_isRef {C n d : String} {v : Value} {A : Nat → Prop} {s : State} {args : Array Value} (h : va_Z C n d v A s s.heap) (hv : v.isRef = true) : (Cond.isRef (.static C n d)).before args s = true := by
  obtain ⟨cf, kf, fi, f, a, cell, h1, h2, h3, h4, h5, h6, h7, -⟩ := h
  have he : (Term.static C n d).eval args s none [] s = some v := by
    simp [Term.eval, State.fieldNamed?, h1, h2, h4, h5, h6, h7]
  simp only [Cond.before, Cond.holds, Cond.value, he]
  cases v <;> simp_all [Value.isRef]
theorem vx_isRefq {C n d : String} {A : Nat → Prop} {s : State} {args : Array Value} (h : va_Zq C n d A s s.heap) : (Cond.isRef (.static C n d)).before args s = true := by
  rcases h with h | ⟨t, h⟩
  · exact vx_isRef h rfl
  · exact vx_isRef h rfl
/-- the same frame, seen from here: as if the method were called anew in this heap -/
theorem vx_rebase {T : State} (X : Stand p l e R s m args below meth c T locs cells slots) {R' : Room} (hf : R'.frames ≤ R.frames) (hl : R'.locals ≤ R.locals) (hc : cells + R'.cells ≤ R.cells) (hs : slots + R'.slots ≤ R.slots) :
    Stand p l e R' ((T.setVm s.vm).setFrames (.invoking m args :: below)) m args below meth c T [] 0 0 := by
  have htop : (T.setVm s.vm).topJava?.isSome := X.here.top
  have hF : ((T.setVm s.vm).setFrames (.invoking m args :: below)).frames = .invoking m args :: below := State.frames_setFrames _ (State.cur_lt_of_top htop)
  obtain ⟨g₀, hg0⟩ := Option.isSome_iff_exists.mp htop
  obtain ⟨r, hr⟩ := State.topJava?_eq_some.mp hg0
  have hl9 : e.platform.stackLimits (T.setVm s.vm).me = e.platform.stackLimits s.me := X.limits
  have hb9 : (T.setVm s.vm).me.stackBytes = s.me.stackBytes := X.bytes
  refine ⟨X.admits, X.cas, X.clock, hF, ?_, X.hears, X.method, X.code, X.here, X.tail, X.warmed, ?_, ?_, ?_⟩
  · have h := X.room
    have hU : ((T.setVm s.vm).setFrames (.invoking m args :: below)).localsInUse = s.localsInUse := by
      rw [State.localsInUse_invoking hF (meth := meth) (c := c) X.method X.code, State.localsInUse_invoking X.frames X.method X.code]
    simp only [State.hasRoom, Bool.and_eq_true, decide_eq_true_eq] at h ⊢
    obtain ⟨⟨⟨⟨h1, h2, h3, h4, h5, h6⟩, h7⟩, h8⟩, h9⟩ := h
    rw [X.frames, List.length_cons] at h2 h3
    have q1 := X.heapSize
    have q2 := X.used
    simp only [hF, hU, List.length_cons, State.stackLimits_setFrames, State.stackBytes_setFrames, hl9, hb9]
    refine ⟨⟨⟨⟨by omega, by omega, by omega, by omega, by omega, h6⟩, ?_⟩, ?_⟩, X.book⟩
    · show T.heap.size + R'.cells ≤ e.platform.maxCells
      omega
    · show T.slotsUsed + R'.slots ≤ e.platform.maxSlots
      omega
  · rw [State.stackLimits_setFrames]; rfl
  · rw [State.stackBytes_setFrames]; rfl
  · refine ⟨?_, Nat.le_refl _, Nat.le_refl _, ?_, ?_, fun a c9 h9 => ⟨c9, h9, rfl, rfl, fun _ _ => rfl⟩⟩
    · obtain ⟨t, ht, -⟩ := State.frames_cons hr
      show T.setVm s.vm = { ((T.setVm s.vm).setFrames (.invoking m args :: below)).setFrames (T.setVm s.vm).frames with heap := T.heap, slotsUsed := T.slotsUsed }
      rw [State.setFrames_setFrames, State.setFrames_self ht]
      rfl
    · show T.slotsUsed = T.slotsUsed + ((T.heap.toList.drop T.heap.size).map (·.slots.size)).sum
      rw [List.drop_eq_nil_of_le (Nat.le_of_eq Array.length_toList)]
      rfl
    · show ((T.heap.toList.drop T.heap.size).map (·.slots.size)).sum ≤ 0
      rw [List.drop_eq_nil_of_le (Nat.le_of_eq Array.length_toList)]
      exact Nat.le_refl _
/-- 'throw new E()': new; dup; invokespecial; athrow -/
theorem vx_throw0 {cc : ByteArray} {pc : Nat} (hexec : p.tables.exec = Jvm.exec) (hb : c.code = cc) (hl : l.stackTraces = false) {own cls : String} {names : List String} {ik ic mc ms : Nat} {A : Nat → Prop}
    (hown : s.vm.findClass own = some m.cls) (hcls : Bundle.fit cls = true) (hnames : ∀ n ∈ names, Bundle.fit n = true)
    (hk : (Cond.classLink own ik cls).before args s = true) (hini : (Cond.initialized cls).before args s = true) (hat : ∀ w ∈ vx_at0 own ic cls names, w.before args s = true)
    (hgood : ∀ w ∈ Cond.classLink own ik cls :: Cond.initialized cls :: vx_at0 own ic cls names, vx_ot w = true)
    (hU : vx_Zq Bundle.tN "UNASSIGNED_STACK" Bundle.steD A s s.heap) (hN : vx_Zq Bundle.tN "SUPPRESSED_SENTINEL" Bundle.listD A s s.heap) (hS : va_S A s.heap H locs) (hsize : ls.size = c.maxLocals)
    (d0 : decode cc pc = .ok (.new ik, 3)) (d3 : decode cc (pc + 3) = .ok (.dup, 1)) (d4 : decode cc (pc + 4) = .ok (.invokespecial ic, 3)) (d7 : decode cc (pc + 7) = .ok (.athrow, 1))
    (hout : ∀ x ∈ c.exceptionTable.toList, covers x (pc + 7) = false)
    (hRframes : names.length + 3 < R.frames) (hRlocals : (rest.map fun v => v.category).sum + (13 * (names.length + 1) + 42) ≤ R.locals) (hRcells : cells + 1 ≤ R.cells) (hRslots : slots + 6 ≤ R.slots) (hlocks : meth.locks = false)
    (hx : ∀ t : State, s.vm.Alike t.vm → H.size ≤ t.heap.size → (∀ q : Nat, q < H.size → t.heap[q]? = H[q]?) → XC cls s t)
    (hf : ∀ z ∈ locs, free z.base) (hc : cells + 1 ≤ mc) (hs : slots + 6 ≤ ms) :
    W p l e R s m args below meth c H locs cells slots (vx_MQ below Qc XC args s mc ms free) (F0 m pc ls rest) := by
  intro T hT X
  have htr : e.platform.stackTraces = false := (show e.platform.stackTraces = l.stackTraces by rw [X.admits.platform]).trans hl
  have Y := vx_rebase X (R' := { frames := R.frames, locals := R.locals, cells := 1, slots := 6 }) (Nat.le_refl _) (Nat.le_refl _) hRcells hRslots
  obtain ⟨s', hA⟩ : ∃ z, z = (T.setVm s.vm).setFrames (.invoking m args :: below) := ⟨_, rfl⟩
  rw [← hA] at Y
  have hvm : s'.vm = s.vm := by rw [hA]; rfl
  have hhp : s'.heap = H := by rw [hA]; exact hT
  have hW0 : s.WarmedH s'.vm := by rw [hvm]; exact State.WarmedH.refl s
  have hat' : ∀ w ∈ vx_at0 own ic cls names, w.before args s' = true := fun w hw => vx_ot_at hW0 hvm.symm (hgood w (List.mem_cons_of_mem _ (List.mem_cons_of_mem _ hw))) (hat w hw)
  have hk' : (Cond.classLink own ik cls).before args s' = true := vx_ot_at hW0 hvm.symm (hgood _ List.mem_cons_self) hk
  have hini' : (Cond.initialized cls).before args s' = true := vx_ot_at hW0 hvm.symm (hgood _ (List.mem_cons_of_mem _ List.mem_cons_self)) hini
  have hU' : vx_Zq Bundle.tN "UNASSIGNED_STACK" Bundle.steD A s' s'.heap := by rw [hhp]; exact vx_Zq.moved hW0.alike (hU.kept hS.2.1)
  have hN' : vx_Zq Bundle.tN "SUPPRESSED_SENTINEL" Bundle.listD A s' s'.heap := by rw [hhp]; exact vx_Zq.moved hW0.alike (hN.kept hS.2.1)
  have h : ∀ w ∈ Bundle.ownAtoms0 own ic cls names, w.before args s' = true := vx_own hat' (vx_isRefq hU'.1) (vx_isRefq hN'.1) hU'.2.word hN'.2.word
  have hown' : s'.vm.findClass own = some m.cls := by rw [hvm]; exact hown
  have hins : (Cond.instantiable cls 6).before args s' = true := h _ (by simp [Bundle.ownAtoms0])
  obtain ⟨vm₁, cX, kX, hfX, hkX, -, -, X₁, st1⟩ := Y.newCold hexec (own := own) (C := cls) (index := ik) (n := 6) hown' hk' hins hini'
    (g := F0 m pc ls rest) rfl (by rw [hb]; exact d0) (Nat.le_refl _) (Nat.le_refl _)
  generalize hT1 : (T.setVm vm₁).pushCell { cls := cX, slots := kX.instanceTypes.map defaultValue, vm := .none } = T1 at X₁ st1
  have hcat : (Value.ref T.heap.size).category = 1 := rfl
  have hcellA : T1.heap[T.heap.size]? = some (freshCell cX kX) := by rw [← hT1]; exact State.heap_pushCell_size _ _
  have d3' : decode c.code (pc + 3) = .ok (.dup, 1) := by rw [hb]; exact d3
  obtain ⟨U, hsteps, hrun, hend, hW, hsame, ce, hce, hO⟩ := X₁.ctorThrow0 hexec htr (own := own) (cls := cls) (names := names) (ic := ic) hown' hcls hnames h (fun x hx => nomatch hx) hfX hkX hcellA (by rw [hhp, hT]; exact Nat.le_refl _)
    (g := { method := m, pc := pc + 4, locals := ls, stack := .ref T.heap.size :: .ref T.heap.size :: rest, locked := none }) rfl hsize rfl rfl (rest := rest) rfl
    (by rw [hb]; exact d4) (by rw [hb]; exact d7) hout hRframes (by simp only [List.map_cons, List.sum_cons, hcat]; omega) hlocks
  obtain ⟨f1, f2⟩ := vx_frame hsame
  rw [hhp] at f1 f2
  have hWs : s.WarmedH U.vm := State.WarmedH.trans hW0 hW
  have hcl : s.vm.findClass cls = some ce.cls := by
    have h9 := hO.cls
    rw [hvm] at h9
    exact h9
  have hall : s.sameButNew ({ U with vm := s.vm } : State) locs mc ms := by
    subst hA
    obtain ⟨e1, e2⟩ := hsame
    rw [State.setFrames_setFrames] at e1
    have h2 : (T.setVm s.vm).sameButNew ({ U with vm := s.vm } : State) [] (0 + 1) (0 + 6) := ⟨e1, e2⟩
    have h3 := X.same.trans h2
    rw [List.append_nil] at h3
    exact h3.mono hc hs
  refine ⟨U, ?_, .threw T.heap.size, hrun, hend, Or.inr ⟨T.heap.size, rfl, cls, ce, locs, hx U hWs.alike f1 (fun q hq => f2 q hq (fun z hz => nomatch hz)), hce, hO.vm, hcl, hWs, hall, hf⟩⟩
  refine st1 _ ?_
  show Steps p.tables e below (T1.setTop { method := m, pc := pc + 3, locals := ls, stack := .ref T.heap.size :: rest, locked := none }) _
  jvm_step X₁.here [X₁.here.top, hexec, d3', Value.category]
  exact hsteps
/-- 'throw new E("text")': new; dup; ldc; invokespecial; athrow -/
theorem vx_throwS {cc : ByteArray} {pc : Nat} (hexec : p.tables.exec = Jvm.exec) (hb : c.code = cc) (hl : l.stackTraces = false) {own cls text : String} {names : List String} {ik is ic mc ms sa : Nat} {A : Nat → Prop}
    (hown : s.vm.findClass own = some m.cls) (hcls : Bundle.fit cls = true) (hnames : ∀ n ∈ names, Bundle.fit n = true)
    (hk : (Cond.classLink own ik cls).before args s = true) (hini : (Cond.initialized cls).before args s = true) (hstr : vk_R own is text sa s) (hat : ∀ w ∈ vx_atS own ic cls names, w.before args s = true)
    (hgood : ∀ w ∈ Cond.classLink own ik cls :: Cond.initialized cls :: vx_atS own ic cls names, vx_ot w = true)
    (hU : vx_Zq Bundle.tN "UNASSIGNED_STACK" Bundle.steD A s s.heap) (hN : vx_Zq Bundle.tN "SUPPRESSED_SENTINEL" Bundle.listD A s s.heap) (hS : va_S A s.heap H locs) (hsize : ls.size = c.maxLocals)
    (d0 : decode cc pc = .ok (.new ik, 3)) (d3 : decode cc (pc + 3) = .ok (.dup, 1)) (d4 : decode cc (pc + 4) = .ok (.ldc is, 2)) (d6 : decode cc (pc + 6) = .ok (.invokespecial ic, 3)) (d9 : decode cc (pc + 9) = .ok (.athrow, 1))
    (hout : ∀ x ∈ c.exceptionTable.toList, covers x (pc + 9) = false)
    (hRframes : names.length + 3 < R.frames) (hRlocals : (rest.map fun v => v.category).sum + (13 * (names.length + 1) + 43) ≤ R.locals) (hRcells : cells + 1 ≤ R.cells) (hRslots : slots + 6 ≤ R.slots) (hlocks : meth.locks = false)
    (hx : ∀ t : State, s.vm.Alike t.vm → H.size ≤ t.heap.size → (∀ q : Nat, q < H.size → t.heap[q]? = H[q]?) → XC cls s t)
    (hf : ∀ z ∈ locs, free z.base) (hc : cells + 1 ≤ mc) (hs : slots + 6 ≤ ms) :
    W p l e R s m args below meth c H locs cells slots (vx_MQ below Qc XC args s mc ms free) (F0 m pc ls rest) := by
  intro T hT X
  have htr : e.platform.stackTraces = false := (show e.platform.stackTraces = l.stackTraces by rw [X.admits.platform]).trans hl
  have Y := vx_rebase X (R' := { frames := R.frames, locals := R.locals, cells := 1, slots := 6 }) (Nat.le_refl _) (Nat.le_refl _) hRcells hRslots
  obtain ⟨s', hA⟩ : ∃ z, z = (T.setVm s.vm).setFrames (.invoking m args :: below) := ⟨_, rfl⟩
  rw [← hA] at Y
  have hvm : s'.vm = s.vm := by rw [hA]; rfl
  have hhp : s'.heap = H := by rw [hA]; exact hT
  have hW0 : s.WarmedH s'.vm := by rw [hvm]; exact State.WarmedH.refl s
  have hat' : ∀ w ∈ vx_atS own ic cls names, w.before args s' = true := fun w hw => vx_ot_at hW0 hvm.symm (hgood w (List.mem_cons_of_mem _ (List.mem_cons_of_mem _ hw))) (hat w hw)
  have hk' : (Cond.classLink own ik cls).before args s' = true := vx_ot_at hW0 hvm.symm (hgood _ List.mem_cons_self) hk
  have hini' : (Cond.initialized cls).before args s' = true := vx_ot_at hW0 hvm.symm (hgood _ (List.mem_cons_of_mem _ List.mem_cons_self)) hini
  have hU' : vx_Zq Bundle.tN "UNASSIGNED_STACK" Bundle.steD A s' s'.heap := by rw [hhp]; exact vx_Zq.moved hW0.alike (hU.kept hS.2.1)
  have hN' : vx_Zq Bundle.tN "SUPPRESSED_SENTINEL" Bundle.listD A s' s'.heap := by rw [hhp]; exact vx_Zq.moved hW0.alike (hN.kept hS.2.1)
  have h : ∀ w ∈ Bundle.ownAtoms own ic cls names, w.before args s' = true := vx_own hat' (vx_isRefq hU'.1) (vx_isRefq hN'.1) hU'.2.word hN'.2.word
  have hown' : s'.vm.findClass own = some m.cls := by rw [hvm]; exact hown
  have hins : (Cond.instantiable cls 6).before args s' = true := h _ (by simp [Bundle.ownAtoms])
  obtain ⟨vm₁, cX, kX, hfX, hkX, -, -, X₁, st1⟩ := Y.newCold hexec (own := own) (C := cls) (index := ik) (n := 6) hown' hk' hins hini'
    (g := F0 m pc ls rest) rfl (by rw [hb]; exact d0) (Nat.le_refl _) (Nat.le_refl _)
  generalize hT1 : (T.setVm vm₁).pushCell { cls := cX, slots := kX.instanceTypes.map defaultValue, vm := .none } = T1 at X₁ st1
  have hcat : (Value.ref T.heap.size).category = 1 := rfl
  have hcellA : T1.heap[T.heap.size]? = some (freshCell cX kX) := by rw [← hT1]; exact State.heap_pushCell_size _ _
  have d3' : decode c.code (pc + 3) = .ok (.dup, 1) := by rw [hb]; exact d3
  have d4' : decode c.code (pc + 4) = .ok (.ldc is, 2) := by rw [hb]; exact d4
  have hstr' : vk_R own is text sa s' := vk_R.warm hW0 hstr
  obtain ⟨U, hsteps, hrun, hend, hW, hsame, ce, hce, hO⟩ := X₁.ctorThrowS hexec htr (own := own) (cls := cls) (names := names) (ic := ic) hown' hcls hnames h (fun x hx => nomatch hx) hfX hkX hcellA (by rw [hhp, hT]; exact Nat.le_refl _) (msg := .ref sa) rfl
    (g := { method := m, pc := pc + 6, locals := ls, stack := .ref sa :: .ref T.heap.size :: .ref T.heap.size :: rest, locked := none }) rfl hsize rfl rfl (rest := rest) rfl
    (by rw [hb]; exact d6) (by rw [hb]; exact d9) hout hRframes (by simp only [List.map_cons, List.sum_cons, hcat]; omega) hlocks
  obtain ⟨f1, f2⟩ := vx_frame hsame
  rw [hhp] at f1 f2
  have hWs : s.WarmedH U.vm := State.WarmedH.trans hW0 hW
  have hcl : s.vm.findClass cls = some ce.cls := by
    have h9 := hO.cls
    rw [hvm] at h9
    exact h9
  have hall : s.sameButNew ({ U with vm := s.vm } : State) locs mc ms := by
    subst hA
    obtain ⟨e1, e2⟩ := hsame
    rw [State.setFrames_setFrames] at e1
    have h2 : (T.setVm s.vm).sameButNew ({ U with vm := s.vm } : State) [] (0 + 1) (0 + 6) := ⟨e1, e2⟩
    have h3 := X.same.trans h2
    rw [List.append_nil] at h3
    exact h3.mono hc hs
  refine ⟨U, ?_, .threw T.heap.size, hrun, hend, Or.inr ⟨T.heap.size, rfl, cls, ce, locs, hx U hWs.alike f1 (fun q hq => f2 q hq (fun z hz => nomatch hz)), hce, hO.vm, hcl, hWs, hall, hf⟩⟩
  refine st1 _ ?_
  show Steps p.tables e below (T1.setTop { method := m, pc := pc + 3, locals := ls, stack := .ref T.heap.size :: rest, locked := none }) _
  jvm_step X₁.here [X₁.here.top, hexec, d3', Value.category]
  exact X₁.ldcString hexec (own := own) (text := text) (index := is) (a := sa) hown' hstr'.1 hstr'.2
    (g := { method := m, pc := pc + 4, locals := ls, stack := .ref T.heap.size :: .ref T.heap.size :: rest, locked := none }) rfl d4' _ hsteps
/-- 'throw new E("text")', the text by a wide index -/
theorem vx_throwSW {cc : ByteArray} {pc : Nat} (hexec : p.tables.exec = Jvm.exec) (hb : c.code = cc) (hl : l.stackTraces = false) {own cls text : String} {names : List String} {ik is ic mc ms sa : Nat} {A : Nat → Prop}
    (hown : s.vm.findClass own = some m.cls) (hcls : Bundle.fit cls = true) (hnames : ∀ n ∈ names, Bundle.fit n = true)
    (hk : (Cond.classLink own ik cls).before args s = true) (hini : (Cond.initialized cls).before args s = true) (hstr : vk_R own is text sa s) (hat : ∀ w ∈ vx_atS own ic cls names, w.before args s = true)
    (hgood : ∀ w ∈ Cond.classLink own ik cls :: Cond.initialized cls :: vx_atS own ic cls names, vx_ot w = true)
    (hU : vx_Zq Bundle.tN "UNASSIGNED_STACK" Bundle.steD A s s.heap) (hN : vx_Zq Bundle.tN "SUPPRESSED_SENTINEL" Bundle.listD A s s.heap) (hS : va_S A s.heap H locs) (hsize : ls.size = c.maxLocals)
    (d0 : decode cc pc = .ok (.new ik, 3)) (d3 : decode cc (pc + 3) = .ok (.dup, 1)) (d4 : decode cc (pc + 4) = .ok (.ldc_w is, 3)) (d7 : decode cc (pc + 7) = .ok (.invokespecial ic, 3)) (d10 : decode cc (pc + 10) = .ok (.athrow, 1))
    (hout : ∀ x ∈ c.exceptionTable.toList, covers x (pc + 10) = false)
    (hRframes : names.length + 3 < R.frames) (hRlocals : (rest.map fun v => v.category).sum + (13 * (names.length + 1) + 43) ≤ R.locals) (hRcells : cells + 1 ≤ R.cells) (hRslots : slots + 6 ≤ R.slots) (hlocks : meth.locks = false)
    (hx : ∀ t : State, s.vm.Alike t.vm → H.size ≤ t.heap.size → (∀ q : Nat, q < H.size → t.heap[q]? = H[q]?) → XC cls s t)
    (hf : ∀ z ∈ locs, free z.base) (hc : cells + 1 ≤ mc) (hs : slots + 6 ≤ ms) :
    W p l e R s m args below meth c H locs cells slots (vx_MQ below Qc XC args s mc ms free) (F0 m pc ls rest) := by
  intro T hT X
  have htr : e.platform.stackTraces = false := (show e.platform.stackTraces = l.stackTraces by rw [X.admits.platform]).trans hl
  have Y := vx_rebase X (R' := { frames := R.frames, locals := R.locals, cells := 1, slots := 6 }) (Nat.le_refl _) (Nat.le_refl _) hRcells hRslots
  obtain ⟨s', hA⟩ : ∃ z, z = (T.setVm s.vm).setFrames (.invoking m args :: below) := ⟨_, rfl⟩
  rw [← hA] at Y
  have hvm : s'.vm = s.vm := by rw [hA]; rfl
  have hhp : s'.heap = H := by rw [hA]; exact hT
  have hW0 : s.WarmedH s'.vm := by rw [hvm]; exact State.WarmedH.refl s
  have hat' : ∀ w ∈ vx_atS own ic cls names, w.before args s' = true := fun w hw => vx_ot_at hW0 hvm.symm (hgood w (List.mem_cons_of_mem _ (List.mem_cons_of_mem _ hw))) (hat w hw)
  have hk' : (Cond.classLink own ik cls).before args s' = true := vx_ot_at hW0 hvm.symm (hgood _ List.mem_cons_self) hk
  have hini' : (Cond.initialized cls).before args s' = true := vx_ot_at hW0 hvm.symm (hgood _ (List.mem_cons_of_mem _ List.mem_cons_self)) hini
  have hU' : vx_Zq Bundle.tN "UNASSIGNED_STACK" Bundle.steD A s' s'.heap := by rw [hhp]; exact vx_Zq.moved hW0.alike (hU.kept hS.2.1)
  have hN' : vx_Zq Bundle.tN "SUPPRESSED_SENTINEL" Bundle.listD A s' s'.heap := by rw [hhp]; exact vx_Zq.moved hW0.alike (hN.kept hS.2.1)
  have h : ∀ w ∈ Bundle.ownAtoms own ic cls names, w.before args s' = true := vx_own hat' (vx_isRefq hU'.1) (vx_isRefq hN'.1) hU'.2.word hN'.2.word
  have hown' : s'.vm.findClass own = some m.cls := by rw [hvm]; exact hown
  have hins : (Cond.instantiable cls 6).before args s' = true := h _ (by simp [Bundle.ownAtoms])
  obtain ⟨vm₁, cX, kX, hfX, hkX, -, -, X₁, st1⟩ := Y.newCold hexec (own := own) (C := cls) (index := ik) (n := 6) hown' hk' hins hini'
    (g := F0 m pc ls rest) rfl (by rw [hb]; exact d0) (Nat.le_refl _) (Nat.le_refl _)
  generalize hT1 : (T.setVm vm₁).pushCell { cls := cX, slots := kX.instanceTypes.map defaultValue, vm := .none } = T1 at X₁ st1
  have hcat : (Value.ref T.heap.size).category = 1 := rfl
  have hcellA : T1.heap[T.heap.size]? = some (freshCell cX kX) := by rw [← hT1]; exact State.heap_pushCell_size _ _
  have d3' : decode c.code (pc + 3) = .ok (.dup, 1) := by rw [hb]; exact d3
  have d4' : decode c.code (pc + 4) = .ok (.ldc_w is, 3) := by rw [hb]; exact d4
  have hstr' : vk_R own is text sa s' := vk_R.warm hW0 hstr
  obtain ⟨U, hsteps, hrun, hend, hW, hsame, ce, hce, hO⟩ := X₁.ctorThrowS hexec htr (own := own) (cls := cls) (names := names) (ic := ic) hown' hcls hnames h (fun x hx => nomatch hx) hfX hkX hcellA (by rw [hhp, hT]; exact Nat.le_refl _) (msg := .ref sa) rfl
    (g := { method := m, pc := pc + 7, locals := ls, stack := .ref sa :: .ref T.heap.size :: .ref T.heap.size :: rest, locked := none }) rfl hsize rfl rfl (rest := rest) rfl
    (by rw [hb]; exact d7) (by rw [hb]; exact d10) hout hRframes (by simp only [List.map_cons, List.sum_cons, hcat]; omega) hlocks
  obtain ⟨f1, f2⟩ := vx_frame hsame
  rw [hhp] at f1 f2
  have hWs : s.WarmedH U.vm := State.WarmedH.trans hW0 hW
  have hcl : s.vm.findClass cls = some ce.cls := by
    have h9 := hO.cls
    rw [hvm] at h9
    exact h9
  have hall : s.sameButNew ({ U with vm := s.vm } : State) locs mc ms := by
    subst hA
    obtain ⟨e1, e2⟩ := hsame
    rw [State.setFrames_setFrames] at e1
    have h2 : (T.setVm s.vm).sameButNew ({ U with vm := s.vm } : State) [] (0 + 1) (0 + 6) := ⟨e1, e2⟩
    have h3 := X.same.trans h2
    rw [List.append_nil] at h3
    exact h3.mono hc hs
  refine ⟨U, ?_, .threw T.heap.size, hrun, hend, Or.inr ⟨T.heap.size, rfl, cls, ce, locs, hx U hWs.alike f1 (fun q hq => f2 q hq (fun z hz => nomatch hz)), hce, hO.vm, hcl, hWs, hall, hf⟩⟩
  refine st1 _ ?_
  show Steps p.tables e below (T1.setTop { method := m, pc := pc + 3, locals := ls, stack := .ref T.heap.size :: rest, locked := none }) _
  jvm_step X₁.here [X₁.here.top, hexec, d3', Value.category]
  exact X₁.ldcStringW hexec (own := own) (text := text) (index := is) (a := sa) hown' hstr'.1 hstr'.2
    (g := { method := m, pc := pc + 4, locals := ls, stack := .ref T.heap.size :: .ref T.heap.size :: rest, locked := none }) rfl d4' _ hsteps
end Ends
section Bodies
variable {l : Launch}
theorem vx_ofW {y : MethodName} {ws ws' : List Cond} {rm : Room} {Pc : Array Value → State → Prop} {Qc : Array Value → State → Outcome → State → Prop} {XC : String → State → State → Prop} {mc ms : Nat} {free : Addr → Prop} {cc : ByteArray} {maxL : Nat} {ret : Option FieldType}
    (hy : plainName y.cls = true) (hw : ws = Cond.code y cc maxL ret :: ws')
    (body : ∀ p e s m args below meth c s₁, BodyLoose p l y (headSpec ws rm) cc maxL ret e s m args below meth c s₁ → c.maxLocals = maxL → (∀ x ∈ c.exceptionTable.toList, False) → Pc args s →
      W p l e (headSpec ws rm).room s m args below meth c s.heap [] 0 0 (vx_MQ below Qc XC args s mc ms free) (entryFrame m args maxL)) : vx_Met l y ws rm Pc Qc XC mc ms free := by
  refine MetFree.of_bodyS (code := cc) (maxLocals := maxL) (ret := ret) hy ?_ ?_
  · intro args s m h hn
    obtain ⟨meth, c, h1, h2, h3, h4, h5, h6, -, -⟩ := Cond.code_spec hn (atoms_spec (ws := ws) h _ (by rw [hw]; exact List.mem_cons_self))
    exact ⟨meth, c, h1, h2, h3, h4, h5, h6⟩
  · intro p e s m args below meth c s₁ B hml hP _
    have hh0 : s₁.heap = s.heap := by rw [B.state]; rfl
    have ht : ∀ x ∈ c.exceptionTable.toList, False := by
      obtain ⟨meth9, c9, h1, h2, -, -, -, -, h7, -⟩ := Cond.code_spec B.named (atoms_spec (ws := ws) B.pre _ (by rw [hw]; exact List.mem_cons_self))
      cases Option.some.inj (h1.symm.trans B.method)
      cases Option.some.inj (h2.symm.trans (Stand.of_body B).code)
      intro x hx
      rw [Array.isEmpty_iff.mp h7] at hx
      cases hx
    obtain ⟨t, a1, o, b1, b2, b3⟩ := body p e s m args below meth c s₁ B hml ht hP s₁ hh0 (Stand.of_body B)
    exact ⟨t, o, a1, b1, b2, b3⟩
/-- the table of a body with handlers -/
theorem vx_table {p : Program} {x y : MethodName} {S : Spec} {cc bytes : ByteArray} {maxL maxL' : Nat} {ret ret' : Option FieldType} {e : Env} {s s₁ : State} {m : MethodId} {args : Array Value} {below : List Frame} {meth : Method} {c : Code} {hh : List (Nat × Nat × Nat × Nat)}
    (B : BodyLoose p l y S cc maxL ret e s m args below meth c s₁) (h : (Cond.codeWith y bytes maxL' ret' hh).before args s = true) : c.exceptionTable.toList = tableOf hh := by
  obtain ⟨m9, meth9, c9, hn9, h1, h2, -, -, h6, -⟩ := Cond.codeWith_spec h
  cases Option.some.inj (hn9.symm.trans B.named)
  cases Option.some.inj (h1.symm.trans B.method)
  cases Option.some.inj (h2.symm.trans (Stand.of_body B).code)
  rw [← h6, table_eq]
end Bodies
end VXA
/-! ===== END ===== -/
/-! ===== BEGIN a static call of a method with an exception table ===== -/
section VXS
variable {p : Program} {l : Launch} {e : Env} {R : Room} {s : State} {m : MethodId} {args : Array Value} {below : List Frame} {meth : Method} {c : Code} {T : State} {H : Heap} {locs : List Loc} {cells slots : Nat}
abbrev vx_CSW (R : Room) (s : State) (args : Array Value) (own : String) (index : Nat) (y : MethodName) (bytes : ByteArray) (maxL : Nat) (ret : Option FieldType) (hh : List (Nat × Nat × Nat × Nat)) (ws : List Cond) (rm : Room) (mc ms n : Nat) : Prop :=
  (rm.cells = mc ∧ rm.slots = ms ∧ rm.frames + 1 ≤ R.frames ∧ 8 + (maxL + 11) + rm.locals ≤ R.locals ∧ (∀ w ∈ ws, ∀ (a' : Array Value) (U : State), s.WarmedH U.vm → w.before a' U = true) ∧ Cond.codeWith y bytes maxL ret hh ∈ ws) ∧
  (Cond.codeWith y bytes maxL ret hh).before args s = true ∧ (Cond.initialized y.cls).before args s = true ∧ (y.cls ≠ "java/lang/invoke/MethodHandle" ∧ y.cls ≠ "java/lang/invoke/VarHandle") ∧
  (∀ sig, parseMethodDescriptor y.desc = some sig → n = sig.parameters.length) ∧ (Cond.methodLink own index y).before args s = true ∧ (Cond.static y).before args s = true
theorem vx_cwSW {own : String} {index maxL mc ms : Nat} {y : MethodName} {bytes : ByteArray} {ret : Option FieldType} {hh : List (Nat × Nat × Nat × Nat)} {Ts ws ws' : List Cond} {rm : Room} (n : Nat) (ht : ∀ w ∈ Ts, w.before args s = true) (hT : GoodIn Ts (va_wsS own index y ws)) (hw : ws = Cond.codeWith y bytes maxL ret hh :: ws') (hrc : rm.cells = mc) (hrs : rm.slots = ms)
    (hd : y.cls ≠ "java/lang/invoke/MethodHandle" ∧ y.cls ≠ "java/lang/invoke/VarHandle" ∧ (parseMethodDescriptor y.desc).map (fun d => d.parameters.length) = some n) (hR : rm.frames + 1 ≤ R.frames ∧ 8 + (maxL + 11) + rm.locals ≤ R.locals) :
    vx_CSW R s args own index y bytes maxL ret hh ws rm mc ms n := by
  have ok : ∀ w ∈ va_wsS own index y ws, w.before args s = true := fun w h => ht w (hT w h).1
  have hG : GoodIn Ts ws := fun w h => hT w (by unfold va_wsS; exact List.mem_append_right _ h)
  have hc : Cond.codeWith y bytes maxL ret hh ∈ ws := by rw [hw]; exact List.mem_cons_self
  refine ⟨⟨hrc, hrs, hR.1, hR.2, pay_in ht hG, hc⟩, ht _ (hG _ hc).1, ok _ (by simp [va_wsS]), ⟨hd.1, hd.2.1⟩, fun sig h => ?_, ok _ (by simp [va_wsS]), ok _ (by simp [va_wsS])⟩
  have h2 := hd.2.2
  rw [h] at h2
  exact (Option.some.inj h2).symm
theorem vx_callSW (X : Stand p l e R s m args below meth c T locs cells slots) (hexec : p.tables.exec = Jvm.exec) {own : String} {index : Nat} {y : MethodName} {bytes : ByteArray} {maxL : Nat} {ret : Option FieldType} {hh : List (Nat × Nat × Nat × Nat)}
    (hown : s.vm.findClass own = some m.cls) (hlink : (Cond.methodLink own index y).before args s = true) (hstat : (Cond.static y).before args s = true) (hinit : (Cond.initialized y.cls).before args s = true)
    (hcode : (Cond.codeWith y bytes maxL ret hh).before args s = true) (hy : y.cls ≠ "java/lang/invoke/MethodHandle" ∧ y.cls ≠ "java/lang/invoke/VarHandle")
    {W9 : Nat} {Pre : Pt → Array Value → Prop} {Post : Pt → Array Value → Option Value → Pt → Prop} (hK : Back l R p e below s args y 3 W9 Pre Post)
    {g : JFrame} (hg : g.method = m) (hsize : g.locals.size = c.maxLocals) {argsL rest : List Value} (hlen : ∀ sig, parseMethodDescriptor y.desc = some sig → argsL.length = sig.parameters.length)
    (hstack : g.stack = argsL.reverse ++ rest) (hW : 2 * g.monitorRoom + (rest.map fun v => v.category).sum ≤ W9) (hdg : decode c.code g.pc = .ok (.invokestatic index, 3))
    (hpre : ∀ vm₁, s.WarmedH vm₁ → Pre ⟨T.setVm vm₁, locs, cells, slots⟩ argsL.toArray) :
    ∃ (v : Option Value) (vm₁ : Vm) (B : Pt), s.WarmedH vm₁ ∧ Stand p l e R s m args below meth c B.U B.locs B.cells B.slots ∧ Post ⟨T.setVm vm₁, locs, cells, slots⟩ argsL.toArray v B ∧
      ∀ target, Steps p.tables e below (B.U.setTop { g with pc := g.pc + 3, stack := v.toList ++ rest }) target → Steps p.tables e below (T.setTop g) target := by
  obtain ⟨mk, methM, cM, hnamed, hmethM, -, -, -, -, -, -, hsigM⟩ := Cond.codeWith_spec hcode
  have hstatic : methM.isStatic = true := Cond.static_spec hnamed hmethM hstat
  obtain ⟨kP, hkP, -⟩ := className_of_methodNamed hnamed
  have hinitP : kP.init = .initialized := Cond.initialized_spec (findClass_of_methodNamed hnamed) hkP hinit
  obtain ⟨vm₁, X₁, hstep₁⟩ := X.invokestatic hexec hown hlink hnamed hmethM hstatic hkP hinitP hy (g := g) hg (argsL := argsL) (rest := rest) (hlen _ hsigM) hstack hdg
  obtain ⟨v, B, X', hpost, hsteps⟩ := hK m meth c ⟨T.setVm vm₁, locs, cells, slots⟩ { g with stack := rest } (.invokestatic index) mk argsL.toArray X₁ hg hsize hdg hW (X₁.named hnamed) (hpre vm₁ X₁.warmed)
  exact ⟨v, vm₁, B, X₁.warmed, X', hpost, fun target h => hstep₁ _ fun acts => by rw [doInvoke_state]; exact hsteps.trans h⟩
theorem vx_runSW {y : MethodName} {bytes cc : ByteArray} {maxL nL mc ms n index : Nat} {ret : Option FieldType} {hh : List (Nat × Nat × Nat × Nat)} {ws : List Cond} {rm : Room} {Pc : Array Value → State → Prop} {Qc : Array Value → State → Outcome → State → Prop} {free : Addr → Prop} {Ts : List Cond} {own : String} {As rest : List Value} {g : JFrame}
    (S : CallFix p m c cc nL s args Ts own) (hM : Met l y ws rm Pc Qc mc ms free) (cw : vx_CSW R s args own index y bytes maxL ret hh ws rm mc ms n) (hp : PreS s H Pc As)
    (hg : g.method = m) (hn : As.length = n) (hsize : g.locals.size = nL) (hstack : g.stack = As.reverse ++ rest) (hW : 2 * g.monitorRoom + (rest.map fun v => v.category).sum ≤ 8) (hdg : decode cc g.pc = .ok (.invokestatic index, 3)) (hf : cells + mc ≤ R.cells ∧ slots + ms ≤ R.slots) :
    va_Run p l e R s m args below meth c H locs cells slots mc ms g rest (Qc As.toArray) (free) := by
  obtain ⟨⟨hrc, hrs, hfr, hlo, hws, hcw⟩, hcode, hini, hy, hlen, hl, hstt⟩ := cw
  have hK : Back l R p e below s args y 3 8 (PreOf R mc ms Pc) (PostOf Qc mc ms free) := va_backW (hh := hh) (bytes := bytes) (maxL := maxL) (ret := ret) hM hp.1 hrc hrs hfr hlo hws hcw (fun a' U hW => word_at hW (Or.inl (by first | rfl | simp [Cond.onTables, Cond.keeps, Cond.steady])) hini)
  obtain ⟨hx, hb, hml, ho, -⟩ := S
  intro T hT X
  obtain ⟨v, vm₁, ⟨U', l2, c2, s2⟩, hW₁, X', ⟨g', mk, t, L, e1, e2, hq, h1, hL, h2, h3⟩, st⟩ := vx_callSW X hx (hh := hh) (bytes := bytes) (maxL := maxL) (ret := ret) ho hl hstt hini hcode hy hK hg (hsize.trans hml.symm) (argsL := As) (rest := rest) (fun sig h => hn.trans (hlen sig h)) hstack hW (by rw [hb]; exact hdg)
    (fun vm₁ hW₁ => ⟨hf.1, hf.2, hp.2 (T.setVm vm₁) hT hW₁⟩)
  dsimp only [Pt.U, Pt.locs, Pt.cells, Pt.slots] at X' e1 e2 h1 h2 h3 st
  subst h1; subst h2; subst h3
  exact ⟨v, (T.setVm vm₁).calling g' mk As.toArray, t, U', L, hT, X', hL, e1, e2, hq, st⟩
/-- not caught here, past rows that name other classes: it goes on to the caller -/
theorem vx_outP {p : Program} {l : Launch} {e : Env} {R : Room} {s : State} {m : MethodId} {args : Array Value} {below : List Frame} {meth : Method} {c : Code} {H : Heap} {locs : List Loc} {cells slots : Nat} {free : Addr → Prop} {ls : Array Slot} {rest : List Value} {Qc : Array Value → State → Outcome → State → Prop} {XC : String → State → State → Prop}
    {pc : Nat} {own E : String} {ce : Cell} {q : Addr} {mc ms : Nat} (hown : s.vm.findClass own = some m.cls) (hlocks : meth.locks = false)
    (hpass : ∀ z ∈ c.exceptionTable.toList, covers z pc = false ∨ (z.catchType ≠ 0 ∧ ∃ nm : String, (Cond.classLink own z.catchType nm).before args s = true ∧ va_Nc E nm s)) (hcell : H[q]? = some ce) (hv : ce.vm = .none) (hcl : s.vm.findClass E = some ce.cls)
    (hx : ∀ t : State, t.heap = H → s.vm.Alike t.vm → XC E s t) (hf : ∀ z ∈ locs, free z.base) (hc : cells ≤ mc) (hs : slots ≤ ms) :
    vx_W p l e R s m args below meth c H locs cells slots (vx_MQ below Qc XC args s mc ms free) (F0 m pc ls rest) q := by
  intro T hT X
  have hpl : e.platform.magicAccessors = ({} : Platform).magicAccessors := by rw [X.admits.platform]
  obtain ⟨vm', hW', X', st⟩ := Jvm.Stand.outThrough X hlocks q (g := F0 m pc ls rest) rfl rfl rfl (cell := ce) (by rw [hT]; exact hcell) (by rw [hv]; rfl)
    (by obtain ⟨k9, h9, -⟩ := Vm.findClass_spec hcl; exact ⟨k9, h9⟩) (fun z hz => by
      rcases hpass z hz with h | ⟨hz0, nm, hl1, hn1⟩
      · exact Or.inl h
      · obtain ⟨c6, hc6, hcl6⟩ := Cond.classLink_spec hown hl1 e.platform hpl
        obtain ⟨a8, b8, h1, h2, h3⟩ := hn1
        cases Option.some.inj (h1.symm.trans hcl)
        cases Option.some.inj (h2.symm.trans hc6)
        exact Or.inr ⟨hz0, _, hcl6, h3⟩)
  obtain ⟨g₀, hfr⟩ := X'.frames_eq
  have hcell9 : ((T.setVm vm').setFrames (.throwing q :: below)).heap[q]? = some ce := by
    show T.heap[q]? = some ce
    rw [hT]; exact hcell
  have hend : Ended ((T.setVm vm').setFrames (.throwing q :: below)) below (.threw q) := State.frames_setFrames _ (State.cur_lt_of_frames hfr)
  refine ⟨(T.setVm vm').setFrames (.throwing q :: below), ?_, .threw q, X'.here.running, hend, Or.inr ⟨q, rfl, E, ce, locs, hx _ hT (X'.ends _).1.alike, hcell9, hv, hcl, (X'.ends _).1, (X'.ends _).2.mono hc hs, hf⟩⟩
  rw [X.pushThrowing_eq]
  exact st
/-- a thing of a world lies in the heap -/
theorem vx_lt {D : va_G} {cl : List vw_C} {ws : va_W} {H1 : Heap} (h : va_P D cl ws H1) {k : Nat} {q : Nat × va_E} (hk : ws[k]? = some q) : q.1 < H1.size := (h k q hk).lt
end VXS
/-! ===== END ===== -/
/-! ===== BEGIN methods with a table of their own: called by a name, returning or throwing ===== -/
section VXH
/-! vx_backW, vx_callVX, vx_callSX, vx_callVW, vx_runVW, vx_runVX, vx_runSX, vx_ofWH follow the same proofs as their sisters above (Free/Laws.lean, Shelf42/LK1.lean); vx_outP calls Shelf42/NT130.lean (outThrough). -/
section
variable {l : Launch} {R : Room} {p : Program} {e : Env} {below : List Frame} {s : State} {sargs : Array Value} {y : MethodName} {len W9 : Nat}
theorem vx_backW {ws : List Cond} {rm : Room} {Pc : Array Value → State → Prop} {Qc : Array Value → State → Outcome → State → Prop} {XC : String → State → State → Prop} {mc ms : Nat} {free : Addr → Prop} {bytes : ByteArray} {maxL : Nat} {ret : Option FieldType} {hh : List (Nat × Nat × Nat × Nat)}
    (hM : vx_Met l y ws rm Pc Qc XC mc ms free) (hblind : FrameBlind Pc) (hrc : rm.cells = mc) (hrs : rm.slots = ms)
    (hframes : rm.frames + 1 ≤ R.frames) (hlocals : W9 + (maxL + 11) + rm.locals ≤ R.locals)
    (hws : ∀ w ∈ ws, ∀ a' U, s.WarmedH U.vm → w.before a' U = true) (hcode : Cond.codeWith y bytes maxL ret hh ∈ ws) (hinit : ∀ a' U, s.WarmedH U.vm → (Cond.initialized y.cls).before a' U = true) :
    vx_Back l R p e below s sargs y len W9 (PreOf R mc ms Pc) (PostOf Qc mc ms free) (vx_Post XC mc ms free) := by
  intro m meth c A g ig mk a X hg hsize hdg hW hn hp
  have h1 : (headSpec ws rm).pre.before a A.U = true := atoms_intro fun w hw => hws w hw _ _ X.warmed
  have h2 : (Cond.codeWith y bytes maxL ret hh).before a A.U = true := hws _ hcode _ _ X.warmed
  have h3 : (Cond.initialized y.cls).before a A.U = true := hinit _ _ X.warmed
  have h4 : A.cells + (headSpec ws rm).room.cells ≤ R.cells := by rw [show (headSpec ws rm).room.cells = mc from hrc]; exact hp.1
  have h5 : A.slots + (headSpec ws rm).room.slots ≤ R.slots := by rw [show (headSpec ws rm).room.slots = ms from hrs]; exact hp.2.1
  have hPc : Pc a (A.U.calling g mk a) := hblind _ _ _ _ hp.2.2
  obtain ⟨U, Ls, c0, s0⟩ := A
  dsimp only [Pt.U, Pt.locs, Pt.cells, Pt.slots] at h1 h2 h3 h4 h5 X hn hPc ⊢
  obtain ⟨m9, methY, cY, hn9, hmY, hcY, -, hlY, -⟩ := Cond.codeWith_spec h2
  cases Option.some.inj (hn9.symm.trans hn)
  obtain ⟨kY, hkY, -⟩ := className_of_methodNamed hn
  have hinitY : kY.init = .initialized := Cond.initialized_spec (findClass_of_methodNamed hn) hkY h3
  have h : At U g.method c below := by rw [hg]; exact X.here
  have hlocals9 : W9 + (maxL + 11) + (headSpec ws rm).room.locals ≤ R.locals := hlocals
  have happ : (headSpec ws rm).appliesLoose y e.platform (U.calling g mk a) = true :=
    Spec.appliesLoose_calling (g := g) h hdg hn hkY hinitY
      (X.room_calling (g := g) (R' := (headSpec ws rm).room) hsize hmY hcY hframes (by rw [hlY]; omega) h4 h5) h1
  obtain ⟨mid, hmid⟩ := h.above
  have hfr : (U.setTop g).frames = (.java g :: mid) ++ below := by rw [State.frames_setTop' g h.top, hmid]; rfl
  obtain ⟨o, s₂, hsteps, -, hend, hq⟩ := Steps.callFree hM p X.admits X.cas X.clock (acts := []) hfr happ hPc trivial
  have hq' : vx_Q Qc XC mc ms free a (U.calling g mk a) o s₂ := hq
  rw [State.frames_setTop' g h.top] at hend
  obtain ⟨g₀, hg0⟩ := Option.isSome_iff_exists.mp h.top
  obtain ⟨r, hr⟩ := State.topJava?_eq_some.mp hg0
  have hr' : (({ U with heap := s₂.heap, slotsUsed := s₂.slotsUsed } : State).setVm s₂.vm).frames = .java g₀ :: r := hr
  rcases hq' with ⟨hqc, L, hfe, hL⟩ | ⟨q, rfl, E, ce, L, hx, hce, hcv, hcl, hW₂, hsm, hL⟩
  · obtain ⟨⟨v, rfl⟩, hW₂, e2, q2, q3, q4, q5, q6⟩ := id hfe
    have e3 : s₂ = ({ (U.calling g mk a).setFrames s₂.frames with heap := s₂.heap, slotsUsed := s₂.slotsUsed } : State).setVm s₂.vm := by
      have : s₂ = ({ s₂ with vm := (U.calling g mk a).vm } : State).setVm s₂.vm := rfl
      rw [e2] at this
      exact this
    obtain ⟨c₂, i₂, len₂, hc₂, hd₂, hf₂⟩ := hend
    have hW' : U.WarmedH s₂.vm := hW₂
    have hcc : c₂ = c := by
      have h1 : s₂.code? g.method = U.code? g.method := by
        rw [State.code?_eq, State.code?_eq, hW'.alike.method?]
      exact Option.some.inj (hc₂.symm.trans (h1.trans h.code))
    subst hcc
    have hlen : len₂ = len := by rw [hdg] at hd₂; cases hd₂; rfl
    subst hlen
    have hs₂ : s₂ = (({ U with heap := s₂.heap, slotsUsed := s₂.slotsUsed } : State).setVm s₂.vm).setTop { g with pc := g.pc + len₂, stack := v.toList ++ g.stack } := by
      refine e3.trans ?_
      rw [hf₂, State.calling_eq h.top, State.setFrames_setFrames, State.setTop_of_frames _ hr', hr]
      rfl
    have hsame : U.sameButNew ({ U with heap := s₂.heap, slotsUsed := s₂.slotsUsed } : State) L mc ms := by
      refine ⟨?_, q2, q3, q4, q5, q6⟩
      obtain ⟨t, ht, -⟩ := State.frames_cons hr
      show ({ U with heap := s₂.heap, slotsUsed := s₂.slotsUsed } : State) = { U.setFrames U.frames with heap := s₂.heap, slotsUsed := s₂.slotsUsed }
      rw [State.setFrames_self ht]
    subst hg
    refine Or.inl ⟨v, ⟨(({ U with heap := s₂.heap, slotsUsed := s₂.slotsUsed } : State).setVm s₂.vm), Ls ++ L, c0 + mc, s0 + ms⟩,
      ⟨X.admits, X.cas, X.clock, X.frames, X.room, X.hears, X.method, X.code, (X.here.setHeapUsed s₂.heap s₂.slotsUsed).setVm hW'.alike, X.tail, State.WarmedH.trans X.warmed hW', X.limits, X.bytes, X.same.trans (hsame.setVm s.vm)⟩,
      ⟨g, mk, s₂, L, rfl, rfl, hqc, rfl, hL, rfl, rfl⟩, ?_⟩
    show Steps p.tables e below _ ((({ U with heap := s₂.heap, slotsUsed := s₂.slotsUsed } : State).setVm s₂.vm).setTop { g with pc := g.pc + len₂, stack := v.toList ++ g.stack })
    rw [← hs₂]
    exact hsteps
  · obtain ⟨e2, q2, q3, q4, q5, q6⟩ := id hsm
    have e3 : s₂ = ({ (U.calling g mk a).setFrames s₂.frames with heap := s₂.heap, slotsUsed := s₂.slotsUsed } : State).setVm s₂.vm := by
      have : s₂ = ({ s₂ with vm := (U.calling g mk a).vm } : State).setVm s₂.vm := rfl
      rw [e2] at this
      exact this
    have hf₂ : s₂.frames = .throwing q :: .java g :: U.frames.tail := hend
    have hW' : U.WarmedH s₂.vm := hW₂
    have hs₂ : s₂ = ((({ U with heap := s₂.heap, slotsUsed := s₂.slotsUsed } : State).setVm s₂.vm).setTop g).pushFrame (.throwing q) := by
      refine e3.trans ?_
      rw [hf₂, State.calling_eq h.top, State.setFrames_setFrames, State.pushFrame, State.frames_setTop _ hr', State.setTop_of_frames _ hr', State.setFrames_setFrames, hr]
      rfl
    have hsame : U.sameButNew ({ U with heap := s₂.heap, slotsUsed := s₂.slotsUsed } : State) L mc ms := by
      refine ⟨?_, q2, q3, q4, q5, q6⟩
      obtain ⟨t, ht, -⟩ := State.frames_cons hr
      show ({ U with heap := s₂.heap, slotsUsed := s₂.slotsUsed } : State) = { U.setFrames U.frames with heap := s₂.heap, slotsUsed := s₂.slotsUsed }
      rw [State.setFrames_self ht]
    subst hg
    refine Or.inr ⟨q, ⟨(({ U with heap := s₂.heap, slotsUsed := s₂.slotsUsed } : State).setVm s₂.vm), Ls ++ L, c0 + mc, s0 + ms⟩,
      ⟨X.admits, X.cas, X.clock, X.frames, X.room, X.hears, X.method, X.code, (X.here.setHeapUsed s₂.heap s₂.slotsUsed).setVm hW'.alike, X.tail, State.WarmedH.trans X.warmed hW', X.limits, X.bytes, X.same.trans (hsame.setVm s.vm)⟩,
      ⟨g, mk, s₂, L, E, ce, rfl, rfl, hx, hce, hcv, hcl, rfl, hL, rfl, rfl⟩, ?_⟩
    show Steps p.tables e below _ (((({ U with heap := s₂.heap, slotsUsed := s₂.slotsUsed } : State).setVm s₂.vm).setTop g).pushFrame (.throwing q))
    rw [← hs₂]
    exact hsteps
end
variable {p : Program} {l : Launch} {e : Env} {R : Room} {s : State} {m : MethodId} {args : Array Value} {below : List Frame} {meth : Method} {c : Code} {T : State} {H : Heap} {locs : List Loc} {cells slots : Nat}
theorem vx_callVX (X : Stand p l e R s m args below meth c T locs cells slots) (hexec : p.tables.exec = Jvm.exec) {own C : String} {index : Nat} {y : MethodName} {bytes : ByteArray} {maxL : Nat} {ret : Option FieldType} {hh : List (Nat × Nat × Nat × Nat)}
    (hown : s.vm.findClass own = some m.cls) (hlink : (Cond.methodLink own index y).before args s = true) (hinst : (Cond.instanceMethod y).before args s = true) (hsel : (Cond.selects C y y).before args s = true)
    (hcode : (Cond.codeWith y bytes maxL ret hh).before args s = true) (hy : y.cls ≠ "java/lang/invoke/MethodHandle" ∧ y.cls ≠ "java/lang/invoke/VarHandle")
    {W9 : Nat} {Pre : Pt → Array Value → Prop} {Post : Pt → Array Value → Option Value → Pt → Prop} {PostX : Pt → Array Value → Addr → Pt → Prop} (hK : vx_Back l R p e below s args y 3 W9 Pre Post PostX)
    {b : Addr} {cellB : Cell} (hcell : T.heap[b]? = some cellB) (hobj : cellB.vm.isStatics = false) (hcls : s.vm.findClass C = some cellB.cls)
    {g : JFrame} (hg : g.method = m) (hsize : g.locals.size = c.maxLocals) {argsL rest : List Value} (hlen : ∀ sig, parseMethodDescriptor y.desc = some sig → argsL.length = sig.parameters.length)
    (hstack : g.stack = argsL.reverse ++ .ref b :: rest) (hW : 2 * g.monitorRoom + (rest.map fun v => v.category).sum ≤ W9) (hdg : decode c.code g.pc = .ok (.invokevirtual index, 3))
    (hpre : ∀ vm₁, s.WarmedH vm₁ → Pre ⟨T.setVm vm₁, locs, cells, slots⟩ (Value.ref b :: argsL).toArray) :
    (∃ (v : Option Value) (vm₁ : Vm) (B : Pt), s.WarmedH vm₁ ∧ Stand p l e R s m args below meth c B.U B.locs B.cells B.slots ∧ Post ⟨T.setVm vm₁, locs, cells, slots⟩ (Value.ref b :: argsL).toArray v B ∧
      ∀ target, Steps p.tables e below (B.U.setTop { g with pc := g.pc + 3, stack := v.toList ++ rest }) target → Steps p.tables e below (T.setTop g) target) ∨
    (∃ (q : Addr) (vm₁ : Vm) (B : Pt), s.WarmedH vm₁ ∧ Stand p l e R s m args below meth c B.U B.locs B.cells B.slots ∧ PostX ⟨T.setVm vm₁, locs, cells, slots⟩ (Value.ref b :: argsL).toArray q B ∧
      Steps p.tables e below (T.setTop g) ((B.U.setTop { g with stack := rest }).pushFrame (.throwing q))) := by
  obtain ⟨mk, methM, hnamed, hmethM, hstM, habM⟩ := Cond.instanceMethod_spec hinst
  obtain ⟨m8, methM', cM, hn8, hmethM', -, -, -, -, -, -, hsigM⟩ := Cond.codeWith_spec hcode
  cases Option.some.inj (hn8.symm.trans hnamed)
  cases hmethM.symm.trans hmethM'
  obtain ⟨c2, r2, m2, q1, q2, q3, q4, kP, hkP, hkPi⟩ := Cond.selects_spec hsel
  cases hcls.symm.trans q1
  cases (State.methodFound?_of_named hnamed hy).symm.trans q2
  cases hnamed.symm.trans q3
  have hselP : selectMethod e.platform s.vm cellB.cls mk = .method mk := by rw [Launch.admits_selectMethod X.admits]; exact q4
  obtain ⟨vm₁, X₁, hstep₁⟩ := X.invokevirtual hexec hown hlink hnamed hmethM hstM hkP hkPi hy (a := b) (cell := cellB) hcell
    (fun z h => by rw [h] at hobj; cases hobj) hselP hmethM habM hkP hkPi (g := g) hg (argsL := argsL) (rest := rest) (hlen _ hsigM) hstack hdg
  rcases hK m meth c ⟨T.setVm vm₁, locs, cells, slots⟩ { g with stack := rest } (.invokevirtual index) mk (Value.ref b :: argsL).toArray X₁ hg hsize hdg hW (X₁.named hnamed) (hpre vm₁ X₁.warmed) with ⟨v, B, X', hpost, hsteps⟩ | ⟨q, B, X', hpost, hsteps⟩
  · exact Or.inl ⟨v, vm₁, B, X₁.warmed, X', hpost, fun target h => hstep₁ _ fun acts => by rw [doInvoke_state]; exact hsteps.trans h⟩
  · exact Or.inr ⟨q, vm₁, B, X₁.warmed, X', hpost, hstep₁ _ fun acts => by rw [doInvoke_state]; exact hsteps⟩
theorem vx_callSX (X : Stand p l e R s m args below meth c T locs cells slots) (hexec : p.tables.exec = Jvm.exec) {own : String} {index : Nat} {y : MethodName} {bytes : ByteArray} {maxL : Nat} {ret : Option FieldType} {hh : List (Nat × Nat × Nat × Nat)}
    (hown : s.vm.findClass own = some m.cls) (hlink : (Cond.methodLink own index y).before args s = true) (hstat : (Cond.static y).before args s = true) (hinit : (Cond.initialized y.cls).before args s = true)
    (hcode : (Cond.codeWith y bytes maxL ret hh).before args s = true) (hy : y.cls ≠ "java/lang/invoke/MethodHandle" ∧ y.cls ≠ "java/lang/invoke/VarHandle")
    {W9 : Nat} {Pre : Pt → Array Value → Prop} {Post : Pt → Array Value → Option Value → Pt → Prop} {PostX : Pt → Array Value → Addr → Pt → Prop} (hK : vx_Back l R p e below s args y 3 W9 Pre Post PostX)
    {g : JFrame} (hg : g.method = m) (hsize : g.locals.size = c.maxLocals) {argsL rest : List Value} (hlen : ∀ sig, parseMethodDescriptor y.desc = some sig → argsL.length = sig.parameters.length)
    (hstack : g.stack = argsL.reverse ++ rest) (hW : 2 * g.monitorRoom + (rest.map fun v => v.category).sum ≤ W9) (hdg : decode c.code g.pc = .ok (.invokestatic index, 3))
    (hpre : ∀ vm₁, s.WarmedH vm₁ → Pre ⟨T.setVm vm₁, locs, cells, slots⟩ argsL.toArray) :
    (∃ (v : Option Value) (vm₁ : Vm) (B : Pt), s.WarmedH vm₁ ∧ Stand p l e R s m args below meth c B.U B.locs B.cells B.slots ∧ Post ⟨T.setVm vm₁, locs, cells, slots⟩ argsL.toArray v B ∧
      ∀ target, Steps p.tables e below (B.U.setTop { g with pc := g.pc + 3, stack := v.toList ++ rest }) target → Steps p.tables e below (T.setTop g) target) ∨
    (∃ (q : Addr) (vm₁ : Vm) (B : Pt), s.WarmedH vm₁ ∧ Stand p l e R s m args below meth c B.U B.locs B.cells B.slots ∧ PostX ⟨T.setVm vm₁, locs, cells, slots⟩ argsL.toArray q B ∧
      Steps p.tables e below (T.setTop g) ((B.U.setTop { g with stack := rest }).pushFrame (.throwing q))) := by
  obtain ⟨mk, methM, cM, hnamed, hmethM, -, -, -, -, -, -, hsigM⟩ := Cond.codeWith_spec hcode
  have hstatic : methM.isStatic = true := Cond.static_spec hnamed hmethM hstat
  obtain ⟨kP, hkP, -⟩ := className_of_methodNamed hnamed
  have hinitP : kP.init = .initialized := Cond.initialized_spec (findClass_of_methodNamed hnamed) hkP hinit
  obtain ⟨vm₁, X₁, hstep₁⟩ := X.invokestatic hexec hown hlink hnamed hmethM hstatic hkP hinitP hy (g := g) hg (argsL := argsL) (rest := rest) (hlen _ hsigM) hstack hdg
  rcases hK m meth c ⟨T.setVm vm₁, locs, cells, slots⟩ { g with stack := rest } (.invokestatic index) mk argsL.toArray X₁ hg hsize hdg hW (X₁.named hnamed) (hpre vm₁ X₁.warmed) with ⟨v, B, X', hpost, hsteps⟩ | ⟨q, B, X', hpost, hsteps⟩
  · exact Or.inl ⟨v, vm₁, B, X₁.warmed, X', hpost, fun target h => hstep₁ _ fun acts => by rw [doInvoke_state]; exact hsteps.trans h⟩
  · exact Or.inr ⟨q, vm₁, B, X₁.warmed, X', hpost, hstep₁ _ fun acts => by rw [doInvoke_state]; exact hsteps⟩
theorem vx_callVW (X : Stand p l e R s m args below meth c T locs cells slots) (hexec : p.tables.exec = Jvm.exec) {own C : String} {index : Nat} {y : MethodName} {bytes : ByteArray} {maxL : Nat} {ret : Option FieldType} {hh : List (Nat × Nat × Nat × Nat)}
    (hown : s.vm.findClass own = some m.cls) (hlink : (Cond.methodLink own index y).before args s = true) (hinst : (Cond.instanceMethod y).before args s = true) (hsel : (Cond.selects C y y).before args s = true)
    (hcode : (Cond.codeWith y bytes maxL ret hh).before args s = true) (hy : y.cls ≠ "java/lang/invoke/MethodHandle" ∧ y.cls ≠ "java/lang/invoke/VarHandle")
    {W9 : Nat} {Pre : Pt → Array Value → Prop} {Post : Pt → Array Value → Option Value → Pt → Prop} (hK : Back l R p e below s args y 3 W9 Pre Post)
    {b : Addr} {cellB : Cell} (hcell : T.heap[b]? = some cellB) (hobj : cellB.vm.isStatics = false) (hcls : s.vm.findClass C = some cellB.cls)
    {g : JFrame} (hg : g.method = m) (hsize : g.locals.size = c.maxLocals) {argsL rest : List Value} (hlen : ∀ sig, parseMethodDescriptor y.desc = some sig → argsL.length = sig.parameters.length)
    (hstack : g.stack = argsL.reverse ++ .ref b :: rest) (hW : 2 * g.monitorRoom + (rest.map fun v => v.category).sum ≤ W9) (hdg : decode c.code g.pc = .ok (.invokevirtual index, 3))
    (hpre : ∀ vm₁, s.WarmedH vm₁ → Pre ⟨T.setVm vm₁, locs, cells, slots⟩ (Value.ref b :: argsL).toArray) :
    ∃ (v : Option Value) (vm₁ : Vm) (B : Pt), s.WarmedH vm₁ ∧ Stand p l e R s m args below meth c B.U B.locs B.cells B.slots ∧ Post ⟨T.setVm vm₁, locs, cells, slots⟩ (Value.ref b :: argsL).toArray v B ∧
      ∀ target, Steps p.tables e below (B.U.setTop { g with pc := g.pc + 3, stack := v.toList ++ rest }) target → Steps p.tables e below (T.setTop g) target := by
  obtain ⟨mk, methM, hnamed, hmethM, hstM, habM⟩ := Cond.instanceMethod_spec hinst
  obtain ⟨m8, methM', cM, hn8, hmethM', -, -, -, -, -, -, hsigM⟩ := Cond.codeWith_spec hcode
  cases Option.some.inj (hn8.symm.trans hnamed)
  cases hmethM.symm.trans hmethM'
  obtain ⟨c2, r2, m2, q1, q2, q3, q4, kP, hkP, hkPi⟩ := Cond.selects_spec hsel
  cases hcls.symm.trans q1
  cases (State.methodFound?_of_named hnamed hy).symm.trans q2
  cases hnamed.symm.trans q3
  have hselP : selectMethod e.platform s.vm cellB.cls mk = .method mk := by rw [Launch.admits_selectMethod X.admits]; exact q4
  obtain ⟨vm₁, X₁, hstep₁⟩ := X.invokevirtual hexec hown hlink hnamed hmethM hstM hkP hkPi hy (a := b) (cell := cellB) hcell
    (fun z h => by rw [h] at hobj; cases hobj) hselP hmethM habM hkP hkPi (g := g) hg (argsL := argsL) (rest := rest) (hlen _ hsigM) hstack hdg
  obtain ⟨v, B, X', hpost, hsteps⟩ := hK m meth c ⟨T.setVm vm₁, locs, cells, slots⟩ { g with stack := rest } (.invokevirtual index) mk (Value.ref b :: argsL).toArray X₁ hg hsize hdg hW (X₁.named hnamed) (hpre vm₁ X₁.warmed)
  exact ⟨v, vm₁, B, X₁.warmed, X', hpost, fun target h => hstep₁ _ fun acts => by rw [doInvoke_state]; exact hsteps.trans h⟩
abbrev vx_CVW (R : Room) (s : State) (args : Array Value) (own C : String) (index : Nat) (y : MethodName) (bytes : ByteArray) (maxL : Nat) (ret : Option FieldType) (hh : List (Nat × Nat × Nat × Nat)) (ws : List Cond) (rm : Room) (mc ms n : Nat) : Prop :=
  (rm.cells = mc ∧ rm.slots = ms ∧ rm.frames + 1 ≤ R.frames ∧ 8 + (maxL + 11) + rm.locals ≤ R.locals ∧ (∀ w ∈ ws, ∀ (a' : Array Value) (U : State), s.WarmedH U.vm → w.before a' U = true) ∧ Cond.codeWith y bytes maxL ret hh ∈ ws) ∧
  (Cond.codeWith y bytes maxL ret hh).before args s = true ∧ (Cond.initialized y.cls).before args s = true ∧ (y.cls ≠ "java/lang/invoke/MethodHandle" ∧ y.cls ≠ "java/lang/invoke/VarHandle") ∧
  (∀ sig, parseMethodDescriptor y.desc = some sig → n = sig.parameters.length) ∧ (Cond.methodLink own index y).before args s = true ∧ (Cond.instanceMethod y).before args s = true ∧ (Cond.selects C y y).before args s = true
theorem vx_cwVW {own C : String} {index maxL mc ms : Nat} {y : MethodName} {bytes : ByteArray} {ret : Option FieldType} {hh : List (Nat × Nat × Nat × Nat)} {Ts ws ws' : List Cond} {rm : Room} (n : Nat) (ht : ∀ w ∈ Ts, w.before args s = true) (hT : GoodIn Ts (wsV own index C y ws)) (hw : ws = Cond.codeWith y bytes maxL ret hh :: ws') (hrc : rm.cells = mc) (hrs : rm.slots = ms)
    (hd : y.cls = C ∧ y.cls ≠ "java/lang/invoke/MethodHandle" ∧ y.cls ≠ "java/lang/invoke/VarHandle" ∧ (parseMethodDescriptor y.desc).map (fun d => d.parameters.length) = some n) (hR : rm.frames + 1 ≤ R.frames ∧ 8 + (maxL + 11) + rm.locals ≤ R.locals) :
    vx_CVW R s args own C index y bytes maxL ret hh ws rm mc ms n := by
  obtain ⟨hC, hd⟩ := hd
  subst hC
  have ok : ∀ w ∈ wsV own index y.cls y ws, w.before args s = true := fun w h => ht w (hT w h).1
  have hG : GoodIn Ts ws := fun w h => hT w (by unfold wsV; exact List.mem_append_right _ h)
  have hc : Cond.codeWith y bytes maxL ret hh ∈ ws := by rw [hw]; exact List.mem_cons_self
  refine ⟨⟨hrc, hrs, hR.1, hR.2, pay_in ht hG, hc⟩, ht _ (hG _ hc).1, ok _ (by simp [wsV]), ⟨hd.1, hd.2.1⟩, fun sig h => ?_, ok _ (by simp [wsV]), ok _ (by simp [wsV]), ok _ (by simp [wsV])⟩
  have h2 := hd.2.2
  rw [h] at h2
  exact (Option.some.inj h2).symm
theorem vx_runVW {y : MethodName} {bytes cc : ByteArray} {maxL nL mc ms n index : Nat} {ret : Option FieldType} {hh : List (Nat × Nat × Nat × Nat)} {ws : List Cond} {rm : Room} {Pc : Array Value → State → Prop} {Qc : Array Value → State → Outcome → State → Prop} {free : Addr → Prop} {Ts : List Cond} {own C : String} {b : Addr} {As rest : List Value} {g : JFrame}
    (S : CallFix p m c cc nL s args Ts own) (hM : Met l y ws rm Pc Qc mc ms free) (cw : vx_CVW R s args own C index y bytes maxL ret hh ws rm mc ms n) (hp : PreV s H C b Pc As)
    (hg : g.method = m) (hn : As.length = n) (hsize : g.locals.size = nL) (hstack : g.stack = As.reverse ++ .ref b :: rest) (hW : 2 * g.monitorRoom + (rest.map fun v => v.category).sum ≤ 8) (hdg : decode cc g.pc = .ok (.invokevirtual index, 3)) (hf : cells + mc ≤ R.cells ∧ slots + ms ≤ R.slots) :
    va_Run p l e R s m args below meth c H locs cells slots mc ms g rest (Qc (Value.ref b :: As).toArray) free := by
  obtain ⟨⟨hrc, hrs, hfr, hlo, hws, hcw⟩, hcode, hini, hy, hlen, hl, hin, hse⟩ := cw
  have hK : Back l R p e below s args y 3 8 (PreOf R mc ms Pc) (PostOf Qc mc ms free) := va_backW (hh := hh) (bytes := bytes) (maxL := maxL) (ret := ret) hM hp.1 hrc hrs hfr hlo hws hcw (fun a' U hW => word_at hW (Or.inl (by first | rfl | simp [Cond.onTables, Cond.keeps, Cond.steady])) hini)
  obtain ⟨hx, hb, hml, ho, -⟩ := S
  obtain ⟨-, ⟨cellB, hcB, hoB, hclB⟩, hPc⟩ := hp
  intro T hT X
  obtain ⟨v, vm₁, ⟨U', l2, c2, s2⟩, hW₁, X', ⟨g', mk, t, L, e1, e2, hq, h1, hL, h2, h3⟩, st⟩ := vx_callVW X hx (C := C) (hh := hh) (bytes := bytes) (maxL := maxL) (ret := ret) ho hl hin hse hcode hy hK (by rw [hT]; exact hcB) hoB hclB hg (hsize.trans hml.symm) (argsL := As) (rest := rest) (fun sig h => hn.trans (hlen sig h)) hstack hW (by rw [hb]; exact hdg)
    (fun vm₁ hW₁ => ⟨hf.1, hf.2, hPc (T.setVm vm₁) hT hW₁⟩)
  dsimp only [Pt.U, Pt.locs, Pt.cells, Pt.slots] at X' e1 e2 h1 h2 h3 st
  subst h1; subst h2; subst h3
  exact ⟨v, (T.setVm vm₁).calling g' mk (Value.ref b :: As).toArray, t, U', L, hT, X', hL, e1, e2, hq, st⟩
section
variable {y : MethodName} {bytes cc : ByteArray} {maxL nL mc ms n index : Nat} {ret : Option FieldType} {ws : List Cond} {rm : Room} {Pc : Array Value → State → Prop} {Qc : Array Value → State → Outcome → State → Prop} {XC : String → State → State → Prop} {free : Addr → Prop} {Ts : List Cond} {own C : String} {b : Addr} {As rest : List Value} {g : JFrame}
theorem vx_runVX {hh : List (Nat × Nat × Nat × Nat)} (S : CallFix p m c cc nL s args Ts own) (hM : vx_Met l y ws rm Pc Qc XC mc ms free) (cw : vx_CVW R s args own C index y bytes maxL ret hh ws rm mc ms n) (hp : PreV s H C b Pc As)
    (hg : g.method = m) (hn : As.length = n) (hsize : g.locals.size = nL) (hstack : g.stack = As.reverse ++ .ref b :: rest) (hW : 2 * g.monitorRoom + (rest.map fun v => v.category).sum ≤ 8) (hdg : decode cc g.pc = .ok (.invokevirtual index, 3)) (hf : cells + mc ≤ R.cells ∧ slots + ms ≤ R.slots) :
    vx_Run p l e R s m args below meth c H locs cells slots mc ms g rest (Qc (Value.ref b :: As).toArray) XC free := by
  obtain ⟨⟨hrc, hrs, hfr, hlo, hws, hcw⟩, hcode, hini, hy, hlen, hl, hin, hse⟩ := cw
  have hK : vx_Back l R p e below s args y 3 8 (PreOf R mc ms Pc) (PostOf Qc mc ms free) (vx_Post XC mc ms free) := vx_backW (hh := hh) (bytes := bytes) (maxL := maxL) (ret := ret) hM hp.1 hrc hrs hfr hlo hws hcw (fun a' U hW => word_at hW (Or.inl (by first | rfl | simp [Cond.onTables, Cond.keeps, Cond.steady])) hini)
  obtain ⟨hx, hb, hml, ho, -⟩ := S
  obtain ⟨-, ⟨cellB, hcB, hoB, hclB⟩, hPc⟩ := hp
  intro T hT X
  rcases vx_callVX X hx (C := C) (hh := hh) (bytes := bytes) (maxL := maxL) (ret := ret) ho hl hin hse hcode hy hK (by rw [hT]; exact hcB) hoB hclB hg (hsize.trans hml.symm) (argsL := As) (rest := rest) (fun sig h => hn.trans (hlen sig h)) hstack hW (by rw [hb]; exact hdg)
    (fun vm₁ hW₁ => ⟨hf.1, hf.2, hPc (T.setVm vm₁) hT hW₁⟩) with ⟨v, vm₁, ⟨U', l2, c2, s2⟩, hW₁, X', ⟨g', mk, t, L, e1, e2, hq, h1, hL, h2, h3⟩, st⟩ | ⟨q, vm₁, ⟨U', l2, c2, s2⟩, hW₁, X', ⟨g', mk, t, L, E, ce, e1, e2, hq, hce, hcv, hcl, h1, hL, h2, h3⟩, st⟩
  · dsimp only [Pt.U, Pt.locs, Pt.cells, Pt.slots] at X' e1 e2 h1 h2 h3 st
    subst h1; subst h2; subst h3
    exact Or.inl ⟨v, (T.setVm vm₁).calling g' mk (Value.ref b :: As).toArray, t, U', L, hT, X', hL, e1, e2, hq, st⟩
  · dsimp only [Pt.U, Pt.locs, Pt.cells, Pt.slots] at X' e1 e2 h1 h2 h3 st hcl
    subst h1; subst h2; subst h3
    exact Or.inr ⟨q, (T.setVm vm₁).calling g' mk (Value.ref b :: As).toArray, t, U', L, E, ce, hT, X', hL, e1, e2, hq, hce, hcv, vx_cls hW₁ hcl, st⟩
theorem vx_runSX {hh : List (Nat × Nat × Nat × Nat)} (S : CallFix p m c cc nL s args Ts own) (hM : vx_Met l y ws rm Pc Qc XC mc ms free) (cw : vx_CSW R s args own index y bytes maxL ret hh ws rm mc ms n) (hp : PreS s H Pc As)
    (hg : g.method = m) (hn : As.length = n) (hsize : g.locals.size = nL) (hstack : g.stack = As.reverse ++ rest) (hW : 2 * g.monitorRoom + (rest.map fun v => v.category).sum ≤ 8) (hdg : decode cc g.pc = .ok (.invokestatic index, 3)) (hf : cells + mc ≤ R.cells ∧ slots + ms ≤ R.slots) :
    vx_Run p l e R s m args below meth c H locs cells slots mc ms g rest (Qc As.toArray) XC free := by
  obtain ⟨⟨hrc, hrs, hfr, hlo, hws, hcw⟩, hcode, hini, hy, hlen, hl, hstt⟩ := cw
  have hK : vx_Back l R p e below s args y 3 8 (PreOf R mc ms Pc) (PostOf Qc mc ms free) (vx_Post XC mc ms free) := vx_backW (hh := hh) (bytes := bytes) (maxL := maxL) (ret := ret) hM hp.1 hrc hrs hfr hlo hws hcw (fun a' U hW => word_at hW (Or.inl (by first | rfl | simp [Cond.onTables, Cond.keeps, Cond.steady])) hini)
  obtain ⟨hx, hb, hml, ho, -⟩ := S
  intro T hT X
  rcases vx_callSX X hx (hh := hh) (bytes := bytes) (maxL := maxL) (ret := ret) ho hl hstt hini hcode hy hK hg (hsize.trans hml.symm) (argsL := As) (rest := rest) (fun sig h => hn.trans (hlen sig h)) hstack hW (by rw [hb]; exact hdg)
    (fun vm₁ hW₁ => ⟨hf.1, hf.2, hp.2 (T.setVm vm₁) hT hW₁⟩) with ⟨v, vm₁, ⟨U', l2, c2, s2⟩, hW₁, X', ⟨g', mk, t, L, e1, e2, hq, h1, hL, h2, h3⟩, st⟩ | ⟨q, vm₁, ⟨U', l2, c2, s2⟩, hW₁, X', ⟨g', mk, t, L, E, ce, e1, e2, hq, hce, hcv, hcl, h1, hL, h2, h3⟩, st⟩
  · dsimp only [Pt.U, Pt.locs, Pt.cells, Pt.slots] at X' e1 e2 h1 h2 h3 st
    subst h1; subst h2; subst h3
    exact Or.inl ⟨v, (T.setVm vm₁).calling g' mk As.toArray, t, U', L, hT, X', hL, e1, e2, hq, st⟩
  · dsimp only [Pt.U, Pt.locs, Pt.cells, Pt.slots] at X' e1 e2 h1 h2 h3 st hcl
    subst h1; subst h2; subst h3
    exact Or.inr ⟨q, (T.setVm vm₁).calling g' mk As.toArray, t, U', L, E, ce, hT, X', hL, e1, e2, hq, hce, hcv, vx_cls hW₁ hcl, st⟩
end
end VXH
theorem vx_ofWH {l : Launch} {y : MethodName} {ws ws' : List Cond} {rm : Room} {Pc : Array Value → State → Prop} {Qc : Array Value → State → Outcome → State → Prop} {XC : String → State → State → Prop} {mc ms : Nat} {free : Addr → Prop} {cc : ByteArray} {maxL : Nat} {ret : Option FieldType} {hh : List (Nat × Nat × Nat × Nat)}
    (hy : plainName y.cls = true) (hw : ws = Cond.codeWith y cc maxL ret hh :: ws')
    (body : ∀ p e s m args below meth c s₁, BodyLoose p l y (headSpec ws rm) cc maxL ret e s m args below meth c s₁ → c.maxLocals = maxL → Pc args s →
      W p l e (headSpec ws rm).room s m args below meth c s.heap [] 0 0 (vx_MQ below Qc XC args s mc ms free) (entryFrame m args maxL)) : vx_Met l y ws rm Pc Qc XC mc ms free := by
  refine MetFree.of_bodyS (code := cc) (maxLocals := maxL) (ret := ret) hy ?_ ?_
  · intro args s m h hn
    obtain ⟨m9, meth, c, hn9, h1, h2, h3, h4, -, h5, h6, -⟩ := Cond.codeWith_spec (atoms_spec (ws := ws) h _ (by rw [hw]; exact List.mem_cons_self))
    cases hn.symm.trans hn9
    exact ⟨meth, c, h1, h2, h3, h4, h5, h6⟩
  · intro p e s m args below meth c s₁ B hml hP _
    have hh0 : s₁.heap = s.heap := by rw [B.state]; rfl
    obtain ⟨t, a1, o, b1, b2, b3⟩ := body p e s m args below meth c s₁ B hml hP s₁ hh0 (Stand.of_body B)
    exact ⟨t, o, a1, b1, b2, b3⟩
/-! ===== END ===== -/
end
section
/-! ===== BEGIN printed: names, fields, word lists, decode rows ===== -/
def RX0 : String := "GuideWords$Lexicon"
def TX0 : u_T := fun k => match k with
  | 0 => ("GuideWords$Lexicon", "heads", "[J", true)
  | 1 => ("GuideWords$Lexicon", "meant", "[J", true)
  | 2 => ("GuideWords$Lexicon", "senses", "[I", true)
  | 3 => ("GuideWords$Lexicon", "lines", "[I", true)
  | 4 => ("GuideWords$Lexicon", "dropped", "[Z", true)
  | 5 => ("GuideWords$Lexicon", "ordered", "[I", true)
  | 6 => ("GuideWords$Lexicon", "passed", "[I", true)
  | 7 => ("GuideWords$Lexicon", "all", "I", false)
  | _ => ("GuideWords$Lexicon", "present", "I", false)
def tyX0 : Nat → FieldType := fun k => match k with
  | 0 => .array .long
  | 1 => .array .long
  | 2 => .array .int
  | 3 => .array .int
  | 4 => .array .boolean
  | 5 => .array .int
  | 6 => .array .int
  | 7 => .int
  | _ => .int
abbrev wsX00 : List Cond := u_ws RX0 TX0 9
theorem nmX0 : ∀ a, a < 9 → ∀ b, b < 9 → a ≠ b → (TX0 a).2.1 ≠ (TX0 b).2.1 := by decide +kernel
theorem tyX0_ok : ∀ k, k < 9 → parseFieldDescriptor (TX0 k).2.2.1 = some (tyX0 k) := by decide +kernel
abbrev cX0_init : ByteArray := prog_2_method_1_code
def yX0_init : MethodName := ⟨RX0, "<init>", "()V"⟩
abbrev cX0_admit : ByteArray := prog_2_method_2_code
def yX0_admit : MethodName := ⟨RX0, "admit", "(JJ[II)I"⟩
abbrev cX0_remove : ByteArray := prog_2_method_3_code
def yX0_remove : MethodName := ⟨RX0, "remove", "(I)Z"⟩
abbrev cX0_inOrder : ByteArray := prog_2_method_4_code
def yX0_inOrder : MethodName := ⟨RX0, "inOrder", "(I)I"⟩
abbrev cX0_letterOf : ByteArray := prog_2_method_5_code
def yX0_letterOf : MethodName := ⟨RX0, "letterOf", "(I)I"⟩
abbrev cX0_follow : ByteArray := prog_2_method_6_code
def yX0_follow : MethodName := ⟨RX0, "follow", "(I)I"⟩
abbrev cX0_sumLines : ByteArray := prog_2_method_7_code
def yX0_sumLines : MethodName := ⟨RX0, "sumLines", "([II)I"⟩
abbrev cX0_firstWith : ByteArray := prog_2_method_8_code
def yX0_firstWith : MethodName := ⟨RX0, "firstWith", "(J)I"⟩
abbrev cX0_headsBelow : ByteArray := prog_2_method_9_code
def yX0_headsBelow : MethodName := ⟨RX0, "headsBelow", "(J)I"⟩
def RX1 : String := "GuideWords$Setting"
def TX1 : u_T := fun k => match k with
  | 0 => ("GuideWords$Setting", "blocks", "[I", true)
  | 1 => ("GuideWords$Setting", "starts", "[I", true)
  | 2 => ("GuideWords$Setting", "columnLines", "[I", true)
  | 3 => ("GuideWords$Setting", "blockCount", "I", false)
  | 4 => ("GuideWords$Setting", "columnCount", "I", false)
  | 5 => ("GuideWords$Setting", "columnsOnPage", "I", false)
  | 6 => ("GuideWords$Setting", "pageCount", "I", false)
  | _ => ("GuideWords$Setting", "cost", "I", false)
def tyX1 : Nat → FieldType := fun k => match k with
  | 0 => .array .int
  | 1 => .array .int
  | 2 => .array .int
  | 3 => .int
  | 4 => .int
  | 5 => .int
  | 6 => .int
  | _ => .int
abbrev wsX10 : List Cond := u_ws RX1 TX1 8
theorem nmX1 : ∀ a, a < 8 → ∀ b, b < 8 → a ≠ b → (TX1 a).2.1 ≠ (TX1 b).2.1 := by decide +kernel
theorem tyX1_ok : ∀ k, k < 8 → parseFieldDescriptor (TX1 k).2.2.1 = some (tyX1 k) := by decide +kernel
abbrev cX1_init : ByteArray := prog_3_method_1_code
def yX1_init : MethodName := ⟨RX1, "<init>", "()V"⟩
abbrev cX1_openEmpty : ByteArray := prog_3_method_2_code
def yX1_openEmpty : MethodName := ⟨RX1, "openEmpty", "(I)V"⟩
abbrev cX1_addColumn : ByteArray := prog_3_method_3_code
def yX1_addColumn : MethodName := ⟨RX1, "addColumn", "(IIZ)V"⟩
abbrev cX1_entryOf : ByteArray := prog_3_method_4_code
def yX1_entryOf : MethodName := ⟨RX1, "entryOf", "(I)I"⟩
abbrev cX1_senseOf : ByteArray := prog_3_method_5_code
def yX1_senseOf : MethodName := ⟨RX1, "senseOf", "(I)I"⟩
abbrev cX1_columnWith : ByteArray := prog_3_method_6_code
def yX1_columnWith : MethodName := ⟨RX1, "columnWith", "(I)I"⟩
abbrev cX1_firstGuide : ByteArray := prog_3_method_7_code
def yX1_firstGuide : MethodName := ⟨RX1, "firstGuide", "(I)I"⟩
abbrev cX1_lastGuide : ByteArray := prog_3_method_8_code
def yX1_lastGuide : MethodName := ⟨RX1, "lastGuide", "(I)I"⟩
abbrev cX1_pagesUnlike : ByteArray := prog_3_method_9_code
def yX1_pagesUnlike : MethodName := ⟨RX1, "pagesUnlike", "(LGuideWords$Setting;)I"⟩
abbrev cX1_likePage : ByteArray := prog_3_method_10_code
def yX1_likePage : MethodName := ⟨RX1, "likePage", "(LGuideWords$Setting;I)Z"⟩
abbrev cX1_likeColumn : ByteArray := prog_3_method_11_code
def yX1_likeColumn : MethodName := ⟨RX1, "likeColumn", "(ILGuideWords$Setting;I)Z"⟩
abbrev cX1_firstColumn : ByteArray := prog_3_method_12_code
def yX1_firstColumn : MethodName := ⟨RX1, "firstColumn", "(I)I"⟩
abbrev cX1_endColumn : ByteArray := prog_3_method_13_code
def yX1_endColumn : MethodName := ⟨RX1, "endColumn", "(I)I"⟩
def RX2 : String := "GuideWords$Tape"
def TX2 : u_T := fun k => match k with
  | 0 => ("GuideWords$Tape", "bytes", "[I", true)
  | _ => ("GuideWords$Tape", "size", "I", false)
def tyX2 : Nat → FieldType := fun k => match k with
  | 0 => .array .int
  | _ => .int
abbrev wsX20 : List Cond := u_ws RX2 TX2 2
theorem nmX2 : ∀ a, a < 2 → ∀ b, b < 2 → a ≠ b → (TX2 a).2.1 ≠ (TX2 b).2.1 := by decide +kernel
theorem tyX2_ok : ∀ k, k < 2 → parseFieldDescriptor (TX2 k).2.2.1 = some (tyX2 k) := by decide +kernel
abbrev cX2_init : ByteArray := prog_4_method_1_code
def yX2_init : MethodName := ⟨RX2, "<init>", "()V"⟩
abbrev cX2_hasRoom : ByteArray := prog_4_method_2_code
def yX2_hasRoom : MethodName := ⟨RX2, "hasRoom", "()Z"⟩
abbrev cX2_length : ByteArray := prog_4_method_3_code
def yX2_length : MethodName := ⟨RX2, "length", "()I"⟩
abbrev cX2_clear : ByteArray := prog_4_method_4_code
def yX2_clear : MethodName := ⟨RX2, "clear", "()V"⟩
abbrev cX2_append : ByteArray := prog_4_method_5_code
def yX2_append : MethodName := ⟨RX2, "append", "(I)V"⟩
abbrev cX2_headAt : ByteArray := prog_4_method_6_code
def yX2_headAt : MethodName := ⟨RX2, "headAt", "(II)J"⟩
abbrev cX2_firstLetter : ByteArray := prog_4_method_7_code
def yX2_firstLetter : MethodName := ⟨RX2, "firstLetter", "(J)I"⟩
def RX3 : String := "GuideWords$Typesetter"
def TX3 : u_T := fun k => match k with
  | 0 => ("GuideWords$Typesetter", "values", "[I", true)
  | 1 => ("GuideWords$Typesetter", "lines", "[I", true)
  | 2 => ("GuideWords$Typesetter", "breaks", "[I", true)
  | 3 => ("GuideWords$Typesetter", "least", "[J", true)
  | _ => ("GuideWords$Typesetter", "blocks", "I", false)
def tyX3 : Nat → FieldType := fun k => match k with
  | 0 => .array .int
  | 1 => .array .int
  | 2 => .array .int
  | 3 => .array .long
  | _ => .int
abbrev wsX30 : List Cond := u_ws RX3 TX3 5
theorem nmX3 : ∀ a, a < 5 → ∀ b, b < 5 → a ≠ b → (TX3 a).2.1 ≠ (TX3 b).2.1 := by decide +kernel
theorem tyX3_ok : ∀ k, k < 5 → parseFieldDescriptor (TX3 k).2.2.1 = some (tyX3 k) := by decide +kernel
abbrev cX3_init : ByteArray := prog_5_method_1_code
def yX3_init : MethodName := ⟨RX3, "<init>", "([I)V"⟩
abbrev cX3_compose : ByteArray := prog_5_method_2_code
def yX3_compose : MethodName := ⟨RX3, "compose", "(LGuideWords$Lexicon;LGuideWords$Setting;)Z"⟩
abbrev cX3_gather : ByteArray := prog_5_method_3_code
def yX3_gather : MethodName := ⟨RX3, "gather", "(LGuideWords$Lexicon;LGuideWords$Setting;)V"⟩
abbrev cX3_breakBehind : ByteArray := prog_5_method_4_code
def yX3_breakBehind : MethodName := ⟨RX3, "breakBehind", "(III)I"⟩
abbrev cX3_weigh : ByteArray := prog_5_method_5_code
def yX3_weigh : MethodName := ⟨RX3, "weigh", "(II)I"⟩
abbrev cX3_weightOf : ByteArray := prog_5_method_6_code
def yX3_weightOf : MethodName := ⟨RX3, "weightOf", "(III)J"⟩
abbrev cX3_placeBehind : ByteArray := prog_5_method_7_code
def yX3_placeBehind : MethodName := ⟨RX3, "placeBehind", "(I)I"⟩
abbrev cX3_layOut : ByteArray := prog_5_method_8_code
def yX3_layOut : MethodName := ⟨RX3, "layOut", "(LGuideWords$Setting;)V"⟩
def RX4 : String := "GuideWords"
def TX4 : u_T := fun k => match k with
  | 0 => ("GuideWords", "values", "[I", true)
  | 1 => ("GuideWords", "pushed", "[I", true)
  | 2 => ("GuideWords", "pushedCount", "I", false)
  | 3 => ("GuideWords", "tape", "LGuideWords$Tape;", true)
  | 4 => ("GuideWords", "lexicon", "LGuideWords$Lexicon;", true)
  | 5 => ("GuideWords", "typesetter", "LGuideWords$Typesetter;", true)
  | 6 => ("GuideWords", "letterLines", "[I", true)
  | 7 => ("GuideWords", "standing", "LGuideWords$Setting;", false)
  | 8 => ("GuideWords", "draft", "LGuideWords$Setting;", false)
  | _ => ("GuideWords", "changedPages", "I", false)
def tyX4 : Nat → FieldType := fun k => match k with
  | 0 => .array .int
  | 1 => .array .int
  | 2 => .int
  | 3 => .object "GuideWords$Tape"
  | 4 => .object "GuideWords$Lexicon"
  | 5 => .object "GuideWords$Typesetter"
  | 6 => .array .int
  | 7 => .object "GuideWords$Setting"
  | 8 => .object "GuideWords$Setting"
  | _ => .int
abbrev wsX40 : List Cond := u_ws RX4 TX4 10
theorem nmX4 : ∀ a, a < 10 → ∀ b, b < 10 → a ≠ b → (TX4 a).2.1 ≠ (TX4 b).2.1 := by decide +kernel
theorem tyX4_ok : ∀ k, k < 10 → parseFieldDescriptor (TX4 k).2.2.1 = some (tyX4 k) := by decide +kernel
abbrev cX4_init : ByteArray := prog_1_method_1_code
def yX4_init : MethodName := ⟨RX4, "<init>", "()V"⟩
abbrev cX4_set : ByteArray := prog_1_method_2_code
def yX4_set : MethodName := ⟨RX4, "set", "(II)I"⟩
abbrev cX4_push : ByteArray := prog_1_method_3_code
def yX4_push : MethodName := ⟨RX4, "push", "(I)I"⟩
abbrev cX4_feed : ByteArray := prog_1_method_4_code
def yX4_feed : MethodName := ⟨RX4, "feed", "(IIIII)I"⟩
abbrev cX4_entry : ByteArray := prog_1_method_5_code
def yX4_entry : MethodName := ⟨RX4, "entry", "(I)I"⟩
abbrev cX4_see : ByteArray := prog_1_method_6_code
def yX4_see : MethodName := ⟨RX4, "see", "(II)I"⟩
abbrev cX4_drop : ByteArray := prog_1_method_7_code
def yX4_drop : MethodName := ⟨RX4, "drop", "(I)Z"⟩
abbrev cX4_order : ByteArray := prog_1_method_8_code
def yX4_order : MethodName := ⟨RX4, "order", "(I)I"⟩
abbrev cX4_leads : ByteArray := prog_1_method_9_code
def yX4_leads : MethodName := ⟨RX4, "leads", "(I)I"⟩
abbrev cX4_set_ : ByteArray := prog_1_method_10_code
def yX4_set_ : MethodName := ⟨RX4, "set", "()I"⟩
abbrev cX4_told : ByteArray := prog_1_method_11_code
def yX4_told : MethodName := ⟨RX4, "told", "(I)I"⟩
abbrev cX4_column : ByteArray := prog_1_method_12_code
def yX4_column : MethodName := ⟨RX4, "column", "(II)I"⟩
abbrev cX4_where : ByteArray := prog_1_method_13_code
def yX4_where : MethodName := ⟨RX4, "where", "(II)I"⟩
abbrev cX4_guide : ByteArray := prog_1_method_14_code
def yX4_guide : MethodName := ⟨RX4, "guide", "(II)I"⟩
abbrev cX4_thumb : ByteArray := prog_1_method_15_code
def yX4_thumb : MethodName := ⟨RX4, "thumb", "(II)I"⟩
abbrev cX4_volume : ByteArray := prog_1_method_16_code
def yX4_volume : MethodName := ⟨RX4, "volume", "()I"⟩
abbrev cX4_count : ByteArray := prog_1_method_17_code
def yX4_count : MethodName := ⟨RX4, "count", "(I)I"⟩
abbrev cX4_checkEntry : ByteArray := prog_1_method_18_code
def yX4_checkEntry : MethodName := ⟨RX4, "checkEntry", "(I)V"⟩
def RX5 : String := "GuideWordsModel"
def TX5 : u_T := fun k => match k with
  | 0 => ("GuideWordsModel", "thrown", "I", false)
  | 1 => ("GuideWordsModel", "height", "I", false)
  | 2 => ("GuideWordsModel", "wide", "I", false)
  | 3 => ("GuideWordsModel", "letter", "I", false)
  | 4 => ("GuideWordsModel", "split", "I", false)
  | 5 => ("GuideWordsModel", "turn", "I", false)
  | 6 => ("GuideWordsModel", "pushed", "[I", true)
  | 7 => ("GuideWordsModel", "pushes", "I", false)
  | 8 => ("GuideWordsModel", "tape", "[B", true)
  | 9 => ("GuideWordsModel", "taped", "I", false)
  | 10 => ("GuideWordsModel", "heads", "[I", true)
  | 11 => ("GuideWordsModel", "meant", "[I", true)
  | 12 => ("GuideWordsModel", "senses", "[I", true)
  | 13 => ("GuideWordsModel", "many", "[I", true)
  | 14 => ("GuideWordsModel", "isSee", "[Z", true)
  | 15 => ("GuideWordsModel", "isThere", "[Z", true)
  | 16 => ("GuideWordsModel", "entries", "I", false)
  | 17 => ("GuideWordsModel", "row", "[I", true)
  | 18 => ("GuideWordsModel", "rows", "I", false)
  | 19 => ("GuideWordsModel", "passed", "[Z", true)
  | 20 => ("GuideWordsModel", "blockEntry", "[I", true)
  | 21 => ("GuideWordsModel", "blockSense", "[I", true)
  | 22 => ("GuideWordsModel", "blockLines", "[I", true)
  | 23 => ("GuideWordsModel", "mayBreak", "[Z", true)
  | 24 => ("GuideWordsModel", "isLast", "[Z", true)
  | 25 => ("GuideWordsModel", "blocks", "I", false)
  | 26 => ("GuideWordsModel", "least", "[J", true)
  | 27 => ("GuideWordsModel", "fewest", "[I", true)
  | 28 => ("GuideWordsModel", "ends", "[I", true)
  | 29 => ("GuideWordsModel", "setCost", "I", false)
  | 30 => ("GuideWordsModel", "setPages", "I", false)
  | 31 => ("GuideWordsModel", "setColumns", "I", false)
  | 32 => ("GuideWordsModel", "setBlocks", "I", false)
  | 33 => ("GuideWordsModel", "setChanged", "I", false)
  | 34 => ("GuideWordsModel", "setWide", "I", false)
  | 35 => ("GuideWordsModel", "setEntry", "[I", true)
  | 36 => ("GuideWordsModel", "setSense", "[I", true)
  | 37 => ("GuideWordsModel", "setFrom", "[I", true)
  | 38 => ("GuideWordsModel", "setLines", "[I", true)
  | 39 => ("GuideWordsModel", "oldEntry", "[I", true)
  | 40 => ("GuideWordsModel", "oldSense", "[I", true)
  | 41 => ("GuideWordsModel", "oldFrom", "[I", true)
  | 42 => ("GuideWordsModel", "oldColumns", "I", false)
  | 43 => ("GuideWordsModel", "oldWide", "I", false)
  | 44 => ("GuideWordsModel", "linesOf", "[I", true)
  | _ => ("GuideWordsModel", "hasLetter", "[Z", true)
def tyX5 : Nat → FieldType := fun k => match k with
  | 0 => .int
  | 1 => .int
  | 2 => .int
  | 3 => .int
  | 4 => .int
  | 5 => .int
  | 6 => .array .int
  | 7 => .int
  | 8 => .array .byte
  | 9 => .int
  | 10 => .array .int
  | 11 => .array .int
  | 12 => .array .int
  | 13 => .array .int
  | 14 => .array .boolean
  | 15 => .array .boolean
  | 16 => .int
  | 17 => .array .int
  | 18 => .int
  | 19 => .array .boolean
  | 20 => .array .int
  | 21 => .array .int
  | 22 => .array .int
  | 23 => .array .boolean
  | 24 => .array .boolean
  | 25 => .int
  | 26 => .array .long
  | 27 => .array .int
  | 28 => .array .int
  | 29 => .int
  | 30 => .int
  | 31 => .int
  | 32 => .int
  | 33 => .int
  | 34 => .int
  | 35 => .array .int
  | 36 => .array .int
  | 37 => .array .int
  | 38 => .array .int
  | 39 => .array .int
  | 40 => .array .int
  | 41 => .array .int
  | 42 => .int
  | 43 => .int
  | 44 => .array .int
  | _ => .array .boolean
abbrev wsX50 : List Cond := u_ws RX5 TX5 46
theorem nmX5 : ∀ a, a < 46 → ∀ b, b < 46 → a ≠ b → (TX5 a).2.1 ≠ (TX5 b).2.1 := by decide +kernel
theorem tyX5_ok : ∀ k, k < 46 → parseFieldDescriptor (TX5 k).2.2.1 = some (tyX5 k) := by decide +kernel
abbrev cX5_init : ByteArray := prog_7_method_1_code
def yX5_init : MethodName := ⟨RX5, "<init>", "()V"⟩
abbrev cX5_thrown : ByteArray := prog_7_method_2_code
def yX5_thrown : MethodName := ⟨RX5, "thrown", "()I"⟩
abbrev cX5_bad : ByteArray := prog_7_method_3_code
def yX5_bad : MethodName := ⟨RX5, "bad", "(ZI)Z"⟩
abbrev cX5_set : ByteArray := prog_7_method_4_code
def yX5_set : MethodName := ⟨RX5, "set", "(II)I"⟩
abbrev cX5_push : ByteArray := prog_7_method_5_code
def yX5_push : MethodName := ⟨RX5, "push", "(I)I"⟩
abbrev cX5_feed : ByteArray := prog_7_method_6_code
def yX5_feed : MethodName := ⟨RX5, "feed", "(IIIII)I"⟩
abbrev cX5_isHead : ByteArray := prog_7_method_7_code
def yX5_isHead : MethodName := ⟨RX5, "isHead", "(II)Z"⟩
abbrev cX5_head : ByteArray := prog_7_method_8_code
def yX5_head : MethodName := ⟨RX5, "head", "([IIII)V"⟩
abbrev cX5_entry : ByteArray := prog_7_method_9_code
def yX5_entry : MethodName := ⟨RX5, "entry", "(I)I"⟩
abbrev cX5_see : ByteArray := prog_7_method_10_code
def yX5_see : MethodName := ⟨RX5, "see", "(II)I"⟩
abbrev cX5_comes : ByteArray := prog_7_method_11_code
def yX5_comes : MethodName := ⟨RX5, "comes", "(Z)I"⟩
abbrev cX5_isEntry : ByteArray := prog_7_method_12_code
def yX5_isEntry : MethodName := ⟨RX5, "isEntry", "(I)Z"⟩
abbrev cX5_drop : ByteArray := prog_7_method_13_code
def yX5_drop : MethodName := ⟨RX5, "drop", "(I)Z"⟩
abbrev cX5_compare : ByteArray := prog_7_method_14_code
def yX5_compare : MethodName := ⟨RX5, "compare", "([II[II)I"⟩
abbrev cX5_sorts : ByteArray := prog_7_method_15_code
def yX5_sorts : MethodName := ⟨RX5, "sorts", "()V"⟩
abbrev cX5_order : ByteArray := prog_7_method_16_code
def yX5_order : MethodName := ⟨RX5, "order", "(I)I"⟩
abbrev cX5_leads : ByteArray := prog_7_method_17_code
def yX5_leads : MethodName := ⟨RX5, "leads", "(I)I"⟩
abbrev cX5_makes : ByteArray := prog_7_method_18_code
def yX5_makes : MethodName := ⟨RX5, "makes", "()V"⟩
abbrev cX5_best : ByteArray := prog_7_method_19_code
def yX5_best : MethodName := ⟨RX5, "best", "(II)V"⟩
abbrev cX5_set_ : ByteArray := prog_7_method_20_code
def yX5_set_ : MethodName := ⟨RX5, "set", "()I"⟩
abbrev cX5_isAlike : ByteArray := prog_7_method_21_code
def yX5_isAlike : MethodName := ⟨RX5, "isAlike", "(I)Z"⟩
abbrev cX5_told : ByteArray := prog_7_method_22_code
def yX5_told : MethodName := ⟨RX5, "told", "(I)I"⟩
abbrev cX5_column : ByteArray := prog_7_method_23_code
def yX5_column : MethodName := ⟨RX5, "column", "(II)I"⟩
abbrev cX5_where : ByteArray := prog_7_method_24_code
def yX5_where : MethodName := ⟨RX5, "where", "(II)I"⟩
abbrev cX5_guide : ByteArray := prog_7_method_25_code
def yX5_guide : MethodName := ⟨RX5, "guide", "(II)I"⟩
abbrev cX5_counts : ByteArray := prog_7_method_26_code
def yX5_counts : MethodName := ⟨RX5, "counts", "()I"⟩
abbrev cX5_thumb : ByteArray := prog_7_method_27_code
def yX5_thumb : MethodName := ⟨RX5, "thumb", "(II)I"⟩
abbrev cX5_volume : ByteArray := prog_7_method_28_code
def yX5_volume : MethodName := ⟨RX5, "volume", "()I"⟩
abbrev cX5_count : ByteArray := prog_7_method_29_code
def yX5_count : MethodName := ⟨RX5, "count", "(I)I"⟩
def RJ9 : String := "java/lang/Math"
def TJ9 : u_T := fun k => match k with
  | _ => ("", "", "", false)
def tyJ9 : Nat → FieldType := fun k => match k with
  | _ => .int
abbrev wsJ90 : List Cond := u_ws RJ9 TJ9 0
theorem nmJ9 : ∀ a, a < 0 → ∀ b, b < 0 → a ≠ b → (TJ9 a).2.1 ≠ (TJ9 b).2.1 := by decide +kernel
theorem tyJ9_ok : ∀ k, k < 0 → parseFieldDescriptor (TJ9 k).2.2.1 = some (tyJ9 k) := by decide +kernel
abbrev cJ9_abs_0f7a4 : ByteArray := prog_11_method_59_code
def yJ9_abs_0f7a4 : MethodName := ⟨RJ9, "abs", "(I)I"⟩
abbrev cJ9_max_7cf53 : ByteArray := prog_11_method_65_code
def yJ9_max_7cf53 : MethodName := ⟨RJ9, "max", "(II)I"⟩
abbrev cJ9_min_7cf53 : ByteArray := prog_11_method_69_code
def yJ9_min_7cf53 : MethodName := ⟨RJ9, "min", "(II)I"⟩
def RJ0 : String := "java/lang/String"
def TJ0 : u_T := fun k => match k with
  | _ => ("", "", "", false)
def tyJ0 : Nat → FieldType := fun k => match k with
  | _ => .int
abbrev wsJ00 : List Cond := u_ws RJ0 TJ0 0
theorem nmJ0 : ∀ a, a < 0 → ∀ b, b < 0 → a ≠ b → (TJ0 a).2.1 ≠ (TJ0 b).2.1 := by decide +kernel
theorem tyJ0_ok : ∀ k, k < 0 → parseFieldDescriptor (TJ0 k).2.2.1 = some (tyJ0 k) := by decide +kernel
def RJ7 : String := "java/util/Arrays"
def TJ7 : u_T := fun k => match k with
  | _ => ("", "", "", false)
def tyJ7 : Nat → FieldType := fun k => match k with
  | _ => .int
abbrev wsJ70 : List Cond := u_ws RJ7 TJ7 0
theorem nmJ7 : ∀ a, a < 0 → ∀ b, b < 0 → a ≠ b → (TJ7 a).2.1 ≠ (TJ7 b).2.1 := by decide +kernel
theorem tyJ7_ok : ∀ k, k < 0 → parseFieldDescriptor (TJ7 k).2.2.1 = some (tyJ7 k) := by decide +kernel
abbrev cJ7_fill_53178 : ByteArray := prog_15_method_103_code
def yJ7_fill_53178 : MethodName := ⟨RJ7, "fill", "([II)V"⟩
def RL : String := "GuideWordsLaw"
abbrev cL_set : ByteArray := method_3_code
def yL_set : MethodName := ⟨RL, "set", "(LGuideWords;II[J)I"⟩
abbrev cL_push : ByteArray := method_4_code
def yL_push : MethodName := ⟨RL, "push", "(LGuideWords;I[J)I"⟩
abbrev cL_entry : ByteArray := method_5_code
def yL_entry : MethodName := ⟨RL, "entry", "(LGuideWords;I[J)I"⟩
abbrev cL_see : ByteArray := method_6_code
def yL_see : MethodName := ⟨RL, "see", "(LGuideWords;II[J)I"⟩
abbrev cL_drop : ByteArray := method_7_code
def yL_drop : MethodName := ⟨RL, "drop", "(LGuideWords;I[J)I"⟩
abbrev cL_leads : ByteArray := method_8_code
def yL_leads : MethodName := ⟨RL, "leads", "(LGuideWords;I[J)I"⟩
abbrev cL_told : ByteArray := method_9_code
def yL_told : MethodName := ⟨RL, "told", "(LGuideWords;I[J)I"⟩
abbrev cL_column : ByteArray := method_10_code
def yL_column : MethodName := ⟨RL, "column", "(LGuideWords;II[J)I"⟩
abbrev cL_where : ByteArray := method_11_code
def yL_where : MethodName := ⟨RL, "where", "(LGuideWords;II[J)I"⟩
abbrev cL_guide : ByteArray := method_12_code
def yL_guide : MethodName := ⟨RL, "guide", "(LGuideWords;II[J)I"⟩
abbrev cL_thumb : ByteArray := method_13_code
def yL_thumb : MethodName := ⟨RL, "thumb", "(LGuideWords;II[J)I"⟩
abbrev cL_law : ByteArray := code
def yL_law : MethodName := ⟨RL, "law", "([I)Z"⟩
def wsX0_init : List Cond := .code yX0_init cX0_init 1 none :: ([.methodLink RX0 3 objectInit, .instanceMethod objectInit, .code objectInit ⟨#[0xb1]⟩ 1 none, .arrayClass .long, .fieldLink RX0 9 "GuideWords$Lexicon" "heads" "[J", .fieldLink RX0 15 "GuideWords$Lexicon" "meant" "[J", .arrayClass .int, .fieldLink RX0 18 "GuideWords$Lexicon" "senses" "[I", .fieldLink RX0 22 "GuideWords$Lexicon" "lines" "[I", .arrayClass .boolean, .fieldLink RX0 25 "GuideWords$Lexicon" "dropped" "[Z", .fieldLink RX0 29 "GuideWords$Lexicon" "ordered" "[I", .fieldLink RX0 32 "GuideWords$Lexicon" "passed" "[I"] ++ wsX00)
def wsX0_headsBelow : List Cond := .code yX0_headsBelow cX0_headsBelow 7 (some .int) :: ([.fieldLink RX0 43 "GuideWords$Lexicon" "present" "I", .fieldLink RX0 9 "GuideWords$Lexicon" "heads" "[J", .fieldLink RX0 29 "GuideWords$Lexicon" "ordered" "[I"] ++ wsX00)
def wsX0_admit : List Cond := .code yX0_admit cX0_admit 10 (some .int) :: ([.fieldLink RX0 35 "GuideWords$Lexicon" "all" "I", .fieldLink RX0 9 "GuideWords$Lexicon" "heads" "[J", .fieldLink RX0 15 "GuideWords$Lexicon" "meant" "[J", .fieldLink RX0 18 "GuideWords$Lexicon" "senses" "[I", .fieldLink RX0 22 "GuideWords$Lexicon" "lines" "[I", .fieldLink RX0 43 "GuideWords$Lexicon" "present" "I", .fieldLink RX0 29 "GuideWords$Lexicon" "ordered" "[I", .methodLink RX0 39 yX0_headsBelow, .instanceMethod yX0_headsBelow, .selects RX0 yX0_headsBelow yX0_headsBelow, .initialized RX0, .code yX0_headsBelow cX0_headsBelow 7 (some .int)] ++ wsX00)
def wsX0_remove : List Cond := .code yX0_remove cX0_remove 4 (some .boolean) :: ([.fieldLink RX0 25 "GuideWords$Lexicon" "dropped" "[Z", .fieldLink RX0 43 "GuideWords$Lexicon" "present" "I", .fieldLink RX0 29 "GuideWords$Lexicon" "ordered" "[I"] ++ wsX00)
def wsX0_inOrder : List Cond := .code yX0_inOrder cX0_inOrder 2 (some .int) :: ([.fieldLink RX0 43 "GuideWords$Lexicon" "present" "I", .fieldLink RX0 29 "GuideWords$Lexicon" "ordered" "[I"] ++ wsX00)
def wsX2_firstLetter : List Cond := .code yX2_firstLetter cX2_firstLetter 2 (some .int) :: ([])
def wsX0_letterOf : List Cond := .code yX0_letterOf cX0_letterOf 2 (some .int) :: ([.fieldLink RX0 9 "GuideWords$Lexicon" "heads" "[J", .methodLink RX0 46 yX2_firstLetter, .static yX2_firstLetter, .initialized RX2, .code yX2_firstLetter cX2_firstLetter 2 (some .int)] ++ wsX00)
def wsJ7_fill_53178 : List Cond := .code yJ7_fill_53178 cJ7_fill_53178 4 none :: ([])
def wsX0_firstWith : List Cond := .code yX0_firstWith cX0_firstWith 4 (some .int) :: ([.fieldLink RX0 43 "GuideWords$Lexicon" "present" "I", .fieldLink RX0 9 "GuideWords$Lexicon" "heads" "[J", .fieldLink RX0 29 "GuideWords$Lexicon" "ordered" "[I", .methodLink RX0 39 yX0_headsBelow, .instanceMethod yX0_headsBelow, .selects RX0 yX0_headsBelow yX0_headsBelow, .initialized RX0, .code yX0_headsBelow cX0_headsBelow 7 (some .int)] ++ wsX00)
def wsX0_follow : List Cond := .code yX0_follow cX0_follow 5 (some .int) :: ([.fieldLink RX0 32 "GuideWords$Lexicon" "passed" "[I", .fieldLink RX0 15 "GuideWords$Lexicon" "meant" "[J", .methodLink RX0 51 yJ7_fill_53178, .static yJ7_fill_53178, .initialized RJ7, .code yJ7_fill_53178 cJ7_fill_53178 4 none, .methodLink RX0 57 yX0_firstWith, .instanceMethod yX0_firstWith, .selects RX0 yX0_firstWith yX0_firstWith, .initialized RX0, .code yX0_firstWith cX0_firstWith 4 (some .int), .fieldLink RX0 43 "GuideWords$Lexicon" "present" "I", .fieldLink RX0 9 "GuideWords$Lexicon" "heads" "[J", .fieldLink RX0 29 "GuideWords$Lexicon" "ordered" "[I", .methodLink RX0 39 yX0_headsBelow, .instanceMethod yX0_headsBelow, .selects RX0 yX0_headsBelow yX0_headsBelow, .code yX0_headsBelow cX0_headsBelow 7 (some .int)] ++ wsX00)
def wsX0_sumLines : List Cond := .code yX0_sumLines cX0_sumLines 9 (some .int) :: ([.fieldLink RX0 43 "GuideWords$Lexicon" "present" "I", .fieldLink RX0 29 "GuideWords$Lexicon" "ordered" "[I", .fieldLink RX0 18 "GuideWords$Lexicon" "senses" "[I", .fieldLink RX0 22 "GuideWords$Lexicon" "lines" "[I", .methodLink RX0 51 yJ7_fill_53178, .static yJ7_fill_53178, .initialized RJ7, .code yJ7_fill_53178 cJ7_fill_53178 4 none, .methodLink RX0 60 yX0_letterOf, .instanceMethod yX0_letterOf, .selects RX0 yX0_letterOf yX0_letterOf, .initialized RX0, .code yX0_letterOf cX0_letterOf 2 (some .int), .fieldLink RX0 9 "GuideWords$Lexicon" "heads" "[J", .methodLink RX0 46 yX2_firstLetter, .static yX2_firstLetter, .initialized RX2, .code yX2_firstLetter cX2_firstLetter 2 (some .int)] ++ wsX00)
def wsX1_init : List Cond := .code yX1_init cX1_init 1 none :: ([.methodLink RX1 3 objectInit, .instanceMethod objectInit, .code objectInit ⟨#[0xb1]⟩ 1 none, .arrayClass .int, .fieldLink RX1 9 "GuideWords$Setting" "blocks" "[I", .fieldLink RX1 15 "GuideWords$Setting" "starts" "[I", .fieldLink RX1 18 "GuideWords$Setting" "columnLines" "[I"] ++ wsX10)
def wsX1_openEmpty : List Cond := .code yX1_openEmpty cX1_openEmpty 2 none :: ([.fieldLink RX1 21 "GuideWords$Setting" "columnsOnPage" "I", .fieldLink RX1 25 "GuideWords$Setting" "columnCount" "I", .fieldLink RX1 28 "GuideWords$Setting" "pageCount" "I", .fieldLink RX1 15 "GuideWords$Setting" "starts" "[I"] ++ wsX10)
def wsX1_addColumn : List Cond := .code yX1_addColumn cX1_addColumn 4 none :: ([.fieldLink RX1 18 "GuideWords$Setting" "columnLines" "[I", .fieldLink RX1 25 "GuideWords$Setting" "columnCount" "I", .fieldLink RX1 15 "GuideWords$Setting" "starts" "[I", .fieldLink RX1 28 "GuideWords$Setting" "pageCount" "I"] ++ wsX10)
def wsX1_entryOf : List Cond := .code yX1_entryOf cX1_entryOf 2 (some .int) :: ([.fieldLink RX1 9 "GuideWords$Setting" "blocks" "[I"] ++ wsX10)
def wsX1_senseOf : List Cond := .code yX1_senseOf cX1_senseOf 2 (some .int) :: ([.fieldLink RX1 9 "GuideWords$Setting" "blocks" "[I"] ++ wsX10)
def wsX1_columnWith : List Cond := .code yX1_columnWith cX1_columnWith 4 (some .int) :: ([.fieldLink RX1 25 "GuideWords$Setting" "columnCount" "I", .fieldLink RX1 15 "GuideWords$Setting" "starts" "[I", .fieldLink RX1 9 "GuideWords$Setting" "blocks" "[I"] ++ wsX10)
def wsX1_firstColumn : List Cond := .code yX1_firstColumn cX1_firstColumn 2 (some .int) :: ([.fieldLink RX1 21 "GuideWords$Setting" "columnsOnPage" "I", .fieldLink RX1 25 "GuideWords$Setting" "columnCount" "I", .methodLink RX1 58 Lib.Math.min.name, .static Lib.Math.min.name, .initialized "java/lang/Math", .code Lib.Math.min.name Lib.Math.min.code 2 (some .int)] ++ wsX10)
def wsX1_endColumn : List Cond := .code yX1_endColumn cX1_endColumn 2 (some .int) :: ([.fieldLink RX1 21 "GuideWords$Setting" "columnsOnPage" "I", .fieldLink RX1 25 "GuideWords$Setting" "columnCount" "I", .methodLink RX1 58 Lib.Math.min.name, .static Lib.Math.min.name, .initialized "java/lang/Math", .code Lib.Math.min.name Lib.Math.min.code 2 (some .int)] ++ wsX10)
def wsX1_firstGuide_r1 : List Cond := [Cond.fieldLink RX1 15 "GuideWords$Setting" "starts" "[I", Cond.methodLink RX1 31 yX1_firstColumn, Cond.instanceMethod yX1_firstColumn, Cond.selects RX1 yX1_firstColumn yX1_firstColumn, Cond.initialized RX1, Cond.code yX1_firstColumn cX1_firstColumn 2 (some .int), Cond.fieldLink RX1 21 "GuideWords$Setting" "columnsOnPage" "I", Cond.fieldLink RX1 25 "GuideWords$Setting" "columnCount" "I", Cond.methodLink RX1 58 Lib.Math.min.name, Cond.static Lib.Math.min.name, Cond.initialized "java/lang/Math", Cond.code Lib.Math.min.name Lib.Math.min.code 2 (some .int), Cond.methodLink RX1 35 yX1_endColumn, Cond.instanceMethod yX1_endColumn, Cond.selects RX1 yX1_endColumn yX1_endColumn, Cond.code yX1_endColumn cX1_endColumn 2 (some .int), Cond.methodLink RX1 38 yX1_senseOf, Cond.instanceMethod yX1_senseOf, Cond.selects RX1 yX1_senseOf yX1_senseOf, Cond.code yX1_senseOf cX1_senseOf 2 (some .int), Cond.fieldLink RX1 9 "GuideWords$Setting" "blocks" "[I", Cond.methodLink RX1 41 yX1_entryOf, Cond.instanceMethod yX1_entryOf, Cond.selects RX1 yX1_entryOf yX1_entryOf]
def wsX1_firstGuide_r2 : List Cond := [Cond.code yX1_entryOf cX1_entryOf 2 (some .int)]
def wsX1_firstGuide : List Cond := .code yX1_firstGuide cX1_firstGuide 5 (some .int) :: ((wsX1_firstGuide_r1 ++ wsX1_firstGuide_r2) ++ wsX10)
def wsX1_lastGuide_r1 : List Cond := [Cond.fieldLink RX1 15 "GuideWords$Setting" "starts" "[I", Cond.methodLink RX1 31 yX1_firstColumn, Cond.instanceMethod yX1_firstColumn, Cond.selects RX1 yX1_firstColumn yX1_firstColumn, Cond.initialized RX1, Cond.code yX1_firstColumn cX1_firstColumn 2 (some .int), Cond.fieldLink RX1 21 "GuideWords$Setting" "columnsOnPage" "I", Cond.fieldLink RX1 25 "GuideWords$Setting" "columnCount" "I", Cond.methodLink RX1 58 Lib.Math.min.name, Cond.static Lib.Math.min.name, Cond.initialized "java/lang/Math", Cond.code Lib.Math.min.name Lib.Math.min.code 2 (some .int), Cond.methodLink RX1 35 yX1_endColumn, Cond.instanceMethod yX1_endColumn, Cond.selects RX1 yX1_endColumn yX1_endColumn, Cond.code yX1_endColumn cX1_endColumn 2 (some .int), Cond.methodLink RX1 38 yX1_senseOf, Cond.instanceMethod yX1_senseOf, Cond.selects RX1 yX1_senseOf yX1_senseOf, Cond.code yX1_senseOf cX1_senseOf 2 (some .int), Cond.fieldLink RX1 9 "GuideWords$Setting" "blocks" "[I", Cond.methodLink RX1 41 yX1_entryOf, Cond.instanceMethod yX1_entryOf, Cond.selects RX1 yX1_entryOf yX1_entryOf]
def wsX1_lastGuide_r2 : List Cond := [Cond.code yX1_entryOf cX1_entryOf 2 (some .int)]
def wsX1_lastGuide : List Cond := .code yX1_lastGuide cX1_lastGuide 4 (some .int) :: ((wsX1_lastGuide_r1 ++ wsX1_lastGuide_r2) ++ wsX10)
def wsX1_likeColumn : List Cond := .code yX1_likeColumn cX1_likeColumn 8 (some .boolean) :: ([.fieldLink RX1 15 "GuideWords$Setting" "starts" "[I", .fieldLink RX1 9 "GuideWords$Setting" "blocks" "[I"] ++ wsX10)
def wsX1_likePage : List Cond := .code yX1_likePage cX1_likePage 7 (some .boolean) :: ([.methodLink RX1 31 yX1_firstColumn, .instanceMethod yX1_firstColumn, .selects RX1 yX1_firstColumn yX1_firstColumn, .initialized RX1, .code yX1_firstColumn cX1_firstColumn 2 (some .int), .fieldLink RX1 21 "GuideWords$Setting" "columnsOnPage" "I", .fieldLink RX1 25 "GuideWords$Setting" "columnCount" "I", .methodLink RX1 58 Lib.Math.min.name, .static Lib.Math.min.name, .initialized "java/lang/Math", .code Lib.Math.min.name Lib.Math.min.code 2 (some .int), .methodLink RX1 35 yX1_endColumn, .instanceMethod yX1_endColumn, .selects RX1 yX1_endColumn yX1_endColumn, .code yX1_endColumn cX1_endColumn 2 (some .int), .methodLink RX1 54 yX1_likeColumn, .instanceMethod yX1_likeColumn, .selects RX1 yX1_likeColumn yX1_likeColumn, .code yX1_likeColumn cX1_likeColumn 8 (some .boolean), .fieldLink RX1 15 "GuideWords$Setting" "starts" "[I", .fieldLink RX1 9 "GuideWords$Setting" "blocks" "[I"] ++ wsX10)
def wsX1_pagesUnlike_r1 : List Cond := [Cond.fieldLink RX1 28 "GuideWords$Setting" "pageCount" "I", Cond.methodLink RX1 44 Lib.Math.max.name, Cond.static Lib.Math.max.name, Cond.initialized "java/lang/Math", Cond.code Lib.Math.max.name Lib.Math.max.code 2 (some .int), Cond.methodLink RX1 50 yX1_likePage, Cond.instanceMethod yX1_likePage, Cond.selects RX1 yX1_likePage yX1_likePage, Cond.initialized RX1, Cond.code yX1_likePage cX1_likePage 7 (some .boolean), Cond.methodLink RX1 31 yX1_firstColumn, Cond.instanceMethod yX1_firstColumn, Cond.selects RX1 yX1_firstColumn yX1_firstColumn, Cond.code yX1_firstColumn cX1_firstColumn 2 (some .int), Cond.fieldLink RX1 21 "GuideWords$Setting" "columnsOnPage" "I", Cond.fieldLink RX1 25 "GuideWords$Setting" "columnCount" "I", Cond.methodLink RX1 58 Lib.Math.min.name, Cond.static Lib.Math.min.name, Cond.code Lib.Math.min.name Lib.Math.min.code 2 (some .int), Cond.methodLink RX1 35 yX1_endColumn, Cond.instanceMethod yX1_endColumn, Cond.selects RX1 yX1_endColumn yX1_endColumn, Cond.code yX1_endColumn cX1_endColumn 2 (some .int), Cond.methodLink RX1 54 yX1_likeColumn]
def wsX1_pagesUnlike_r2 : List Cond := [Cond.instanceMethod yX1_likeColumn, Cond.selects RX1 yX1_likeColumn yX1_likeColumn, Cond.code yX1_likeColumn cX1_likeColumn 8 (some .boolean), Cond.fieldLink RX1 15 "GuideWords$Setting" "starts" "[I", Cond.fieldLink RX1 9 "GuideWords$Setting" "blocks" "[I"]
def wsX1_pagesUnlike : List Cond := .code yX1_pagesUnlike cX1_pagesUnlike 5 (some .int) :: ((wsX1_pagesUnlike_r1 ++ wsX1_pagesUnlike_r2) ++ wsX10)
def wsX2_init : List Cond := .code yX2_init cX2_init 1 none :: ([.methodLink RX2 5 objectInit, .instanceMethod objectInit, .code objectInit ⟨#[0xb1]⟩ 1 none, .arrayClass .int, .fieldLink RX2 11 "GuideWords$Tape" "bytes" "[I"] ++ wsX20)
def wsX2_hasRoom : List Cond := .code yX2_hasRoom cX2_hasRoom 1 (some .boolean) :: ([.fieldLink RX2 15 "GuideWords$Tape" "size" "I"] ++ wsX20)
def wsX2_length : List Cond := .code yX2_length cX2_length 1 (some .int) :: ([.fieldLink RX2 15 "GuideWords$Tape" "size" "I"] ++ wsX20)
def wsX2_clear : List Cond := .code yX2_clear cX2_clear 1 none :: ([.fieldLink RX2 15 "GuideWords$Tape" "size" "I"] ++ wsX20)
def wsX2_append : List Cond := .code yX2_append cX2_append 3 none :: ([.fieldLink RX2 15 "GuideWords$Tape" "size" "I", .fieldLink RX2 11 "GuideWords$Tape" "bytes" "[I"] ++ wsX20)
def wsX2_headAt : List Cond := .code yX2_headAt cX2_headAt 8 (some .long) :: ([.fieldLink RX2 15 "GuideWords$Tape" "size" "I", .fieldLink RX2 11 "GuideWords$Tape" "bytes" "[I"] ++ wsX20)
def wsX3_init : List Cond := .code yX3_init cX3_init 2 none :: ([.methodLink RX3 3 objectInit, .instanceMethod objectInit, .code objectInit ⟨#[0xb1]⟩ 1 none, .fieldLink RX3 9 "GuideWords$Typesetter" "values" "[I", .arrayClass .int, .fieldLink RX3 15 "GuideWords$Typesetter" "lines" "[I", .fieldLink RX3 18 "GuideWords$Typesetter" "breaks" "[I", .arrayClass .long, .fieldLink RX3 21 "GuideWords$Typesetter" "least" "[J"] ++ wsX30)
def wsX3_breakBehind : List Cond := .code yX3_breakBehind cX3_breakBehind 3 (some .int) :: ([])
def wsX3_gather : List Cond := .code yX3_gather cX3_gather 10 none :: ([.fieldLink RX3 29 "GuideWords$Typesetter" "blocks" "I", .fieldLink RX3 9 "GuideWords$Typesetter" "values" "[I", .fieldLink RX3 15 "GuideWords$Typesetter" "lines" "[I", .fieldLink RX3 18 "GuideWords$Typesetter" "breaks" "[I", .methodLink RX3 58 yX0_letterOf, .instanceMethod yX0_letterOf, .selects RX0 yX0_letterOf yX0_letterOf, .initialized RX0, .code yX0_letterOf cX0_letterOf 2 (some .int), .fieldLink RX0 9 "GuideWords$Lexicon" "heads" "[J", .methodLink RX0 46 yX2_firstLetter, .static yX2_firstLetter, .initialized RX2, .code yX2_firstLetter cX2_firstLetter 2 (some .int), .methodLink RX3 68 yX3_breakBehind, .static yX3_breakBehind, .initialized RX3, .code yX3_breakBehind cX3_breakBehind 3 (some .int)] ++ wsX30 ++ wsX00 ++ wsX10)
def wsX3_placeBehind : List Cond := .code yX3_placeBehind cX3_placeBehind 2 (some .int) :: ([.fieldLink RX3 9 "GuideWords$Typesetter" "values" "[I"] ++ wsX30)
def wsX3_weightOf : List Cond := .code yX3_weightOf cX3_weightOf 8 (some .long) :: ([.fieldLink RX3 29 "GuideWords$Typesetter" "blocks" "I", .fieldLink RX3 18 "GuideWords$Typesetter" "breaks" "[I", .constantLong RX3 37 (1000000000000000000), .fieldLink RX3 21 "GuideWords$Typesetter" "least" "[J", .fieldLink RX3 9 "GuideWords$Typesetter" "values" "[I", .constantLong RX3 43 (1024)] ++ wsX30)
def wsX3_weigh : List Cond := .code yX3_weigh cX3_weigh 11 (some .int) :: ([.constantLong RX3 37 (1000000000000000000), .fieldLink RX3 29 "GuideWords$Typesetter" "blocks" "I", .fieldLink RX3 15 "GuideWords$Typesetter" "lines" "[I", .fieldLink RX3 9 "GuideWords$Typesetter" "values" "[I", .fieldLink RX3 21 "GuideWords$Typesetter" "least" "[J", .methodLink RX3 75 yX3_placeBehind, .instanceMethod yX3_placeBehind, .selects RX3 yX3_placeBehind yX3_placeBehind, .initialized RX3, .code yX3_placeBehind cX3_placeBehind 2 (some .int), .methodLink RX3 78 yX3_weightOf, .instanceMethod yX3_weightOf, .selects RX3 yX3_weightOf yX3_weightOf, .code yX3_weightOf cX3_weightOf 8 (some .long), .fieldLink RX3 18 "GuideWords$Typesetter" "breaks" "[I", .constantLong RX3 43 (1024)] ++ wsX30)
def wsX3_layOut_r1 : List Cond := [Cond.fieldLink RX3 9 "GuideWords$Typesetter" "values" "[I", Cond.fieldLink RX3 29 "GuideWords$Typesetter" "blocks" "I", Cond.fieldLink RX3 15 "GuideWords$Typesetter" "lines" "[I", Cond.methodLink RX3 82 yX1_openEmpty, Cond.instanceMethod yX1_openEmpty, Cond.selects RX1 yX1_openEmpty yX1_openEmpty, Cond.initialized RX1, Cond.code yX1_openEmpty cX1_openEmpty 2 none, Cond.fieldLink RX1 21 "GuideWords$Setting" "columnsOnPage" "I", Cond.fieldLink RX1 25 "GuideWords$Setting" "columnCount" "I", Cond.fieldLink RX1 28 "GuideWords$Setting" "pageCount" "I", Cond.fieldLink RX1 15 "GuideWords$Setting" "starts" "[I", Cond.methodLink RX3 33 yX3_weigh, Cond.instanceMethod yX3_weigh, Cond.selects RX3 yX3_weigh yX3_weigh, Cond.initialized RX3, Cond.code yX3_weigh cX3_weigh 11 (some .int), Cond.constantLong RX3 37 (1000000000000000000), Cond.fieldLink RX3 21 "GuideWords$Typesetter" "least" "[J", Cond.methodLink RX3 75 yX3_placeBehind, Cond.instanceMethod yX3_placeBehind, Cond.selects RX3 yX3_placeBehind yX3_placeBehind, Cond.code yX3_placeBehind cX3_placeBehind 2 (some .int), Cond.methodLink RX3 78 yX3_weightOf]
def wsX3_layOut_r2 : List Cond := [Cond.instanceMethod yX3_weightOf, Cond.selects RX3 yX3_weightOf yX3_weightOf, Cond.code yX3_weightOf cX3_weightOf 8 (some .long), Cond.fieldLink RX3 18 "GuideWords$Typesetter" "breaks" "[I", Cond.constantLong RX3 43 (1024), Cond.methodLink RX3 86 yX1_addColumn, Cond.instanceMethod yX1_addColumn, Cond.selects RX1 yX1_addColumn yX1_addColumn, Cond.code yX1_addColumn cX1_addColumn 4 none, Cond.fieldLink RX1 18 "GuideWords$Setting" "columnLines" "[I"]
def wsX3_layOut : List Cond := .code yX3_layOut cX3_layOut 8 none :: ((wsX3_layOut_r1 ++ wsX3_layOut_r2) ++ wsX30 ++ wsX10)
def wsX3_compose_r1 : List Cond := [Cond.fieldLink RX3 29 "GuideWords$Typesetter" "blocks" "I", Cond.fieldLink RX3 9 "GuideWords$Typesetter" "values" "[I", Cond.fieldLink RX3 21 "GuideWords$Typesetter" "least" "[J", Cond.constantLong RX3 37 (1000000000000000000), Cond.constantLong RX3 43 (1024), Cond.methodLink RX3 25 yX3_gather, Cond.instanceMethod yX3_gather, Cond.selects RX3 yX3_gather yX3_gather, Cond.initialized RX3, Cond.code yX3_gather cX3_gather 10 none, Cond.fieldLink RX3 15 "GuideWords$Typesetter" "lines" "[I", Cond.fieldLink RX3 18 "GuideWords$Typesetter" "breaks" "[I", Cond.methodLink RX3 58 yX0_letterOf, Cond.instanceMethod yX0_letterOf, Cond.selects RX0 yX0_letterOf yX0_letterOf, Cond.initialized RX0, Cond.code yX0_letterOf cX0_letterOf 2 (some .int), Cond.fieldLink RX0 9 "GuideWords$Lexicon" "heads" "[J", Cond.methodLink RX0 46 yX2_firstLetter, Cond.static yX2_firstLetter, Cond.initialized RX2, Cond.code yX2_firstLetter cX2_firstLetter 2 (some .int), Cond.methodLink RX3 68 yX3_breakBehind, Cond.static yX3_breakBehind]
def wsX3_compose_r2 : List Cond := [Cond.code yX3_breakBehind cX3_breakBehind 3 (some .int), Cond.methodLink RX3 33 yX3_weigh, Cond.instanceMethod yX3_weigh, Cond.selects RX3 yX3_weigh yX3_weigh, Cond.code yX3_weigh cX3_weigh 11 (some .int), Cond.methodLink RX3 75 yX3_placeBehind, Cond.instanceMethod yX3_placeBehind, Cond.selects RX3 yX3_placeBehind yX3_placeBehind, Cond.code yX3_placeBehind cX3_placeBehind 2 (some .int), Cond.methodLink RX3 78 yX3_weightOf, Cond.instanceMethod yX3_weightOf, Cond.selects RX3 yX3_weightOf yX3_weightOf, Cond.code yX3_weightOf cX3_weightOf 8 (some .long), Cond.methodLink RX3 39 yX3_layOut, Cond.instanceMethod yX3_layOut, Cond.selects RX3 yX3_layOut yX3_layOut, Cond.code yX3_layOut cX3_layOut 8 none, Cond.methodLink RX3 82 yX1_openEmpty, Cond.instanceMethod yX1_openEmpty, Cond.selects RX1 yX1_openEmpty yX1_openEmpty, Cond.initialized RX1, Cond.code yX1_openEmpty cX1_openEmpty 2 none, Cond.fieldLink RX1 21 "GuideWords$Setting" "columnsOnPage" "I", Cond.fieldLink RX1 25 "GuideWords$Setting" "columnCount" "I"]
def wsX3_compose_r3 : List Cond := [Cond.fieldLink RX1 28 "GuideWords$Setting" "pageCount" "I", Cond.fieldLink RX1 15 "GuideWords$Setting" "starts" "[I", Cond.methodLink RX3 86 yX1_addColumn, Cond.instanceMethod yX1_addColumn, Cond.selects RX1 yX1_addColumn yX1_addColumn, Cond.code yX1_addColumn cX1_addColumn 4 none, Cond.fieldLink RX1 18 "GuideWords$Setting" "columnLines" "[I"]
def wsX3_compose : List Cond := .code yX3_compose cX3_compose 5 (some .boolean) :: ((wsX3_compose_r1 ++ (wsX3_compose_r2 ++ wsX3_compose_r3)) ++ wsX30 ++ wsX10 ++ wsX00)
def wsX4_init_r1 : List Cond := [Cond.methodLink RX4 3 objectInit, Cond.instanceMethod objectInit, Cond.code objectInit ⟨#[0xb1]⟩ 1 none, Cond.arrayClass .int, Cond.fieldLink RX4 9 "GuideWords" "values" "[I", Cond.fieldLink RX4 13 "GuideWords" "pushed" "[I", Cond.classLink RX4 16 RX2, Cond.instantiable RX2 2, Cond.initialized RX2, Cond.fieldLink RX4 19 "GuideWords" "tape" "LGuideWords$Tape;", Cond.classLink RX4 23 RX0, Cond.instantiable RX0 9, Cond.initialized RX0, Cond.fieldLink RX4 26 "GuideWords" "lexicon" "LGuideWords$Lexicon;", Cond.classLink RX4 30 RX3, Cond.instantiable RX3 5, Cond.initialized RX3, Cond.fieldLink RX4 35 "GuideWords" "typesetter" "LGuideWords$Typesetter;", Cond.fieldLink RX4 39 "GuideWords" "letterLines" "[I", Cond.classLink RX4 42 RX1, Cond.instantiable RX1 8, Cond.initialized RX1, Cond.fieldLink RX4 45 "GuideWords" "standing" "LGuideWords$Setting;", Cond.fieldLink RX4 49 "GuideWords" "draft" "LGuideWords$Setting;"]
def wsX4_init_r2 : List Cond := [Cond.methodLink RX4 18 yX2_init, Cond.instanceMethod yX2_init, Cond.code yX2_init cX2_init 1 none, Cond.methodLink RX2 5 objectInit, Cond.fieldLink RX2 11 "GuideWords$Tape" "bytes" "[I", Cond.methodLink RX4 25 yX0_init, Cond.instanceMethod yX0_init, Cond.code yX0_init cX0_init 1 none, Cond.methodLink RX0 3 objectInit, Cond.arrayClass .long, Cond.fieldLink RX0 9 "GuideWords$Lexicon" "heads" "[J", Cond.fieldLink RX0 15 "GuideWords$Lexicon" "meant" "[J", Cond.fieldLink RX0 18 "GuideWords$Lexicon" "senses" "[I", Cond.fieldLink RX0 22 "GuideWords$Lexicon" "lines" "[I", Cond.arrayClass .boolean, Cond.fieldLink RX0 25 "GuideWords$Lexicon" "dropped" "[Z", Cond.fieldLink RX0 29 "GuideWords$Lexicon" "ordered" "[I", Cond.fieldLink RX0 32 "GuideWords$Lexicon" "passed" "[I", Cond.methodLink RX4 32 yX3_init, Cond.instanceMethod yX3_init, Cond.code yX3_init cX3_init 2 none, Cond.methodLink RX3 3 objectInit, Cond.fieldLink RX3 9 "GuideWords$Typesetter" "values" "[I", Cond.fieldLink RX3 15 "GuideWords$Typesetter" "lines" "[I"]
def wsX4_init_r3 : List Cond := [Cond.fieldLink RX3 18 "GuideWords$Typesetter" "breaks" "[I", Cond.fieldLink RX3 21 "GuideWords$Typesetter" "least" "[J", Cond.methodLink RX4 44 yX1_init, Cond.instanceMethod yX1_init, Cond.code yX1_init cX1_init 1 none, Cond.methodLink RX1 3 objectInit, Cond.fieldLink RX1 9 "GuideWords$Setting" "blocks" "[I", Cond.fieldLink RX1 15 "GuideWords$Setting" "starts" "[I", Cond.fieldLink RX1 18 "GuideWords$Setting" "columnLines" "[I"]
def wsX4_init : List Cond := .code yX4_init cX4_init 1 none :: ((wsX4_init_r1 ++ (wsX4_init_r2 ++ wsX4_init_r3)) ++ wsX40 ++ wsX20 ++ wsX00 ++ wsX30 ++ wsX10)
def wsX4_set : List Cond := .code yX4_set cX4_set 4 (some .int) :: ([.classLink RX4 52 "java/lang/IllegalArgumentException", .initialized "java/lang/IllegalArgumentException", .fieldLink RX4 59 "GuideWords" "LOWEST" "[I", .fieldLink RX4 62 "GuideWords" "HIGHEST" "[I", .fieldLink RX4 9 "GuideWords" "values" "[I"] ++ wsX40 ++ (vx_atS RX4 56 "java/lang/IllegalArgumentException" ["java/lang/RuntimeException", "java/lang/Exception"]).filter goodWord)
def wsX4_push : List Cond := .code yX4_push cX4_push 2 (some .int) :: ([.classLink RX4 52 "java/lang/IllegalArgumentException", .initialized "java/lang/IllegalArgumentException", .fieldLink RX4 69 "GuideWords" "pushedCount" "I", .fieldLink RX4 13 "GuideWords" "pushed" "[I"] ++ wsX40 ++ (vx_atS RX4 56 "java/lang/IllegalArgumentException" ["java/lang/RuntimeException", "java/lang/Exception"]).filter goodWord)
def wsX4_feed : List Cond := .code yX4_feed cX4_feed 6 (some .int) :: ([.fieldLink RX4 19 "GuideWords" "tape" "LGuideWords$Tape;", .methodLink RX4 73 yX2_hasRoom, .instanceMethod yX2_hasRoom, .selects RX2 yX2_hasRoom yX2_hasRoom, .initialized RX2, .code yX2_hasRoom cX2_hasRoom 1 (some .boolean), .fieldLink RX2 15 "GuideWords$Tape" "size" "I", .methodLink RX4 77 yX2_append, .instanceMethod yX2_append, .selects RX2 yX2_append yX2_append, .code yX2_append cX2_append 3 none, .fieldLink RX2 11 "GuideWords$Tape" "bytes" "[I", .methodLink RX4 81 yX2_length, .instanceMethod yX2_length, .selects RX2 yX2_length yX2_length, .code yX2_length cX2_length 1 (some .int)] ++ wsX40 ++ wsX20)
def wsX4_entry_r1 : List Cond := [Cond.classLink RX4 52 "java/lang/IllegalArgumentException", Cond.initialized "java/lang/IllegalArgumentException", Cond.fieldLink RX4 19 "GuideWords" "tape" "LGuideWords$Tape;", Cond.fieldLink RX4 69 "GuideWords" "pushedCount" "I", Cond.fieldLink RX4 26 "GuideWords" "lexicon" "LGuideWords$Lexicon;", Cond.fieldLink RX4 13 "GuideWords" "pushed" "[I", Cond.methodLink RX4 81 yX2_length, Cond.instanceMethod yX2_length, Cond.selects RX2 yX2_length yX2_length, Cond.initialized RX2, Cond.code yX2_length cX2_length 1 (some .int), Cond.fieldLink RX2 15 "GuideWords$Tape" "size" "I", Cond.methodLink RX4 87 yX2_headAt, Cond.instanceMethod yX2_headAt, Cond.selects RX2 yX2_headAt yX2_headAt, Cond.code yX2_headAt cX2_headAt 8 (some .long), Cond.fieldLink RX2 11 "GuideWords$Tape" "bytes" "[I", Cond.methodLink RX4 91 yX2_clear, Cond.instanceMethod yX2_clear, Cond.selects RX2 yX2_clear yX2_clear, Cond.code yX2_clear cX2_clear 1 none, Cond.methodLink RX4 94 yX0_admit, Cond.instanceMethod yX0_admit, Cond.selects RX0 yX0_admit yX0_admit]
def wsX4_entry_r2 : List Cond := [Cond.initialized RX0, Cond.code yX0_admit cX0_admit 10 (some .int), Cond.fieldLink RX0 35 "GuideWords$Lexicon" "all" "I", Cond.fieldLink RX0 9 "GuideWords$Lexicon" "heads" "[J", Cond.fieldLink RX0 15 "GuideWords$Lexicon" "meant" "[J", Cond.fieldLink RX0 18 "GuideWords$Lexicon" "senses" "[I", Cond.fieldLink RX0 22 "GuideWords$Lexicon" "lines" "[I", Cond.fieldLink RX0 43 "GuideWords$Lexicon" "present" "I", Cond.fieldLink RX0 29 "GuideWords$Lexicon" "ordered" "[I", Cond.methodLink RX0 39 yX0_headsBelow, Cond.instanceMethod yX0_headsBelow, Cond.selects RX0 yX0_headsBelow yX0_headsBelow, Cond.code yX0_headsBelow cX0_headsBelow 7 (some .int)]
def wsX4_entry : List Cond := .code yX4_entry cX4_entry 5 (some .int) :: ((wsX4_entry_r1 ++ wsX4_entry_r2) ++ wsX40 ++ wsX20 ++ wsX00 ++ (vx_atS RX4 56 "java/lang/IllegalArgumentException" ["java/lang/RuntimeException", "java/lang/Exception"]).filter goodWord)
def wsX4_see_r1 : List Cond := [Cond.classLink RX4 52 "java/lang/IllegalArgumentException", Cond.initialized "java/lang/IllegalArgumentException", Cond.fieldLink RX4 19 "GuideWords" "tape" "LGuideWords$Tape;", Cond.fieldLink RX4 26 "GuideWords" "lexicon" "LGuideWords$Lexicon;", Cond.fieldLink RX4 98 "GuideWords" "LINES_OF_SEE" "[I", Cond.methodLink RX4 81 yX2_length, Cond.instanceMethod yX2_length, Cond.selects RX2 yX2_length yX2_length, Cond.initialized RX2, Cond.code yX2_length cX2_length 1 (some .int), Cond.fieldLink RX2 15 "GuideWords$Tape" "size" "I", Cond.methodLink RX4 87 yX2_headAt, Cond.instanceMethod yX2_headAt, Cond.selects RX2 yX2_headAt yX2_headAt, Cond.code yX2_headAt cX2_headAt 8 (some .long), Cond.fieldLink RX2 11 "GuideWords$Tape" "bytes" "[I", Cond.methodLink RX4 91 yX2_clear, Cond.instanceMethod yX2_clear, Cond.selects RX2 yX2_clear yX2_clear, Cond.code yX2_clear cX2_clear 1 none, Cond.methodLink RX4 94 yX0_admit, Cond.instanceMethod yX0_admit, Cond.selects RX0 yX0_admit yX0_admit, Cond.initialized RX0]
def wsX4_see_r2 : List Cond := [Cond.code yX0_admit cX0_admit 10 (some .int), Cond.fieldLink RX0 35 "GuideWords$Lexicon" "all" "I", Cond.fieldLink RX0 9 "GuideWords$Lexicon" "heads" "[J", Cond.fieldLink RX0 15 "GuideWords$Lexicon" "meant" "[J", Cond.fieldLink RX0 18 "GuideWords$Lexicon" "senses" "[I", Cond.fieldLink RX0 22 "GuideWords$Lexicon" "lines" "[I", Cond.fieldLink RX0 43 "GuideWords$Lexicon" "present" "I", Cond.fieldLink RX0 29 "GuideWords$Lexicon" "ordered" "[I", Cond.methodLink RX0 39 yX0_headsBelow, Cond.instanceMethod yX0_headsBelow, Cond.selects RX0 yX0_headsBelow yX0_headsBelow, Cond.code yX0_headsBelow cX0_headsBelow 7 (some .int)]
def wsX4_see : List Cond := .code yX4_see cX4_see 8 (some .int) :: ((wsX4_see_r1 ++ wsX4_see_r2) ++ wsX40 ++ wsX20 ++ wsX00 ++ (vx_atS RX4 56 "java/lang/IllegalArgumentException" ["java/lang/RuntimeException", "java/lang/Exception"]).filter goodWord)
def wsX4_checkEntry : List Cond := .code yX4_checkEntry cX4_checkEntry 2 none :: ([.classLink RX4 140 "java/lang/IndexOutOfBoundsException", .initialized "java/lang/IndexOutOfBoundsException", .fieldLink RX4 26 "GuideWords" "lexicon" "LGuideWords$Lexicon;"] ++ wsX40 ++ wsX00 ++ (vx_atS RX4 144 "java/lang/IndexOutOfBoundsException" ["java/lang/RuntimeException", "java/lang/Exception"]).filter goodWord)
def wsX4_drop : List Cond := .code yX4_drop cX4_drop 2 (some .boolean) :: ([.fieldLink RX4 26 "GuideWords" "lexicon" "LGuideWords$Lexicon;", .methodLink RX4 101 yX4_checkEntry, .instanceMethod yX4_checkEntry, .selects RX4 yX4_checkEntry yX4_checkEntry, .initialized RX4, .code yX4_checkEntry cX4_checkEntry 2 none, .classLink RX4 140 "java/lang/IndexOutOfBoundsException", .initialized "java/lang/IndexOutOfBoundsException", .methodLink RX4 104 yX0_remove, .instanceMethod yX0_remove, .selects RX0 yX0_remove yX0_remove, .initialized RX0, .code yX0_remove cX0_remove 4 (some .boolean), .fieldLink RX0 25 "GuideWords$Lexicon" "dropped" "[Z", .fieldLink RX0 43 "GuideWords$Lexicon" "present" "I", .fieldLink RX0 29 "GuideWords$Lexicon" "ordered" "[I"] ++ wsX40 ++ wsX00 ++ (vx_atS RX4 144 "java/lang/IndexOutOfBoundsException" ["java/lang/RuntimeException", "java/lang/Exception"]).filter goodWord)
def wsX4_order : List Cond := .code yX4_order cX4_order 2 (some .int) :: ([.fieldLink RX4 26 "GuideWords" "lexicon" "LGuideWords$Lexicon;", .methodLink RX4 108 yX0_inOrder, .instanceMethod yX0_inOrder, .selects RX0 yX0_inOrder yX0_inOrder, .initialized RX0, .code yX0_inOrder cX0_inOrder 2 (some .int), .fieldLink RX0 43 "GuideWords$Lexicon" "present" "I", .fieldLink RX0 29 "GuideWords$Lexicon" "ordered" "[I"] ++ wsX40 ++ wsX00)
def wsX4_leads_r1 : List Cond := [Cond.fieldLink RX4 26 "GuideWords" "lexicon" "LGuideWords$Lexicon;", Cond.methodLink RX4 101 yX4_checkEntry, Cond.instanceMethod yX4_checkEntry, Cond.selects RX4 yX4_checkEntry yX4_checkEntry, Cond.initialized RX4, Cond.code yX4_checkEntry cX4_checkEntry 2 none, Cond.classLink RX4 140 "java/lang/IndexOutOfBoundsException", Cond.initialized "java/lang/IndexOutOfBoundsException", Cond.methodLink RX4 112 yX0_follow, Cond.instanceMethod yX0_follow, Cond.selects RX0 yX0_follow yX0_follow, Cond.initialized RX0, Cond.code yX0_follow cX0_follow 5 (some .int), Cond.fieldLink RX0 32 "GuideWords$Lexicon" "passed" "[I", Cond.fieldLink RX0 15 "GuideWords$Lexicon" "meant" "[J", Cond.methodLink RX0 51 yJ7_fill_53178, Cond.static yJ7_fill_53178, Cond.initialized RJ7, Cond.code yJ7_fill_53178 cJ7_fill_53178 4 none, Cond.methodLink RX0 57 yX0_firstWith, Cond.instanceMethod yX0_firstWith, Cond.selects RX0 yX0_firstWith yX0_firstWith, Cond.code yX0_firstWith cX0_firstWith 4 (some .int), Cond.fieldLink RX0 43 "GuideWords$Lexicon" "present" "I"]
def wsX4_leads_r2 : List Cond := [Cond.fieldLink RX0 9 "GuideWords$Lexicon" "heads" "[J", Cond.fieldLink RX0 29 "GuideWords$Lexicon" "ordered" "[I", Cond.methodLink RX0 39 yX0_headsBelow, Cond.instanceMethod yX0_headsBelow, Cond.selects RX0 yX0_headsBelow yX0_headsBelow, Cond.code yX0_headsBelow cX0_headsBelow 7 (some .int)]
def wsX4_leads : List Cond := .code yX4_leads cX4_leads 2 (some .int) :: ((wsX4_leads_r1 ++ wsX4_leads_r2) ++ wsX40 ++ wsX00 ++ (vx_atS RX4 144 "java/lang/IndexOutOfBoundsException" ["java/lang/RuntimeException", "java/lang/Exception"]).filter goodWord)
def wsX4_set__r1 : List Cond := [Cond.fieldLink RX4 35 "GuideWords" "typesetter" "LGuideWords$Typesetter;", Cond.fieldLink RX4 26 "GuideWords" "lexicon" "LGuideWords$Lexicon;", Cond.fieldLink RX4 49 "GuideWords" "draft" "LGuideWords$Setting;", Cond.fieldLink RX4 45 "GuideWords" "standing" "LGuideWords$Setting;", Cond.fieldLink RX4 123 "GuideWords" "changedPages" "I", Cond.methodLink RX4 115 yX3_compose, Cond.instanceMethod yX3_compose, Cond.selects RX3 yX3_compose yX3_compose, Cond.initialized RX3, Cond.code yX3_compose cX3_compose 5 (some .boolean), Cond.fieldLink RX3 29 "GuideWords$Typesetter" "blocks" "I", Cond.fieldLink RX3 9 "GuideWords$Typesetter" "values" "[I", Cond.fieldLink RX3 21 "GuideWords$Typesetter" "least" "[J", Cond.constantLong RX3 37 (1000000000000000000), Cond.constantLong RX3 43 (1024), Cond.methodLink RX3 25 yX3_gather, Cond.instanceMethod yX3_gather, Cond.selects RX3 yX3_gather yX3_gather, Cond.code yX3_gather cX3_gather 10 none, Cond.fieldLink RX3 15 "GuideWords$Typesetter" "lines" "[I", Cond.fieldLink RX3 18 "GuideWords$Typesetter" "breaks" "[I", Cond.methodLink RX3 58 yX0_letterOf, Cond.instanceMethod yX0_letterOf, Cond.selects RX0 yX0_letterOf yX0_letterOf]
def wsX4_set__r2 : List Cond := [Cond.initialized RX0, Cond.code yX0_letterOf cX0_letterOf 2 (some .int), Cond.fieldLink RX0 9 "GuideWords$Lexicon" "heads" "[J", Cond.methodLink RX0 46 yX2_firstLetter, Cond.static yX2_firstLetter, Cond.initialized RX2, Cond.code yX2_firstLetter cX2_firstLetter 2 (some .int), Cond.methodLink RX3 68 yX3_breakBehind, Cond.static yX3_breakBehind, Cond.code yX3_breakBehind cX3_breakBehind 3 (some .int), Cond.methodLink RX3 33 yX3_weigh, Cond.instanceMethod yX3_weigh, Cond.selects RX3 yX3_weigh yX3_weigh, Cond.code yX3_weigh cX3_weigh 11 (some .int), Cond.methodLink RX3 75 yX3_placeBehind, Cond.instanceMethod yX3_placeBehind, Cond.selects RX3 yX3_placeBehind yX3_placeBehind, Cond.code yX3_placeBehind cX3_placeBehind 2 (some .int), Cond.methodLink RX3 78 yX3_weightOf, Cond.instanceMethod yX3_weightOf, Cond.selects RX3 yX3_weightOf yX3_weightOf, Cond.code yX3_weightOf cX3_weightOf 8 (some .long), Cond.methodLink RX3 39 yX3_layOut, Cond.instanceMethod yX3_layOut]
def wsX4_set__r3 : List Cond := [Cond.selects RX3 yX3_layOut yX3_layOut, Cond.code yX3_layOut cX3_layOut 8 none, Cond.methodLink RX3 82 yX1_openEmpty, Cond.instanceMethod yX1_openEmpty, Cond.selects RX1 yX1_openEmpty yX1_openEmpty, Cond.initialized RX1, Cond.code yX1_openEmpty cX1_openEmpty 2 none, Cond.fieldLink RX1 21 "GuideWords$Setting" "columnsOnPage" "I", Cond.fieldLink RX1 25 "GuideWords$Setting" "columnCount" "I", Cond.fieldLink RX1 28 "GuideWords$Setting" "pageCount" "I", Cond.fieldLink RX1 15 "GuideWords$Setting" "starts" "[I", Cond.methodLink RX3 86 yX1_addColumn, Cond.instanceMethod yX1_addColumn, Cond.selects RX1 yX1_addColumn yX1_addColumn, Cond.code yX1_addColumn cX1_addColumn 4 none, Cond.fieldLink RX1 18 "GuideWords$Setting" "columnLines" "[I", Cond.methodLink RX4 119 yX1_pagesUnlike, Cond.instanceMethod yX1_pagesUnlike, Cond.selects RX1 yX1_pagesUnlike yX1_pagesUnlike, Cond.code yX1_pagesUnlike cX1_pagesUnlike 5 (some .int), Cond.methodLink RX1 44 Lib.Math.max.name, Cond.static Lib.Math.max.name, Cond.initialized "java/lang/Math", Cond.code Lib.Math.max.name Lib.Math.max.code 2 (some .int)]
def wsX4_set__r4 : List Cond := [Cond.methodLink RX1 50 yX1_likePage, Cond.instanceMethod yX1_likePage, Cond.selects RX1 yX1_likePage yX1_likePage, Cond.code yX1_likePage cX1_likePage 7 (some .boolean), Cond.methodLink RX1 31 yX1_firstColumn, Cond.instanceMethod yX1_firstColumn, Cond.selects RX1 yX1_firstColumn yX1_firstColumn, Cond.code yX1_firstColumn cX1_firstColumn 2 (some .int), Cond.methodLink RX1 58 Lib.Math.min.name, Cond.static Lib.Math.min.name, Cond.code Lib.Math.min.name Lib.Math.min.code 2 (some .int), Cond.methodLink RX1 35 yX1_endColumn, Cond.instanceMethod yX1_endColumn, Cond.selects RX1 yX1_endColumn yX1_endColumn, Cond.code yX1_endColumn cX1_endColumn 2 (some .int), Cond.methodLink RX1 54 yX1_likeColumn, Cond.instanceMethod yX1_likeColumn, Cond.selects RX1 yX1_likeColumn yX1_likeColumn, Cond.code yX1_likeColumn cX1_likeColumn 8 (some .boolean), Cond.fieldLink RX1 9 "GuideWords$Setting" "blocks" "[I"]
def wsX4_set_ : List Cond := .code yX4_set_ cX4_set_ 2 (some .int) :: ((wsX4_set__r1 ++ (wsX4_set__r2 ++ (wsX4_set__r3 ++ wsX4_set__r4))) ++ wsX40 ++ wsX10 ++ wsX30 ++ wsX00)
def wsX4_told : List Cond := .code yX4_told cX4_told 2 (some .int) :: ([.classLink RX4 52 "java/lang/IllegalArgumentException", .initialized "java/lang/IllegalArgumentException", .fieldLink RX4 45 "GuideWords" "standing" "LGuideWords$Setting;", .fieldLink RX4 123 "GuideWords" "changedPages" "I"] ++ wsX40 ++ wsX10 ++ (vx_atS RX4 56 "java/lang/IllegalArgumentException" ["java/lang/RuntimeException", "java/lang/Exception"]).filter goodWord)
def wsX4_column : List Cond := .code yX4_column cX4_column 4 (some .int) :: ([.classLink RX4 140 "java/lang/IndexOutOfBoundsException", .initialized "java/lang/IndexOutOfBoundsException", .classLink RX4 52 "java/lang/IllegalArgumentException", .initialized "java/lang/IllegalArgumentException", .fieldLink RX4 45 "GuideWords" "standing" "LGuideWords$Setting;", .methodLink RX4 148 yX1_entryOf, .instanceMethod yX1_entryOf, .selects RX1 yX1_entryOf yX1_entryOf, .initialized RX1, .code yX1_entryOf cX1_entryOf 2 (some .int), .fieldLink RX1 9 "GuideWords$Setting" "blocks" "[I", .methodLink RX4 151 yX1_senseOf, .instanceMethod yX1_senseOf, .selects RX1 yX1_senseOf yX1_senseOf, .code yX1_senseOf cX1_senseOf 2 (some .int)] ++ wsX40 ++ wsX10 ++ (vx_atS RX4 144 "java/lang/IndexOutOfBoundsException" ["java/lang/RuntimeException", "java/lang/Exception"]).filter goodWord ++ (vx_atS RX4 56 "java/lang/IllegalArgumentException" ["java/lang/RuntimeException", "java/lang/Exception"]).filter goodWord)
def wsX4_where : List Cond := .code yX4_where cX4_where 3 (some .int) :: ([.fieldLink RX4 45 "GuideWords" "standing" "LGuideWords$Setting;", .methodLink RX4 101 yX4_checkEntry, .instanceMethod yX4_checkEntry, .selects RX4 yX4_checkEntry yX4_checkEntry, .initialized RX4, .code yX4_checkEntry cX4_checkEntry 2 none, .classLink RX4 140 "java/lang/IndexOutOfBoundsException", .initialized "java/lang/IndexOutOfBoundsException", .fieldLink RX4 26 "GuideWords" "lexicon" "LGuideWords$Lexicon;", .methodLink RX4 159 yX1_columnWith, .instanceMethod yX1_columnWith, .selects RX1 yX1_columnWith yX1_columnWith, .initialized RX1, .code yX1_columnWith cX1_columnWith 4 (some .int), .fieldLink RX1 25 "GuideWords$Setting" "columnCount" "I", .fieldLink RX1 15 "GuideWords$Setting" "starts" "[I", .fieldLink RX1 9 "GuideWords$Setting" "blocks" "[I"] ++ wsX40 ++ wsX00 ++ wsX10 ++ (vx_atS RX4 144 "java/lang/IndexOutOfBoundsException" ["java/lang/RuntimeException", "java/lang/Exception"]).filter goodWord)
def wsX4_guide_r1 : List Cond := [Cond.classLink RX4 140 "java/lang/IndexOutOfBoundsException", Cond.initialized "java/lang/IndexOutOfBoundsException", Cond.classLink RX4 52 "java/lang/IllegalArgumentException", Cond.initialized "java/lang/IllegalArgumentException", Cond.fieldLink RX4 45 "GuideWords" "standing" "LGuideWords$Setting;", Cond.methodLink RX4 166 yX1_firstGuide, Cond.instanceMethod yX1_firstGuide, Cond.selects RX1 yX1_firstGuide yX1_firstGuide, Cond.initialized RX1, Cond.code yX1_firstGuide cX1_firstGuide 5 (some .int), Cond.fieldLink RX1 15 "GuideWords$Setting" "starts" "[I", Cond.methodLink RX1 31 yX1_firstColumn, Cond.instanceMethod yX1_firstColumn, Cond.selects RX1 yX1_firstColumn yX1_firstColumn, Cond.code yX1_firstColumn cX1_firstColumn 2 (some .int), Cond.fieldLink RX1 21 "GuideWords$Setting" "columnsOnPage" "I", Cond.fieldLink RX1 25 "GuideWords$Setting" "columnCount" "I", Cond.methodLink RX1 58 Lib.Math.min.name, Cond.static Lib.Math.min.name, Cond.initialized "java/lang/Math", Cond.code Lib.Math.min.name Lib.Math.min.code 2 (some .int), Cond.methodLink RX1 35 yX1_endColumn, Cond.instanceMethod yX1_endColumn, Cond.selects RX1 yX1_endColumn yX1_endColumn]
def wsX4_guide_r2 : List Cond := [Cond.code yX1_endColumn cX1_endColumn 2 (some .int), Cond.methodLink RX1 38 yX1_senseOf, Cond.instanceMethod yX1_senseOf, Cond.selects RX1 yX1_senseOf yX1_senseOf, Cond.code yX1_senseOf cX1_senseOf 2 (some .int), Cond.fieldLink RX1 9 "GuideWords$Setting" "blocks" "[I", Cond.methodLink RX1 41 yX1_entryOf, Cond.instanceMethod yX1_entryOf, Cond.selects RX1 yX1_entryOf yX1_entryOf, Cond.code yX1_entryOf cX1_entryOf 2 (some .int), Cond.methodLink RX4 169 yX1_lastGuide, Cond.instanceMethod yX1_lastGuide, Cond.selects RX1 yX1_lastGuide yX1_lastGuide, Cond.code yX1_lastGuide cX1_lastGuide 4 (some .int)]
def wsX4_guide : List Cond := .code yX4_guide cX4_guide 3 (some .int) :: ((wsX4_guide_r1 ++ wsX4_guide_r2) ++ wsX40 ++ wsX10 ++ (vx_atS RX4 144 "java/lang/IndexOutOfBoundsException" ["java/lang/RuntimeException", "java/lang/Exception"]).filter goodWord ++ (vx_atS RX4 56 "java/lang/IllegalArgumentException" ["java/lang/RuntimeException", "java/lang/Exception"]).filter goodWord)
def wsX4_thumb_r1 : List Cond := [Cond.classLink RX4 52 "java/lang/IllegalArgumentException", Cond.initialized "java/lang/IllegalArgumentException", Cond.fieldLink RX4 26 "GuideWords" "lexicon" "LGuideWords$Lexicon;", Cond.fieldLink RX4 39 "GuideWords" "letterLines" "[I", Cond.fieldLink RX4 9 "GuideWords" "values" "[I", Cond.methodLink RX4 176 yX0_sumLines, Cond.instanceMethod yX0_sumLines, Cond.selects RX0 yX0_sumLines yX0_sumLines, Cond.initialized RX0, Cond.code yX0_sumLines cX0_sumLines 9 (some .int), Cond.fieldLink RX0 43 "GuideWords$Lexicon" "present" "I", Cond.fieldLink RX0 29 "GuideWords$Lexicon" "ordered" "[I", Cond.fieldLink RX0 18 "GuideWords$Lexicon" "senses" "[I", Cond.fieldLink RX0 22 "GuideWords$Lexicon" "lines" "[I", Cond.methodLink RX0 51 yJ7_fill_53178, Cond.static yJ7_fill_53178, Cond.initialized RJ7, Cond.code yJ7_fill_53178 cJ7_fill_53178 4 none, Cond.methodLink RX0 60 yX0_letterOf, Cond.instanceMethod yX0_letterOf, Cond.selects RX0 yX0_letterOf yX0_letterOf, Cond.code yX0_letterOf cX0_letterOf 2 (some .int), Cond.fieldLink RX0 9 "GuideWords$Lexicon" "heads" "[J", Cond.methodLink RX0 46 yX2_firstLetter]
def wsX4_thumb_r2 : List Cond := [Cond.static yX2_firstLetter, Cond.initialized RX2, Cond.code yX2_firstLetter cX2_firstLetter 2 (some .int)]
def wsX4_thumb : List Cond := .code yX4_thumb cX4_thumb 7 (some .int) :: ((wsX4_thumb_r1 ++ wsX4_thumb_r2) ++ wsX40 ++ wsX00 ++ (vx_atS RX4 56 "java/lang/IllegalArgumentException" ["java/lang/RuntimeException", "java/lang/Exception"]).filter goodWord)
def wsX4_volume_r1 : List Cond := [Cond.fieldLink RX4 26 "GuideWords" "lexicon" "LGuideWords$Lexicon;", Cond.fieldLink RX4 39 "GuideWords" "letterLines" "[I", Cond.fieldLink RX4 9 "GuideWords" "values" "[I", Cond.methodLink RX4 180 Lib.Math.abs.name, Cond.static Lib.Math.abs.name, Cond.initialized "java/lang/Math", Cond.code Lib.Math.abs.name Lib.Math.abs.code 1 (some .int), Cond.methodLink RX4 176 yX0_sumLines, Cond.instanceMethod yX0_sumLines, Cond.selects RX0 yX0_sumLines yX0_sumLines, Cond.initialized RX0, Cond.code yX0_sumLines cX0_sumLines 9 (some .int), Cond.fieldLink RX0 43 "GuideWords$Lexicon" "present" "I", Cond.fieldLink RX0 29 "GuideWords$Lexicon" "ordered" "[I", Cond.fieldLink RX0 18 "GuideWords$Lexicon" "senses" "[I", Cond.fieldLink RX0 22 "GuideWords$Lexicon" "lines" "[I", Cond.methodLink RX0 51 yJ7_fill_53178, Cond.static yJ7_fill_53178, Cond.initialized RJ7, Cond.code yJ7_fill_53178 cJ7_fill_53178 4 none, Cond.methodLink RX0 60 yX0_letterOf, Cond.instanceMethod yX0_letterOf, Cond.selects RX0 yX0_letterOf yX0_letterOf, Cond.code yX0_letterOf cX0_letterOf 2 (some .int)]
def wsX4_volume_r2 : List Cond := [Cond.fieldLink RX0 9 "GuideWords$Lexicon" "heads" "[J", Cond.methodLink RX0 46 yX2_firstLetter, Cond.static yX2_firstLetter, Cond.initialized RX2, Cond.code yX2_firstLetter cX2_firstLetter 2 (some .int)]
def wsX4_volume : List Cond := .code yX4_volume cX4_volume 8 (some .int) :: ((wsX4_volume_r1 ++ wsX4_volume_r2) ++ wsX40 ++ wsX00)
def wsX4_count : List Cond := .code yX4_count cX4_count 2 (some .int) :: ([.fieldLink RX4 26 "GuideWords" "lexicon" "LGuideWords$Lexicon;", .fieldLink RX4 69 "GuideWords" "pushedCount" "I", .fieldLink RX4 19 "GuideWords" "tape" "LGuideWords$Tape;", .methodLink RX4 81 yX2_length, .instanceMethod yX2_length, .selects RX2 yX2_length yX2_length, .initialized RX2, .code yX2_length cX2_length 1 (some .int), .fieldLink RX2 15 "GuideWords$Tape" "size" "I"] ++ wsX40 ++ wsX00 ++ wsX20)
def wsX5_init_r1 : List Cond := [Cond.methodLink RX5 1 objectInit, Cond.instanceMethod objectInit, Cond.code objectInit ⟨#[0xb1]⟩ 1 none, Cond.fieldLink RX5 7 "GuideWordsModel" "height" "I", Cond.fieldLink RX5 13 "GuideWordsModel" "wide" "I", Cond.fieldLink RX5 16 "GuideWordsModel" "letter" "I", Cond.fieldLink RX5 19 "GuideWordsModel" "split" "I", Cond.fieldLink RX5 22 "GuideWordsModel" "turn" "I", Cond.arrayClass .int, Cond.fieldLink RX5 25 "GuideWordsModel" "pushed" "[I", Cond.arrayClass .byte, Cond.fieldLink RX5 29 "GuideWordsModel" "tape" "[B", Cond.fieldLink RX5 33 "GuideWordsModel" "heads" "[I", Cond.fieldLink RX5 36 "GuideWordsModel" "meant" "[I", Cond.fieldLink RX5 39 "GuideWordsModel" "senses" "[I", Cond.fieldLink RX5 42 "GuideWordsModel" "many" "[I", Cond.arrayClass .boolean, Cond.fieldLink RX5 45 "GuideWordsModel" "isSee" "[Z", Cond.fieldLink RX5 49 "GuideWordsModel" "isThere" "[Z", Cond.fieldLink RX5 52 "GuideWordsModel" "row" "[I", Cond.fieldLink RX5 55 "GuideWordsModel" "passed" "[Z", Cond.fieldLink RX5 58 "GuideWordsModel" "blockEntry" "[I", Cond.fieldLink RX5 61 "GuideWordsModel" "blockSense" "[I", Cond.fieldLink RX5 64 "GuideWordsModel" "blockLines" "[I"]
def wsX5_init_r2 : List Cond := [Cond.fieldLink RX5 67 "GuideWordsModel" "mayBreak" "[Z", Cond.fieldLink RX5 70 "GuideWordsModel" "isLast" "[Z", Cond.arrayClass .long, Cond.fieldLink RX5 73 "GuideWordsModel" "least" "[J", Cond.fieldLink RX5 77 "GuideWordsModel" "fewest" "[I", Cond.fieldLink RX5 80 "GuideWordsModel" "ends" "[I", Cond.fieldLink RX5 83 "GuideWordsModel" "setWide" "I", Cond.fieldLink RX5 86 "GuideWordsModel" "setEntry" "[I", Cond.fieldLink RX5 89 "GuideWordsModel" "setSense" "[I", Cond.fieldLink RX5 92 "GuideWordsModel" "setFrom" "[I", Cond.fieldLink RX5 95 "GuideWordsModel" "setLines" "[I", Cond.fieldLink RX5 98 "GuideWordsModel" "oldEntry" "[I", Cond.fieldLink RX5 101 "GuideWordsModel" "oldSense" "[I", Cond.fieldLink RX5 104 "GuideWordsModel" "oldFrom" "[I", Cond.fieldLink RX5 107 "GuideWordsModel" "oldWide" "I", Cond.fieldLink RX5 110 "GuideWordsModel" "linesOf" "[I", Cond.fieldLink RX5 113 "GuideWordsModel" "hasLetter" "[Z"]
def wsX5_init : List Cond := .code yX5_init cX5_init 1 none :: ((wsX5_init_r1 ++ wsX5_init_r2) ++ wsX50)
def wsX5_thrown : List Cond := .code yX5_thrown cX5_thrown 1 (some .int) :: ([.fieldLink RX5 116 "GuideWordsModel" "thrown" "I"] ++ wsX50)
def wsX5_bad : List Cond := .code yX5_bad cX5_bad 3 (some .boolean) :: ([.fieldLink RX5 116 "GuideWordsModel" "thrown" "I"] ++ wsX50)
def wsX5_set : List Cond := .code yX5_set cX5_set 6 (some .int) :: ([.fieldLink RX5 116 "GuideWordsModel" "thrown" "I", .fieldLink RX5 7 "GuideWordsModel" "height" "I", .fieldLink RX5 13 "GuideWordsModel" "wide" "I", .fieldLink RX5 16 "GuideWordsModel" "letter" "I", .fieldLink RX5 19 "GuideWordsModel" "split" "I", .fieldLink RX5 22 "GuideWordsModel" "turn" "I", .methodLink RX5 119 yX5_bad, .instanceMethod yX5_bad, .selects RX5 yX5_bad yX5_bad, .initialized RX5, .code yX5_bad cX5_bad 3 (some .boolean)] ++ wsX50)
def wsX5_push : List Cond := .code yX5_push cX5_push 2 (some .int) :: ([.fieldLink RX5 116 "GuideWordsModel" "thrown" "I", .fieldLink RX5 123 "GuideWordsModel" "pushes" "I", .fieldLink RX5 25 "GuideWordsModel" "pushed" "[I", .methodLink RX5 119 yX5_bad, .instanceMethod yX5_bad, .selects RX5 yX5_bad yX5_bad, .initialized RX5, .code yX5_bad cX5_bad 3 (some .boolean)] ++ wsX50)
def wsX5_feed : List Cond := .code yX5_feed cX5_feed 9 (some .int) :: ([.fieldLink RX5 116 "GuideWordsModel" "thrown" "I", .fieldLink RX5 126 "GuideWordsModel" "taped" "I", .fieldLink RX5 29 "GuideWordsModel" "tape" "[B"] ++ wsX50)
def wsX5_isHead : List Cond := .code yX5_isHead cX5_isHead 5 (some .boolean) :: ([.fieldLink RX5 29 "GuideWordsModel" "tape" "[B"] ++ wsX50)
def wsX5_head : List Cond := .code yX5_head cX5_head 6 none :: ([.fieldLink RX5 29 "GuideWordsModel" "tape" "[B"] ++ wsX50)
def wsX5_comes : List Cond := .code yX5_comes cX5_comes 2 (some .int) :: ([.fieldLink RX5 45 "GuideWordsModel" "isSee" "[Z", .fieldLink RX5 133 "GuideWordsModel" "entries" "I", .fieldLink RX5 49 "GuideWordsModel" "isThere" "[Z"] ++ wsX50)
def wsX5_entry_r1 : List Cond := [Cond.fieldLink RX5 116 "GuideWordsModel" "thrown" "I", Cond.fieldLink RX5 126 "GuideWordsModel" "taped" "I", Cond.fieldLink RX5 123 "GuideWordsModel" "pushes" "I", Cond.fieldLink RX5 133 "GuideWordsModel" "entries" "I", Cond.fieldLink RX5 33 "GuideWordsModel" "heads" "[I", Cond.fieldLink RX5 39 "GuideWordsModel" "senses" "[I", Cond.fieldLink RX5 25 "GuideWordsModel" "pushed" "[I", Cond.fieldLink RX5 42 "GuideWordsModel" "many" "[I", Cond.methodLink RX5 119 yX5_bad, Cond.instanceMethod yX5_bad, Cond.selects RX5 yX5_bad yX5_bad, Cond.initialized RX5, Cond.code yX5_bad cX5_bad 3 (some .boolean), Cond.methodLink RX5 129 yX5_isHead, Cond.instanceMethod yX5_isHead, Cond.selects RX5 yX5_isHead yX5_isHead, Cond.code yX5_isHead cX5_isHead 5 (some .boolean), Cond.fieldLink RX5 29 "GuideWordsModel" "tape" "[B", Cond.methodLink RX5 136 yX5_head, Cond.instanceMethod yX5_head, Cond.selects RX5 yX5_head yX5_head, Cond.code yX5_head cX5_head 6 none, Cond.methodLink RX5 140 yX5_comes, Cond.instanceMethod yX5_comes]
def wsX5_entry_r2 : List Cond := [Cond.selects RX5 yX5_comes yX5_comes, Cond.code yX5_comes cX5_comes 2 (some .int), Cond.fieldLink RX5 45 "GuideWordsModel" "isSee" "[Z", Cond.fieldLink RX5 49 "GuideWordsModel" "isThere" "[Z"]
def wsX5_entry : List Cond := .code yX5_entry cX5_entry 4 (some .int) :: ((wsX5_entry_r1 ++ wsX5_entry_r2) ++ wsX50)
def wsX5_see_r1 : List Cond := [Cond.fieldLink RX5 116 "GuideWordsModel" "thrown" "I", Cond.fieldLink RX5 126 "GuideWordsModel" "taped" "I", Cond.fieldLink RX5 133 "GuideWordsModel" "entries" "I", Cond.fieldLink RX5 33 "GuideWordsModel" "heads" "[I", Cond.fieldLink RX5 36 "GuideWordsModel" "meant" "[I", Cond.fieldLink RX5 39 "GuideWordsModel" "senses" "[I", Cond.fieldLink RX5 42 "GuideWordsModel" "many" "[I", Cond.methodLink RX5 119 yX5_bad, Cond.instanceMethod yX5_bad, Cond.selects RX5 yX5_bad yX5_bad, Cond.initialized RX5, Cond.code yX5_bad cX5_bad 3 (some .boolean), Cond.methodLink RX5 129 yX5_isHead, Cond.instanceMethod yX5_isHead, Cond.selects RX5 yX5_isHead yX5_isHead, Cond.code yX5_isHead cX5_isHead 5 (some .boolean), Cond.fieldLink RX5 29 "GuideWordsModel" "tape" "[B", Cond.methodLink RX5 136 yX5_head, Cond.instanceMethod yX5_head, Cond.selects RX5 yX5_head yX5_head, Cond.code yX5_head cX5_head 6 none, Cond.methodLink RX5 140 yX5_comes, Cond.instanceMethod yX5_comes, Cond.selects RX5 yX5_comes yX5_comes]
def wsX5_see_r2 : List Cond := [Cond.code yX5_comes cX5_comes 2 (some .int), Cond.fieldLink RX5 45 "GuideWordsModel" "isSee" "[Z", Cond.fieldLink RX5 49 "GuideWordsModel" "isThere" "[Z"]
def wsX5_see : List Cond := .code yX5_see cX5_see 3 (some .int) :: ((wsX5_see_r1 ++ wsX5_see_r2) ++ wsX50)
def wsX5_isEntry : List Cond := .code yX5_isEntry cX5_isEntry 2 (some .boolean) :: ([.fieldLink RX5 133 "GuideWordsModel" "entries" "I", .fieldLink RX5 116 "GuideWordsModel" "thrown" "I"] ++ wsX50)
def wsX5_drop : List Cond := .code yX5_drop cX5_drop 3 (some .boolean) :: ([.fieldLink RX5 49 "GuideWordsModel" "isThere" "[Z", .methodLink RX5 144 yX5_isEntry, .instanceMethod yX5_isEntry, .selects RX5 yX5_isEntry yX5_isEntry, .initialized RX5, .code yX5_isEntry cX5_isEntry 2 (some .boolean), .fieldLink RX5 133 "GuideWordsModel" "entries" "I", .fieldLink RX5 116 "GuideWordsModel" "thrown" "I"] ++ wsX50)
def wsX5_compare : List Cond := .code yX5_compare cX5_compare 5 (some .int) :: ([])
def wsX5_sorts : List Cond := .code yX5_sorts cX5_sorts 3 none :: ([.fieldLink RX5 148 "GuideWordsModel" "rows" "I", .fieldLink RX5 133 "GuideWordsModel" "entries" "I", .fieldLink RX5 49 "GuideWordsModel" "isThere" "[Z", .fieldLink RX5 33 "GuideWordsModel" "heads" "[I", .fieldLink RX5 52 "GuideWordsModel" "row" "[I", .methodLink RX5 151 yX5_compare, .static yX5_compare, .initialized RX5, .code yX5_compare cX5_compare 5 (some .int)] ++ wsX50)
def wsX5_order : List Cond := .code yX5_order cX5_order 2 (some .int) :: ([.fieldLink RX5 116 "GuideWordsModel" "thrown" "I", .fieldLink RX5 148 "GuideWordsModel" "rows" "I", .fieldLink RX5 52 "GuideWordsModel" "row" "[I", .methodLink RX5 155 yX5_sorts, .instanceMethod yX5_sorts, .selects RX5 yX5_sorts yX5_sorts, .initialized RX5, .code yX5_sorts cX5_sorts 3 none, .fieldLink RX5 133 "GuideWordsModel" "entries" "I", .fieldLink RX5 49 "GuideWordsModel" "isThere" "[Z", .fieldLink RX5 33 "GuideWordsModel" "heads" "[I", .methodLink RX5 151 yX5_compare, .static yX5_compare, .code yX5_compare cX5_compare 5 (some .int)] ++ wsX50)
def wsX5_leads : List Cond := .code yX5_leads cX5_leads 4 (some .int) :: ([.fieldLink RX5 133 "GuideWordsModel" "entries" "I", .fieldLink RX5 55 "GuideWordsModel" "passed" "[Z", .fieldLink RX5 45 "GuideWordsModel" "isSee" "[Z", .fieldLink RX5 148 "GuideWordsModel" "rows" "I", .fieldLink RX5 36 "GuideWordsModel" "meant" "[I", .fieldLink RX5 33 "GuideWordsModel" "heads" "[I", .fieldLink RX5 52 "GuideWordsModel" "row" "[I", .methodLink RX5 144 yX5_isEntry, .instanceMethod yX5_isEntry, .selects RX5 yX5_isEntry yX5_isEntry, .initialized RX5, .code yX5_isEntry cX5_isEntry 2 (some .boolean), .fieldLink RX5 116 "GuideWordsModel" "thrown" "I", .methodLink RX5 155 yX5_sorts, .instanceMethod yX5_sorts, .selects RX5 yX5_sorts yX5_sorts, .code yX5_sorts cX5_sorts 3 none, .fieldLink RX5 49 "GuideWordsModel" "isThere" "[Z", .methodLink RX5 151 yX5_compare, .static yX5_compare, .code yX5_compare cX5_compare 5 (some .int)] ++ wsX50)
def wsX5_makes : List Cond := .code yX5_makes cX5_makes 6 none :: ([.fieldLink RX5 158 "GuideWordsModel" "blocks" "I", .fieldLink RX5 148 "GuideWordsModel" "rows" "I", .fieldLink RX5 52 "GuideWordsModel" "row" "[I", .fieldLink RX5 42 "GuideWordsModel" "many" "[I", .fieldLink RX5 39 "GuideWordsModel" "senses" "[I", .fieldLink RX5 58 "GuideWordsModel" "blockEntry" "[I", .fieldLink RX5 61 "GuideWordsModel" "blockSense" "[I", .fieldLink RX5 70 "GuideWordsModel" "isLast" "[Z", .fieldLink RX5 67 "GuideWordsModel" "mayBreak" "[Z", .fieldLink RX5 64 "GuideWordsModel" "blockLines" "[I", .fieldLink RX5 33 "GuideWordsModel" "heads" "[I", .fieldLink RX5 16 "GuideWordsModel" "letter" "I", .methodLink RX5 155 yX5_sorts, .instanceMethod yX5_sorts, .selects RX5 yX5_sorts yX5_sorts, .initialized RX5, .code yX5_sorts cX5_sorts 3 none, .fieldLink RX5 133 "GuideWordsModel" "entries" "I", .fieldLink RX5 49 "GuideWordsModel" "isThere" "[Z", .methodLink RX5 151 yX5_compare, .static yX5_compare, .code yX5_compare cX5_compare 5 (some .int)] ++ wsX50)
def wsX5_best : List Cond := .code yX5_best cX5_best 11 none :: ([.fieldLink RX5 73 "GuideWordsModel" "least" "[J", .constantLong RX5 161 (1152921504606846976), .fieldLink RX5 158 "GuideWordsModel" "blocks" "I", .fieldLink RX5 64 "GuideWordsModel" "blockLines" "[I", .fieldLink RX5 7 "GuideWordsModel" "height" "I", .fieldLink RX5 67 "GuideWordsModel" "mayBreak" "[Z", .fieldLink RX5 13 "GuideWordsModel" "wide" "I", .fieldLink RX5 70 "GuideWordsModel" "isLast" "[Z", .fieldLink RX5 19 "GuideWordsModel" "split" "I", .fieldLink RX5 22 "GuideWordsModel" "turn" "I", .fieldLink RX5 77 "GuideWordsModel" "fewest" "[I", .fieldLink RX5 80 "GuideWordsModel" "ends" "[I"] ++ wsX50)
def wsX5_isAlike : List Cond := .code yX5_isAlike cX5_isAlike 11 (some .boolean) :: ([.fieldLink RX5 83 "GuideWordsModel" "setWide" "I", .fieldLink RX5 107 "GuideWordsModel" "oldWide" "I", .fieldLink RX5 173 "GuideWordsModel" "setColumns" "I", .fieldLink RX5 176 "GuideWordsModel" "oldColumns" "I", .fieldLink RX5 92 "GuideWordsModel" "setFrom" "[I", .fieldLink RX5 104 "GuideWordsModel" "oldFrom" "[I", .fieldLink RX5 86 "GuideWordsModel" "setEntry" "[I", .fieldLink RX5 98 "GuideWordsModel" "oldEntry" "[I", .fieldLink RX5 89 "GuideWordsModel" "setSense" "[I", .fieldLink RX5 101 "GuideWordsModel" "oldSense" "[I"] ++ wsX50)
def wsX5_set__r1 : List Cond := [Cond.fieldLink RX5 116 "GuideWordsModel" "thrown" "I", Cond.fieldLink RX5 158 "GuideWordsModel" "blocks" "I", Cond.fieldLink RX5 13 "GuideWordsModel" "wide" "I", Cond.fieldLink RX5 73 "GuideWordsModel" "least" "[J", Cond.constantLong RX5 161 (1152921504606846976), Cond.fieldLink RX5 170 "GuideWordsModel" "setBlocks" "I", Cond.fieldLink RX5 98 "GuideWordsModel" "oldEntry" "[I", Cond.fieldLink RX5 86 "GuideWordsModel" "setEntry" "[I", Cond.fieldLink RX5 101 "GuideWordsModel" "oldSense" "[I", Cond.fieldLink RX5 89 "GuideWordsModel" "setSense" "[I", Cond.fieldLink RX5 173 "GuideWordsModel" "setColumns" "I", Cond.fieldLink RX5 104 "GuideWordsModel" "oldFrom" "[I", Cond.fieldLink RX5 92 "GuideWordsModel" "setFrom" "[I", Cond.fieldLink RX5 176 "GuideWordsModel" "oldColumns" "I", Cond.fieldLink RX5 83 "GuideWordsModel" "setWide" "I", Cond.fieldLink RX5 107 "GuideWordsModel" "oldWide" "I", Cond.fieldLink RX5 179 "GuideWordsModel" "setCost" "I", Cond.fieldLink RX5 95 "GuideWordsModel" "setLines" "[I", Cond.fieldLink RX5 80 "GuideWordsModel" "ends" "[I", Cond.fieldLink RX5 64 "GuideWordsModel" "blockLines" "[I", Cond.fieldLink RX5 58 "GuideWordsModel" "blockEntry" "[I", Cond.fieldLink RX5 61 "GuideWordsModel" "blockSense" "[I", Cond.fieldLink RX5 182 "GuideWordsModel" "setPages" "I", Cond.fieldLink RX5 185 "GuideWordsModel" "setChanged" "I"]
def wsX5_set__r2 : List Cond := [Cond.methodLink RX5 163 yX5_makes, Cond.instanceMethod yX5_makes, Cond.selects RX5 yX5_makes yX5_makes, Cond.initialized RX5, Cond.code yX5_makes cX5_makes 6 none, Cond.fieldLink RX5 148 "GuideWordsModel" "rows" "I", Cond.fieldLink RX5 52 "GuideWordsModel" "row" "[I", Cond.fieldLink RX5 42 "GuideWordsModel" "many" "[I", Cond.fieldLink RX5 39 "GuideWordsModel" "senses" "[I", Cond.fieldLink RX5 70 "GuideWordsModel" "isLast" "[Z", Cond.fieldLink RX5 67 "GuideWordsModel" "mayBreak" "[Z", Cond.fieldLink RX5 33 "GuideWordsModel" "heads" "[I", Cond.fieldLink RX5 16 "GuideWordsModel" "letter" "I", Cond.methodLink RX5 155 yX5_sorts, Cond.instanceMethod yX5_sorts, Cond.selects RX5 yX5_sorts yX5_sorts, Cond.code yX5_sorts cX5_sorts 3 none, Cond.fieldLink RX5 133 "GuideWordsModel" "entries" "I", Cond.fieldLink RX5 49 "GuideWordsModel" "isThere" "[Z", Cond.methodLink RX5 151 yX5_compare, Cond.static yX5_compare, Cond.code yX5_compare cX5_compare 5 (some .int), Cond.methodLink RX5 166 yX5_best, Cond.instanceMethod yX5_best]
def wsX5_set__r3 : List Cond := [Cond.selects RX5 yX5_best yX5_best, Cond.code yX5_best cX5_best 11 none, Cond.fieldLink RX5 7 "GuideWordsModel" "height" "I", Cond.fieldLink RX5 19 "GuideWordsModel" "split" "I", Cond.fieldLink RX5 22 "GuideWordsModel" "turn" "I", Cond.fieldLink RX5 77 "GuideWordsModel" "fewest" "[I", Cond.methodLink RX5 188 yX5_isAlike, Cond.instanceMethod yX5_isAlike, Cond.selects RX5 yX5_isAlike yX5_isAlike, Cond.code yX5_isAlike cX5_isAlike 11 (some .boolean)]
def wsX5_set_ : List Cond := .code yX5_set_ cX5_set_ 3 (some .int) :: ((wsX5_set__r1 ++ (wsX5_set__r2 ++ wsX5_set__r3)) ++ wsX50)
def wsX5_told : List Cond := .code yX5_told cX5_told 2 (some .int) :: ([.fieldLink RX5 116 "GuideWordsModel" "thrown" "I", .fieldLink RX5 179 "GuideWordsModel" "setCost" "I", .fieldLink RX5 182 "GuideWordsModel" "setPages" "I", .fieldLink RX5 173 "GuideWordsModel" "setColumns" "I", .fieldLink RX5 170 "GuideWordsModel" "setBlocks" "I", .fieldLink RX5 185 "GuideWordsModel" "setChanged" "I", .methodLink RX5 119 yX5_bad, .instanceMethod yX5_bad, .selects RX5 yX5_bad yX5_bad, .initialized RX5, .code yX5_bad cX5_bad 3 (some .boolean)] ++ wsX50)
def wsX5_column : List Cond := .code yX5_column cX5_column 3 (some .int) :: ([.fieldLink RX5 116 "GuideWordsModel" "thrown" "I", .fieldLink RX5 173 "GuideWordsModel" "setColumns" "I", .fieldLink RX5 86 "GuideWordsModel" "setEntry" "[I", .fieldLink RX5 92 "GuideWordsModel" "setFrom" "[I", .fieldLink RX5 89 "GuideWordsModel" "setSense" "[I", .fieldLink RX5 95 "GuideWordsModel" "setLines" "[I", .methodLink RX5 119 yX5_bad, .instanceMethod yX5_bad, .selects RX5 yX5_bad yX5_bad, .initialized RX5, .code yX5_bad cX5_bad 3 (some .boolean)] ++ wsX50)
def wsX5_where : List Cond := .code yX5_where cX5_where 5 (some .int) :: ([.fieldLink RX5 173 "GuideWordsModel" "setColumns" "I", .fieldLink RX5 92 "GuideWordsModel" "setFrom" "[I", .fieldLink RX5 86 "GuideWordsModel" "setEntry" "[I", .fieldLink RX5 89 "GuideWordsModel" "setSense" "[I", .methodLink RX5 144 yX5_isEntry, .instanceMethod yX5_isEntry, .selects RX5 yX5_isEntry yX5_isEntry, .initialized RX5, .code yX5_isEntry cX5_isEntry 2 (some .boolean), .fieldLink RX5 133 "GuideWordsModel" "entries" "I", .fieldLink RX5 116 "GuideWordsModel" "thrown" "I"] ++ wsX50)
def wsX5_guide : List Cond := .code yX5_guide cX5_guide 8 (some .int) :: ([.fieldLink RX5 116 "GuideWordsModel" "thrown" "I", .fieldLink RX5 182 "GuideWordsModel" "setPages" "I", .fieldLink RX5 92 "GuideWordsModel" "setFrom" "[I", .fieldLink RX5 83 "GuideWordsModel" "setWide" "I", .fieldLink RX5 173 "GuideWordsModel" "setColumns" "I", .fieldLink RX5 170 "GuideWordsModel" "setBlocks" "I", .fieldLink RX5 89 "GuideWordsModel" "setSense" "[I", .fieldLink RX5 86 "GuideWordsModel" "setEntry" "[I", .methodLink RX5 119 yX5_bad, .instanceMethod yX5_bad, .selects RX5 yX5_bad yX5_bad, .initialized RX5, .code yX5_bad cX5_bad 3 (some .boolean)] ++ wsX50)
def wsX5_counts_r1 : List Cond := [Cond.fieldLink RX5 110 "GuideWordsModel" "linesOf" "[I", Cond.fieldLink RX5 113 "GuideWordsModel" "hasLetter" "[Z", Cond.fieldLink RX5 158 "GuideWordsModel" "blocks" "I", Cond.fieldLink RX5 33 "GuideWordsModel" "heads" "[I", Cond.fieldLink RX5 58 "GuideWordsModel" "blockEntry" "[I", Cond.fieldLink RX5 64 "GuideWordsModel" "blockLines" "[I", Cond.methodLink RX5 163 yX5_makes, Cond.instanceMethod yX5_makes, Cond.selects RX5 yX5_makes yX5_makes, Cond.initialized RX5, Cond.code yX5_makes cX5_makes 6 none, Cond.fieldLink RX5 148 "GuideWordsModel" "rows" "I", Cond.fieldLink RX5 52 "GuideWordsModel" "row" "[I", Cond.fieldLink RX5 42 "GuideWordsModel" "many" "[I", Cond.fieldLink RX5 39 "GuideWordsModel" "senses" "[I", Cond.fieldLink RX5 61 "GuideWordsModel" "blockSense" "[I", Cond.fieldLink RX5 70 "GuideWordsModel" "isLast" "[Z", Cond.fieldLink RX5 67 "GuideWordsModel" "mayBreak" "[Z", Cond.fieldLink RX5 16 "GuideWordsModel" "letter" "I", Cond.methodLink RX5 155 yX5_sorts, Cond.instanceMethod yX5_sorts, Cond.selects RX5 yX5_sorts yX5_sorts, Cond.code yX5_sorts cX5_sorts 3 none, Cond.fieldLink RX5 133 "GuideWordsModel" "entries" "I"]
def wsX5_counts_r2 : List Cond := [Cond.fieldLink RX5 49 "GuideWordsModel" "isThere" "[Z", Cond.methodLink RX5 151 yX5_compare, Cond.static yX5_compare, Cond.code yX5_compare cX5_compare 5 (some .int)]
def wsX5_counts : List Cond := .code yX5_counts cX5_counts 4 (some .int) :: ((wsX5_counts_r1 ++ wsX5_counts_r2) ++ wsX50)
def wsX5_thumb_r1 : List Cond := [Cond.fieldLink RX5 116 "GuideWordsModel" "thrown" "I", Cond.fieldLink RX5 113 "GuideWordsModel" "hasLetter" "[Z", Cond.fieldLink RX5 110 "GuideWordsModel" "linesOf" "[I", Cond.constantLong RX5 195 (2), Cond.methodLink RX5 119 yX5_bad, Cond.instanceMethod yX5_bad, Cond.selects RX5 yX5_bad yX5_bad, Cond.initialized RX5, Cond.code yX5_bad cX5_bad 3 (some .boolean), Cond.methodLink RX5 191 yX5_counts, Cond.instanceMethod yX5_counts, Cond.selects RX5 yX5_counts yX5_counts, Cond.code yX5_counts cX5_counts 4 (some .int), Cond.fieldLink RX5 158 "GuideWordsModel" "blocks" "I", Cond.fieldLink RX5 33 "GuideWordsModel" "heads" "[I", Cond.fieldLink RX5 58 "GuideWordsModel" "blockEntry" "[I", Cond.fieldLink RX5 64 "GuideWordsModel" "blockLines" "[I", Cond.methodLink RX5 163 yX5_makes, Cond.instanceMethod yX5_makes, Cond.selects RX5 yX5_makes yX5_makes, Cond.code yX5_makes cX5_makes 6 none, Cond.fieldLink RX5 148 "GuideWordsModel" "rows" "I", Cond.fieldLink RX5 52 "GuideWordsModel" "row" "[I", Cond.fieldLink RX5 42 "GuideWordsModel" "many" "[I"]
def wsX5_thumb_r2 : List Cond := [Cond.fieldLink RX5 39 "GuideWordsModel" "senses" "[I", Cond.fieldLink RX5 61 "GuideWordsModel" "blockSense" "[I", Cond.fieldLink RX5 70 "GuideWordsModel" "isLast" "[Z", Cond.fieldLink RX5 67 "GuideWordsModel" "mayBreak" "[Z", Cond.fieldLink RX5 16 "GuideWordsModel" "letter" "I", Cond.methodLink RX5 155 yX5_sorts, Cond.instanceMethod yX5_sorts, Cond.selects RX5 yX5_sorts yX5_sorts, Cond.code yX5_sorts cX5_sorts 3 none, Cond.fieldLink RX5 133 "GuideWordsModel" "entries" "I", Cond.fieldLink RX5 49 "GuideWordsModel" "isThere" "[Z", Cond.methodLink RX5 151 yX5_compare, Cond.static yX5_compare, Cond.code yX5_compare cX5_compare 5 (some .int)]
def wsX5_thumb : List Cond := .code yX5_thumb cX5_thumb 6 (some .int) :: ((wsX5_thumb_r1 ++ wsX5_thumb_r2) ++ wsX50)
def wsX5_volume_r1 : List Cond := [Cond.fieldLink RX5 116 "GuideWordsModel" "thrown" "I", Cond.fieldLink RX5 113 "GuideWordsModel" "hasLetter" "[Z", Cond.fieldLink RX5 110 "GuideWordsModel" "linesOf" "[I", Cond.methodLink RX5 191 yX5_counts, Cond.instanceMethod yX5_counts, Cond.selects RX5 yX5_counts yX5_counts, Cond.initialized RX5, Cond.code yX5_counts cX5_counts 4 (some .int), Cond.fieldLink RX5 158 "GuideWordsModel" "blocks" "I", Cond.fieldLink RX5 33 "GuideWordsModel" "heads" "[I", Cond.fieldLink RX5 58 "GuideWordsModel" "blockEntry" "[I", Cond.fieldLink RX5 64 "GuideWordsModel" "blockLines" "[I", Cond.methodLink RX5 163 yX5_makes, Cond.instanceMethod yX5_makes, Cond.selects RX5 yX5_makes yX5_makes, Cond.code yX5_makes cX5_makes 6 none, Cond.fieldLink RX5 148 "GuideWordsModel" "rows" "I", Cond.fieldLink RX5 52 "GuideWordsModel" "row" "[I", Cond.fieldLink RX5 42 "GuideWordsModel" "many" "[I", Cond.fieldLink RX5 39 "GuideWordsModel" "senses" "[I", Cond.fieldLink RX5 61 "GuideWordsModel" "blockSense" "[I", Cond.fieldLink RX5 70 "GuideWordsModel" "isLast" "[Z", Cond.fieldLink RX5 67 "GuideWordsModel" "mayBreak" "[Z", Cond.fieldLink RX5 16 "GuideWordsModel" "letter" "I"]
def wsX5_volume_r2 : List Cond := [Cond.methodLink RX5 155 yX5_sorts, Cond.instanceMethod yX5_sorts, Cond.selects RX5 yX5_sorts yX5_sorts, Cond.code yX5_sorts cX5_sorts 3 none, Cond.fieldLink RX5 133 "GuideWordsModel" "entries" "I", Cond.fieldLink RX5 49 "GuideWordsModel" "isThere" "[Z", Cond.methodLink RX5 151 yX5_compare, Cond.static yX5_compare, Cond.code yX5_compare cX5_compare 5 (some .int)]
def wsX5_volume : List Cond := .code yX5_volume cX5_volume 8 (some .int) :: ((wsX5_volume_r1 ++ wsX5_volume_r2) ++ wsX50)
def wsX5_count : List Cond := .code yX5_count cX5_count 2 (some .int) :: ([.fieldLink RX5 116 "GuideWordsModel" "thrown" "I", .fieldLink RX5 148 "GuideWordsModel" "rows" "I", .fieldLink RX5 133 "GuideWordsModel" "entries" "I", .fieldLink RX5 123 "GuideWordsModel" "pushes" "I", .fieldLink RX5 126 "GuideWordsModel" "taped" "I", .methodLink RX5 155 yX5_sorts, .instanceMethod yX5_sorts, .selects RX5 yX5_sorts yX5_sorts, .initialized RX5, .code yX5_sorts cX5_sorts 3 none, .fieldLink RX5 49 "GuideWordsModel" "isThere" "[Z", .fieldLink RX5 33 "GuideWordsModel" "heads" "[I", .fieldLink RX5 52 "GuideWordsModel" "row" "[I", .methodLink RX5 151 yX5_compare, .static yX5_compare, .code yX5_compare cX5_compare 5 (some .int)] ++ wsX50)
def wsJ9_abs_0f7a4 : List Cond := .code yJ9_abs_0f7a4 cJ9_abs_0f7a4 1 (some .int) :: ([])
def wsJ9_max_7cf53 : List Cond := .code yJ9_max_7cf53 cJ9_max_7cf53 2 (some .int) :: ([])
def wsJ9_min_7cf53 : List Cond := .code yJ9_min_7cf53 cJ9_min_7cf53 2 (some .int) :: ([])
def wsL_set : List Cond := .codeWith yL_set cL_set 5 (some .int) [(0, 10, 13, 13)] :: ([.classLink RL 13 "java/lang/IllegalArgumentException", .methodLink RL 7 yX4_set, .instanceMethod yX4_set, .selects RX4 yX4_set yX4_set, .initialized RX4, .code yX4_set cX4_set 4 (some .int), .classLink RX4 52 "java/lang/IllegalArgumentException", .initialized "java/lang/IllegalArgumentException", .fieldLink RX4 59 "GuideWords" "LOWEST" "[I", .fieldLink RX4 62 "GuideWords" "HIGHEST" "[I", .fieldLink RX4 9 "GuideWords" "values" "[I"] ++ wsX40 ++ (vx_atS RX4 56 "java/lang/IllegalArgumentException" ["java/lang/RuntimeException", "java/lang/Exception"]).filter goodWord)
def wsL_push : List Cond := .codeWith yL_push cL_push 4 (some .int) [(0, 9, 12, 13)] :: ([.classLink RL 13 "java/lang/IllegalArgumentException", .methodLink RL 15 yX4_push, .instanceMethod yX4_push, .selects RX4 yX4_push yX4_push, .initialized RX4, .code yX4_push cX4_push 2 (some .int), .classLink RX4 52 "java/lang/IllegalArgumentException", .initialized "java/lang/IllegalArgumentException", .fieldLink RX4 69 "GuideWords" "pushedCount" "I", .fieldLink RX4 13 "GuideWords" "pushed" "[I"] ++ wsX40 ++ (vx_atS RX4 56 "java/lang/IllegalArgumentException" ["java/lang/RuntimeException", "java/lang/Exception"]).filter goodWord)
def wsL_entry_r1 : List Cond := [Cond.classLink RL 13 "java/lang/IllegalArgumentException", Cond.methodLink RL 19 yX4_entry, Cond.instanceMethod yX4_entry, Cond.selects RX4 yX4_entry yX4_entry, Cond.initialized RX4, Cond.code yX4_entry cX4_entry 5 (some .int), Cond.classLink RX4 52 "java/lang/IllegalArgumentException", Cond.initialized "java/lang/IllegalArgumentException", Cond.fieldLink RX4 19 "GuideWords" "tape" "LGuideWords$Tape;", Cond.fieldLink RX4 69 "GuideWords" "pushedCount" "I", Cond.fieldLink RX4 26 "GuideWords" "lexicon" "LGuideWords$Lexicon;", Cond.fieldLink RX4 13 "GuideWords" "pushed" "[I", Cond.methodLink RX4 81 yX2_length, Cond.instanceMethod yX2_length, Cond.selects RX2 yX2_length yX2_length, Cond.initialized RX2, Cond.code yX2_length cX2_length 1 (some .int), Cond.fieldLink RX2 15 "GuideWords$Tape" "size" "I", Cond.methodLink RX4 87 yX2_headAt, Cond.instanceMethod yX2_headAt, Cond.selects RX2 yX2_headAt yX2_headAt, Cond.code yX2_headAt cX2_headAt 8 (some .long), Cond.fieldLink RX2 11 "GuideWords$Tape" "bytes" "[I", Cond.methodLink RX4 91 yX2_clear]
def wsL_entry_r2 : List Cond := [Cond.instanceMethod yX2_clear, Cond.selects RX2 yX2_clear yX2_clear, Cond.code yX2_clear cX2_clear 1 none, Cond.methodLink RX4 94 yX0_admit, Cond.instanceMethod yX0_admit, Cond.selects RX0 yX0_admit yX0_admit, Cond.initialized RX0, Cond.code yX0_admit cX0_admit 10 (some .int), Cond.fieldLink RX0 35 "GuideWords$Lexicon" "all" "I", Cond.fieldLink RX0 9 "GuideWords$Lexicon" "heads" "[J", Cond.fieldLink RX0 15 "GuideWords$Lexicon" "meant" "[J", Cond.fieldLink RX0 18 "GuideWords$Lexicon" "senses" "[I", Cond.fieldLink RX0 22 "GuideWords$Lexicon" "lines" "[I", Cond.fieldLink RX0 43 "GuideWords$Lexicon" "present" "I", Cond.fieldLink RX0 29 "GuideWords$Lexicon" "ordered" "[I", Cond.methodLink RX0 39 yX0_headsBelow, Cond.instanceMethod yX0_headsBelow, Cond.selects RX0 yX0_headsBelow yX0_headsBelow, Cond.code yX0_headsBelow cX0_headsBelow 7 (some .int)]
def wsL_entry : List Cond := .codeWith yL_entry cL_entry 4 (some .int) [(0, 9, 12, 13)] :: ((wsL_entry_r1 ++ wsL_entry_r2) ++ wsX40 ++ wsX20 ++ wsX00 ++ (vx_atS RX4 56 "java/lang/IllegalArgumentException" ["java/lang/RuntimeException", "java/lang/Exception"]).filter goodWord)
def wsL_see_r1 : List Cond := [Cond.classLink RL 13 "java/lang/IllegalArgumentException", Cond.methodLink RL 22 yX4_see, Cond.instanceMethod yX4_see, Cond.selects RX4 yX4_see yX4_see, Cond.initialized RX4, Cond.code yX4_see cX4_see 8 (some .int), Cond.classLink RX4 52 "java/lang/IllegalArgumentException", Cond.initialized "java/lang/IllegalArgumentException", Cond.fieldLink RX4 19 "GuideWords" "tape" "LGuideWords$Tape;", Cond.fieldLink RX4 26 "GuideWords" "lexicon" "LGuideWords$Lexicon;", Cond.fieldLink RX4 98 "GuideWords" "LINES_OF_SEE" "[I", Cond.methodLink RX4 81 yX2_length, Cond.instanceMethod yX2_length, Cond.selects RX2 yX2_length yX2_length, Cond.initialized RX2, Cond.code yX2_length cX2_length 1 (some .int), Cond.fieldLink RX2 15 "GuideWords$Tape" "size" "I", Cond.methodLink RX4 87 yX2_headAt, Cond.instanceMethod yX2_headAt, Cond.selects RX2 yX2_headAt yX2_headAt, Cond.code yX2_headAt cX2_headAt 8 (some .long), Cond.fieldLink RX2 11 "GuideWords$Tape" "bytes" "[I", Cond.methodLink RX4 91 yX2_clear, Cond.instanceMethod yX2_clear]
def wsL_see_r2 : List Cond := [Cond.selects RX2 yX2_clear yX2_clear, Cond.code yX2_clear cX2_clear 1 none, Cond.methodLink RX4 94 yX0_admit, Cond.instanceMethod yX0_admit, Cond.selects RX0 yX0_admit yX0_admit, Cond.initialized RX0, Cond.code yX0_admit cX0_admit 10 (some .int), Cond.fieldLink RX0 35 "GuideWords$Lexicon" "all" "I", Cond.fieldLink RX0 9 "GuideWords$Lexicon" "heads" "[J", Cond.fieldLink RX0 15 "GuideWords$Lexicon" "meant" "[J", Cond.fieldLink RX0 18 "GuideWords$Lexicon" "senses" "[I", Cond.fieldLink RX0 22 "GuideWords$Lexicon" "lines" "[I", Cond.fieldLink RX0 43 "GuideWords$Lexicon" "present" "I", Cond.fieldLink RX0 29 "GuideWords$Lexicon" "ordered" "[I", Cond.methodLink RX0 39 yX0_headsBelow, Cond.instanceMethod yX0_headsBelow, Cond.selects RX0 yX0_headsBelow yX0_headsBelow, Cond.code yX0_headsBelow cX0_headsBelow 7 (some .int)]
def wsL_see : List Cond := .codeWith yL_see cL_see 5 (some .int) [(0, 10, 13, 13)] :: ((wsL_see_r1 ++ wsL_see_r2) ++ wsX40 ++ wsX20 ++ wsX00 ++ (vx_atS RX4 56 "java/lang/IllegalArgumentException" ["java/lang/RuntimeException", "java/lang/Exception"]).filter goodWord)
def wsL_drop : List Cond := .codeWith yL_drop cL_drop 4 (some .int) [(0, 16, 19, 29)] :: ([.classLink RL 29 "java/lang/IndexOutOfBoundsException", .methodLink RL 25 yX4_drop, .instanceMethod yX4_drop, .selects RX4 yX4_drop yX4_drop, .initialized RX4, .code yX4_drop cX4_drop 2 (some .boolean), .fieldLink RX4 26 "GuideWords" "lexicon" "LGuideWords$Lexicon;", .methodLink RX4 101 yX4_checkEntry, .instanceMethod yX4_checkEntry, .selects RX4 yX4_checkEntry yX4_checkEntry, .code yX4_checkEntry cX4_checkEntry 2 none, .classLink RX4 140 "java/lang/IndexOutOfBoundsException", .initialized "java/lang/IndexOutOfBoundsException", .methodLink RX4 104 yX0_remove, .instanceMethod yX0_remove, .selects RX0 yX0_remove yX0_remove, .initialized RX0, .code yX0_remove cX0_remove 4 (some .boolean), .fieldLink RX0 25 "GuideWords$Lexicon" "dropped" "[Z", .fieldLink RX0 43 "GuideWords$Lexicon" "present" "I", .fieldLink RX0 29 "GuideWords$Lexicon" "ordered" "[I"] ++ wsX40 ++ wsX00 ++ (vx_atS RX4 144 "java/lang/IndexOutOfBoundsException" ["java/lang/RuntimeException", "java/lang/Exception"]).filter goodWord)
def wsL_leads_r1 : List Cond := [Cond.classLink RL 29 "java/lang/IndexOutOfBoundsException", Cond.methodLink RL 31 yX4_leads, Cond.instanceMethod yX4_leads, Cond.selects RX4 yX4_leads yX4_leads, Cond.initialized RX4, Cond.code yX4_leads cX4_leads 2 (some .int), Cond.fieldLink RX4 26 "GuideWords" "lexicon" "LGuideWords$Lexicon;", Cond.methodLink RX4 101 yX4_checkEntry, Cond.instanceMethod yX4_checkEntry, Cond.selects RX4 yX4_checkEntry yX4_checkEntry, Cond.code yX4_checkEntry cX4_checkEntry 2 none, Cond.classLink RX4 140 "java/lang/IndexOutOfBoundsException", Cond.initialized "java/lang/IndexOutOfBoundsException", Cond.methodLink RX4 112 yX0_follow, Cond.instanceMethod yX0_follow, Cond.selects RX0 yX0_follow yX0_follow, Cond.initialized RX0, Cond.code yX0_follow cX0_follow 5 (some .int), Cond.fieldLink RX0 32 "GuideWords$Lexicon" "passed" "[I", Cond.fieldLink RX0 15 "GuideWords$Lexicon" "meant" "[J", Cond.methodLink RX0 51 yJ7_fill_53178, Cond.static yJ7_fill_53178, Cond.initialized RJ7, Cond.code yJ7_fill_53178 cJ7_fill_53178 4 none]
def wsL_leads_r2 : List Cond := [Cond.methodLink RX0 57 yX0_firstWith, Cond.instanceMethod yX0_firstWith, Cond.selects RX0 yX0_firstWith yX0_firstWith, Cond.code yX0_firstWith cX0_firstWith 4 (some .int), Cond.fieldLink RX0 43 "GuideWords$Lexicon" "present" "I", Cond.fieldLink RX0 9 "GuideWords$Lexicon" "heads" "[J", Cond.fieldLink RX0 29 "GuideWords$Lexicon" "ordered" "[I", Cond.methodLink RX0 39 yX0_headsBelow, Cond.instanceMethod yX0_headsBelow, Cond.selects RX0 yX0_headsBelow yX0_headsBelow, Cond.code yX0_headsBelow cX0_headsBelow 7 (some .int)]
def wsL_leads : List Cond := .codeWith yL_leads cL_leads 4 (some .int) [(0, 9, 12, 29)] :: ((wsL_leads_r1 ++ wsL_leads_r2) ++ wsX40 ++ wsX00 ++ (vx_atS RX4 144 "java/lang/IndexOutOfBoundsException" ["java/lang/RuntimeException", "java/lang/Exception"]).filter goodWord)
def wsL_told : List Cond := .codeWith yL_told cL_told 4 (some .int) [(0, 9, 12, 13)] :: ([.classLink RL 13 "java/lang/IllegalArgumentException", .methodLink RL 34 yX4_told, .instanceMethod yX4_told, .selects RX4 yX4_told yX4_told, .initialized RX4, .code yX4_told cX4_told 2 (some .int), .classLink RX4 52 "java/lang/IllegalArgumentException", .initialized "java/lang/IllegalArgumentException", .fieldLink RX4 45 "GuideWords" "standing" "LGuideWords$Setting;", .fieldLink RX4 123 "GuideWords" "changedPages" "I"] ++ wsX40 ++ wsX10 ++ (vx_atS RX4 56 "java/lang/IllegalArgumentException" ["java/lang/RuntimeException", "java/lang/Exception"]).filter goodWord)
def wsL_column : List Cond := .codeWith yL_column cL_column 5 (some .int) [(0, 10, 13, 29), (0, 10, 17, 13)] :: ([.classLink RL 29 "java/lang/IndexOutOfBoundsException", .classLink RL 13 "java/lang/IllegalArgumentException", .methodLink RL 37 yX4_column, .instanceMethod yX4_column, .selects RX4 yX4_column yX4_column, .initialized RX4, .code yX4_column cX4_column 4 (some .int), .classLink RX4 140 "java/lang/IndexOutOfBoundsException", .initialized "java/lang/IndexOutOfBoundsException", .classLink RX4 52 "java/lang/IllegalArgumentException", .initialized "java/lang/IllegalArgumentException", .fieldLink RX4 45 "GuideWords" "standing" "LGuideWords$Setting;", .methodLink RX4 148 yX1_entryOf, .instanceMethod yX1_entryOf, .selects RX1 yX1_entryOf yX1_entryOf, .initialized RX1, .code yX1_entryOf cX1_entryOf 2 (some .int), .fieldLink RX1 9 "GuideWords$Setting" "blocks" "[I", .methodLink RX4 151 yX1_senseOf, .instanceMethod yX1_senseOf, .selects RX1 yX1_senseOf yX1_senseOf, .code yX1_senseOf cX1_senseOf 2 (some .int)] ++ wsX40 ++ wsX10 ++ (vx_atS RX4 144 "java/lang/IndexOutOfBoundsException" ["java/lang/RuntimeException", "java/lang/Exception"]).filter goodWord ++ (vx_atS RX4 56 "java/lang/IllegalArgumentException" ["java/lang/RuntimeException", "java/lang/Exception"]).filter goodWord)
def wsL_where : List Cond := .codeWith yL_where cL_where 5 (some .int) [(0, 10, 13, 29)] :: ([.classLink RL 29 "java/lang/IndexOutOfBoundsException", .methodLink RL 40 yX4_where, .instanceMethod yX4_where, .selects RX4 yX4_where yX4_where, .initialized RX4, .code yX4_where cX4_where 3 (some .int), .fieldLink RX4 45 "GuideWords" "standing" "LGuideWords$Setting;", .methodLink RX4 101 yX4_checkEntry, .instanceMethod yX4_checkEntry, .selects RX4 yX4_checkEntry yX4_checkEntry, .code yX4_checkEntry cX4_checkEntry 2 none, .classLink RX4 140 "java/lang/IndexOutOfBoundsException", .initialized "java/lang/IndexOutOfBoundsException", .fieldLink RX4 26 "GuideWords" "lexicon" "LGuideWords$Lexicon;", .methodLink RX4 159 yX1_columnWith, .instanceMethod yX1_columnWith, .selects RX1 yX1_columnWith yX1_columnWith, .initialized RX1, .code yX1_columnWith cX1_columnWith 4 (some .int), .fieldLink RX1 25 "GuideWords$Setting" "columnCount" "I", .fieldLink RX1 15 "GuideWords$Setting" "starts" "[I", .fieldLink RX1 9 "GuideWords$Setting" "blocks" "[I"] ++ wsX40 ++ wsX00 ++ wsX10 ++ (vx_atS RX4 144 "java/lang/IndexOutOfBoundsException" ["java/lang/RuntimeException", "java/lang/Exception"]).filter goodWord)
def wsL_guide_r1 : List Cond := [Cond.classLink RL 29 "java/lang/IndexOutOfBoundsException", Cond.classLink RL 13 "java/lang/IllegalArgumentException", Cond.methodLink RL 43 yX4_guide, Cond.instanceMethod yX4_guide, Cond.selects RX4 yX4_guide yX4_guide, Cond.initialized RX4, Cond.code yX4_guide cX4_guide 3 (some .int), Cond.classLink RX4 140 "java/lang/IndexOutOfBoundsException", Cond.initialized "java/lang/IndexOutOfBoundsException", Cond.classLink RX4 52 "java/lang/IllegalArgumentException", Cond.initialized "java/lang/IllegalArgumentException", Cond.fieldLink RX4 45 "GuideWords" "standing" "LGuideWords$Setting;", Cond.methodLink RX4 166 yX1_firstGuide, Cond.instanceMethod yX1_firstGuide, Cond.selects RX1 yX1_firstGuide yX1_firstGuide, Cond.initialized RX1, Cond.code yX1_firstGuide cX1_firstGuide 5 (some .int), Cond.fieldLink RX1 15 "GuideWords$Setting" "starts" "[I", Cond.methodLink RX1 31 yX1_firstColumn, Cond.instanceMethod yX1_firstColumn, Cond.selects RX1 yX1_firstColumn yX1_firstColumn, Cond.code yX1_firstColumn cX1_firstColumn 2 (some .int), Cond.fieldLink RX1 21 "GuideWords$Setting" "columnsOnPage" "I", Cond.fieldLink RX1 25 "GuideWords$Setting" "columnCount" "I"]
def wsL_guide_r2 : List Cond := [Cond.methodLink RX1 58 Lib.Math.min.name, Cond.static Lib.Math.min.name, Cond.initialized "java/lang/Math", Cond.code Lib.Math.min.name Lib.Math.min.code 2 (some .int), Cond.methodLink RX1 35 yX1_endColumn, Cond.instanceMethod yX1_endColumn, Cond.selects RX1 yX1_endColumn yX1_endColumn, Cond.code yX1_endColumn cX1_endColumn 2 (some .int), Cond.methodLink RX1 38 yX1_senseOf, Cond.instanceMethod yX1_senseOf, Cond.selects RX1 yX1_senseOf yX1_senseOf, Cond.code yX1_senseOf cX1_senseOf 2 (some .int), Cond.fieldLink RX1 9 "GuideWords$Setting" "blocks" "[I", Cond.methodLink RX1 41 yX1_entryOf, Cond.instanceMethod yX1_entryOf, Cond.selects RX1 yX1_entryOf yX1_entryOf, Cond.code yX1_entryOf cX1_entryOf 2 (some .int), Cond.methodLink RX4 169 yX1_lastGuide, Cond.instanceMethod yX1_lastGuide, Cond.selects RX1 yX1_lastGuide yX1_lastGuide, Cond.code yX1_lastGuide cX1_lastGuide 4 (some .int)]
def wsL_guide : List Cond := .codeWith yL_guide cL_guide 5 (some .int) [(0, 10, 13, 29), (0, 10, 17, 13)] :: ((wsL_guide_r1 ++ wsL_guide_r2) ++ wsX40 ++ wsX10 ++ (vx_atS RX4 144 "java/lang/IndexOutOfBoundsException" ["java/lang/RuntimeException", "java/lang/Exception"]).filter goodWord ++ (vx_atS RX4 56 "java/lang/IllegalArgumentException" ["java/lang/RuntimeException", "java/lang/Exception"]).filter goodWord)
def wsL_thumb_r1 : List Cond := [Cond.classLink RL 13 "java/lang/IllegalArgumentException", Cond.methodLink RL 46 yX4_thumb, Cond.instanceMethod yX4_thumb, Cond.selects RX4 yX4_thumb yX4_thumb, Cond.initialized RX4, Cond.code yX4_thumb cX4_thumb 7 (some .int), Cond.classLink RX4 52 "java/lang/IllegalArgumentException", Cond.initialized "java/lang/IllegalArgumentException", Cond.fieldLink RX4 26 "GuideWords" "lexicon" "LGuideWords$Lexicon;", Cond.fieldLink RX4 39 "GuideWords" "letterLines" "[I", Cond.fieldLink RX4 9 "GuideWords" "values" "[I", Cond.methodLink RX4 176 yX0_sumLines, Cond.instanceMethod yX0_sumLines, Cond.selects RX0 yX0_sumLines yX0_sumLines, Cond.initialized RX0, Cond.code yX0_sumLines cX0_sumLines 9 (some .int), Cond.fieldLink RX0 43 "GuideWords$Lexicon" "present" "I", Cond.fieldLink RX0 29 "GuideWords$Lexicon" "ordered" "[I", Cond.fieldLink RX0 18 "GuideWords$Lexicon" "senses" "[I", Cond.fieldLink RX0 22 "GuideWords$Lexicon" "lines" "[I", Cond.methodLink RX0 51 yJ7_fill_53178, Cond.static yJ7_fill_53178, Cond.initialized RJ7, Cond.code yJ7_fill_53178 cJ7_fill_53178 4 none]
def wsL_thumb_r2 : List Cond := [Cond.methodLink RX0 60 yX0_letterOf, Cond.instanceMethod yX0_letterOf, Cond.selects RX0 yX0_letterOf yX0_letterOf, Cond.code yX0_letterOf cX0_letterOf 2 (some .int), Cond.fieldLink RX0 9 "GuideWords$Lexicon" "heads" "[J", Cond.methodLink RX0 46 yX2_firstLetter, Cond.static yX2_firstLetter, Cond.initialized RX2, Cond.code yX2_firstLetter cX2_firstLetter 2 (some .int)]
def wsL_thumb : List Cond := .codeWith yL_thumb cL_thumb 5 (some .int) [(0, 10, 13, 13)] :: ((wsL_thumb_r1 ++ wsL_thumb_r2) ++ wsX40 ++ wsX00 ++ (vx_atS RX4 56 "java/lang/IllegalArgumentException" ["java/lang/RuntimeException", "java/lang/Exception"]).filter goodWord)
def wsL_law0_r1 : List Cond := [Cond.classLink RL 8 RX4, Cond.instantiable RX4 10, Cond.initialized RX4, Cond.classLink RL 50 RX5, Cond.instantiable RX5 46, Cond.initialized RX5, Cond.arrayClass .long, Cond.methodLink RL 49 yX4_init, Cond.instanceMethod yX4_init, Cond.code yX4_init cX4_init 1 none, Cond.methodLink RX4 3 objectInit, Cond.instanceMethod objectInit, Cond.code objectInit ⟨#[0xb1]⟩ 1 none, Cond.arrayClass .int, Cond.fieldLink RX4 9 "GuideWords" "values" "[I", Cond.fieldLink RX4 13 "GuideWords" "pushed" "[I", Cond.classLink RX4 16 RX2, Cond.instantiable RX2 2, Cond.initialized RX2, Cond.fieldLink RX4 19 "GuideWords" "tape" "LGuideWords$Tape;", Cond.classLink RX4 23 RX0, Cond.instantiable RX0 9, Cond.initialized RX0, Cond.fieldLink RX4 26 "GuideWords" "lexicon" "LGuideWords$Lexicon;"]
def wsL_law0_r2 : List Cond := [Cond.classLink RX4 30 RX3, Cond.instantiable RX3 5, Cond.initialized RX3, Cond.fieldLink RX4 35 "GuideWords" "typesetter" "LGuideWords$Typesetter;", Cond.fieldLink RX4 39 "GuideWords" "letterLines" "[I", Cond.classLink RX4 42 RX1, Cond.instantiable RX1 8, Cond.initialized RX1, Cond.fieldLink RX4 45 "GuideWords" "standing" "LGuideWords$Setting;", Cond.fieldLink RX4 49 "GuideWords" "draft" "LGuideWords$Setting;", Cond.methodLink RX4 18 yX2_init, Cond.instanceMethod yX2_init, Cond.code yX2_init cX2_init 1 none, Cond.methodLink RX2 5 objectInit, Cond.fieldLink RX2 11 "GuideWords$Tape" "bytes" "[I", Cond.methodLink RX4 25 yX0_init, Cond.instanceMethod yX0_init, Cond.code yX0_init cX0_init 1 none, Cond.methodLink RX0 3 objectInit, Cond.fieldLink RX0 9 "GuideWords$Lexicon" "heads" "[J", Cond.fieldLink RX0 15 "GuideWords$Lexicon" "meant" "[J", Cond.fieldLink RX0 18 "GuideWords$Lexicon" "senses" "[I", Cond.fieldLink RX0 22 "GuideWords$Lexicon" "lines" "[I", Cond.arrayClass .boolean]
def wsL_law0_r3 : List Cond := [Cond.fieldLink RX0 25 "GuideWords$Lexicon" "dropped" "[Z", Cond.fieldLink RX0 29 "GuideWords$Lexicon" "ordered" "[I", Cond.fieldLink RX0 32 "GuideWords$Lexicon" "passed" "[I", Cond.methodLink RX4 32 yX3_init, Cond.instanceMethod yX3_init, Cond.code yX3_init cX3_init 2 none, Cond.methodLink RX3 3 objectInit, Cond.fieldLink RX3 9 "GuideWords$Typesetter" "values" "[I", Cond.fieldLink RX3 15 "GuideWords$Typesetter" "lines" "[I", Cond.fieldLink RX3 18 "GuideWords$Typesetter" "breaks" "[I", Cond.fieldLink RX3 21 "GuideWords$Typesetter" "least" "[J", Cond.methodLink RX4 44 yX1_init, Cond.instanceMethod yX1_init, Cond.code yX1_init cX1_init 1 none, Cond.methodLink RX1 3 objectInit, Cond.fieldLink RX1 9 "GuideWords$Setting" "blocks" "[I", Cond.fieldLink RX1 15 "GuideWords$Setting" "starts" "[I", Cond.fieldLink RX1 18 "GuideWords$Setting" "columnLines" "[I", Cond.methodLink RL 52 yX5_init, Cond.instanceMethod yX5_init, Cond.code yX5_init cX5_init 1 none, Cond.methodLink RX5 1 objectInit, Cond.fieldLink RX5 7 "GuideWordsModel" "height" "I", Cond.fieldLink RX5 13 "GuideWordsModel" "wide" "I"]
def wsL_law0_r4 : List Cond := [Cond.fieldLink RX5 16 "GuideWordsModel" "letter" "I", Cond.fieldLink RX5 19 "GuideWordsModel" "split" "I", Cond.fieldLink RX5 22 "GuideWordsModel" "turn" "I", Cond.fieldLink RX5 25 "GuideWordsModel" "pushed" "[I", Cond.arrayClass .byte, Cond.fieldLink RX5 29 "GuideWordsModel" "tape" "[B", Cond.fieldLink RX5 33 "GuideWordsModel" "heads" "[I", Cond.fieldLink RX5 36 "GuideWordsModel" "meant" "[I", Cond.fieldLink RX5 39 "GuideWordsModel" "senses" "[I", Cond.fieldLink RX5 42 "GuideWordsModel" "many" "[I", Cond.fieldLink RX5 45 "GuideWordsModel" "isSee" "[Z", Cond.fieldLink RX5 49 "GuideWordsModel" "isThere" "[Z", Cond.fieldLink RX5 52 "GuideWordsModel" "row" "[I", Cond.fieldLink RX5 55 "GuideWordsModel" "passed" "[Z", Cond.fieldLink RX5 58 "GuideWordsModel" "blockEntry" "[I", Cond.fieldLink RX5 61 "GuideWordsModel" "blockSense" "[I", Cond.fieldLink RX5 64 "GuideWordsModel" "blockLines" "[I", Cond.fieldLink RX5 67 "GuideWordsModel" "mayBreak" "[Z", Cond.fieldLink RX5 70 "GuideWordsModel" "isLast" "[Z", Cond.fieldLink RX5 73 "GuideWordsModel" "least" "[J", Cond.fieldLink RX5 77 "GuideWordsModel" "fewest" "[I", Cond.fieldLink RX5 80 "GuideWordsModel" "ends" "[I", Cond.fieldLink RX5 83 "GuideWordsModel" "setWide" "I", Cond.fieldLink RX5 86 "GuideWordsModel" "setEntry" "[I"]
def wsL_law0_r5 : List Cond := [Cond.fieldLink RX5 89 "GuideWordsModel" "setSense" "[I", Cond.fieldLink RX5 92 "GuideWordsModel" "setFrom" "[I", Cond.fieldLink RX5 95 "GuideWordsModel" "setLines" "[I", Cond.fieldLink RX5 98 "GuideWordsModel" "oldEntry" "[I", Cond.fieldLink RX5 101 "GuideWordsModel" "oldSense" "[I", Cond.fieldLink RX5 104 "GuideWordsModel" "oldFrom" "[I", Cond.fieldLink RX5 107 "GuideWordsModel" "oldWide" "I", Cond.fieldLink RX5 110 "GuideWordsModel" "linesOf" "[I", Cond.fieldLink RX5 113 "GuideWordsModel" "hasLetter" "[Z", Cond.methodLink RL 53 yL_set, Cond.static yL_set, Cond.initialized RL, Cond.codeWith yL_set cL_set 5 (some .int) [(0, 10, 13, 13)], Cond.classLink RL 13 "java/lang/IllegalArgumentException", Cond.methodLink RL 7 yX4_set, Cond.instanceMethod yX4_set, Cond.selects RX4 yX4_set yX4_set, Cond.code yX4_set cX4_set 4 (some .int), Cond.classLink RX4 52 "java/lang/IllegalArgumentException", Cond.initialized "java/lang/IllegalArgumentException", Cond.fieldLink RX4 59 "GuideWords" "LOWEST" "[I", Cond.fieldLink RX4 62 "GuideWords" "HIGHEST" "[I", Cond.methodLink RL 58 yX5_set, Cond.instanceMethod yX5_set]
def wsL_law0_r6 : List Cond := [Cond.selects RX5 yX5_set yX5_set, Cond.code yX5_set cX5_set 6 (some .int), Cond.fieldLink RX5 116 "GuideWordsModel" "thrown" "I", Cond.methodLink RX5 119 yX5_bad, Cond.instanceMethod yX5_bad, Cond.selects RX5 yX5_bad yX5_bad, Cond.code yX5_bad cX5_bad 3 (some .boolean), Cond.methodLink RL 59 yX5_thrown, Cond.instanceMethod yX5_thrown, Cond.selects RX5 yX5_thrown yX5_thrown, Cond.code yX5_thrown cX5_thrown 1 (some .int), Cond.methodLink RL 63 yL_push, Cond.static yL_push, Cond.codeWith yL_push cL_push 4 (some .int) [(0, 9, 12, 13)], Cond.methodLink RL 15 yX4_push, Cond.instanceMethod yX4_push, Cond.selects RX4 yX4_push yX4_push, Cond.code yX4_push cX4_push 2 (some .int), Cond.fieldLink RX4 69 "GuideWords" "pushedCount" "I", Cond.methodLink RL 66 yX5_push, Cond.instanceMethod yX5_push, Cond.selects RX5 yX5_push yX5_push, Cond.code yX5_push cX5_push 2 (some .int), Cond.fieldLink RX5 123 "GuideWordsModel" "pushes" "I"]
def wsL_law0_r7 : List Cond := [Cond.methodLink RL 67 yX4_feed, Cond.instanceMethod yX4_feed, Cond.selects RX4 yX4_feed yX4_feed, Cond.code yX4_feed cX4_feed 6 (some .int), Cond.methodLink RX4 73 yX2_hasRoom, Cond.instanceMethod yX2_hasRoom, Cond.selects RX2 yX2_hasRoom yX2_hasRoom, Cond.code yX2_hasRoom cX2_hasRoom 1 (some .boolean), Cond.fieldLink RX2 15 "GuideWords$Tape" "size" "I", Cond.methodLink RX4 77 yX2_append, Cond.instanceMethod yX2_append, Cond.selects RX2 yX2_append yX2_append, Cond.code yX2_append cX2_append 3 none, Cond.methodLink RX4 81 yX2_length, Cond.instanceMethod yX2_length, Cond.selects RX2 yX2_length yX2_length, Cond.code yX2_length cX2_length 1 (some .int), Cond.methodLink RL 71 yX5_feed, Cond.instanceMethod yX5_feed, Cond.selects RX5 yX5_feed yX5_feed, Cond.code yX5_feed cX5_feed 9 (some .int), Cond.fieldLink RX5 126 "GuideWordsModel" "taped" "I", Cond.methodLink RL 72 yL_entry, Cond.static yL_entry]
def wsL_law0_r8 : List Cond := [Cond.codeWith yL_entry cL_entry 4 (some .int) [(0, 9, 12, 13)], Cond.methodLink RL 19 yX4_entry, Cond.instanceMethod yX4_entry, Cond.selects RX4 yX4_entry yX4_entry, Cond.code yX4_entry cX4_entry 5 (some .int), Cond.methodLink RX4 87 yX2_headAt, Cond.instanceMethod yX2_headAt, Cond.selects RX2 yX2_headAt yX2_headAt, Cond.code yX2_headAt cX2_headAt 8 (some .long), Cond.methodLink RX4 91 yX2_clear, Cond.instanceMethod yX2_clear, Cond.selects RX2 yX2_clear yX2_clear, Cond.code yX2_clear cX2_clear 1 none, Cond.methodLink RX4 94 yX0_admit, Cond.instanceMethod yX0_admit, Cond.selects RX0 yX0_admit yX0_admit, Cond.code yX0_admit cX0_admit 10 (some .int), Cond.fieldLink RX0 35 "GuideWords$Lexicon" "all" "I", Cond.fieldLink RX0 43 "GuideWords$Lexicon" "present" "I", Cond.methodLink RX0 39 yX0_headsBelow, Cond.instanceMethod yX0_headsBelow, Cond.selects RX0 yX0_headsBelow yX0_headsBelow, Cond.code yX0_headsBelow cX0_headsBelow 7 (some .int), Cond.methodLink RL 74 yX5_entry]
def wsL_law0_r9 : List Cond := [Cond.instanceMethod yX5_entry, Cond.selects RX5 yX5_entry yX5_entry, Cond.code yX5_entry cX5_entry 4 (some .int), Cond.fieldLink RX5 133 "GuideWordsModel" "entries" "I", Cond.methodLink RX5 129 yX5_isHead, Cond.instanceMethod yX5_isHead, Cond.selects RX5 yX5_isHead yX5_isHead, Cond.code yX5_isHead cX5_isHead 5 (some .boolean), Cond.methodLink RX5 136 yX5_head, Cond.instanceMethod yX5_head, Cond.selects RX5 yX5_head yX5_head, Cond.code yX5_head cX5_head 6 none, Cond.methodLink RX5 140 yX5_comes, Cond.instanceMethod yX5_comes, Cond.selects RX5 yX5_comes yX5_comes, Cond.code yX5_comes cX5_comes 2 (some .int), Cond.methodLink RL 75 yL_see, Cond.static yL_see, Cond.codeWith yL_see cL_see 5 (some .int) [(0, 10, 13, 13)], Cond.methodLink RL 22 yX4_see, Cond.instanceMethod yX4_see, Cond.selects RX4 yX4_see yX4_see, Cond.code yX4_see cX4_see 8 (some .int), Cond.fieldLink RX4 98 "GuideWords" "LINES_OF_SEE" "[I"]
def wsL_law0_r10 : List Cond := [Cond.methodLink RL 77 yX5_see, Cond.instanceMethod yX5_see, Cond.selects RX5 yX5_see yX5_see, Cond.code yX5_see cX5_see 3 (some .int), Cond.methodLink RL 78 yL_drop, Cond.static yL_drop, Cond.codeWith yL_drop cL_drop 4 (some .int) [(0, 16, 19, 29)], Cond.classLink RL 29 "java/lang/IndexOutOfBoundsException", Cond.methodLink RL 25 yX4_drop, Cond.instanceMethod yX4_drop, Cond.selects RX4 yX4_drop yX4_drop, Cond.code yX4_drop cX4_drop 2 (some .boolean), Cond.methodLink RX4 101 yX4_checkEntry, Cond.instanceMethod yX4_checkEntry, Cond.selects RX4 yX4_checkEntry yX4_checkEntry, Cond.code yX4_checkEntry cX4_checkEntry 2 none, Cond.classLink RX4 140 "java/lang/IndexOutOfBoundsException", Cond.initialized "java/lang/IndexOutOfBoundsException", Cond.methodLink RX4 104 yX0_remove, Cond.instanceMethod yX0_remove, Cond.selects RX0 yX0_remove yX0_remove, Cond.code yX0_remove cX0_remove 4 (some .boolean), Cond.methodLink RL 80 yX5_drop, Cond.instanceMethod yX5_drop]
def wsL_law0_r11 : List Cond := [Cond.selects RX5 yX5_drop yX5_drop, Cond.code yX5_drop cX5_drop 3 (some .boolean), Cond.methodLink RX5 144 yX5_isEntry, Cond.instanceMethod yX5_isEntry, Cond.selects RX5 yX5_isEntry yX5_isEntry, Cond.code yX5_isEntry cX5_isEntry 2 (some .boolean), Cond.methodLink RL 81 yX4_order, Cond.instanceMethod yX4_order, Cond.selects RX4 yX4_order yX4_order, Cond.code yX4_order cX4_order 2 (some .int), Cond.methodLink RX4 108 yX0_inOrder, Cond.instanceMethod yX0_inOrder, Cond.selects RX0 yX0_inOrder yX0_inOrder, Cond.code yX0_inOrder cX0_inOrder 2 (some .int), Cond.methodLink RL 84 yX5_order, Cond.instanceMethod yX5_order, Cond.selects RX5 yX5_order yX5_order, Cond.code yX5_order cX5_order 2 (some .int), Cond.fieldLink RX5 148 "GuideWordsModel" "rows" "I", Cond.methodLink RX5 155 yX5_sorts, Cond.instanceMethod yX5_sorts, Cond.selects RX5 yX5_sorts yX5_sorts, Cond.code yX5_sorts cX5_sorts 3 none, Cond.methodLink RX5 151 yX5_compare]
def wsL_law0_r12 : List Cond := [Cond.static yX5_compare, Cond.code yX5_compare cX5_compare 5 (some .int), Cond.methodLink RL 85 yL_leads, Cond.static yL_leads, Cond.codeWith yL_leads cL_leads 4 (some .int) [(0, 9, 12, 29)], Cond.methodLink RL 31 yX4_leads, Cond.instanceMethod yX4_leads, Cond.selects RX4 yX4_leads yX4_leads, Cond.code yX4_leads cX4_leads 2 (some .int), Cond.methodLink RX4 112 yX0_follow, Cond.instanceMethod yX0_follow, Cond.selects RX0 yX0_follow yX0_follow, Cond.code yX0_follow cX0_follow 5 (some .int), Cond.methodLink RX0 51 yJ7_fill_53178, Cond.static yJ7_fill_53178, Cond.initialized RJ7, Cond.code yJ7_fill_53178 cJ7_fill_53178 4 none, Cond.methodLink RX0 57 yX0_firstWith, Cond.instanceMethod yX0_firstWith, Cond.selects RX0 yX0_firstWith yX0_firstWith, Cond.code yX0_firstWith cX0_firstWith 4 (some .int), Cond.methodLink RL 87 yX5_leads, Cond.instanceMethod yX5_leads, Cond.selects RX5 yX5_leads yX5_leads]
def wsL_law0_r13 : List Cond := [Cond.code yX5_leads cX5_leads 4 (some .int), Cond.methodLink RL 88 yX4_set_, Cond.instanceMethod yX4_set_, Cond.selects RX4 yX4_set_ yX4_set_, Cond.code yX4_set_ cX4_set_ 2 (some .int), Cond.fieldLink RX4 123 "GuideWords" "changedPages" "I", Cond.methodLink RX4 115 yX3_compose, Cond.instanceMethod yX3_compose, Cond.selects RX3 yX3_compose yX3_compose, Cond.code yX3_compose cX3_compose 5 (some .boolean), Cond.fieldLink RX3 29 "GuideWords$Typesetter" "blocks" "I", Cond.constantLong RX3 37 (1000000000000000000), Cond.constantLong RX3 43 (1024), Cond.methodLink RX3 25 yX3_gather, Cond.instanceMethod yX3_gather, Cond.selects RX3 yX3_gather yX3_gather, Cond.code yX3_gather cX3_gather 10 none, Cond.methodLink RX3 58 yX0_letterOf, Cond.instanceMethod yX0_letterOf, Cond.selects RX0 yX0_letterOf yX0_letterOf, Cond.code yX0_letterOf cX0_letterOf 2 (some .int), Cond.methodLink RX0 46 yX2_firstLetter, Cond.static yX2_firstLetter, Cond.code yX2_firstLetter cX2_firstLetter 2 (some .int)]
def wsL_law0_r14 : List Cond := [Cond.methodLink RX3 68 yX3_breakBehind, Cond.static yX3_breakBehind, Cond.code yX3_breakBehind cX3_breakBehind 3 (some .int), Cond.methodLink RX3 33 yX3_weigh, Cond.instanceMethod yX3_weigh, Cond.selects RX3 yX3_weigh yX3_weigh, Cond.code yX3_weigh cX3_weigh 11 (some .int), Cond.methodLink RX3 75 yX3_placeBehind, Cond.instanceMethod yX3_placeBehind, Cond.selects RX3 yX3_placeBehind yX3_placeBehind, Cond.code yX3_placeBehind cX3_placeBehind 2 (some .int), Cond.methodLink RX3 78 yX3_weightOf, Cond.instanceMethod yX3_weightOf, Cond.selects RX3 yX3_weightOf yX3_weightOf, Cond.code yX3_weightOf cX3_weightOf 8 (some .long), Cond.methodLink RX3 39 yX3_layOut, Cond.instanceMethod yX3_layOut, Cond.selects RX3 yX3_layOut yX3_layOut, Cond.code yX3_layOut cX3_layOut 8 none, Cond.methodLink RX3 82 yX1_openEmpty, Cond.instanceMethod yX1_openEmpty, Cond.selects RX1 yX1_openEmpty yX1_openEmpty, Cond.code yX1_openEmpty cX1_openEmpty 2 none, Cond.fieldLink RX1 21 "GuideWords$Setting" "columnsOnPage" "I"]
def wsL_law0_r15 : List Cond := [Cond.fieldLink RX1 25 "GuideWords$Setting" "columnCount" "I", Cond.fieldLink RX1 28 "GuideWords$Setting" "pageCount" "I", Cond.methodLink RX3 86 yX1_addColumn, Cond.instanceMethod yX1_addColumn, Cond.selects RX1 yX1_addColumn yX1_addColumn, Cond.code yX1_addColumn cX1_addColumn 4 none, Cond.methodLink RX4 119 yX1_pagesUnlike, Cond.instanceMethod yX1_pagesUnlike, Cond.selects RX1 yX1_pagesUnlike yX1_pagesUnlike, Cond.code yX1_pagesUnlike cX1_pagesUnlike 5 (some .int), Cond.methodLink RX1 44 Lib.Math.max.name, Cond.static Lib.Math.max.name, Cond.initialized "java/lang/Math", Cond.code Lib.Math.max.name Lib.Math.max.code 2 (some .int), Cond.methodLink RX1 50 yX1_likePage, Cond.instanceMethod yX1_likePage, Cond.selects RX1 yX1_likePage yX1_likePage, Cond.code yX1_likePage cX1_likePage 7 (some .boolean), Cond.methodLink RX1 31 yX1_firstColumn, Cond.instanceMethod yX1_firstColumn, Cond.selects RX1 yX1_firstColumn yX1_firstColumn, Cond.code yX1_firstColumn cX1_firstColumn 2 (some .int), Cond.methodLink RX1 58 Lib.Math.min.name, Cond.static Lib.Math.min.name]
def wsL_law0_r16 : List Cond := [Cond.code Lib.Math.min.name Lib.Math.min.code 2 (some .int), Cond.methodLink RX1 35 yX1_endColumn, Cond.instanceMethod yX1_endColumn, Cond.selects RX1 yX1_endColumn yX1_endColumn, Cond.code yX1_endColumn cX1_endColumn 2 (some .int), Cond.methodLink RX1 54 yX1_likeColumn, Cond.instanceMethod yX1_likeColumn, Cond.selects RX1 yX1_likeColumn yX1_likeColumn, Cond.code yX1_likeColumn cX1_likeColumn 8 (some .boolean), Cond.methodLink RL 90 yX5_set_, Cond.instanceMethod yX5_set_, Cond.selects RX5 yX5_set_ yX5_set_, Cond.code yX5_set_ cX5_set_ 3 (some .int), Cond.fieldLink RX5 158 "GuideWordsModel" "blocks" "I", Cond.constantLong RX5 161 (1152921504606846976), Cond.fieldLink RX5 170 "GuideWordsModel" "setBlocks" "I", Cond.fieldLink RX5 173 "GuideWordsModel" "setColumns" "I", Cond.fieldLink RX5 176 "GuideWordsModel" "oldColumns" "I", Cond.fieldLink RX5 179 "GuideWordsModel" "setCost" "I", Cond.fieldLink RX5 182 "GuideWordsModel" "setPages" "I", Cond.fieldLink RX5 185 "GuideWordsModel" "setChanged" "I", Cond.methodLink RX5 163 yX5_makes, Cond.instanceMethod yX5_makes, Cond.selects RX5 yX5_makes yX5_makes]
def wsL_law0_r17 : List Cond := [Cond.code yX5_makes cX5_makes 6 none, Cond.methodLink RX5 166 yX5_best, Cond.instanceMethod yX5_best, Cond.selects RX5 yX5_best yX5_best, Cond.code yX5_best cX5_best 11 none, Cond.methodLink RX5 188 yX5_isAlike, Cond.instanceMethod yX5_isAlike, Cond.selects RX5 yX5_isAlike yX5_isAlike, Cond.code yX5_isAlike cX5_isAlike 11 (some .boolean), Cond.methodLink RL 91 yL_told, Cond.static yL_told, Cond.codeWith yL_told cL_told 4 (some .int) [(0, 9, 12, 13)], Cond.methodLink RL 34 yX4_told, Cond.instanceMethod yX4_told, Cond.selects RX4 yX4_told yX4_told, Cond.code yX4_told cX4_told 2 (some .int), Cond.methodLink RL 93 yX5_told, Cond.instanceMethod yX5_told, Cond.selects RX5 yX5_told yX5_told, Cond.code yX5_told cX5_told 2 (some .int), Cond.methodLink RL 94 yL_column, Cond.static yL_column, Cond.codeWith yL_column cL_column 5 (some .int) [(0, 10, 13, 29), (0, 10, 17, 13)], Cond.methodLink RL 37 yX4_column]
def wsL_law0_r18 : List Cond := [Cond.instanceMethod yX4_column, Cond.selects RX4 yX4_column yX4_column, Cond.code yX4_column cX4_column 4 (some .int), Cond.methodLink RX4 148 yX1_entryOf, Cond.instanceMethod yX1_entryOf, Cond.selects RX1 yX1_entryOf yX1_entryOf, Cond.code yX1_entryOf cX1_entryOf 2 (some .int), Cond.methodLink RX4 151 yX1_senseOf, Cond.instanceMethod yX1_senseOf, Cond.selects RX1 yX1_senseOf yX1_senseOf, Cond.code yX1_senseOf cX1_senseOf 2 (some .int), Cond.methodLink RL 96 yX5_column, Cond.instanceMethod yX5_column, Cond.selects RX5 yX5_column yX5_column, Cond.code yX5_column cX5_column 3 (some .int), Cond.methodLink RL 97 yL_where, Cond.static yL_where, Cond.codeWith yL_where cL_where 5 (some .int) [(0, 10, 13, 29)], Cond.methodLink RL 40 yX4_where, Cond.instanceMethod yX4_where, Cond.selects RX4 yX4_where yX4_where, Cond.code yX4_where cX4_where 3 (some .int), Cond.methodLink RX4 159 yX1_columnWith, Cond.instanceMethod yX1_columnWith]
def wsL_law0_r19 : List Cond := [Cond.selects RX1 yX1_columnWith yX1_columnWith, Cond.code yX1_columnWith cX1_columnWith 4 (some .int), Cond.methodLink RL 99 yX5_where, Cond.instanceMethod yX5_where, Cond.selects RX5 yX5_where yX5_where, Cond.code yX5_where cX5_where 5 (some .int), Cond.methodLink RL 100 yL_guide, Cond.static yL_guide, Cond.codeWith yL_guide cL_guide 5 (some .int) [(0, 10, 13, 29), (0, 10, 17, 13)], Cond.methodLink RL 43 yX4_guide, Cond.instanceMethod yX4_guide, Cond.selects RX4 yX4_guide yX4_guide, Cond.code yX4_guide cX4_guide 3 (some .int), Cond.methodLink RX4 166 yX1_firstGuide, Cond.instanceMethod yX1_firstGuide, Cond.selects RX1 yX1_firstGuide yX1_firstGuide, Cond.code yX1_firstGuide cX1_firstGuide 5 (some .int), Cond.methodLink RX1 38 yX1_senseOf, Cond.methodLink RX1 41 yX1_entryOf, Cond.methodLink RX4 169 yX1_lastGuide, Cond.instanceMethod yX1_lastGuide, Cond.selects RX1 yX1_lastGuide yX1_lastGuide, Cond.code yX1_lastGuide cX1_lastGuide 4 (some .int), Cond.methodLink RL 102 yX5_guide]
def wsL_law0_r20 : List Cond := [Cond.instanceMethod yX5_guide, Cond.selects RX5 yX5_guide yX5_guide, Cond.code yX5_guide cX5_guide 8 (some .int), Cond.methodLink RL 103 yL_thumb, Cond.static yL_thumb, Cond.codeWith yL_thumb cL_thumb 5 (some .int) [(0, 10, 13, 13)], Cond.methodLink RL 46 yX4_thumb, Cond.instanceMethod yX4_thumb, Cond.selects RX4 yX4_thumb yX4_thumb, Cond.code yX4_thumb cX4_thumb 7 (some .int), Cond.methodLink RX4 176 yX0_sumLines, Cond.instanceMethod yX0_sumLines, Cond.selects RX0 yX0_sumLines yX0_sumLines, Cond.code yX0_sumLines cX0_sumLines 9 (some .int), Cond.methodLink RX0 60 yX0_letterOf, Cond.methodLink RL 105 yX5_thumb, Cond.instanceMethod yX5_thumb, Cond.selects RX5 yX5_thumb yX5_thumb, Cond.code yX5_thumb cX5_thumb 6 (some .int), Cond.constantLong RX5 195 (2), Cond.methodLink RX5 191 yX5_counts, Cond.instanceMethod yX5_counts, Cond.selects RX5 yX5_counts yX5_counts, Cond.code yX5_counts cX5_counts 4 (some .int)]
def wsL_law0_r21 : List Cond := [Cond.methodLink RL 106 yX4_volume, Cond.instanceMethod yX4_volume, Cond.selects RX4 yX4_volume yX4_volume, Cond.code yX4_volume cX4_volume 8 (some .int), Cond.methodLink RX4 180 Lib.Math.abs.name, Cond.static Lib.Math.abs.name, Cond.code Lib.Math.abs.name Lib.Math.abs.code 1 (some .int), Cond.methodLink RL 109 yX5_volume, Cond.instanceMethod yX5_volume, Cond.selects RX5 yX5_volume yX5_volume, Cond.code yX5_volume cX5_volume 8 (some .int), Cond.methodLink RL 110 yX4_count, Cond.instanceMethod yX4_count, Cond.selects RX4 yX4_count yX4_count, Cond.code yX4_count cX4_count 2 (some .int), Cond.methodLink RL 113 yX5_count, Cond.instanceMethod yX5_count, Cond.selects RX5 yX5_count yX5_count, Cond.code yX5_count cX5_count 2 (some .int)]
def wsL_law0 : List Cond := (wsL_law0_r1 ++ (wsL_law0_r2 ++ (wsL_law0_r3 ++ (wsL_law0_r4 ++ (wsL_law0_r5 ++ (wsL_law0_r6 ++ (wsL_law0_r7 ++ (wsL_law0_r8 ++ (wsL_law0_r9 ++ (wsL_law0_r10 ++ (wsL_law0_r11 ++ (wsL_law0_r12 ++ (wsL_law0_r13 ++ (wsL_law0_r14 ++ (wsL_law0_r15 ++ (wsL_law0_r16 ++ (wsL_law0_r17 ++ (wsL_law0_r18 ++ (wsL_law0_r19 ++ (wsL_law0_r20 ++ wsL_law0_r21)))))))))))))))))))) ++ wsX40 ++ wsX50 ++ wsX20 ++ wsX00 ++ wsX30 ++ wsX10 ++ ([] : List Cond)
def wsL_law : List Cond := wsL_law0 ++ (vx_atS RX4 56 "java/lang/IllegalArgumentException" ["java/lang/RuntimeException", "java/lang/Exception"]).filter goodWord ++ (vx_atS RX4 144 "java/lang/IndexOutOfBoundsException" ["java/lang/RuntimeException", "java/lang/Exception"]).filter goodWord
end
section
theorem dX0_init_0 : decode cX0_init 0 = .ok (.aload_n 0, 1) := by decide +kernel
theorem dX0_init_1 : decode cX0_init 1 = .ok (.invokespecial 3, 3) := by decide +kernel
theorem dX0_init_4 : decode cX0_init 4 = .ok (.aload_n 0, 1) := by decide +kernel
theorem dX0_init_5 : decode cX0_init 5 = .ok (.sipush 150, 3) := by decide +kernel
theorem dX0_init_8 : decode cX0_init 8 = .ok (.newarray .long, 2) := by decide +kernel
theorem dX0_init_10 : decode cX0_init 10 = .ok (.putfield 9, 3) := by decide +kernel
theorem dX0_init_13 : decode cX0_init 13 = .ok (.aload_n 0, 1) := by decide +kernel
theorem dX0_init_14 : decode cX0_init 14 = .ok (.sipush 150, 3) := by decide +kernel
theorem dX0_init_17 : decode cX0_init 17 = .ok (.newarray .long, 2) := by decide +kernel
theorem dX0_init_19 : decode cX0_init 19 = .ok (.putfield 15, 3) := by decide +kernel
theorem dX0_init_22 : decode cX0_init 22 = .ok (.aload_n 0, 1) := by decide +kernel
theorem dX0_init_23 : decode cX0_init 23 = .ok (.sipush 150, 3) := by decide +kernel
theorem dX0_init_26 : decode cX0_init 26 = .ok (.newarray .int, 2) := by decide +kernel
theorem dX0_init_28 : decode cX0_init 28 = .ok (.putfield 18, 3) := by decide +kernel
theorem dX0_init_31 : decode cX0_init 31 = .ok (.aload_n 0, 1) := by decide +kernel
theorem dX0_init_32 : decode cX0_init 32 = .ok (.sipush 900, 3) := by decide +kernel
theorem dX0_init_35 : decode cX0_init 35 = .ok (.newarray .int, 2) := by decide +kernel
theorem dX0_init_37 : decode cX0_init 37 = .ok (.putfield 22, 3) := by decide +kernel
theorem dX0_init_40 : decode cX0_init 40 = .ok (.aload_n 0, 1) := by decide +kernel
theorem dX0_init_41 : decode cX0_init 41 = .ok (.sipush 150, 3) := by decide +kernel
theorem dX0_init_44 : decode cX0_init 44 = .ok (.newarray .boolean, 2) := by decide +kernel
theorem dX0_init_46 : decode cX0_init 46 = .ok (.putfield 25, 3) := by decide +kernel
theorem dX0_init_49 : decode cX0_init 49 = .ok (.aload_n 0, 1) := by decide +kernel
theorem dX0_init_50 : decode cX0_init 50 = .ok (.sipush 150, 3) := by decide +kernel
theorem dX0_init_53 : decode cX0_init 53 = .ok (.newarray .int, 2) := by decide +kernel
theorem dX0_init_55 : decode cX0_init 55 = .ok (.putfield 29, 3) := by decide +kernel
theorem dX0_init_58 : decode cX0_init 58 = .ok (.aload_n 0, 1) := by decide +kernel
theorem dX0_init_59 : decode cX0_init 59 = .ok (.sipush 150, 3) := by decide +kernel
theorem dX0_init_62 : decode cX0_init 62 = .ok (.newarray .int, 2) := by decide +kernel
theorem dX0_init_64 : decode cX0_init 64 = .ok (.putfield 32, 3) := by decide +kernel
theorem dX0_init_67 : decode cX0_init 67 = .ok (.return_, 1) := by decide +kernel
set_option maxRecDepth 20000 in
theorem ggX0_admit_X0_headsBelow : GoodIn wsX0_admit wsX0_headsBelow := goodIn_r _ [12, 6, 2, 7, 13, 14, 15, 16, 17, 18, 19, 20, 21] (by decide +kernel) (by decide +kernel)
set_option maxRecDepth 20000 in
theorem gX0_admit_X0_headsBelow : GoodIn wsX0_admit (wsV RX0 39 RX0 yX0_headsBelow wsX0_headsBelow) := goodIn_app (goodIn_of _ (by decide +kernel)) ggX0_admit_X0_headsBelow
theorem dX0_admit_0 : decode cX0_admit 0 = .ok (.aload_n 0, 1) := by decide +kernel
theorem dX0_admit_1 : decode cX0_admit 1 = .ok (.getfield 35, 3) := by decide +kernel
theorem dX0_admit_4 : decode cX0_admit 4 = .ok (.sipush 150, 3) := by decide +kernel
theorem dX0_admit_7 : decode cX0_admit 7 = .ok (.if_icmp .lt 6, 3) := by decide +kernel
theorem dX0_admit_10 : decode cX0_admit 10 = .ok (.bipush (-3), 2) := by decide +kernel
theorem dX0_admit_12 : decode cX0_admit 12 = .ok (.ireturn, 1) := by decide +kernel
theorem dX0_admit_13 : decode cX0_admit 13 = .ok (.aload_n 0, 1) := by decide +kernel
theorem dX0_admit_14 : decode cX0_admit 14 = .ok (.getfield 35, 3) := by decide +kernel
theorem dX0_admit_17 : decode cX0_admit 17 = .ok (.istore 7, 2) := by decide +kernel
theorem dX0_admit_19 : decode cX0_admit 19 = .ok (.aload_n 0, 1) := by decide +kernel
theorem dX0_admit_20 : decode cX0_admit 20 = .ok (.getfield 9, 3) := by decide +kernel
theorem dX0_admit_23 : decode cX0_admit 23 = .ok (.iload 7, 2) := by decide +kernel
theorem dX0_admit_25 : decode cX0_admit 25 = .ok (.lload_n 1, 1) := by decide +kernel
theorem dX0_admit_26 : decode cX0_admit 26 = .ok (.lastore, 1) := by decide +kernel
theorem dX0_admit_27 : decode cX0_admit 27 = .ok (.aload_n 0, 1) := by decide +kernel
theorem dX0_admit_28 : decode cX0_admit 28 = .ok (.getfield 15, 3) := by decide +kernel
theorem dX0_admit_31 : decode cX0_admit 31 = .ok (.iload 7, 2) := by decide +kernel
theorem dX0_admit_33 : decode cX0_admit 33 = .ok (.lload_n 3, 1) := by decide +kernel
theorem dX0_admit_34 : decode cX0_admit 34 = .ok (.lastore, 1) := by decide +kernel
theorem dX0_admit_35 : decode cX0_admit 35 = .ok (.aload_n 0, 1) := by decide +kernel
theorem dX0_admit_36 : decode cX0_admit 36 = .ok (.getfield 18, 3) := by decide +kernel
theorem dX0_admit_39 : decode cX0_admit 39 = .ok (.iload 7, 2) := by decide +kernel
theorem dX0_admit_41 : decode cX0_admit 41 = .ok (.iload 6, 2) := by decide +kernel
theorem dX0_admit_43 : decode cX0_admit 43 = .ok (.iastore, 1) := by decide +kernel
theorem dX0_admit_44 : decode cX0_admit 44 = .ok (.iconst 0, 1) := by decide +kernel
theorem dX0_admit_45 : decode cX0_admit 45 = .ok (.istore 8, 2) := by decide +kernel
theorem dX0_admit_47 : decode cX0_admit 47 = .ok (.iload 8, 2) := by decide +kernel
theorem dX0_admit_49 : decode cX0_admit 49 = .ok (.iload 6, 2) := by decide +kernel
theorem dX0_admit_51 : decode cX0_admit 51 = .ok (.if_icmp .ge 27, 3) := by decide +kernel
theorem dX0_admit_54 : decode cX0_admit 54 = .ok (.aload_n 0, 1) := by decide +kernel
theorem dX0_admit_55 : decode cX0_admit 55 = .ok (.getfield 22, 3) := by decide +kernel
theorem dX0_admit_58 : decode cX0_admit 58 = .ok (.iload 7, 2) := by decide +kernel
theorem dX0_admit_60 : decode cX0_admit 60 = .ok (.bipush 6, 2) := by decide +kernel
theorem dX0_admit_62 : decode cX0_admit 62 = .ok (.imul, 1) := by decide +kernel
theorem dX0_admit_63 : decode cX0_admit 63 = .ok (.iload 8, 2) := by decide +kernel
theorem dX0_admit_65 : decode cX0_admit 65 = .ok (.iadd, 1) := by decide +kernel
theorem dX0_admit_66 : decode cX0_admit 66 = .ok (.aload 5, 2) := by decide +kernel
theorem dX0_admit_68 : decode cX0_admit 68 = .ok (.iload 8, 2) := by decide +kernel
theorem dX0_admit_70 : decode cX0_admit 70 = .ok (.iaload, 1) := by decide +kernel
theorem dX0_admit_71 : decode cX0_admit 71 = .ok (.iastore, 1) := by decide +kernel
theorem dX0_admit_72 : decode cX0_admit 72 = .ok (.iinc 8 1, 3) := by decide +kernel
theorem dX0_admit_75 : decode cX0_admit 75 = .ok (.goto (-28), 3) := by decide +kernel
theorem dX0_admit_78 : decode cX0_admit 78 = .ok (.aload_n 0, 1) := by decide +kernel
theorem dX0_admit_79 : decode cX0_admit 79 = .ok (.lload_n 1, 1) := by decide +kernel
theorem dX0_admit_80 : decode cX0_admit 80 = .ok (.lconst 1, 1) := by decide +kernel
theorem dX0_admit_81 : decode cX0_admit 81 = .ok (.ladd, 1) := by decide +kernel
theorem dX0_admit_82 : decode cX0_admit 82 = .ok (.invokevirtual 39, 3) := by decide +kernel
theorem dX0_admit_85 : decode cX0_admit 85 = .ok (.istore 8, 2) := by decide +kernel
theorem dX0_admit_87 : decode cX0_admit 87 = .ok (.aload_n 0, 1) := by decide +kernel
theorem dX0_admit_88 : decode cX0_admit 88 = .ok (.getfield 43, 3) := by decide +kernel
theorem dX0_admit_91 : decode cX0_admit 91 = .ok (.istore 9, 2) := by decide +kernel
theorem dX0_admit_93 : decode cX0_admit 93 = .ok (.iload 9, 2) := by decide +kernel
theorem dX0_admit_95 : decode cX0_admit 95 = .ok (.iload 8, 2) := by decide +kernel
theorem dX0_admit_97 : decode cX0_admit 97 = .ok (.if_icmp .le 25, 3) := by decide +kernel
theorem dX0_admit_100 : decode cX0_admit 100 = .ok (.aload_n 0, 1) := by decide +kernel
theorem dX0_admit_101 : decode cX0_admit 101 = .ok (.getfield 29, 3) := by decide +kernel
theorem dX0_admit_104 : decode cX0_admit 104 = .ok (.iload 9, 2) := by decide +kernel
theorem dX0_admit_106 : decode cX0_admit 106 = .ok (.aload_n 0, 1) := by decide +kernel
theorem dX0_admit_107 : decode cX0_admit 107 = .ok (.getfield 29, 3) := by decide +kernel
theorem dX0_admit_110 : decode cX0_admit 110 = .ok (.iload 9, 2) := by decide +kernel
theorem dX0_admit_112 : decode cX0_admit 112 = .ok (.iconst 1, 1) := by decide +kernel
theorem dX0_admit_113 : decode cX0_admit 113 = .ok (.isub, 1) := by decide +kernel
theorem dX0_admit_114 : decode cX0_admit 114 = .ok (.iaload, 1) := by decide +kernel
theorem dX0_admit_115 : decode cX0_admit 115 = .ok (.iastore, 1) := by decide +kernel
theorem dX0_admit_116 : decode cX0_admit 116 = .ok (.iinc 9 (-1), 3) := by decide +kernel
theorem dX0_admit_119 : decode cX0_admit 119 = .ok (.goto (-26), 3) := by decide +kernel
theorem dX0_admit_122 : decode cX0_admit 122 = .ok (.aload_n 0, 1) := by decide +kernel
theorem dX0_admit_123 : decode cX0_admit 123 = .ok (.getfield 29, 3) := by decide +kernel
theorem dX0_admit_126 : decode cX0_admit 126 = .ok (.iload 8, 2) := by decide +kernel
theorem dX0_admit_128 : decode cX0_admit 128 = .ok (.iload 7, 2) := by decide +kernel
theorem dX0_admit_130 : decode cX0_admit 130 = .ok (.iastore, 1) := by decide +kernel
theorem dX0_admit_131 : decode cX0_admit 131 = .ok (.aload_n 0, 1) := by decide +kernel
theorem dX0_admit_132 : decode cX0_admit 132 = .ok (.dup, 1) := by decide +kernel
theorem dX0_admit_133 : decode cX0_admit 133 = .ok (.getfield 43, 3) := by decide +kernel
theorem dX0_admit_136 : decode cX0_admit 136 = .ok (.iconst 1, 1) := by decide +kernel
theorem dX0_admit_137 : decode cX0_admit 137 = .ok (.iadd, 1) := by decide +kernel
theorem dX0_admit_138 : decode cX0_admit 138 = .ok (.putfield 43, 3) := by decide +kernel
theorem dX0_admit_141 : decode cX0_admit 141 = .ok (.aload_n 0, 1) := by decide +kernel
theorem dX0_admit_142 : decode cX0_admit 142 = .ok (.dup, 1) := by decide +kernel
theorem dX0_admit_143 : decode cX0_admit 143 = .ok (.getfield 35, 3) := by decide +kernel
theorem dX0_admit_146 : decode cX0_admit 146 = .ok (.iconst 1, 1) := by decide +kernel
theorem dX0_admit_147 : decode cX0_admit 147 = .ok (.iadd, 1) := by decide +kernel
theorem dX0_admit_148 : decode cX0_admit 148 = .ok (.putfield 35, 3) := by decide +kernel
theorem dX0_admit_151 : decode cX0_admit 151 = .ok (.iload 7, 2) := by decide +kernel
theorem dX0_admit_153 : decode cX0_admit 153 = .ok (.ireturn, 1) := by decide +kernel
theorem dX0_remove_0 : decode cX0_remove 0 = .ok (.aload_n 0, 1) := by decide +kernel
theorem dX0_remove_1 : decode cX0_remove 1 = .ok (.getfield 25, 3) := by decide +kernel
theorem dX0_remove_4 : decode cX0_remove 4 = .ok (.iload_n 1, 1) := by decide +kernel
theorem dX0_remove_5 : decode cX0_remove 5 = .ok (.baload, 1) := by decide +kernel
theorem dX0_remove_6 : decode cX0_remove 6 = .ok (.ifCond .eq 5, 3) := by decide +kernel
theorem dX0_remove_9 : decode cX0_remove 9 = .ok (.iconst 0, 1) := by decide +kernel
theorem dX0_remove_10 : decode cX0_remove 10 = .ok (.ireturn, 1) := by decide +kernel
theorem dX0_remove_11 : decode cX0_remove 11 = .ok (.aload_n 0, 1) := by decide +kernel
theorem dX0_remove_12 : decode cX0_remove 12 = .ok (.getfield 25, 3) := by decide +kernel
theorem dX0_remove_15 : decode cX0_remove 15 = .ok (.iload_n 1, 1) := by decide +kernel
theorem dX0_remove_16 : decode cX0_remove 16 = .ok (.iconst 1, 1) := by decide +kernel
theorem dX0_remove_17 : decode cX0_remove 17 = .ok (.bastore, 1) := by decide +kernel
theorem dX0_remove_18 : decode cX0_remove 18 = .ok (.iconst 0, 1) := by decide +kernel
theorem dX0_remove_19 : decode cX0_remove 19 = .ok (.istore_n 2, 1) := by decide +kernel
theorem dX0_remove_20 : decode cX0_remove 20 = .ok (.iconst 0, 1) := by decide +kernel
theorem dX0_remove_21 : decode cX0_remove 21 = .ok (.istore_n 3, 1) := by decide +kernel
theorem dX0_remove_22 : decode cX0_remove 22 = .ok (.iload_n 3, 1) := by decide +kernel
theorem dX0_remove_23 : decode cX0_remove 23 = .ok (.aload_n 0, 1) := by decide +kernel
theorem dX0_remove_24 : decode cX0_remove 24 = .ok (.getfield 43, 3) := by decide +kernel
theorem dX0_remove_27 : decode cX0_remove 27 = .ok (.if_icmp .ge 34, 3) := by decide +kernel
theorem dX0_remove_30 : decode cX0_remove 30 = .ok (.aload_n 0, 1) := by decide +kernel
theorem dX0_remove_31 : decode cX0_remove 31 = .ok (.getfield 29, 3) := by decide +kernel
theorem dX0_remove_34 : decode cX0_remove 34 = .ok (.iload_n 3, 1) := by decide +kernel
theorem dX0_remove_35 : decode cX0_remove 35 = .ok (.iaload, 1) := by decide +kernel
theorem dX0_remove_36 : decode cX0_remove 36 = .ok (.iload_n 1, 1) := by decide +kernel
theorem dX0_remove_37 : decode cX0_remove 37 = .ok (.if_icmp .eq 18, 3) := by decide +kernel
theorem dX0_remove_40 : decode cX0_remove 40 = .ok (.aload_n 0, 1) := by decide +kernel
theorem dX0_remove_41 : decode cX0_remove 41 = .ok (.getfield 29, 3) := by decide +kernel
theorem dX0_remove_44 : decode cX0_remove 44 = .ok (.iload_n 2, 1) := by decide +kernel
theorem dX0_remove_45 : decode cX0_remove 45 = .ok (.aload_n 0, 1) := by decide +kernel
theorem dX0_remove_46 : decode cX0_remove 46 = .ok (.getfield 29, 3) := by decide +kernel
theorem dX0_remove_49 : decode cX0_remove 49 = .ok (.iload_n 3, 1) := by decide +kernel
theorem dX0_remove_50 : decode cX0_remove 50 = .ok (.iaload, 1) := by decide +kernel
theorem dX0_remove_51 : decode cX0_remove 51 = .ok (.iastore, 1) := by decide +kernel
theorem dX0_remove_52 : decode cX0_remove 52 = .ok (.iinc 2 1, 3) := by decide +kernel
theorem dX0_remove_55 : decode cX0_remove 55 = .ok (.iinc 3 1, 3) := by decide +kernel
theorem dX0_remove_58 : decode cX0_remove 58 = .ok (.goto (-36), 3) := by decide +kernel
theorem dX0_remove_61 : decode cX0_remove 61 = .ok (.aload_n 0, 1) := by decide +kernel
theorem dX0_remove_62 : decode cX0_remove 62 = .ok (.iload_n 2, 1) := by decide +kernel
theorem dX0_remove_63 : decode cX0_remove 63 = .ok (.putfield 43, 3) := by decide +kernel
theorem dX0_remove_66 : decode cX0_remove 66 = .ok (.iconst 1, 1) := by decide +kernel
theorem dX0_remove_67 : decode cX0_remove 67 = .ok (.ireturn, 1) := by decide +kernel
theorem dX0_inOrder_0 : decode cX0_inOrder 0 = .ok (.iload_n 1, 1) := by decide +kernel
theorem dX0_inOrder_1 : decode cX0_inOrder 1 = .ok (.ifCond .lt 11, 3) := by decide +kernel
theorem dX0_inOrder_4 : decode cX0_inOrder 4 = .ok (.iload_n 1, 1) := by decide +kernel
theorem dX0_inOrder_5 : decode cX0_inOrder 5 = .ok (.aload_n 0, 1) := by decide +kernel
theorem dX0_inOrder_6 : decode cX0_inOrder 6 = .ok (.getfield 43, 3) := by decide +kernel
theorem dX0_inOrder_9 : decode cX0_inOrder 9 = .ok (.if_icmp .lt 7, 3) := by decide +kernel
theorem dX0_inOrder_12 : decode cX0_inOrder 12 = .ok (.iconst (-1), 1) := by decide +kernel
theorem dX0_inOrder_13 : decode cX0_inOrder 13 = .ok (.goto 9, 3) := by decide +kernel
theorem dX0_inOrder_16 : decode cX0_inOrder 16 = .ok (.aload_n 0, 1) := by decide +kernel
theorem dX0_inOrder_17 : decode cX0_inOrder 17 = .ok (.getfield 29, 3) := by decide +kernel
theorem dX0_inOrder_20 : decode cX0_inOrder 20 = .ok (.iload_n 1, 1) := by decide +kernel
theorem dX0_inOrder_21 : decode cX0_inOrder 21 = .ok (.iaload, 1) := by decide +kernel
theorem dX0_inOrder_22 : decode cX0_inOrder 22 = .ok (.ireturn, 1) := by decide +kernel
set_option maxRecDepth 20000 in
theorem ggX0_letterOf_X2_firstLetter : GoodIn wsX0_letterOf wsX2_firstLetter := goodIn_r _ [5] (by decide +kernel) (by decide +kernel)
set_option maxRecDepth 20000 in
theorem gX0_letterOf_X2_firstLetter : GoodIn wsX0_letterOf (va_wsS RX0 46 yX2_firstLetter wsX2_firstLetter) := goodIn_app (goodIn_of _ (by decide +kernel)) ggX0_letterOf_X2_firstLetter
theorem dX0_letterOf_0 : decode cX0_letterOf 0 = .ok (.aload_n 0, 1) := by decide +kernel
theorem dX0_letterOf_1 : decode cX0_letterOf 1 = .ok (.getfield 9, 3) := by decide +kernel
theorem dX0_letterOf_4 : decode cX0_letterOf 4 = .ok (.iload_n 1, 1) := by decide +kernel
theorem dX0_letterOf_5 : decode cX0_letterOf 5 = .ok (.laload, 1) := by decide +kernel
theorem dX0_letterOf_6 : decode cX0_letterOf 6 = .ok (.invokestatic 46, 3) := by decide +kernel
theorem dX0_letterOf_9 : decode cX0_letterOf 9 = .ok (.ireturn, 1) := by decide +kernel
set_option maxRecDepth 20000 in
theorem ggX0_follow_J7_fill_53178 : GoodIn wsX0_follow wsJ7_fill_53178 := goodIn_r _ [6] (by decide +kernel) (by decide +kernel)
set_option maxRecDepth 20000 in
theorem gX0_follow_J7_fill_53178 : GoodIn wsX0_follow (va_wsS RX0 51 yJ7_fill_53178 wsJ7_fill_53178) := goodIn_app (goodIn_of _ (by decide +kernel)) ggX0_follow_J7_fill_53178
set_option maxRecDepth 20000 in
theorem ggX0_follow_X0_firstWith : GoodIn wsX0_follow wsX0_firstWith := goodIn_r _ [11, 12, 13, 14, 15, 16, 17, 10, 18, 19, 20, 21, 22, 23, 24, 25, 26, 27] (by decide +kernel) (by decide +kernel)
set_option maxRecDepth 20000 in
theorem gX0_follow_X0_firstWith : GoodIn wsX0_follow (wsV RX0 57 RX0 yX0_firstWith wsX0_firstWith) := goodIn_app (goodIn_of _ (by decide +kernel)) ggX0_follow_X0_firstWith
theorem dX0_follow_0 : decode cX0_follow 0 = .ok (.aload_n 0, 1) := by decide +kernel
theorem dX0_follow_1 : decode cX0_follow 1 = .ok (.getfield 32, 3) := by decide +kernel
theorem dX0_follow_4 : decode cX0_follow 4 = .ok (.iconst 0, 1) := by decide +kernel
theorem dX0_follow_5 : decode cX0_follow 5 = .ok (.invokestatic 51, 3) := by decide +kernel
theorem dX0_follow_8 : decode cX0_follow 8 = .ok (.iload_n 1, 1) := by decide +kernel
theorem dX0_follow_9 : decode cX0_follow 9 = .ok (.istore_n 2, 1) := by decide +kernel
theorem dX0_follow_10 : decode cX0_follow 10 = .ok (.iconst 0, 1) := by decide +kernel
theorem dX0_follow_11 : decode cX0_follow 11 = .ok (.istore_n 3, 1) := by decide +kernel
theorem dX0_follow_12 : decode cX0_follow 12 = .ok (.iload_n 3, 1) := by decide +kernel
theorem dX0_follow_13 : decode cX0_follow 13 = .ok (.sipush 150, 3) := by decide +kernel
theorem dX0_follow_16 : decode cX0_follow 16 = .ok (.if_icmp .gt 64, 3) := by decide +kernel
theorem dX0_follow_19 : decode cX0_follow 19 = .ok (.aload_n 0, 1) := by decide +kernel
theorem dX0_follow_20 : decode cX0_follow 20 = .ok (.getfield 15, 3) := by decide +kernel
theorem dX0_follow_23 : decode cX0_follow 23 = .ok (.iload_n 2, 1) := by decide +kernel
theorem dX0_follow_24 : decode cX0_follow 24 = .ok (.laload, 1) := by decide +kernel
theorem dX0_follow_25 : decode cX0_follow 25 = .ok (.lconst 0, 1) := by decide +kernel
theorem dX0_follow_26 : decode cX0_follow 26 = .ok (.lcmp, 1) := by decide +kernel
theorem dX0_follow_27 : decode cX0_follow 27 = .ok (.ifCond .ne 5, 3) := by decide +kernel
theorem dX0_follow_30 : decode cX0_follow 30 = .ok (.iload_n 2, 1) := by decide +kernel
theorem dX0_follow_31 : decode cX0_follow 31 = .ok (.ireturn, 1) := by decide +kernel
theorem dX0_follow_32 : decode cX0_follow 32 = .ok (.aload_n 0, 1) := by decide +kernel
theorem dX0_follow_33 : decode cX0_follow 33 = .ok (.getfield 32, 3) := by decide +kernel
theorem dX0_follow_36 : decode cX0_follow 36 = .ok (.iload_n 2, 1) := by decide +kernel
theorem dX0_follow_37 : decode cX0_follow 37 = .ok (.iaload, 1) := by decide +kernel
theorem dX0_follow_38 : decode cX0_follow 38 = .ok (.ifCond .eq 6, 3) := by decide +kernel
theorem dX0_follow_41 : decode cX0_follow 41 = .ok (.bipush (-2), 2) := by decide +kernel
theorem dX0_follow_43 : decode cX0_follow 43 = .ok (.ireturn, 1) := by decide +kernel
theorem dX0_follow_44 : decode cX0_follow 44 = .ok (.aload_n 0, 1) := by decide +kernel
theorem dX0_follow_45 : decode cX0_follow 45 = .ok (.getfield 32, 3) := by decide +kernel
theorem dX0_follow_48 : decode cX0_follow 48 = .ok (.iload_n 2, 1) := by decide +kernel
theorem dX0_follow_49 : decode cX0_follow 49 = .ok (.iconst 1, 1) := by decide +kernel
theorem dX0_follow_50 : decode cX0_follow 50 = .ok (.iastore, 1) := by decide +kernel
theorem dX0_follow_51 : decode cX0_follow 51 = .ok (.aload_n 0, 1) := by decide +kernel
theorem dX0_follow_52 : decode cX0_follow 52 = .ok (.aload_n 0, 1) := by decide +kernel
theorem dX0_follow_53 : decode cX0_follow 53 = .ok (.getfield 15, 3) := by decide +kernel
theorem dX0_follow_56 : decode cX0_follow 56 = .ok (.iload_n 2, 1) := by decide +kernel
theorem dX0_follow_57 : decode cX0_follow 57 = .ok (.laload, 1) := by decide +kernel
theorem dX0_follow_58 : decode cX0_follow 58 = .ok (.invokevirtual 57, 3) := by decide +kernel
theorem dX0_follow_61 : decode cX0_follow 61 = .ok (.istore 4, 2) := by decide +kernel
theorem dX0_follow_63 : decode cX0_follow 63 = .ok (.iload 4, 2) := by decide +kernel
theorem dX0_follow_65 : decode cX0_follow 65 = .ok (.iconst (-1), 1) := by decide +kernel
theorem dX0_follow_66 : decode cX0_follow 66 = .ok (.if_icmp .ne 5, 3) := by decide +kernel
theorem dX0_follow_69 : decode cX0_follow 69 = .ok (.iconst (-1), 1) := by decide +kernel
theorem dX0_follow_70 : decode cX0_follow 70 = .ok (.ireturn, 1) := by decide +kernel
theorem dX0_follow_71 : decode cX0_follow 71 = .ok (.iload 4, 2) := by decide +kernel
theorem dX0_follow_73 : decode cX0_follow 73 = .ok (.istore_n 2, 1) := by decide +kernel
theorem dX0_follow_74 : decode cX0_follow 74 = .ok (.iinc 3 1, 3) := by decide +kernel
theorem dX0_follow_77 : decode cX0_follow 77 = .ok (.goto (-65), 3) := by decide +kernel
theorem dX0_follow_80 : decode cX0_follow 80 = .ok (.bipush (-2), 2) := by decide +kernel
theorem dX0_follow_82 : decode cX0_follow 82 = .ok (.ireturn, 1) := by decide +kernel
set_option maxRecDepth 20000 in
theorem ggX0_sumLines_J7_fill_53178 : GoodIn wsX0_sumLines wsJ7_fill_53178 := goodIn_r _ [8] (by decide +kernel) (by decide +kernel)
set_option maxRecDepth 20000 in
theorem gX0_sumLines_J7_fill_53178 : GoodIn wsX0_sumLines (va_wsS RX0 51 yJ7_fill_53178 wsJ7_fill_53178) := goodIn_app (goodIn_of _ (by decide +kernel)) ggX0_sumLines_J7_fill_53178
set_option maxRecDepth 20000 in
theorem ggX0_sumLines_X0_letterOf : GoodIn wsX0_sumLines wsX0_letterOf := goodIn_r _ [13, 14, 15, 16, 17, 18, 19, 20, 21, 22, 23, 24, 25, 26, 27] (by decide +kernel) (by decide +kernel)
set_option maxRecDepth 20000 in
theorem gX0_sumLines_X0_letterOf : GoodIn wsX0_sumLines (wsV RX0 60 RX0 yX0_letterOf wsX0_letterOf) := goodIn_app (goodIn_of _ (by decide +kernel)) ggX0_sumLines_X0_letterOf
theorem dX0_sumLines_0 : decode cX0_sumLines 0 = .ok (.aload_n 1, 1) := by decide +kernel
theorem dX0_sumLines_1 : decode cX0_sumLines 1 = .ok (.iconst 0, 1) := by decide +kernel
theorem dX0_sumLines_2 : decode cX0_sumLines 2 = .ok (.invokestatic 51, 3) := by decide +kernel
theorem dX0_sumLines_5 : decode cX0_sumLines 5 = .ok (.iconst 0, 1) := by decide +kernel
theorem dX0_sumLines_6 : decode cX0_sumLines 6 = .ok (.istore_n 3, 1) := by decide +kernel
theorem dX0_sumLines_7 : decode cX0_sumLines 7 = .ok (.iconst 0, 1) := by decide +kernel
theorem dX0_sumLines_8 : decode cX0_sumLines 8 = .ok (.istore 4, 2) := by decide +kernel
theorem dX0_sumLines_10 : decode cX0_sumLines 10 = .ok (.iload 4, 2) := by decide +kernel
theorem dX0_sumLines_12 : decode cX0_sumLines 12 = .ok (.aload_n 0, 1) := by decide +kernel
theorem dX0_sumLines_13 : decode cX0_sumLines 13 = .ok (.getfield 43, 3) := by decide +kernel
theorem dX0_sumLines_16 : decode cX0_sumLines 16 = .ok (.if_icmp .ge 93, 3) := by decide +kernel
theorem dX0_sumLines_19 : decode cX0_sumLines 19 = .ok (.aload_n 0, 1) := by decide +kernel
theorem dX0_sumLines_20 : decode cX0_sumLines 20 = .ok (.getfield 29, 3) := by decide +kernel
theorem dX0_sumLines_23 : decode cX0_sumLines 23 = .ok (.iload 4, 2) := by decide +kernel
theorem dX0_sumLines_25 : decode cX0_sumLines 25 = .ok (.iaload, 1) := by decide +kernel
theorem dX0_sumLines_26 : decode cX0_sumLines 26 = .ok (.istore 5, 2) := by decide +kernel
theorem dX0_sumLines_28 : decode cX0_sumLines 28 = .ok (.aload_n 0, 1) := by decide +kernel
theorem dX0_sumLines_29 : decode cX0_sumLines 29 = .ok (.iload 5, 2) := by decide +kernel
theorem dX0_sumLines_31 : decode cX0_sumLines 31 = .ok (.invokevirtual 60, 3) := by decide +kernel
theorem dX0_sumLines_34 : decode cX0_sumLines 34 = .ok (.istore 6, 2) := by decide +kernel
theorem dX0_sumLines_36 : decode cX0_sumLines 36 = .ok (.aload_n 1, 1) := by decide +kernel
theorem dX0_sumLines_37 : decode cX0_sumLines 37 = .ok (.iload 6, 2) := by decide +kernel
theorem dX0_sumLines_39 : decode cX0_sumLines 39 = .ok (.iaload, 1) := by decide +kernel
theorem dX0_sumLines_40 : decode cX0_sumLines 40 = .ok (.ifCond .ne 7, 3) := by decide +kernel
theorem dX0_sumLines_43 : decode cX0_sumLines 43 = .ok (.iload_n 2, 1) := by decide +kernel
theorem dX0_sumLines_44 : decode cX0_sumLines 44 = .ok (.goto 4, 3) := by decide +kernel
theorem dX0_sumLines_47 : decode cX0_sumLines 47 = .ok (.iconst 0, 1) := by decide +kernel
theorem dX0_sumLines_48 : decode cX0_sumLines 48 = .ok (.istore 7, 2) := by decide +kernel
theorem dX0_sumLines_50 : decode cX0_sumLines 50 = .ok (.iconst 0, 1) := by decide +kernel
theorem dX0_sumLines_51 : decode cX0_sumLines 51 = .ok (.istore 8, 2) := by decide +kernel
theorem dX0_sumLines_53 : decode cX0_sumLines 53 = .ok (.iload 8, 2) := by decide +kernel
theorem dX0_sumLines_55 : decode cX0_sumLines 55 = .ok (.aload_n 0, 1) := by decide +kernel
theorem dX0_sumLines_56 : decode cX0_sumLines 56 = .ok (.getfield 18, 3) := by decide +kernel
theorem dX0_sumLines_59 : decode cX0_sumLines 59 = .ok (.iload 5, 2) := by decide +kernel
theorem dX0_sumLines_61 : decode cX0_sumLines 61 = .ok (.iaload, 1) := by decide +kernel
theorem dX0_sumLines_62 : decode cX0_sumLines 62 = .ok (.if_icmp .ge 27, 3) := by decide +kernel
theorem dX0_sumLines_65 : decode cX0_sumLines 65 = .ok (.iload 7, 2) := by decide +kernel
theorem dX0_sumLines_67 : decode cX0_sumLines 67 = .ok (.aload_n 0, 1) := by decide +kernel
theorem dX0_sumLines_68 : decode cX0_sumLines 68 = .ok (.getfield 22, 3) := by decide +kernel
theorem dX0_sumLines_71 : decode cX0_sumLines 71 = .ok (.iload 5, 2) := by decide +kernel
theorem dX0_sumLines_73 : decode cX0_sumLines 73 = .ok (.bipush 6, 2) := by decide +kernel
theorem dX0_sumLines_75 : decode cX0_sumLines 75 = .ok (.imul, 1) := by decide +kernel
theorem dX0_sumLines_76 : decode cX0_sumLines 76 = .ok (.iload 8, 2) := by decide +kernel
theorem dX0_sumLines_78 : decode cX0_sumLines 78 = .ok (.iadd, 1) := by decide +kernel
theorem dX0_sumLines_79 : decode cX0_sumLines 79 = .ok (.iaload, 1) := by decide +kernel
theorem dX0_sumLines_80 : decode cX0_sumLines 80 = .ok (.iadd, 1) := by decide +kernel
theorem dX0_sumLines_81 : decode cX0_sumLines 81 = .ok (.istore 7, 2) := by decide +kernel
theorem dX0_sumLines_83 : decode cX0_sumLines 83 = .ok (.iinc 8 1, 3) := by decide +kernel
theorem dX0_sumLines_86 : decode cX0_sumLines 86 = .ok (.goto (-33), 3) := by decide +kernel
theorem dX0_sumLines_89 : decode cX0_sumLines 89 = .ok (.aload_n 1, 1) := by decide +kernel
theorem dX0_sumLines_90 : decode cX0_sumLines 90 = .ok (.iload 6, 2) := by decide +kernel
theorem dX0_sumLines_92 : decode cX0_sumLines 92 = .ok (.dup2, 1) := by decide +kernel
theorem dX0_sumLines_93 : decode cX0_sumLines 93 = .ok (.iaload, 1) := by decide +kernel
theorem dX0_sumLines_94 : decode cX0_sumLines 94 = .ok (.iload 7, 2) := by decide +kernel
theorem dX0_sumLines_96 : decode cX0_sumLines 96 = .ok (.iadd, 1) := by decide +kernel
theorem dX0_sumLines_97 : decode cX0_sumLines 97 = .ok (.iastore, 1) := by decide +kernel
theorem dX0_sumLines_98 : decode cX0_sumLines 98 = .ok (.iload_n 3, 1) := by decide +kernel
theorem dX0_sumLines_99 : decode cX0_sumLines 99 = .ok (.iload 7, 2) := by decide +kernel
theorem dX0_sumLines_101 : decode cX0_sumLines 101 = .ok (.iadd, 1) := by decide +kernel
theorem dX0_sumLines_102 : decode cX0_sumLines 102 = .ok (.istore_n 3, 1) := by decide +kernel
theorem dX0_sumLines_103 : decode cX0_sumLines 103 = .ok (.iinc 4 1, 3) := by decide +kernel
theorem dX0_sumLines_106 : decode cX0_sumLines 106 = .ok (.goto (-96), 3) := by decide +kernel
theorem dX0_sumLines_109 : decode cX0_sumLines 109 = .ok (.iload_n 3, 1) := by decide +kernel
theorem dX0_sumLines_110 : decode cX0_sumLines 110 = .ok (.ireturn, 1) := by decide +kernel
set_option maxRecDepth 20000 in
theorem ggX0_firstWith_X0_headsBelow : GoodIn wsX0_firstWith wsX0_headsBelow := goodIn_r _ [8, 1, 2, 3, 9, 10, 11, 12, 13, 14, 15, 16, 17] (by decide +kernel) (by decide +kernel)
set_option maxRecDepth 20000 in
theorem gX0_firstWith_X0_headsBelow : GoodIn wsX0_firstWith (wsV RX0 39 RX0 yX0_headsBelow wsX0_headsBelow) := goodIn_app (goodIn_of _ (by decide +kernel)) ggX0_firstWith_X0_headsBelow
theorem dX0_firstWith_0 : decode cX0_firstWith 0 = .ok (.aload_n 0, 1) := by decide +kernel
theorem dX0_firstWith_1 : decode cX0_firstWith 1 = .ok (.lload_n 1, 1) := by decide +kernel
theorem dX0_firstWith_2 : decode cX0_firstWith 2 = .ok (.invokevirtual 39, 3) := by decide +kernel
theorem dX0_firstWith_5 : decode cX0_firstWith 5 = .ok (.istore_n 3, 1) := by decide +kernel
theorem dX0_firstWith_6 : decode cX0_firstWith 6 = .ok (.iload_n 3, 1) := by decide +kernel
theorem dX0_firstWith_7 : decode cX0_firstWith 7 = .ok (.aload_n 0, 1) := by decide +kernel
theorem dX0_firstWith_8 : decode cX0_firstWith 8 = .ok (.getfield 43, 3) := by decide +kernel
theorem dX0_firstWith_11 : decode cX0_firstWith 11 = .ok (.if_icmp .ge 26, 3) := by decide +kernel
theorem dX0_firstWith_14 : decode cX0_firstWith 14 = .ok (.aload_n 0, 1) := by decide +kernel
theorem dX0_firstWith_15 : decode cX0_firstWith 15 = .ok (.getfield 9, 3) := by decide +kernel
theorem dX0_firstWith_18 : decode cX0_firstWith 18 = .ok (.aload_n 0, 1) := by decide +kernel
theorem dX0_firstWith_19 : decode cX0_firstWith 19 = .ok (.getfield 29, 3) := by decide +kernel
theorem dX0_firstWith_22 : decode cX0_firstWith 22 = .ok (.iload_n 3, 1) := by decide +kernel
theorem dX0_firstWith_23 : decode cX0_firstWith 23 = .ok (.iaload, 1) := by decide +kernel
theorem dX0_firstWith_24 : decode cX0_firstWith 24 = .ok (.laload, 1) := by decide +kernel
theorem dX0_firstWith_25 : decode cX0_firstWith 25 = .ok (.lload_n 1, 1) := by decide +kernel
theorem dX0_firstWith_26 : decode cX0_firstWith 26 = .ok (.lcmp, 1) := by decide +kernel
theorem dX0_firstWith_27 : decode cX0_firstWith 27 = .ok (.ifCond .ne 10, 3) := by decide +kernel
theorem dX0_firstWith_30 : decode cX0_firstWith 30 = .ok (.aload_n 0, 1) := by decide +kernel
theorem dX0_firstWith_31 : decode cX0_firstWith 31 = .ok (.getfield 29, 3) := by decide +kernel
theorem dX0_firstWith_34 : decode cX0_firstWith 34 = .ok (.iload_n 3, 1) := by decide +kernel
theorem dX0_firstWith_35 : decode cX0_firstWith 35 = .ok (.iaload, 1) := by decide +kernel
theorem dX0_firstWith_36 : decode cX0_firstWith 36 = .ok (.ireturn, 1) := by decide +kernel
theorem dX0_firstWith_37 : decode cX0_firstWith 37 = .ok (.iconst (-1), 1) := by decide +kernel
theorem dX0_firstWith_38 : decode cX0_firstWith 38 = .ok (.ireturn, 1) := by decide +kernel
theorem dX0_headsBelow_0 : decode cX0_headsBelow 0 = .ok (.iconst 0, 1) := by decide +kernel
theorem dX0_headsBelow_1 : decode cX0_headsBelow 1 = .ok (.istore_n 3, 1) := by decide +kernel
theorem dX0_headsBelow_2 : decode cX0_headsBelow 2 = .ok (.aload_n 0, 1) := by decide +kernel
theorem dX0_headsBelow_3 : decode cX0_headsBelow 3 = .ok (.getfield 43, 3) := by decide +kernel
theorem dX0_headsBelow_6 : decode cX0_headsBelow 6 = .ok (.istore 4, 2) := by decide +kernel
theorem dX0_headsBelow_8 : decode cX0_headsBelow 8 = .ok (.iconst 0, 1) := by decide +kernel
theorem dX0_headsBelow_9 : decode cX0_headsBelow 9 = .ok (.istore 5, 2) := by decide +kernel
theorem dX0_headsBelow_11 : decode cX0_headsBelow 11 = .ok (.iload 5, 2) := by decide +kernel
theorem dX0_headsBelow_13 : decode cX0_headsBelow 13 = .ok (.sipush 150, 3) := by decide +kernel
theorem dX0_headsBelow_16 : decode cX0_headsBelow 16 = .ok (.if_icmp .ge 52, 3) := by decide +kernel
theorem dX0_headsBelow_19 : decode cX0_headsBelow 19 = .ok (.iload_n 3, 1) := by decide +kernel
theorem dX0_headsBelow_20 : decode cX0_headsBelow 20 = .ok (.iload 4, 2) := by decide +kernel
theorem dX0_headsBelow_22 : decode cX0_headsBelow 22 = .ok (.if_icmp .ge 46, 3) := by decide +kernel
theorem dX0_headsBelow_25 : decode cX0_headsBelow 25 = .ok (.iload_n 3, 1) := by decide +kernel
theorem dX0_headsBelow_26 : decode cX0_headsBelow 26 = .ok (.iload 4, 2) := by decide +kernel
theorem dX0_headsBelow_28 : decode cX0_headsBelow 28 = .ok (.iadd, 1) := by decide +kernel
theorem dX0_headsBelow_29 : decode cX0_headsBelow 29 = .ok (.iconst 2, 1) := by decide +kernel
theorem dX0_headsBelow_30 : decode cX0_headsBelow 30 = .ok (.idiv, 1) := by decide +kernel
theorem dX0_headsBelow_31 : decode cX0_headsBelow 31 = .ok (.istore 6, 2) := by decide +kernel
theorem dX0_headsBelow_33 : decode cX0_headsBelow 33 = .ok (.aload_n 0, 1) := by decide +kernel
theorem dX0_headsBelow_34 : decode cX0_headsBelow 34 = .ok (.getfield 9, 3) := by decide +kernel
theorem dX0_headsBelow_37 : decode cX0_headsBelow 37 = .ok (.aload_n 0, 1) := by decide +kernel
theorem dX0_headsBelow_38 : decode cX0_headsBelow 38 = .ok (.getfield 29, 3) := by decide +kernel
theorem dX0_headsBelow_41 : decode cX0_headsBelow 41 = .ok (.iload 6, 2) := by decide +kernel
theorem dX0_headsBelow_43 : decode cX0_headsBelow 43 = .ok (.iaload, 1) := by decide +kernel
theorem dX0_headsBelow_44 : decode cX0_headsBelow 44 = .ok (.laload, 1) := by decide +kernel
theorem dX0_headsBelow_45 : decode cX0_headsBelow 45 = .ok (.lload_n 1, 1) := by decide +kernel
theorem dX0_headsBelow_46 : decode cX0_headsBelow 46 = .ok (.lcmp, 1) := by decide +kernel
theorem dX0_headsBelow_47 : decode cX0_headsBelow 47 = .ok (.ifCond .ge 11, 3) := by decide +kernel
theorem dX0_headsBelow_50 : decode cX0_headsBelow 50 = .ok (.iload 6, 2) := by decide +kernel
theorem dX0_headsBelow_52 : decode cX0_headsBelow 52 = .ok (.iconst 1, 1) := by decide +kernel
theorem dX0_headsBelow_53 : decode cX0_headsBelow 53 = .ok (.iadd, 1) := by decide +kernel
theorem dX0_headsBelow_54 : decode cX0_headsBelow 54 = .ok (.istore_n 3, 1) := by decide +kernel
theorem dX0_headsBelow_55 : decode cX0_headsBelow 55 = .ok (.goto 7, 3) := by decide +kernel
theorem dX0_headsBelow_58 : decode cX0_headsBelow 58 = .ok (.iload 6, 2) := by decide +kernel
theorem dX0_headsBelow_60 : decode cX0_headsBelow 60 = .ok (.istore 4, 2) := by decide +kernel
theorem dX0_headsBelow_62 : decode cX0_headsBelow 62 = .ok (.iinc 5 1, 3) := by decide +kernel
theorem dX0_headsBelow_65 : decode cX0_headsBelow 65 = .ok (.goto (-54), 3) := by decide +kernel
theorem dX0_headsBelow_68 : decode cX0_headsBelow 68 = .ok (.iload_n 3, 1) := by decide +kernel
theorem dX0_headsBelow_69 : decode cX0_headsBelow 69 = .ok (.ireturn, 1) := by decide +kernel
theorem dX1_init_0 : decode cX1_init 0 = .ok (.aload_n 0, 1) := by decide +kernel
theorem dX1_init_1 : decode cX1_init 1 = .ok (.invokespecial 3, 3) := by decide +kernel
theorem dX1_init_4 : decode cX1_init 4 = .ok (.aload_n 0, 1) := by decide +kernel
theorem dX1_init_5 : decode cX1_init 5 = .ok (.sipush 900, 3) := by decide +kernel
theorem dX1_init_8 : decode cX1_init 8 = .ok (.newarray .int, 2) := by decide +kernel
theorem dX1_init_10 : decode cX1_init 10 = .ok (.putfield 9, 3) := by decide +kernel
theorem dX1_init_13 : decode cX1_init 13 = .ok (.aload_n 0, 1) := by decide +kernel
theorem dX1_init_14 : decode cX1_init 14 = .ok (.sipush 901, 3) := by decide +kernel
theorem dX1_init_17 : decode cX1_init 17 = .ok (.newarray .int, 2) := by decide +kernel
theorem dX1_init_19 : decode cX1_init 19 = .ok (.putfield 15, 3) := by decide +kernel
theorem dX1_init_22 : decode cX1_init 22 = .ok (.aload_n 0, 1) := by decide +kernel
theorem dX1_init_23 : decode cX1_init 23 = .ok (.sipush 900, 3) := by decide +kernel
theorem dX1_init_26 : decode cX1_init 26 = .ok (.newarray .int, 2) := by decide +kernel
theorem dX1_init_28 : decode cX1_init 28 = .ok (.putfield 18, 3) := by decide +kernel
theorem dX1_init_31 : decode cX1_init 31 = .ok (.return_, 1) := by decide +kernel
theorem dX1_openEmpty_0 : decode cX1_openEmpty 0 = .ok (.aload_n 0, 1) := by decide +kernel
theorem dX1_openEmpty_1 : decode cX1_openEmpty 1 = .ok (.iload_n 1, 1) := by decide +kernel
theorem dX1_openEmpty_2 : decode cX1_openEmpty 2 = .ok (.putfield 21, 3) := by decide +kernel
theorem dX1_openEmpty_5 : decode cX1_openEmpty 5 = .ok (.aload_n 0, 1) := by decide +kernel
theorem dX1_openEmpty_6 : decode cX1_openEmpty 6 = .ok (.iconst 0, 1) := by decide +kernel
theorem dX1_openEmpty_7 : decode cX1_openEmpty 7 = .ok (.putfield 25, 3) := by decide +kernel
theorem dX1_openEmpty_10 : decode cX1_openEmpty 10 = .ok (.aload_n 0, 1) := by decide +kernel
theorem dX1_openEmpty_11 : decode cX1_openEmpty 11 = .ok (.iconst 0, 1) := by decide +kernel
theorem dX1_openEmpty_12 : decode cX1_openEmpty 12 = .ok (.putfield 28, 3) := by decide +kernel
theorem dX1_openEmpty_15 : decode cX1_openEmpty 15 = .ok (.aload_n 0, 1) := by decide +kernel
theorem dX1_openEmpty_16 : decode cX1_openEmpty 16 = .ok (.getfield 15, 3) := by decide +kernel
theorem dX1_openEmpty_19 : decode cX1_openEmpty 19 = .ok (.iconst 0, 1) := by decide +kernel
theorem dX1_openEmpty_20 : decode cX1_openEmpty 20 = .ok (.iconst 0, 1) := by decide +kernel
theorem dX1_openEmpty_21 : decode cX1_openEmpty 21 = .ok (.iastore, 1) := by decide +kernel
theorem dX1_openEmpty_22 : decode cX1_openEmpty 22 = .ok (.return_, 1) := by decide +kernel
theorem dX1_addColumn_0 : decode cX1_addColumn 0 = .ok (.aload_n 0, 1) := by decide +kernel
theorem dX1_addColumn_1 : decode cX1_addColumn 1 = .ok (.getfield 18, 3) := by decide +kernel
theorem dX1_addColumn_4 : decode cX1_addColumn 4 = .ok (.aload_n 0, 1) := by decide +kernel
theorem dX1_addColumn_5 : decode cX1_addColumn 5 = .ok (.getfield 25, 3) := by decide +kernel
theorem dX1_addColumn_8 : decode cX1_addColumn 8 = .ok (.iload_n 2, 1) := by decide +kernel
theorem dX1_addColumn_9 : decode cX1_addColumn 9 = .ok (.iastore, 1) := by decide +kernel
theorem dX1_addColumn_10 : decode cX1_addColumn 10 = .ok (.aload_n 0, 1) := by decide +kernel
theorem dX1_addColumn_11 : decode cX1_addColumn 11 = .ok (.dup, 1) := by decide +kernel
theorem dX1_addColumn_12 : decode cX1_addColumn 12 = .ok (.getfield 25, 3) := by decide +kernel
theorem dX1_addColumn_15 : decode cX1_addColumn 15 = .ok (.iconst 1, 1) := by decide +kernel
theorem dX1_addColumn_16 : decode cX1_addColumn 16 = .ok (.iadd, 1) := by decide +kernel
theorem dX1_addColumn_17 : decode cX1_addColumn 17 = .ok (.putfield 25, 3) := by decide +kernel
theorem dX1_addColumn_20 : decode cX1_addColumn 20 = .ok (.aload_n 0, 1) := by decide +kernel
theorem dX1_addColumn_21 : decode cX1_addColumn 21 = .ok (.getfield 15, 3) := by decide +kernel
theorem dX1_addColumn_24 : decode cX1_addColumn 24 = .ok (.aload_n 0, 1) := by decide +kernel
theorem dX1_addColumn_25 : decode cX1_addColumn 25 = .ok (.getfield 25, 3) := by decide +kernel
theorem dX1_addColumn_28 : decode cX1_addColumn 28 = .ok (.iload_n 1, 1) := by decide +kernel
theorem dX1_addColumn_29 : decode cX1_addColumn 29 = .ok (.iastore, 1) := by decide +kernel
theorem dX1_addColumn_30 : decode cX1_addColumn 30 = .ok (.iload_n 3, 1) := by decide +kernel
theorem dX1_addColumn_31 : decode cX1_addColumn 31 = .ok (.ifCond .eq 13, 3) := by decide +kernel
theorem dX1_addColumn_34 : decode cX1_addColumn 34 = .ok (.aload_n 0, 1) := by decide +kernel
theorem dX1_addColumn_35 : decode cX1_addColumn 35 = .ok (.dup, 1) := by decide +kernel
theorem dX1_addColumn_36 : decode cX1_addColumn 36 = .ok (.getfield 28, 3) := by decide +kernel
theorem dX1_addColumn_39 : decode cX1_addColumn 39 = .ok (.iconst 1, 1) := by decide +kernel
theorem dX1_addColumn_40 : decode cX1_addColumn 40 = .ok (.iadd, 1) := by decide +kernel
theorem dX1_addColumn_41 : decode cX1_addColumn 41 = .ok (.putfield 28, 3) := by decide +kernel
theorem dX1_addColumn_44 : decode cX1_addColumn 44 = .ok (.return_, 1) := by decide +kernel
theorem dX1_entryOf_0 : decode cX1_entryOf 0 = .ok (.aload_n 0, 1) := by decide +kernel
theorem dX1_entryOf_1 : decode cX1_entryOf 1 = .ok (.getfield 9, 3) := by decide +kernel
theorem dX1_entryOf_4 : decode cX1_entryOf 4 = .ok (.iload_n 1, 1) := by decide +kernel
theorem dX1_entryOf_5 : decode cX1_entryOf 5 = .ok (.iaload, 1) := by decide +kernel
theorem dX1_entryOf_6 : decode cX1_entryOf 6 = .ok (.bipush 6, 2) := by decide +kernel
theorem dX1_entryOf_8 : decode cX1_entryOf 8 = .ok (.idiv, 1) := by decide +kernel
theorem dX1_entryOf_9 : decode cX1_entryOf 9 = .ok (.ireturn, 1) := by decide +kernel
theorem dX1_senseOf_0 : decode cX1_senseOf 0 = .ok (.aload_n 0, 1) := by decide +kernel
theorem dX1_senseOf_1 : decode cX1_senseOf 1 = .ok (.getfield 9, 3) := by decide +kernel
theorem dX1_senseOf_4 : decode cX1_senseOf 4 = .ok (.iload_n 1, 1) := by decide +kernel
theorem dX1_senseOf_5 : decode cX1_senseOf 5 = .ok (.iaload, 1) := by decide +kernel
theorem dX1_senseOf_6 : decode cX1_senseOf 6 = .ok (.bipush 6, 2) := by decide +kernel
theorem dX1_senseOf_8 : decode cX1_senseOf 8 = .ok (.irem, 1) := by decide +kernel
theorem dX1_senseOf_9 : decode cX1_senseOf 9 = .ok (.ireturn, 1) := by decide +kernel
theorem dX1_columnWith_0 : decode cX1_columnWith 0 = .ok (.iconst 0, 1) := by decide +kernel
theorem dX1_columnWith_1 : decode cX1_columnWith 1 = .ok (.istore_n 2, 1) := by decide +kernel
theorem dX1_columnWith_2 : decode cX1_columnWith 2 = .ok (.iload_n 2, 1) := by decide +kernel
theorem dX1_columnWith_3 : decode cX1_columnWith 3 = .ok (.aload_n 0, 1) := by decide +kernel
theorem dX1_columnWith_4 : decode cX1_columnWith 4 = .ok (.getfield 25, 3) := by decide +kernel
theorem dX1_columnWith_7 : decode cX1_columnWith 7 = .ok (.if_icmp .ge 46, 3) := by decide +kernel
theorem dX1_columnWith_10 : decode cX1_columnWith 10 = .ok (.aload_n 0, 1) := by decide +kernel
theorem dX1_columnWith_11 : decode cX1_columnWith 11 = .ok (.getfield 15, 3) := by decide +kernel
theorem dX1_columnWith_14 : decode cX1_columnWith 14 = .ok (.iload_n 2, 1) := by decide +kernel
theorem dX1_columnWith_15 : decode cX1_columnWith 15 = .ok (.iaload, 1) := by decide +kernel
theorem dX1_columnWith_16 : decode cX1_columnWith 16 = .ok (.istore_n 3, 1) := by decide +kernel
theorem dX1_columnWith_17 : decode cX1_columnWith 17 = .ok (.iload_n 3, 1) := by decide +kernel
theorem dX1_columnWith_18 : decode cX1_columnWith 18 = .ok (.aload_n 0, 1) := by decide +kernel
theorem dX1_columnWith_19 : decode cX1_columnWith 19 = .ok (.getfield 15, 3) := by decide +kernel
theorem dX1_columnWith_22 : decode cX1_columnWith 22 = .ok (.iload_n 2, 1) := by decide +kernel
theorem dX1_columnWith_23 : decode cX1_columnWith 23 = .ok (.iconst 1, 1) := by decide +kernel
theorem dX1_columnWith_24 : decode cX1_columnWith 24 = .ok (.iadd, 1) := by decide +kernel
theorem dX1_columnWith_25 : decode cX1_columnWith 25 = .ok (.iaload, 1) := by decide +kernel
theorem dX1_columnWith_26 : decode cX1_columnWith 26 = .ok (.if_icmp .ge 21, 3) := by decide +kernel
theorem dX1_columnWith_29 : decode cX1_columnWith 29 = .ok (.aload_n 0, 1) := by decide +kernel
theorem dX1_columnWith_30 : decode cX1_columnWith 30 = .ok (.getfield 9, 3) := by decide +kernel
theorem dX1_columnWith_33 : decode cX1_columnWith 33 = .ok (.iload_n 3, 1) := by decide +kernel
theorem dX1_columnWith_34 : decode cX1_columnWith 34 = .ok (.iaload, 1) := by decide +kernel
theorem dX1_columnWith_35 : decode cX1_columnWith 35 = .ok (.iload_n 1, 1) := by decide +kernel
theorem dX1_columnWith_36 : decode cX1_columnWith 36 = .ok (.if_icmp .ne 5, 3) := by decide +kernel
theorem dX1_columnWith_39 : decode cX1_columnWith 39 = .ok (.iload_n 2, 1) := by decide +kernel
theorem dX1_columnWith_40 : decode cX1_columnWith 40 = .ok (.ireturn, 1) := by decide +kernel
theorem dX1_columnWith_41 : decode cX1_columnWith 41 = .ok (.iinc 3 1, 3) := by decide +kernel
theorem dX1_columnWith_44 : decode cX1_columnWith 44 = .ok (.goto (-27), 3) := by decide +kernel
theorem dX1_columnWith_47 : decode cX1_columnWith 47 = .ok (.iinc 2 1, 3) := by decide +kernel
theorem dX1_columnWith_50 : decode cX1_columnWith 50 = .ok (.goto (-48), 3) := by decide +kernel
theorem dX1_columnWith_53 : decode cX1_columnWith 53 = .ok (.iconst (-1), 1) := by decide +kernel
theorem dX1_columnWith_54 : decode cX1_columnWith 54 = .ok (.ireturn, 1) := by decide +kernel
set_option maxRecDepth 20000 in
theorem ggX1_firstGuide_X1_firstColumn : GoodIn wsX1_firstGuide wsX1_firstColumn := goodIn_r _ [6, 7, 8, 9, 10, 11, 12, 26, 27, 28, 29, 30, 31, 32, 33] (by decide +kernel) (by decide +kernel)
set_option maxRecDepth 20000 in
theorem gX1_firstGuide_X1_firstColumn : GoodIn wsX1_firstGuide (wsV RX1 31 RX1 yX1_firstColumn wsX1_firstColumn) := goodIn_app (goodIn_of _ (by decide +kernel)) ggX1_firstGuide_X1_firstColumn
set_option maxRecDepth 20000 in
theorem ggX1_firstGuide_X1_endColumn : GoodIn wsX1_firstGuide wsX1_endColumn := goodIn_r _ [16, 7, 8, 9, 10, 11, 12, 26, 27, 28, 29, 30, 31, 32, 33] (by decide +kernel) (by decide +kernel)
set_option maxRecDepth 20000 in
theorem gX1_firstGuide_X1_endColumn : GoodIn wsX1_firstGuide (wsV RX1 35 RX1 yX1_endColumn wsX1_endColumn) := goodIn_app (goodIn_of _ (by decide +kernel)) ggX1_firstGuide_X1_endColumn
set_option maxRecDepth 20000 in
theorem ggX1_firstGuide_X1_senseOf : GoodIn wsX1_firstGuide wsX1_senseOf := goodIn_r _ [20, 21, 26, 27, 28, 29, 30, 31, 32, 33] (by decide +kernel) (by decide +kernel)
set_option maxRecDepth 20000 in
theorem gX1_firstGuide_X1_senseOf : GoodIn wsX1_firstGuide (wsV RX1 38 RX1 yX1_senseOf wsX1_senseOf) := goodIn_app (goodIn_of _ (by decide +kernel)) ggX1_firstGuide_X1_senseOf
set_option maxRecDepth 20000 in
theorem ggX1_firstGuide_X1_entryOf : GoodIn wsX1_firstGuide wsX1_entryOf := goodIn_r _ [25, 21, 26, 27, 28, 29, 30, 31, 32, 33] (by decide +kernel) (by decide +kernel)
set_option maxRecDepth 20000 in
theorem gX1_firstGuide_X1_entryOf : GoodIn wsX1_firstGuide (wsV RX1 41 RX1 yX1_entryOf wsX1_entryOf) := goodIn_app (goodIn_of _ (by decide +kernel)) ggX1_firstGuide_X1_entryOf
theorem dX1_firstGuide_0 : decode cX1_firstGuide 0 = .ok (.aload_n 0, 1) := by decide +kernel
theorem dX1_firstGuide_1 : decode cX1_firstGuide 1 = .ok (.getfield 15, 3) := by decide +kernel
theorem dX1_firstGuide_4 : decode cX1_firstGuide 4 = .ok (.aload_n 0, 1) := by decide +kernel
theorem dX1_firstGuide_5 : decode cX1_firstGuide 5 = .ok (.iload_n 1, 1) := by decide +kernel
theorem dX1_firstGuide_6 : decode cX1_firstGuide 6 = .ok (.invokevirtual 31, 3) := by decide +kernel
theorem dX1_firstGuide_9 : decode cX1_firstGuide 9 = .ok (.iaload, 1) := by decide +kernel
theorem dX1_firstGuide_10 : decode cX1_firstGuide 10 = .ok (.istore_n 2, 1) := by decide +kernel
theorem dX1_firstGuide_11 : decode cX1_firstGuide 11 = .ok (.aload_n 0, 1) := by decide +kernel
theorem dX1_firstGuide_12 : decode cX1_firstGuide 12 = .ok (.getfield 15, 3) := by decide +kernel
theorem dX1_firstGuide_15 : decode cX1_firstGuide 15 = .ok (.aload_n 0, 1) := by decide +kernel
theorem dX1_firstGuide_16 : decode cX1_firstGuide 16 = .ok (.iload_n 1, 1) := by decide +kernel
theorem dX1_firstGuide_17 : decode cX1_firstGuide 17 = .ok (.invokevirtual 35, 3) := by decide +kernel
theorem dX1_firstGuide_20 : decode cX1_firstGuide 20 = .ok (.iaload, 1) := by decide +kernel
theorem dX1_firstGuide_21 : decode cX1_firstGuide 21 = .ok (.istore_n 3, 1) := by decide +kernel
theorem dX1_firstGuide_22 : decode cX1_firstGuide 22 = .ok (.iload_n 2, 1) := by decide +kernel
theorem dX1_firstGuide_23 : decode cX1_firstGuide 23 = .ok (.istore 4, 2) := by decide +kernel
theorem dX1_firstGuide_25 : decode cX1_firstGuide 25 = .ok (.iload 4, 2) := by decide +kernel
theorem dX1_firstGuide_27 : decode cX1_firstGuide 27 = .ok (.iload_n 3, 1) := by decide +kernel
theorem dX1_firstGuide_28 : decode cX1_firstGuide 28 = .ok (.if_icmp .ge 25, 3) := by decide +kernel
theorem dX1_firstGuide_31 : decode cX1_firstGuide 31 = .ok (.aload_n 0, 1) := by decide +kernel
theorem dX1_firstGuide_32 : decode cX1_firstGuide 32 = .ok (.iload 4, 2) := by decide +kernel
theorem dX1_firstGuide_34 : decode cX1_firstGuide 34 = .ok (.invokevirtual 38, 3) := by decide +kernel
theorem dX1_firstGuide_37 : decode cX1_firstGuide 37 = .ok (.ifCond .ne 10, 3) := by decide +kernel
theorem dX1_firstGuide_40 : decode cX1_firstGuide 40 = .ok (.aload_n 0, 1) := by decide +kernel
theorem dX1_firstGuide_41 : decode cX1_firstGuide 41 = .ok (.iload 4, 2) := by decide +kernel
theorem dX1_firstGuide_43 : decode cX1_firstGuide 43 = .ok (.invokevirtual 41, 3) := by decide +kernel
theorem dX1_firstGuide_46 : decode cX1_firstGuide 46 = .ok (.ireturn, 1) := by decide +kernel
theorem dX1_firstGuide_47 : decode cX1_firstGuide 47 = .ok (.iinc 4 1, 3) := by decide +kernel
theorem dX1_firstGuide_50 : decode cX1_firstGuide 50 = .ok (.goto (-25), 3) := by decide +kernel
theorem dX1_firstGuide_53 : decode cX1_firstGuide 53 = .ok (.aload_n 0, 1) := by decide +kernel
theorem dX1_firstGuide_54 : decode cX1_firstGuide 54 = .ok (.iload_n 2, 1) := by decide +kernel
theorem dX1_firstGuide_55 : decode cX1_firstGuide 55 = .ok (.invokevirtual 41, 3) := by decide +kernel
theorem dX1_firstGuide_58 : decode cX1_firstGuide 58 = .ok (.ireturn, 1) := by decide +kernel
set_option maxRecDepth 20000 in
theorem ggX1_lastGuide_X1_firstColumn : GoodIn wsX1_lastGuide wsX1_firstColumn := goodIn_r _ [6, 7, 8, 9, 10, 11, 12, 26, 27, 28, 29, 30, 31, 32, 33] (by decide +kernel) (by decide +kernel)
set_option maxRecDepth 20000 in
theorem gX1_lastGuide_X1_firstColumn : GoodIn wsX1_lastGuide (wsV RX1 31 RX1 yX1_firstColumn wsX1_firstColumn) := goodIn_app (goodIn_of _ (by decide +kernel)) ggX1_lastGuide_X1_firstColumn
set_option maxRecDepth 20000 in
theorem ggX1_lastGuide_X1_endColumn : GoodIn wsX1_lastGuide wsX1_endColumn := goodIn_r _ [16, 7, 8, 9, 10, 11, 12, 26, 27, 28, 29, 30, 31, 32, 33] (by decide +kernel) (by decide +kernel)
set_option maxRecDepth 20000 in
theorem gX1_lastGuide_X1_endColumn : GoodIn wsX1_lastGuide (wsV RX1 35 RX1 yX1_endColumn wsX1_endColumn) := goodIn_app (goodIn_of _ (by decide +kernel)) ggX1_lastGuide_X1_endColumn
set_option maxRecDepth 20000 in
theorem ggX1_lastGuide_X1_senseOf : GoodIn wsX1_lastGuide wsX1_senseOf := goodIn_r _ [20, 21, 26, 27, 28, 29, 30, 31, 32, 33] (by decide +kernel) (by decide +kernel)
set_option maxRecDepth 20000 in
theorem gX1_lastGuide_X1_senseOf : GoodIn wsX1_lastGuide (wsV RX1 38 RX1 yX1_senseOf wsX1_senseOf) := goodIn_app (goodIn_of _ (by decide +kernel)) ggX1_lastGuide_X1_senseOf
set_option maxRecDepth 20000 in
theorem ggX1_lastGuide_X1_entryOf : GoodIn wsX1_lastGuide wsX1_entryOf := goodIn_r _ [25, 21, 26, 27, 28, 29, 30, 31, 32, 33] (by decide +kernel) (by decide +kernel)
set_option maxRecDepth 20000 in
theorem gX1_lastGuide_X1_entryOf : GoodIn wsX1_lastGuide (wsV RX1 41 RX1 yX1_entryOf wsX1_entryOf) := goodIn_app (goodIn_of _ (by decide +kernel)) ggX1_lastGuide_X1_entryOf
theorem dX1_lastGuide_0 : decode cX1_lastGuide 0 = .ok (.aload_n 0, 1) := by decide +kernel
theorem dX1_lastGuide_1 : decode cX1_lastGuide 1 = .ok (.getfield 15, 3) := by decide +kernel
theorem dX1_lastGuide_4 : decode cX1_lastGuide 4 = .ok (.aload_n 0, 1) := by decide +kernel
theorem dX1_lastGuide_5 : decode cX1_lastGuide 5 = .ok (.iload_n 1, 1) := by decide +kernel
theorem dX1_lastGuide_6 : decode cX1_lastGuide 6 = .ok (.invokevirtual 31, 3) := by decide +kernel
theorem dX1_lastGuide_9 : decode cX1_lastGuide 9 = .ok (.iaload, 1) := by decide +kernel
theorem dX1_lastGuide_10 : decode cX1_lastGuide 10 = .ok (.istore_n 2, 1) := by decide +kernel
theorem dX1_lastGuide_11 : decode cX1_lastGuide 11 = .ok (.aload_n 0, 1) := by decide +kernel
theorem dX1_lastGuide_12 : decode cX1_lastGuide 12 = .ok (.getfield 15, 3) := by decide +kernel
theorem dX1_lastGuide_15 : decode cX1_lastGuide 15 = .ok (.aload_n 0, 1) := by decide +kernel
theorem dX1_lastGuide_16 : decode cX1_lastGuide 16 = .ok (.iload_n 1, 1) := by decide +kernel
theorem dX1_lastGuide_17 : decode cX1_lastGuide 17 = .ok (.invokevirtual 35, 3) := by decide +kernel
theorem dX1_lastGuide_20 : decode cX1_lastGuide 20 = .ok (.iaload, 1) := by decide +kernel
theorem dX1_lastGuide_21 : decode cX1_lastGuide 21 = .ok (.iconst 1, 1) := by decide +kernel
theorem dX1_lastGuide_22 : decode cX1_lastGuide 22 = .ok (.isub, 1) := by decide +kernel
theorem dX1_lastGuide_23 : decode cX1_lastGuide 23 = .ok (.istore_n 3, 1) := by decide +kernel
theorem dX1_lastGuide_24 : decode cX1_lastGuide 24 = .ok (.iload_n 3, 1) := by decide +kernel
theorem dX1_lastGuide_25 : decode cX1_lastGuide 25 = .ok (.iload_n 2, 1) := by decide +kernel
theorem dX1_lastGuide_26 : decode cX1_lastGuide 26 = .ok (.if_icmp .lt 23, 3) := by decide +kernel
theorem dX1_lastGuide_29 : decode cX1_lastGuide 29 = .ok (.aload_n 0, 1) := by decide +kernel
theorem dX1_lastGuide_30 : decode cX1_lastGuide 30 = .ok (.iload_n 3, 1) := by decide +kernel
theorem dX1_lastGuide_31 : decode cX1_lastGuide 31 = .ok (.invokevirtual 38, 3) := by decide +kernel
theorem dX1_lastGuide_34 : decode cX1_lastGuide 34 = .ok (.ifCond .ne 9, 3) := by decide +kernel
theorem dX1_lastGuide_37 : decode cX1_lastGuide 37 = .ok (.aload_n 0, 1) := by decide +kernel
theorem dX1_lastGuide_38 : decode cX1_lastGuide 38 = .ok (.iload_n 3, 1) := by decide +kernel
theorem dX1_lastGuide_39 : decode cX1_lastGuide 39 = .ok (.invokevirtual 41, 3) := by decide +kernel
theorem dX1_lastGuide_42 : decode cX1_lastGuide 42 = .ok (.ireturn, 1) := by decide +kernel
theorem dX1_lastGuide_43 : decode cX1_lastGuide 43 = .ok (.iinc 3 (-1), 3) := by decide +kernel
theorem dX1_lastGuide_46 : decode cX1_lastGuide 46 = .ok (.goto (-22), 3) := by decide +kernel
theorem dX1_lastGuide_49 : decode cX1_lastGuide 49 = .ok (.aload_n 0, 1) := by decide +kernel
theorem dX1_lastGuide_50 : decode cX1_lastGuide 50 = .ok (.iload_n 2, 1) := by decide +kernel
theorem dX1_lastGuide_51 : decode cX1_lastGuide 51 = .ok (.invokevirtual 41, 3) := by decide +kernel
theorem dX1_lastGuide_54 : decode cX1_lastGuide 54 = .ok (.ireturn, 1) := by decide +kernel
set_option maxRecDepth 20000 in
theorem ggX1_pagesUnlike_X1_likePage : GoodIn wsX1_pagesUnlike wsX1_likePage := goodIn_r _ [10, 11, 12, 13, 9, 14, 15, 16, 17, 18, 4, 19, 20, 21, 22, 23, 24, 25, 26, 27, 28, 29, 30, 31, 32, 33, 34, 35, 36, 37] (by decide +kernel) (by decide +kernel)
set_option maxRecDepth 20000 in
theorem gX1_pagesUnlike_X1_likePage : GoodIn wsX1_pagesUnlike (wsV RX1 50 RX1 yX1_likePage wsX1_likePage) := goodIn_app (goodIn_of _ (by decide +kernel)) ggX1_pagesUnlike_X1_likePage
theorem dX1_pagesUnlike_0 : decode cX1_pagesUnlike 0 = .ok (.aload_n 0, 1) := by decide +kernel
theorem dX1_pagesUnlike_1 : decode cX1_pagesUnlike 1 = .ok (.getfield 28, 3) := by decide +kernel
theorem dX1_pagesUnlike_4 : decode cX1_pagesUnlike 4 = .ok (.aload_n 1, 1) := by decide +kernel
theorem dX1_pagesUnlike_5 : decode cX1_pagesUnlike 5 = .ok (.getfield 28, 3) := by decide +kernel
theorem dX1_pagesUnlike_8 : decode cX1_pagesUnlike 8 = .ok (.invokestatic 44, 3) := by decide +kernel
theorem dX1_pagesUnlike_11 : decode cX1_pagesUnlike 11 = .ok (.istore_n 2, 1) := by decide +kernel
theorem dX1_pagesUnlike_12 : decode cX1_pagesUnlike 12 = .ok (.iconst 0, 1) := by decide +kernel
theorem dX1_pagesUnlike_13 : decode cX1_pagesUnlike 13 = .ok (.istore_n 3, 1) := by decide +kernel
theorem dX1_pagesUnlike_14 : decode cX1_pagesUnlike 14 = .ok (.iconst 0, 1) := by decide +kernel
theorem dX1_pagesUnlike_15 : decode cX1_pagesUnlike 15 = .ok (.istore 4, 2) := by decide +kernel
theorem dX1_pagesUnlike_17 : decode cX1_pagesUnlike 17 = .ok (.iload 4, 2) := by decide +kernel
theorem dX1_pagesUnlike_19 : decode cX1_pagesUnlike 19 = .ok (.iload_n 2, 1) := by decide +kernel
theorem dX1_pagesUnlike_20 : decode cX1_pagesUnlike 20 = .ok (.if_icmp .ge 40, 3) := by decide +kernel
theorem dX1_pagesUnlike_23 : decode cX1_pagesUnlike 23 = .ok (.iload 4, 2) := by decide +kernel
theorem dX1_pagesUnlike_25 : decode cX1_pagesUnlike 25 = .ok (.aload_n 0, 1) := by decide +kernel
theorem dX1_pagesUnlike_26 : decode cX1_pagesUnlike 26 = .ok (.getfield 28, 3) := by decide +kernel
theorem dX1_pagesUnlike_29 : decode cX1_pagesUnlike 29 = .ok (.if_icmp .ge 22, 3) := by decide +kernel
theorem dX1_pagesUnlike_32 : decode cX1_pagesUnlike 32 = .ok (.iload 4, 2) := by decide +kernel
theorem dX1_pagesUnlike_34 : decode cX1_pagesUnlike 34 = .ok (.aload_n 1, 1) := by decide +kernel
theorem dX1_pagesUnlike_35 : decode cX1_pagesUnlike 35 = .ok (.getfield 28, 3) := by decide +kernel
theorem dX1_pagesUnlike_38 : decode cX1_pagesUnlike 38 = .ok (.if_icmp .ge 13, 3) := by decide +kernel
theorem dX1_pagesUnlike_41 : decode cX1_pagesUnlike 41 = .ok (.aload_n 0, 1) := by decide +kernel
theorem dX1_pagesUnlike_42 : decode cX1_pagesUnlike 42 = .ok (.aload_n 1, 1) := by decide +kernel
theorem dX1_pagesUnlike_43 : decode cX1_pagesUnlike 43 = .ok (.iload 4, 2) := by decide +kernel
theorem dX1_pagesUnlike_45 : decode cX1_pagesUnlike 45 = .ok (.invokevirtual 50, 3) := by decide +kernel
theorem dX1_pagesUnlike_48 : decode cX1_pagesUnlike 48 = .ok (.ifCond .ne 6, 3) := by decide +kernel
theorem dX1_pagesUnlike_51 : decode cX1_pagesUnlike 51 = .ok (.iinc 3 1, 3) := by decide +kernel
theorem dX1_pagesUnlike_54 : decode cX1_pagesUnlike 54 = .ok (.iinc 4 1, 3) := by decide +kernel
theorem dX1_pagesUnlike_57 : decode cX1_pagesUnlike 57 = .ok (.goto (-40), 3) := by decide +kernel
theorem dX1_pagesUnlike_60 : decode cX1_pagesUnlike 60 = .ok (.iload_n 3, 1) := by decide +kernel
theorem dX1_pagesUnlike_61 : decode cX1_pagesUnlike 61 = .ok (.ireturn, 1) := by decide +kernel
set_option maxRecDepth 20000 in
theorem ggX1_likePage_X1_firstColumn : GoodIn wsX1_likePage wsX1_firstColumn := goodIn_r _ [5, 6, 7, 8, 9, 10, 11, 22, 23, 24, 25, 26, 27, 28, 29] (by decide +kernel) (by decide +kernel)
set_option maxRecDepth 20000 in
theorem gX1_likePage_X1_firstColumn : GoodIn wsX1_likePage (wsV RX1 31 RX1 yX1_firstColumn wsX1_firstColumn) := goodIn_app (goodIn_of _ (by decide +kernel)) ggX1_likePage_X1_firstColumn
set_option maxRecDepth 20000 in
theorem ggX1_likePage_X1_endColumn : GoodIn wsX1_likePage wsX1_endColumn := goodIn_r _ [15, 6, 7, 8, 9, 10, 11, 22, 23, 24, 25, 26, 27, 28, 29] (by decide +kernel) (by decide +kernel)
set_option maxRecDepth 20000 in
theorem gX1_likePage_X1_endColumn : GoodIn wsX1_likePage (wsV RX1 35 RX1 yX1_endColumn wsX1_endColumn) := goodIn_app (goodIn_of _ (by decide +kernel)) ggX1_likePage_X1_endColumn
set_option maxRecDepth 20000 in
theorem ggX1_likePage_X1_likeColumn : GoodIn wsX1_likePage wsX1_likeColumn := goodIn_r _ [19, 20, 21, 22, 23, 24, 25, 26, 27, 28, 29] (by decide +kernel) (by decide +kernel)
set_option maxRecDepth 20000 in
theorem gX1_likePage_X1_likeColumn : GoodIn wsX1_likePage (wsV RX1 54 RX1 yX1_likeColumn wsX1_likeColumn) := goodIn_app (goodIn_of _ (by decide +kernel)) ggX1_likePage_X1_likeColumn
theorem dX1_likePage_0 : decode cX1_likePage 0 = .ok (.aload_n 0, 1) := by decide +kernel
theorem dX1_likePage_1 : decode cX1_likePage 1 = .ok (.iload_n 2, 1) := by decide +kernel
theorem dX1_likePage_2 : decode cX1_likePage 2 = .ok (.invokevirtual 31, 3) := by decide +kernel
theorem dX1_likePage_5 : decode cX1_likePage 5 = .ok (.istore_n 3, 1) := by decide +kernel
theorem dX1_likePage_6 : decode cX1_likePage 6 = .ok (.aload_n 1, 1) := by decide +kernel
theorem dX1_likePage_7 : decode cX1_likePage 7 = .ok (.iload_n 2, 1) := by decide +kernel
theorem dX1_likePage_8 : decode cX1_likePage 8 = .ok (.invokevirtual 31, 3) := by decide +kernel
theorem dX1_likePage_11 : decode cX1_likePage 11 = .ok (.istore 4, 2) := by decide +kernel
theorem dX1_likePage_13 : decode cX1_likePage 13 = .ok (.aload_n 0, 1) := by decide +kernel
theorem dX1_likePage_14 : decode cX1_likePage 14 = .ok (.iload_n 2, 1) := by decide +kernel
theorem dX1_likePage_15 : decode cX1_likePage 15 = .ok (.invokevirtual 35, 3) := by decide +kernel
theorem dX1_likePage_18 : decode cX1_likePage 18 = .ok (.iload_n 3, 1) := by decide +kernel
theorem dX1_likePage_19 : decode cX1_likePage 19 = .ok (.isub, 1) := by decide +kernel
theorem dX1_likePage_20 : decode cX1_likePage 20 = .ok (.istore 5, 2) := by decide +kernel
theorem dX1_likePage_22 : decode cX1_likePage 22 = .ok (.iload 5, 2) := by decide +kernel
theorem dX1_likePage_24 : decode cX1_likePage 24 = .ok (.aload_n 1, 1) := by decide +kernel
theorem dX1_likePage_25 : decode cX1_likePage 25 = .ok (.iload_n 2, 1) := by decide +kernel
theorem dX1_likePage_26 : decode cX1_likePage 26 = .ok (.invokevirtual 35, 3) := by decide +kernel
theorem dX1_likePage_29 : decode cX1_likePage 29 = .ok (.iload 4, 2) := by decide +kernel
theorem dX1_likePage_31 : decode cX1_likePage 31 = .ok (.isub, 1) := by decide +kernel
theorem dX1_likePage_32 : decode cX1_likePage 32 = .ok (.if_icmp .eq 5, 3) := by decide +kernel
theorem dX1_likePage_35 : decode cX1_likePage 35 = .ok (.iconst 0, 1) := by decide +kernel
theorem dX1_likePage_36 : decode cX1_likePage 36 = .ok (.ireturn, 1) := by decide +kernel
theorem dX1_likePage_37 : decode cX1_likePage 37 = .ok (.iconst 0, 1) := by decide +kernel
theorem dX1_likePage_38 : decode cX1_likePage 38 = .ok (.istore 6, 2) := by decide +kernel
theorem dX1_likePage_40 : decode cX1_likePage 40 = .ok (.iload 6, 2) := by decide +kernel
theorem dX1_likePage_42 : decode cX1_likePage 42 = .ok (.iload 5, 2) := by decide +kernel
theorem dX1_likePage_44 : decode cX1_likePage 44 = .ok (.if_icmp .ge 28, 3) := by decide +kernel
theorem dX1_likePage_47 : decode cX1_likePage 47 = .ok (.aload_n 0, 1) := by decide +kernel
theorem dX1_likePage_48 : decode cX1_likePage 48 = .ok (.iload_n 3, 1) := by decide +kernel
theorem dX1_likePage_49 : decode cX1_likePage 49 = .ok (.iload 6, 2) := by decide +kernel
theorem dX1_likePage_51 : decode cX1_likePage 51 = .ok (.iadd, 1) := by decide +kernel
theorem dX1_likePage_52 : decode cX1_likePage 52 = .ok (.aload_n 1, 1) := by decide +kernel
theorem dX1_likePage_53 : decode cX1_likePage 53 = .ok (.iload 4, 2) := by decide +kernel
theorem dX1_likePage_55 : decode cX1_likePage 55 = .ok (.iload 6, 2) := by decide +kernel
theorem dX1_likePage_57 : decode cX1_likePage 57 = .ok (.iadd, 1) := by decide +kernel
theorem dX1_likePage_58 : decode cX1_likePage 58 = .ok (.invokevirtual 54, 3) := by decide +kernel
theorem dX1_likePage_61 : decode cX1_likePage 61 = .ok (.ifCond .ne 5, 3) := by decide +kernel
theorem dX1_likePage_64 : decode cX1_likePage 64 = .ok (.iconst 0, 1) := by decide +kernel
theorem dX1_likePage_65 : decode cX1_likePage 65 = .ok (.ireturn, 1) := by decide +kernel
theorem dX1_likePage_66 : decode cX1_likePage 66 = .ok (.iinc 6 1, 3) := by decide +kernel
theorem dX1_likePage_69 : decode cX1_likePage 69 = .ok (.goto (-29), 3) := by decide +kernel
theorem dX1_likePage_72 : decode cX1_likePage 72 = .ok (.iconst 1, 1) := by decide +kernel
theorem dX1_likePage_73 : decode cX1_likePage 73 = .ok (.ireturn, 1) := by decide +kernel
theorem dX1_likeColumn_0 : decode cX1_likeColumn 0 = .ok (.aload_n 0, 1) := by decide +kernel
theorem dX1_likeColumn_1 : decode cX1_likeColumn 1 = .ok (.getfield 15, 3) := by decide +kernel
theorem dX1_likeColumn_4 : decode cX1_likeColumn 4 = .ok (.iload_n 1, 1) := by decide +kernel
theorem dX1_likeColumn_5 : decode cX1_likeColumn 5 = .ok (.iaload, 1) := by decide +kernel
theorem dX1_likeColumn_6 : decode cX1_likeColumn 6 = .ok (.istore 4, 2) := by decide +kernel
theorem dX1_likeColumn_8 : decode cX1_likeColumn 8 = .ok (.aload_n 2, 1) := by decide +kernel
theorem dX1_likeColumn_9 : decode cX1_likeColumn 9 = .ok (.getfield 15, 3) := by decide +kernel
theorem dX1_likeColumn_12 : decode cX1_likeColumn 12 = .ok (.iload_n 3, 1) := by decide +kernel
theorem dX1_likeColumn_13 : decode cX1_likeColumn 13 = .ok (.iaload, 1) := by decide +kernel
theorem dX1_likeColumn_14 : decode cX1_likeColumn 14 = .ok (.istore 5, 2) := by decide +kernel
theorem dX1_likeColumn_16 : decode cX1_likeColumn 16 = .ok (.aload_n 0, 1) := by decide +kernel
theorem dX1_likeColumn_17 : decode cX1_likeColumn 17 = .ok (.getfield 15, 3) := by decide +kernel
theorem dX1_likeColumn_20 : decode cX1_likeColumn 20 = .ok (.iload_n 1, 1) := by decide +kernel
theorem dX1_likeColumn_21 : decode cX1_likeColumn 21 = .ok (.iconst 1, 1) := by decide +kernel
theorem dX1_likeColumn_22 : decode cX1_likeColumn 22 = .ok (.iadd, 1) := by decide +kernel
theorem dX1_likeColumn_23 : decode cX1_likeColumn 23 = .ok (.iaload, 1) := by decide +kernel
theorem dX1_likeColumn_24 : decode cX1_likeColumn 24 = .ok (.iload 4, 2) := by decide +kernel
theorem dX1_likeColumn_26 : decode cX1_likeColumn 26 = .ok (.isub, 1) := by decide +kernel
theorem dX1_likeColumn_27 : decode cX1_likeColumn 27 = .ok (.istore 6, 2) := by decide +kernel
theorem dX1_likeColumn_29 : decode cX1_likeColumn 29 = .ok (.iload 6, 2) := by decide +kernel
theorem dX1_likeColumn_31 : decode cX1_likeColumn 31 = .ok (.aload_n 2, 1) := by decide +kernel
theorem dX1_likeColumn_32 : decode cX1_likeColumn 32 = .ok (.getfield 15, 3) := by decide +kernel
theorem dX1_likeColumn_35 : decode cX1_likeColumn 35 = .ok (.iload_n 3, 1) := by decide +kernel
theorem dX1_likeColumn_36 : decode cX1_likeColumn 36 = .ok (.iconst 1, 1) := by decide +kernel
theorem dX1_likeColumn_37 : decode cX1_likeColumn 37 = .ok (.iadd, 1) := by decide +kernel
theorem dX1_likeColumn_38 : decode cX1_likeColumn 38 = .ok (.iaload, 1) := by decide +kernel
theorem dX1_likeColumn_39 : decode cX1_likeColumn 39 = .ok (.iload 5, 2) := by decide +kernel
theorem dX1_likeColumn_41 : decode cX1_likeColumn 41 = .ok (.isub, 1) := by decide +kernel
theorem dX1_likeColumn_42 : decode cX1_likeColumn 42 = .ok (.if_icmp .eq 5, 3) := by decide +kernel
theorem dX1_likeColumn_45 : decode cX1_likeColumn 45 = .ok (.iconst 0, 1) := by decide +kernel
theorem dX1_likeColumn_46 : decode cX1_likeColumn 46 = .ok (.ireturn, 1) := by decide +kernel
theorem dX1_likeColumn_47 : decode cX1_likeColumn 47 = .ok (.iconst 0, 1) := by decide +kernel
theorem dX1_likeColumn_48 : decode cX1_likeColumn 48 = .ok (.istore 7, 2) := by decide +kernel
theorem dX1_likeColumn_50 : decode cX1_likeColumn 50 = .ok (.iload 7, 2) := by decide +kernel
theorem dX1_likeColumn_52 : decode cX1_likeColumn 52 = .ok (.iload 6, 2) := by decide +kernel
theorem dX1_likeColumn_54 : decode cX1_likeColumn 54 = .ok (.if_icmp .ge 34, 3) := by decide +kernel
theorem dX1_likeColumn_57 : decode cX1_likeColumn 57 = .ok (.aload_n 0, 1) := by decide +kernel
theorem dX1_likeColumn_58 : decode cX1_likeColumn 58 = .ok (.getfield 9, 3) := by decide +kernel
theorem dX1_likeColumn_61 : decode cX1_likeColumn 61 = .ok (.iload 4, 2) := by decide +kernel
theorem dX1_likeColumn_63 : decode cX1_likeColumn 63 = .ok (.iload 7, 2) := by decide +kernel
theorem dX1_likeColumn_65 : decode cX1_likeColumn 65 = .ok (.iadd, 1) := by decide +kernel
theorem dX1_likeColumn_66 : decode cX1_likeColumn 66 = .ok (.iaload, 1) := by decide +kernel
theorem dX1_likeColumn_67 : decode cX1_likeColumn 67 = .ok (.aload_n 2, 1) := by decide +kernel
theorem dX1_likeColumn_68 : decode cX1_likeColumn 68 = .ok (.getfield 9, 3) := by decide +kernel
theorem dX1_likeColumn_71 : decode cX1_likeColumn 71 = .ok (.iload 5, 2) := by decide +kernel
theorem dX1_likeColumn_73 : decode cX1_likeColumn 73 = .ok (.iload 7, 2) := by decide +kernel
theorem dX1_likeColumn_75 : decode cX1_likeColumn 75 = .ok (.iadd, 1) := by decide +kernel
theorem dX1_likeColumn_76 : decode cX1_likeColumn 76 = .ok (.iaload, 1) := by decide +kernel
theorem dX1_likeColumn_77 : decode cX1_likeColumn 77 = .ok (.if_icmp .eq 5, 3) := by decide +kernel
theorem dX1_likeColumn_80 : decode cX1_likeColumn 80 = .ok (.iconst 0, 1) := by decide +kernel
theorem dX1_likeColumn_81 : decode cX1_likeColumn 81 = .ok (.ireturn, 1) := by decide +kernel
theorem dX1_likeColumn_82 : decode cX1_likeColumn 82 = .ok (.iinc 7 1, 3) := by decide +kernel
theorem dX1_likeColumn_85 : decode cX1_likeColumn 85 = .ok (.goto (-35), 3) := by decide +kernel
theorem dX1_likeColumn_88 : decode cX1_likeColumn 88 = .ok (.iconst 1, 1) := by decide +kernel
theorem dX1_likeColumn_89 : decode cX1_likeColumn 89 = .ok (.ireturn, 1) := by decide +kernel
theorem dX1_firstColumn_0 : decode cX1_firstColumn 0 = .ok (.iload_n 1, 1) := by decide +kernel
theorem dX1_firstColumn_1 : decode cX1_firstColumn 1 = .ok (.aload_n 0, 1) := by decide +kernel
theorem dX1_firstColumn_2 : decode cX1_firstColumn 2 = .ok (.getfield 21, 3) := by decide +kernel
theorem dX1_firstColumn_5 : decode cX1_firstColumn 5 = .ok (.imul, 1) := by decide +kernel
theorem dX1_firstColumn_6 : decode cX1_firstColumn 6 = .ok (.aload_n 0, 1) := by decide +kernel
theorem dX1_firstColumn_7 : decode cX1_firstColumn 7 = .ok (.getfield 25, 3) := by decide +kernel
theorem dX1_firstColumn_10 : decode cX1_firstColumn 10 = .ok (.invokestatic 58, 3) := by decide +kernel
theorem dX1_firstColumn_13 : decode cX1_firstColumn 13 = .ok (.ireturn, 1) := by decide +kernel
theorem dX1_endColumn_0 : decode cX1_endColumn 0 = .ok (.iload_n 1, 1) := by decide +kernel
theorem dX1_endColumn_1 : decode cX1_endColumn 1 = .ok (.iconst 1, 1) := by decide +kernel
theorem dX1_endColumn_2 : decode cX1_endColumn 2 = .ok (.iadd, 1) := by decide +kernel
theorem dX1_endColumn_3 : decode cX1_endColumn 3 = .ok (.aload_n 0, 1) := by decide +kernel
theorem dX1_endColumn_4 : decode cX1_endColumn 4 = .ok (.getfield 21, 3) := by decide +kernel
theorem dX1_endColumn_7 : decode cX1_endColumn 7 = .ok (.imul, 1) := by decide +kernel
theorem dX1_endColumn_8 : decode cX1_endColumn 8 = .ok (.aload_n 0, 1) := by decide +kernel
theorem dX1_endColumn_9 : decode cX1_endColumn 9 = .ok (.getfield 25, 3) := by decide +kernel
theorem dX1_endColumn_12 : decode cX1_endColumn 12 = .ok (.invokestatic 58, 3) := by decide +kernel
theorem dX1_endColumn_15 : decode cX1_endColumn 15 = .ok (.ireturn, 1) := by decide +kernel
theorem dX2_init_0 : decode cX2_init 0 = .ok (.aload_n 0, 1) := by decide +kernel
theorem dX2_init_1 : decode cX2_init 1 = .ok (.invokespecial 5, 3) := by decide +kernel
theorem dX2_init_4 : decode cX2_init 4 = .ok (.aload_n 0, 1) := by decide +kernel
theorem dX2_init_5 : decode cX2_init 5 = .ok (.bipush 60, 2) := by decide +kernel
theorem dX2_init_7 : decode cX2_init 7 = .ok (.newarray .int, 2) := by decide +kernel
theorem dX2_init_9 : decode cX2_init 9 = .ok (.putfield 11, 3) := by decide +kernel
theorem dX2_init_12 : decode cX2_init 12 = .ok (.return_, 1) := by decide +kernel
theorem dX2_hasRoom_0 : decode cX2_hasRoom 0 = .ok (.aload_n 0, 1) := by decide +kernel
theorem dX2_hasRoom_1 : decode cX2_hasRoom 1 = .ok (.getfield 15, 3) := by decide +kernel
theorem dX2_hasRoom_4 : decode cX2_hasRoom 4 = .ok (.bipush 20, 2) := by decide +kernel
theorem dX2_hasRoom_6 : decode cX2_hasRoom 6 = .ok (.iadd, 1) := by decide +kernel
theorem dX2_hasRoom_7 : decode cX2_hasRoom 7 = .ok (.bipush 60, 2) := by decide +kernel
theorem dX2_hasRoom_9 : decode cX2_hasRoom 9 = .ok (.if_icmp .gt 7, 3) := by decide +kernel
theorem dX2_hasRoom_12 : decode cX2_hasRoom 12 = .ok (.iconst 1, 1) := by decide +kernel
theorem dX2_hasRoom_13 : decode cX2_hasRoom 13 = .ok (.goto 4, 3) := by decide +kernel
theorem dX2_hasRoom_16 : decode cX2_hasRoom 16 = .ok (.iconst 0, 1) := by decide +kernel
theorem dX2_hasRoom_17 : decode cX2_hasRoom 17 = .ok (.ireturn, 1) := by decide +kernel
theorem dX2_length_0 : decode cX2_length 0 = .ok (.aload_n 0, 1) := by decide +kernel
theorem dX2_length_1 : decode cX2_length 1 = .ok (.getfield 15, 3) := by decide +kernel
theorem dX2_length_4 : decode cX2_length 4 = .ok (.ireturn, 1) := by decide +kernel
theorem dX2_clear_0 : decode cX2_clear 0 = .ok (.aload_n 0, 1) := by decide +kernel
theorem dX2_clear_1 : decode cX2_clear 1 = .ok (.iconst 0, 1) := by decide +kernel
theorem dX2_clear_2 : decode cX2_clear 2 = .ok (.putfield 15, 3) := by decide +kernel
theorem dX2_clear_5 : decode cX2_clear 5 = .ok (.return_, 1) := by decide +kernel
theorem dX2_append_0 : decode cX2_append 0 = .ok (.bipush 24, 2) := by decide +kernel
theorem dX2_append_2 : decode cX2_append 2 = .ok (.istore_n 2, 1) := by decide +kernel
theorem dX2_append_3 : decode cX2_append 3 = .ok (.iload_n 2, 1) := by decide +kernel
theorem dX2_append_4 : decode cX2_append 4 = .ok (.ifCond .lt 44, 3) := by decide +kernel
theorem dX2_append_7 : decode cX2_append 7 = .ok (.aload_n 0, 1) := by decide +kernel
theorem dX2_append_8 : decode cX2_append 8 = .ok (.getfield 15, 3) := by decide +kernel
theorem dX2_append_11 : decode cX2_append 11 = .ok (.bipush 60, 2) := by decide +kernel
theorem dX2_append_13 : decode cX2_append 13 = .ok (.if_icmp .ge 29, 3) := by decide +kernel
theorem dX2_append_16 : decode cX2_append 16 = .ok (.aload_n 0, 1) := by decide +kernel
theorem dX2_append_17 : decode cX2_append 17 = .ok (.getfield 11, 3) := by decide +kernel
theorem dX2_append_20 : decode cX2_append 20 = .ok (.aload_n 0, 1) := by decide +kernel
theorem dX2_append_21 : decode cX2_append 21 = .ok (.getfield 15, 3) := by decide +kernel
theorem dX2_append_24 : decode cX2_append 24 = .ok (.iload_n 1, 1) := by decide +kernel
theorem dX2_append_25 : decode cX2_append 25 = .ok (.iload_n 2, 1) := by decide +kernel
theorem dX2_append_26 : decode cX2_append 26 = .ok (.iushr, 1) := by decide +kernel
theorem dX2_append_27 : decode cX2_append 27 = .ok (.sipush 255, 3) := by decide +kernel
theorem dX2_append_30 : decode cX2_append 30 = .ok (.iand, 1) := by decide +kernel
theorem dX2_append_31 : decode cX2_append 31 = .ok (.iastore, 1) := by decide +kernel
theorem dX2_append_32 : decode cX2_append 32 = .ok (.aload_n 0, 1) := by decide +kernel
theorem dX2_append_33 : decode cX2_append 33 = .ok (.dup, 1) := by decide +kernel
theorem dX2_append_34 : decode cX2_append 34 = .ok (.getfield 15, 3) := by decide +kernel
theorem dX2_append_37 : decode cX2_append 37 = .ok (.iconst 1, 1) := by decide +kernel
theorem dX2_append_38 : decode cX2_append 38 = .ok (.iadd, 1) := by decide +kernel
theorem dX2_append_39 : decode cX2_append 39 = .ok (.putfield 15, 3) := by decide +kernel
theorem dX2_append_42 : decode cX2_append 42 = .ok (.iinc 2 (-8), 3) := by decide +kernel
theorem dX2_append_45 : decode cX2_append 45 = .ok (.goto (-42), 3) := by decide +kernel
theorem dX2_append_48 : decode cX2_append 48 = .ok (.return_, 1) := by decide +kernel
theorem dX2_headAt_0 : decode cX2_headAt 0 = .ok (.iload_n 2, 1) := by decide +kernel
theorem dX2_headAt_1 : decode cX2_headAt 1 = .ok (.iconst 1, 1) := by decide +kernel
theorem dX2_headAt_2 : decode cX2_headAt 2 = .ok (.if_icmp .lt 23, 3) := by decide +kernel
theorem dX2_headAt_5 : decode cX2_headAt 5 = .ok (.iload_n 2, 1) := by decide +kernel
theorem dX2_headAt_6 : decode cX2_headAt 6 = .ok (.bipush 12, 2) := by decide +kernel
theorem dX2_headAt_8 : decode cX2_headAt 8 = .ok (.if_icmp .gt 17, 3) := by decide +kernel
theorem dX2_headAt_11 : decode cX2_headAt 11 = .ok (.iload_n 1, 1) := by decide +kernel
theorem dX2_headAt_12 : decode cX2_headAt 12 = .ok (.ifCond .lt 13, 3) := by decide +kernel
theorem dX2_headAt_15 : decode cX2_headAt 15 = .ok (.iload_n 1, 1) := by decide +kernel
theorem dX2_headAt_16 : decode cX2_headAt 16 = .ok (.aload_n 0, 1) := by decide +kernel
theorem dX2_headAt_17 : decode cX2_headAt 17 = .ok (.getfield 15, 3) := by decide +kernel
theorem dX2_headAt_20 : decode cX2_headAt 20 = .ok (.iload_n 2, 1) := by decide +kernel
theorem dX2_headAt_21 : decode cX2_headAt 21 = .ok (.isub, 1) := by decide +kernel
theorem dX2_headAt_22 : decode cX2_headAt 22 = .ok (.if_icmp .le 5, 3) := by decide +kernel
theorem dX2_headAt_25 : decode cX2_headAt 25 = .ok (.lconst 0, 1) := by decide +kernel
theorem dX2_headAt_26 : decode cX2_headAt 26 = .ok (.lreturn, 1) := by decide +kernel
theorem dX2_headAt_27 : decode cX2_headAt 27 = .ok (.lconst 0, 1) := by decide +kernel
theorem dX2_headAt_28 : decode cX2_headAt 28 = .ok (.lstore_n 3, 1) := by decide +kernel
theorem dX2_headAt_29 : decode cX2_headAt 29 = .ok (.bipush 55, 2) := by decide +kernel
theorem dX2_headAt_31 : decode cX2_headAt 31 = .ok (.istore 5, 2) := by decide +kernel
theorem dX2_headAt_33 : decode cX2_headAt 33 = .ok (.iload_n 1, 1) := by decide +kernel
theorem dX2_headAt_34 : decode cX2_headAt 34 = .ok (.istore 6, 2) := by decide +kernel
theorem dX2_headAt_36 : decode cX2_headAt 36 = .ok (.iload 6, 2) := by decide +kernel
theorem dX2_headAt_38 : decode cX2_headAt 38 = .ok (.iload_n 1, 1) := by decide +kernel
theorem dX2_headAt_39 : decode cX2_headAt 39 = .ok (.iload_n 2, 1) := by decide +kernel
theorem dX2_headAt_40 : decode cX2_headAt 40 = .ok (.iadd, 1) := by decide +kernel
theorem dX2_headAt_41 : decode cX2_headAt 41 = .ok (.if_icmp .ge 49, 3) := by decide +kernel
theorem dX2_headAt_44 : decode cX2_headAt 44 = .ok (.aload_n 0, 1) := by decide +kernel
theorem dX2_headAt_45 : decode cX2_headAt 45 = .ok (.getfield 11, 3) := by decide +kernel
theorem dX2_headAt_48 : decode cX2_headAt 48 = .ok (.iload 6, 2) := by decide +kernel
theorem dX2_headAt_50 : decode cX2_headAt 50 = .ok (.iaload, 1) := by decide +kernel
theorem dX2_headAt_51 : decode cX2_headAt 51 = .ok (.bipush 97, 2) := by decide +kernel
theorem dX2_headAt_53 : decode cX2_headAt 53 = .ok (.isub, 1) := by decide +kernel
theorem dX2_headAt_54 : decode cX2_headAt 54 = .ok (.istore 7, 2) := by decide +kernel
theorem dX2_headAt_56 : decode cX2_headAt 56 = .ok (.iload 7, 2) := by decide +kernel
theorem dX2_headAt_58 : decode cX2_headAt 58 = .ok (.ifCond .lt 10, 3) := by decide +kernel
theorem dX2_headAt_61 : decode cX2_headAt 61 = .ok (.iload 7, 2) := by decide +kernel
theorem dX2_headAt_63 : decode cX2_headAt 63 = .ok (.bipush 26, 2) := by decide +kernel
theorem dX2_headAt_65 : decode cX2_headAt 65 = .ok (.if_icmp .lt 5, 3) := by decide +kernel
theorem dX2_headAt_68 : decode cX2_headAt 68 = .ok (.lconst 0, 1) := by decide +kernel
theorem dX2_headAt_69 : decode cX2_headAt 69 = .ok (.lreturn, 1) := by decide +kernel
theorem dX2_headAt_70 : decode cX2_headAt 70 = .ok (.lload_n 3, 1) := by decide +kernel
theorem dX2_headAt_71 : decode cX2_headAt 71 = .ok (.iload 7, 2) := by decide +kernel
theorem dX2_headAt_73 : decode cX2_headAt 73 = .ok (.iconst 1, 1) := by decide +kernel
theorem dX2_headAt_74 : decode cX2_headAt 74 = .ok (.iadd, 1) := by decide +kernel
theorem dX2_headAt_75 : decode cX2_headAt 75 = .ok (.i2l, 1) := by decide +kernel
theorem dX2_headAt_76 : decode cX2_headAt 76 = .ok (.iload 5, 2) := by decide +kernel
theorem dX2_headAt_78 : decode cX2_headAt 78 = .ok (.lshl, 1) := by decide +kernel
theorem dX2_headAt_79 : decode cX2_headAt 79 = .ok (.lor, 1) := by decide +kernel
theorem dX2_headAt_80 : decode cX2_headAt 80 = .ok (.lstore_n 3, 1) := by decide +kernel
theorem dX2_headAt_81 : decode cX2_headAt 81 = .ok (.iinc 5 (-5), 3) := by decide +kernel
theorem dX2_headAt_84 : decode cX2_headAt 84 = .ok (.iinc 6 1, 3) := by decide +kernel
theorem dX2_headAt_87 : decode cX2_headAt 87 = .ok (.goto (-51), 3) := by decide +kernel
theorem dX2_headAt_90 : decode cX2_headAt 90 = .ok (.lload_n 3, 1) := by decide +kernel
theorem dX2_headAt_91 : decode cX2_headAt 91 = .ok (.lreturn, 1) := by decide +kernel
theorem dX2_firstLetter_0 : decode cX2_firstLetter 0 = .ok (.lload_n 0, 1) := by decide +kernel
theorem dX2_firstLetter_1 : decode cX2_firstLetter 1 = .ok (.bipush 55, 2) := by decide +kernel
theorem dX2_firstLetter_3 : decode cX2_firstLetter 3 = .ok (.lushr, 1) := by decide +kernel
theorem dX2_firstLetter_4 : decode cX2_firstLetter 4 = .ok (.l2i, 1) := by decide +kernel
theorem dX2_firstLetter_5 : decode cX2_firstLetter 5 = .ok (.iconst 1, 1) := by decide +kernel
theorem dX2_firstLetter_6 : decode cX2_firstLetter 6 = .ok (.isub, 1) := by decide +kernel
theorem dX2_firstLetter_7 : decode cX2_firstLetter 7 = .ok (.ireturn, 1) := by decide +kernel
theorem dX3_init_0 : decode cX3_init 0 = .ok (.aload_n 0, 1) := by decide +kernel
theorem dX3_init_1 : decode cX3_init 1 = .ok (.invokespecial 3, 3) := by decide +kernel
theorem dX3_init_4 : decode cX3_init 4 = .ok (.aload_n 0, 1) := by decide +kernel
theorem dX3_init_5 : decode cX3_init 5 = .ok (.aload_n 1, 1) := by decide +kernel
theorem dX3_init_6 : decode cX3_init 6 = .ok (.putfield 9, 3) := by decide +kernel
theorem dX3_init_9 : decode cX3_init 9 = .ok (.aload_n 0, 1) := by decide +kernel
theorem dX3_init_10 : decode cX3_init 10 = .ok (.sipush 900, 3) := by decide +kernel
theorem dX3_init_13 : decode cX3_init 13 = .ok (.newarray .int, 2) := by decide +kernel
theorem dX3_init_15 : decode cX3_init 15 = .ok (.putfield 15, 3) := by decide +kernel
theorem dX3_init_18 : decode cX3_init 18 = .ok (.aload_n 0, 1) := by decide +kernel
theorem dX3_init_19 : decode cX3_init 19 = .ok (.sipush 900, 3) := by decide +kernel
theorem dX3_init_22 : decode cX3_init 22 = .ok (.newarray .int, 2) := by decide +kernel
theorem dX3_init_24 : decode cX3_init 24 = .ok (.putfield 18, 3) := by decide +kernel
theorem dX3_init_27 : decode cX3_init 27 = .ok (.aload_n 0, 1) := by decide +kernel
theorem dX3_init_28 : decode cX3_init 28 = .ok (.sipush 3600, 3) := by decide +kernel
theorem dX3_init_31 : decode cX3_init 31 = .ok (.newarray .long, 2) := by decide +kernel
theorem dX3_init_33 : decode cX3_init 33 = .ok (.putfield 21, 3) := by decide +kernel
theorem dX3_init_36 : decode cX3_init 36 = .ok (.return_, 1) := by decide +kernel
set_option maxRecDepth 20000 in
theorem ggX3_compose_X3_gather : GoodIn wsX3_compose wsX3_gather := goodIn_r _ [10, 1, 2, 11, 12, 13, 14, 15, 16, 17, 18, 19, 20, 21, 22, 23, 24, 9, 25, 56, 57, 58, 59, 60, 69, 70, 71, 72, 73, 74, 75, 76, 77, 61, 62, 63, 64, 65, 66, 67, 68] (by decide +kernel) (by decide +kernel)
set_option maxRecDepth 20000 in
theorem gX3_compose_X3_gather : GoodIn wsX3_compose (wsV RX3 25 RX3 yX3_gather wsX3_gather) := goodIn_app (goodIn_of _ (by decide +kernel)) ggX3_compose_X3_gather
set_option maxRecDepth 20000 in
theorem ggX3_compose_X3_weigh : GoodIn wsX3_compose wsX3_weigh := goodIn_r _ [29, 4, 1, 11, 2, 3, 30, 31, 32, 9, 33, 34, 35, 36, 37, 12, 5, 56, 57, 58, 59, 60] (by decide +kernel) (by decide +kernel)
set_option maxRecDepth 20000 in
theorem gX3_compose_X3_weigh : GoodIn wsX3_compose (wsV RX3 33 RX3 yX3_weigh wsX3_weigh) := goodIn_app (goodIn_of _ (by decide +kernel)) ggX3_compose_X3_weigh
set_option maxRecDepth 20000 in
theorem ggX3_compose_X3_layOut : GoodIn wsX3_compose wsX3_layOut := goodIn_r _ [41, 2, 1, 11, 42, 43, 44, 45, 46, 47, 48, 49, 50, 26, 27, 28, 9, 29, 4, 3, 30, 31, 32, 33, 34, 35, 36, 37, 12, 5, 51, 52, 53, 54, 55, 56, 57, 58, 59, 60, 61, 62, 63, 64, 65, 66, 67, 68] (by decide +kernel) (by decide +kernel)
set_option maxRecDepth 20000 in
theorem gX3_compose_X3_layOut : GoodIn wsX3_compose (wsV RX3 39 RX3 yX3_layOut wsX3_layOut) := goodIn_app (goodIn_of _ (by decide +kernel)) ggX3_compose_X3_layOut
theorem dX3_compose_0 : decode cX3_compose 0 = .ok (.aload_n 0, 1) := by decide +kernel
theorem dX3_compose_1 : decode cX3_compose 1 = .ok (.aload_n 1, 1) := by decide +kernel
theorem dX3_compose_2 : decode cX3_compose 2 = .ok (.aload_n 2, 1) := by decide +kernel
theorem dX3_compose_3 : decode cX3_compose 3 = .ok (.invokevirtual 25, 3) := by decide +kernel
theorem dX3_compose_6 : decode cX3_compose 6 = .ok (.aload_n 0, 1) := by decide +kernel
theorem dX3_compose_7 : decode cX3_compose 7 = .ok (.getfield 29, 3) := by decide +kernel
theorem dX3_compose_10 : decode cX3_compose 10 = .ok (.ifCond .ne 5, 3) := by decide +kernel
theorem dX3_compose_13 : decode cX3_compose 13 = .ok (.iconst 0, 1) := by decide +kernel
theorem dX3_compose_14 : decode cX3_compose 14 = .ok (.ireturn, 1) := by decide +kernel
theorem dX3_compose_15 : decode cX3_compose 15 = .ok (.aload_n 0, 1) := by decide +kernel
theorem dX3_compose_16 : decode cX3_compose 16 = .ok (.getfield 29, 3) := by decide +kernel
theorem dX3_compose_19 : decode cX3_compose 19 = .ok (.iconst 1, 1) := by decide +kernel
theorem dX3_compose_20 : decode cX3_compose 20 = .ok (.isub, 1) := by decide +kernel
theorem dX3_compose_21 : decode cX3_compose 21 = .ok (.istore_n 3, 1) := by decide +kernel
theorem dX3_compose_22 : decode cX3_compose 22 = .ok (.iload_n 3, 1) := by decide +kernel
theorem dX3_compose_23 : decode cX3_compose 23 = .ok (.ifCond .lt 37, 3) := by decide +kernel
theorem dX3_compose_26 : decode cX3_compose 26 = .ok (.iconst 0, 1) := by decide +kernel
theorem dX3_compose_27 : decode cX3_compose 27 = .ok (.istore 4, 2) := by decide +kernel
theorem dX3_compose_29 : decode cX3_compose 29 = .ok (.iload 4, 2) := by decide +kernel
theorem dX3_compose_31 : decode cX3_compose 31 = .ok (.aload_n 0, 1) := by decide +kernel
theorem dX3_compose_32 : decode cX3_compose 32 = .ok (.getfield 9, 3) := by decide +kernel
theorem dX3_compose_35 : decode cX3_compose 35 = .ok (.iconst 1, 1) := by decide +kernel
theorem dX3_compose_36 : decode cX3_compose 36 = .ok (.iaload, 1) := by decide +kernel
theorem dX3_compose_37 : decode cX3_compose 37 = .ok (.if_icmp .ge 17, 3) := by decide +kernel
theorem dX3_compose_40 : decode cX3_compose 40 = .ok (.aload_n 0, 1) := by decide +kernel
theorem dX3_compose_41 : decode cX3_compose 41 = .ok (.iload_n 3, 1) := by decide +kernel
theorem dX3_compose_42 : decode cX3_compose 42 = .ok (.iload 4, 2) := by decide +kernel
theorem dX3_compose_44 : decode cX3_compose 44 = .ok (.invokevirtual 33, 3) := by decide +kernel
theorem dX3_compose_47 : decode cX3_compose 47 = .ok (.pop, 1) := by decide +kernel
theorem dX3_compose_48 : decode cX3_compose 48 = .ok (.iinc 4 1, 3) := by decide +kernel
theorem dX3_compose_51 : decode cX3_compose 51 = .ok (.goto (-22), 3) := by decide +kernel
theorem dX3_compose_54 : decode cX3_compose 54 = .ok (.iinc 3 (-1), 3) := by decide +kernel
theorem dX3_compose_57 : decode cX3_compose 57 = .ok (.goto (-35), 3) := by decide +kernel
theorem dX3_compose_60 : decode cX3_compose 60 = .ok (.aload_n 0, 1) := by decide +kernel
theorem dX3_compose_61 : decode cX3_compose 61 = .ok (.getfield 21, 3) := by decide +kernel
theorem dX3_compose_64 : decode cX3_compose 64 = .ok (.iconst 0, 1) := by decide +kernel
theorem dX3_compose_65 : decode cX3_compose 65 = .ok (.laload, 1) := by decide +kernel
theorem dX3_compose_66 : decode cX3_compose 66 = .ok (.ldc2_w 37, 3) := by decide +kernel
theorem dX3_compose_69 : decode cX3_compose 69 = .ok (.lcmp, 1) := by decide +kernel
theorem dX3_compose_70 : decode cX3_compose 70 = .ok (.ifCond .ne 5, 3) := by decide +kernel
theorem dX3_compose_73 : decode cX3_compose 73 = .ok (.iconst 0, 1) := by decide +kernel
theorem dX3_compose_74 : decode cX3_compose 74 = .ok (.ireturn, 1) := by decide +kernel
theorem dX3_compose_75 : decode cX3_compose 75 = .ok (.aload_n 0, 1) := by decide +kernel
theorem dX3_compose_76 : decode cX3_compose 76 = .ok (.aload_n 2, 1) := by decide +kernel
theorem dX3_compose_77 : decode cX3_compose 77 = .ok (.invokevirtual 39, 3) := by decide +kernel
theorem dX3_compose_80 : decode cX3_compose 80 = .ok (.aload_n 2, 1) := by decide +kernel
theorem dX3_compose_81 : decode cX3_compose 81 = .ok (.aload_n 0, 1) := by decide +kernel
theorem dX3_compose_82 : decode cX3_compose 82 = .ok (.getfield 21, 3) := by decide +kernel
theorem dX3_compose_85 : decode cX3_compose 85 = .ok (.iconst 0, 1) := by decide +kernel
theorem dX3_compose_86 : decode cX3_compose 86 = .ok (.laload, 1) := by decide +kernel
theorem dX3_compose_87 : decode cX3_compose 87 = .ok (.ldc2_w 43, 3) := by decide +kernel
theorem dX3_compose_90 : decode cX3_compose 90 = .ok (.ldiv, 1) := by decide +kernel
theorem dX3_compose_91 : decode cX3_compose 91 = .ok (.l2i, 1) := by decide +kernel
theorem dX3_compose_92 : decode cX3_compose 92 = .ok (.putfield 45, 3) := by decide +kernel
theorem dX3_compose_95 : decode cX3_compose 95 = .ok (.iconst 1, 1) := by decide +kernel
theorem dX3_compose_96 : decode cX3_compose 96 = .ok (.ireturn, 1) := by decide +kernel
set_option maxRecDepth 20000 in
theorem ggX3_gather_X0_letterOf : GoodIn wsX3_gather wsX0_letterOf := goodIn_r _ [9, 10, 11, 12, 13, 14, 24, 25, 26, 27, 28, 29, 30, 31, 32] (by decide +kernel) (by decide +kernel)
set_option maxRecDepth 20000 in
theorem gX3_gather_X0_letterOf : GoodIn wsX3_gather (wsV RX3 58 RX0 yX0_letterOf wsX0_letterOf) := goodIn_app (goodIn_of _ (by decide +kernel)) ggX3_gather_X0_letterOf
set_option maxRecDepth 20000 in
theorem ggX3_gather_X3_breakBehind : GoodIn wsX3_gather wsX3_breakBehind := goodIn_r _ [18] (by decide +kernel) (by decide +kernel)
set_option maxRecDepth 20000 in
theorem gX3_gather_X3_breakBehind : GoodIn wsX3_gather (va_wsS RX3 68 yX3_breakBehind wsX3_breakBehind) := goodIn_app (goodIn_of _ (by decide +kernel)) ggX3_gather_X3_breakBehind
theorem dX3_gather_0 : decode cX3_gather 0 = .ok (.aload_n 0, 1) := by decide +kernel
theorem dX3_gather_1 : decode cX3_gather 1 = .ok (.iconst 0, 1) := by decide +kernel
theorem dX3_gather_2 : decode cX3_gather 2 = .ok (.putfield 29, 3) := by decide +kernel
theorem dX3_gather_5 : decode cX3_gather 5 = .ok (.iconst (-1), 1) := by decide +kernel
theorem dX3_gather_6 : decode cX3_gather 6 = .ok (.istore_n 3, 1) := by decide +kernel
theorem dX3_gather_7 : decode cX3_gather 7 = .ok (.iconst 0, 1) := by decide +kernel
theorem dX3_gather_8 : decode cX3_gather 8 = .ok (.istore 4, 2) := by decide +kernel
theorem dX3_gather_10 : decode cX3_gather 10 = .ok (.iload 4, 2) := by decide +kernel
theorem dX3_gather_12 : decode cX3_gather 12 = .ok (.aload_n 1, 1) := by decide +kernel
theorem dX3_gather_13 : decode cX3_gather 13 = .ok (.getfield 50, 3) := by decide +kernel
theorem dX3_gather_16 : decode cX3_gather 16 = .ok (.if_icmp .ge 164, 3) := by decide +kernel
theorem dX3_gather_19 : decode cX3_gather 19 = .ok (.aload_n 1, 1) := by decide +kernel
theorem dX3_gather_20 : decode cX3_gather 20 = .ok (.getfield 55, 3) := by decide +kernel
theorem dX3_gather_23 : decode cX3_gather 23 = .ok (.iload 4, 2) := by decide +kernel
theorem dX3_gather_25 : decode cX3_gather 25 = .ok (.iaload, 1) := by decide +kernel
theorem dX3_gather_26 : decode cX3_gather 26 = .ok (.istore 5, 2) := by decide +kernel
theorem dX3_gather_28 : decode cX3_gather 28 = .ok (.aload_n 1, 1) := by decide +kernel
theorem dX3_gather_29 : decode cX3_gather 29 = .ok (.iload 5, 2) := by decide +kernel
theorem dX3_gather_31 : decode cX3_gather 31 = .ok (.invokevirtual 58, 3) := by decide +kernel
theorem dX3_gather_34 : decode cX3_gather 34 = .ok (.iload_n 3, 1) := by decide +kernel
theorem dX3_gather_35 : decode cX3_gather 35 = .ok (.if_icmp .ne 7, 3) := by decide +kernel
theorem dX3_gather_38 : decode cX3_gather 38 = .ok (.iconst 0, 1) := by decide +kernel
theorem dX3_gather_39 : decode cX3_gather 39 = .ok (.goto 9, 3) := by decide +kernel
theorem dX3_gather_42 : decode cX3_gather 42 = .ok (.aload_n 0, 1) := by decide +kernel
theorem dX3_gather_43 : decode cX3_gather 43 = .ok (.getfield 9, 3) := by decide +kernel
theorem dX3_gather_46 : decode cX3_gather 46 = .ok (.iconst 2, 1) := by decide +kernel
theorem dX3_gather_47 : decode cX3_gather 47 = .ok (.iaload, 1) := by decide +kernel
theorem dX3_gather_48 : decode cX3_gather 48 = .ok (.istore 6, 2) := by decide +kernel
theorem dX3_gather_50 : decode cX3_gather 50 = .ok (.aload_n 1, 1) := by decide +kernel
theorem dX3_gather_51 : decode cX3_gather 51 = .ok (.iload 5, 2) := by decide +kernel
theorem dX3_gather_53 : decode cX3_gather 53 = .ok (.invokevirtual 58, 3) := by decide +kernel
theorem dX3_gather_56 : decode cX3_gather 56 = .ok (.istore_n 3, 1) := by decide +kernel
theorem dX3_gather_57 : decode cX3_gather 57 = .ok (.aload_n 1, 1) := by decide +kernel
theorem dX3_gather_58 : decode cX3_gather 58 = .ok (.getfield 62, 3) := by decide +kernel
theorem dX3_gather_61 : decode cX3_gather 61 = .ok (.iload 5, 2) := by decide +kernel
theorem dX3_gather_63 : decode cX3_gather 63 = .ok (.iaload, 1) := by decide +kernel
theorem dX3_gather_64 : decode cX3_gather 64 = .ok (.istore 7, 2) := by decide +kernel
theorem dX3_gather_66 : decode cX3_gather 66 = .ok (.iconst 0, 1) := by decide +kernel
theorem dX3_gather_67 : decode cX3_gather 67 = .ok (.istore 8, 2) := by decide +kernel
theorem dX3_gather_69 : decode cX3_gather 69 = .ok (.iload 8, 2) := by decide +kernel
theorem dX3_gather_71 : decode cX3_gather 71 = .ok (.iload 7, 2) := by decide +kernel
theorem dX3_gather_73 : decode cX3_gather 73 = .ok (.if_icmp .ge 101, 3) := by decide +kernel
theorem dX3_gather_76 : decode cX3_gather 76 = .ok (.aload_n 0, 1) := by decide +kernel
theorem dX3_gather_77 : decode cX3_gather 77 = .ok (.getfield 29, 3) := by decide +kernel
theorem dX3_gather_80 : decode cX3_gather 80 = .ok (.sipush 900, 3) := by decide +kernel
theorem dX3_gather_83 : decode cX3_gather 83 = .ok (.if_icmp .ge 91, 3) := by decide +kernel
theorem dX3_gather_86 : decode cX3_gather 86 = .ok (.iload 5, 2) := by decide +kernel
theorem dX3_gather_88 : decode cX3_gather 88 = .ok (.bipush 6, 2) := by decide +kernel
theorem dX3_gather_90 : decode cX3_gather 90 = .ok (.imul, 1) := by decide +kernel
theorem dX3_gather_91 : decode cX3_gather 91 = .ok (.iload 8, 2) := by decide +kernel
theorem dX3_gather_93 : decode cX3_gather 93 = .ok (.iadd, 1) := by decide +kernel
theorem dX3_gather_94 : decode cX3_gather 94 = .ok (.istore 9, 2) := by decide +kernel
theorem dX3_gather_96 : decode cX3_gather 96 = .ok (.aload_n 2, 1) := by decide +kernel
theorem dX3_gather_97 : decode cX3_gather 97 = .ok (.getfield 65, 3) := by decide +kernel
theorem dX3_gather_100 : decode cX3_gather 100 = .ok (.aload_n 0, 1) := by decide +kernel
theorem dX3_gather_101 : decode cX3_gather 101 = .ok (.getfield 29, 3) := by decide +kernel
theorem dX3_gather_104 : decode cX3_gather 104 = .ok (.iload 9, 2) := by decide +kernel
theorem dX3_gather_106 : decode cX3_gather 106 = .ok (.iastore, 1) := by decide +kernel
theorem dX3_gather_107 : decode cX3_gather 107 = .ok (.aload_n 0, 1) := by decide +kernel
theorem dX3_gather_108 : decode cX3_gather 108 = .ok (.getfield 15, 3) := by decide +kernel
theorem dX3_gather_111 : decode cX3_gather 111 = .ok (.aload_n 0, 1) := by decide +kernel
theorem dX3_gather_112 : decode cX3_gather 112 = .ok (.getfield 29, 3) := by decide +kernel
theorem dX3_gather_115 : decode cX3_gather 115 = .ok (.aload_n 1, 1) := by decide +kernel
theorem dX3_gather_116 : decode cX3_gather 116 = .ok (.getfield 67, 3) := by decide +kernel
theorem dX3_gather_119 : decode cX3_gather 119 = .ok (.iload 9, 2) := by decide +kernel
theorem dX3_gather_121 : decode cX3_gather 121 = .ok (.iaload, 1) := by decide +kernel
theorem dX3_gather_122 : decode cX3_gather 122 = .ok (.iload 8, 2) := by decide +kernel
theorem dX3_gather_124 : decode cX3_gather 124 = .ok (.ifCond .ne 8, 3) := by decide +kernel
theorem dX3_gather_127 : decode cX3_gather 127 = .ok (.iload 6, 2) := by decide +kernel
theorem dX3_gather_129 : decode cX3_gather 129 = .ok (.goto 4, 3) := by decide +kernel
theorem dX3_gather_132 : decode cX3_gather 132 = .ok (.iconst 0, 1) := by decide +kernel
theorem dX3_gather_133 : decode cX3_gather 133 = .ok (.iadd, 1) := by decide +kernel
theorem dX3_gather_134 : decode cX3_gather 134 = .ok (.iastore, 1) := by decide +kernel
theorem dX3_gather_135 : decode cX3_gather 135 = .ok (.aload_n 0, 1) := by decide +kernel
theorem dX3_gather_136 : decode cX3_gather 136 = .ok (.getfield 18, 3) := by decide +kernel
theorem dX3_gather_139 : decode cX3_gather 139 = .ok (.aload_n 0, 1) := by decide +kernel
theorem dX3_gather_140 : decode cX3_gather 140 = .ok (.getfield 29, 3) := by decide +kernel
theorem dX3_gather_143 : decode cX3_gather 143 = .ok (.iload 8, 2) := by decide +kernel
theorem dX3_gather_145 : decode cX3_gather 145 = .ok (.iload 7, 2) := by decide +kernel
theorem dX3_gather_147 : decode cX3_gather 147 = .ok (.aload_n 1, 1) := by decide +kernel
theorem dX3_gather_148 : decode cX3_gather 148 = .ok (.getfield 67, 3) := by decide +kernel
theorem dX3_gather_151 : decode cX3_gather 151 = .ok (.iload 9, 2) := by decide +kernel
theorem dX3_gather_153 : decode cX3_gather 153 = .ok (.iaload, 1) := by decide +kernel
theorem dX3_gather_154 : decode cX3_gather 154 = .ok (.invokestatic 68, 3) := by decide +kernel
theorem dX3_gather_157 : decode cX3_gather 157 = .ok (.iastore, 1) := by decide +kernel
theorem dX3_gather_158 : decode cX3_gather 158 = .ok (.aload_n 0, 1) := by decide +kernel
theorem dX3_gather_159 : decode cX3_gather 159 = .ok (.dup, 1) := by decide +kernel
theorem dX3_gather_160 : decode cX3_gather 160 = .ok (.getfield 29, 3) := by decide +kernel
theorem dX3_gather_163 : decode cX3_gather 163 = .ok (.iconst 1, 1) := by decide +kernel
theorem dX3_gather_164 : decode cX3_gather 164 = .ok (.iadd, 1) := by decide +kernel
theorem dX3_gather_165 : decode cX3_gather 165 = .ok (.putfield 29, 3) := by decide +kernel
theorem dX3_gather_168 : decode cX3_gather 168 = .ok (.iinc 8 1, 3) := by decide +kernel
theorem dX3_gather_171 : decode cX3_gather 171 = .ok (.goto (-102), 3) := by decide +kernel
theorem dX3_gather_174 : decode cX3_gather 174 = .ok (.iinc 4 1, 3) := by decide +kernel
theorem dX3_gather_177 : decode cX3_gather 177 = .ok (.goto (-167), 3) := by decide +kernel
theorem dX3_gather_180 : decode cX3_gather 180 = .ok (.aload_n 2, 1) := by decide +kernel
theorem dX3_gather_181 : decode cX3_gather 181 = .ok (.aload_n 0, 1) := by decide +kernel
theorem dX3_gather_182 : decode cX3_gather 182 = .ok (.getfield 29, 3) := by decide +kernel
theorem dX3_gather_185 : decode cX3_gather 185 = .ok (.putfield 72, 3) := by decide +kernel
theorem dX3_gather_188 : decode cX3_gather 188 = .ok (.return_, 1) := by decide +kernel
theorem dX3_breakBehind_0 : decode cX3_breakBehind 0 = .ok (.iload_n 0, 1) := by decide +kernel
theorem dX3_breakBehind_1 : decode cX3_breakBehind 1 = .ok (.iload_n 1, 1) := by decide +kernel
theorem dX3_breakBehind_2 : decode cX3_breakBehind 2 = .ok (.iconst 1, 1) := by decide +kernel
theorem dX3_breakBehind_3 : decode cX3_breakBehind 3 = .ok (.isub, 1) := by decide +kernel
theorem dX3_breakBehind_4 : decode cX3_breakBehind 4 = .ok (.if_icmp .ne 5, 3) := by decide +kernel
theorem dX3_breakBehind_7 : decode cX3_breakBehind 7 = .ok (.iconst 1, 1) := by decide +kernel
theorem dX3_breakBehind_8 : decode cX3_breakBehind 8 = .ok (.ireturn, 1) := by decide +kernel
theorem dX3_breakBehind_9 : decode cX3_breakBehind 9 = .ok (.iload_n 0, 1) := by decide +kernel
theorem dX3_breakBehind_10 : decode cX3_breakBehind 10 = .ok (.ifCond .gt 8, 3) := by decide +kernel
theorem dX3_breakBehind_13 : decode cX3_breakBehind 13 = .ok (.iload_n 2, 1) := by decide +kernel
theorem dX3_breakBehind_14 : decode cX3_breakBehind 14 = .ok (.iconst 2, 1) := by decide +kernel
theorem dX3_breakBehind_15 : decode cX3_breakBehind 15 = .ok (.if_icmp .lt 7, 3) := by decide +kernel
theorem dX3_breakBehind_18 : decode cX3_breakBehind 18 = .ok (.iconst 2, 1) := by decide +kernel
theorem dX3_breakBehind_19 : decode cX3_breakBehind 19 = .ok (.goto 4, 3) := by decide +kernel
theorem dX3_breakBehind_22 : decode cX3_breakBehind 22 = .ok (.iconst 0, 1) := by decide +kernel
theorem dX3_breakBehind_23 : decode cX3_breakBehind 23 = .ok (.ireturn, 1) := by decide +kernel
set_option maxRecDepth 20000 in
theorem ggX3_weigh_X3_placeBehind : GoodIn wsX3_weigh wsX3_placeBehind := goodIn_r _ [10, 4, 17, 18, 19, 20, 21] (by decide +kernel) (by decide +kernel)
set_option maxRecDepth 20000 in
theorem gX3_weigh_X3_placeBehind : GoodIn wsX3_weigh (wsV RX3 75 RX3 yX3_placeBehind wsX3_placeBehind) := goodIn_app (goodIn_of _ (by decide +kernel)) ggX3_weigh_X3_placeBehind
set_option maxRecDepth 20000 in
theorem ggX3_weigh_X3_weightOf : GoodIn wsX3_weigh wsX3_weightOf := goodIn_r _ [14, 2, 15, 1, 5, 4, 16, 17, 18, 19, 20, 21] (by decide +kernel) (by decide +kernel)
set_option maxRecDepth 20000 in
theorem gX3_weigh_X3_weightOf : GoodIn wsX3_weigh (wsV RX3 78 RX3 yX3_weightOf wsX3_weightOf) := goodIn_app (goodIn_of _ (by decide +kernel)) ggX3_weigh_X3_weightOf
theorem dX3_weigh_0 : decode cX3_weigh 0 = .ok (.aload_n 0, 1) := by decide +kernel
theorem dX3_weigh_1 : decode cX3_weigh 1 = .ok (.iload_n 2, 1) := by decide +kernel
theorem dX3_weigh_2 : decode cX3_weigh 2 = .ok (.invokevirtual 75, 3) := by decide +kernel
theorem dX3_weigh_5 : decode cX3_weigh 5 = .ok (.istore_n 3, 1) := by decide +kernel
theorem dX3_weigh_6 : decode cX3_weigh 6 = .ok (.ldc2_w 37, 3) := by decide +kernel
theorem dX3_weigh_9 : decode cX3_weigh 9 = .ok (.lstore 4, 2) := by decide +kernel
theorem dX3_weigh_11 : decode cX3_weigh 11 = .ok (.iload_n 1, 1) := by decide +kernel
theorem dX3_weigh_12 : decode cX3_weigh 12 = .ok (.istore 6, 2) := by decide +kernel
theorem dX3_weigh_14 : decode cX3_weigh 14 = .ok (.iconst 0, 1) := by decide +kernel
theorem dX3_weigh_15 : decode cX3_weigh 15 = .ok (.istore 7, 2) := by decide +kernel
theorem dX3_weigh_17 : decode cX3_weigh 17 = .ok (.iload_n 1, 1) := by decide +kernel
theorem dX3_weigh_18 : decode cX3_weigh 18 = .ok (.istore 8, 2) := by decide +kernel
theorem dX3_weigh_20 : decode cX3_weigh 20 = .ok (.iload 8, 2) := by decide +kernel
theorem dX3_weigh_22 : decode cX3_weigh 22 = .ok (.aload_n 0, 1) := by decide +kernel
theorem dX3_weigh_23 : decode cX3_weigh 23 = .ok (.getfield 29, 3) := by decide +kernel
theorem dX3_weigh_26 : decode cX3_weigh 26 = .ok (.if_icmp .ge 73, 3) := by decide +kernel
theorem dX3_weigh_29 : decode cX3_weigh 29 = .ok (.iload 7, 2) := by decide +kernel
theorem dX3_weigh_31 : decode cX3_weigh 31 = .ok (.aload_n 0, 1) := by decide +kernel
theorem dX3_weigh_32 : decode cX3_weigh 32 = .ok (.getfield 15, 3) := by decide +kernel
theorem dX3_weigh_35 : decode cX3_weigh 35 = .ok (.iload 8, 2) := by decide +kernel
theorem dX3_weigh_37 : decode cX3_weigh 37 = .ok (.iaload, 1) := by decide +kernel
theorem dX3_weigh_38 : decode cX3_weigh 38 = .ok (.iadd, 1) := by decide +kernel
theorem dX3_weigh_39 : decode cX3_weigh 39 = .ok (.istore 7, 2) := by decide +kernel
theorem dX3_weigh_41 : decode cX3_weigh 41 = .ok (.iload 7, 2) := by decide +kernel
theorem dX3_weigh_43 : decode cX3_weigh 43 = .ok (.aload_n 0, 1) := by decide +kernel
theorem dX3_weigh_44 : decode cX3_weigh 44 = .ok (.getfield 9, 3) := by decide +kernel
theorem dX3_weigh_47 : decode cX3_weigh 47 = .ok (.iconst 0, 1) := by decide +kernel
theorem dX3_weigh_48 : decode cX3_weigh 48 = .ok (.iaload, 1) := by decide +kernel
theorem dX3_weigh_49 : decode cX3_weigh 49 = .ok (.if_icmp .le 6, 3) := by decide +kernel
theorem dX3_weigh_52 : decode cX3_weigh 52 = .ok (.goto 47, 3) := by decide +kernel
theorem dX3_weigh_55 : decode cX3_weigh 55 = .ok (.aload_n 0, 1) := by decide +kernel
theorem dX3_weigh_56 : decode cX3_weigh 56 = .ok (.iload 8, 2) := by decide +kernel
theorem dX3_weigh_58 : decode cX3_weigh 58 = .ok (.iload 7, 2) := by decide +kernel
theorem dX3_weigh_60 : decode cX3_weigh 60 = .ok (.iload_n 3, 1) := by decide +kernel
theorem dX3_weigh_61 : decode cX3_weigh 61 = .ok (.invokevirtual 78, 3) := by decide +kernel
theorem dX3_weigh_64 : decode cX3_weigh 64 = .ok (.lstore 9, 2) := by decide +kernel
theorem dX3_weigh_66 : decode cX3_weigh 66 = .ok (.lload 9, 2) := by decide +kernel
theorem dX3_weigh_68 : decode cX3_weigh 68 = .ok (.ldc2_w 37, 3) := by decide +kernel
theorem dX3_weigh_71 : decode cX3_weigh 71 = .ok (.lcmp, 1) := by decide +kernel
theorem dX3_weigh_72 : decode cX3_weigh 72 = .ok (.ifCond .eq 21, 3) := by decide +kernel
theorem dX3_weigh_75 : decode cX3_weigh 75 = .ok (.lload 9, 2) := by decide +kernel
theorem dX3_weigh_77 : decode cX3_weigh 77 = .ok (.lload 4, 2) := by decide +kernel
theorem dX3_weigh_79 : decode cX3_weigh 79 = .ok (.lcmp, 1) := by decide +kernel
theorem dX3_weigh_80 : decode cX3_weigh 80 = .ok (.ifCond .gt 13, 3) := by decide +kernel
theorem dX3_weigh_83 : decode cX3_weigh 83 = .ok (.lload 9, 2) := by decide +kernel
theorem dX3_weigh_85 : decode cX3_weigh 85 = .ok (.lstore 4, 2) := by decide +kernel
theorem dX3_weigh_87 : decode cX3_weigh 87 = .ok (.iload 8, 2) := by decide +kernel
theorem dX3_weigh_89 : decode cX3_weigh 89 = .ok (.iconst 1, 1) := by decide +kernel
theorem dX3_weigh_90 : decode cX3_weigh 90 = .ok (.iadd, 1) := by decide +kernel
theorem dX3_weigh_91 : decode cX3_weigh 91 = .ok (.istore 6, 2) := by decide +kernel
theorem dX3_weigh_93 : decode cX3_weigh 93 = .ok (.iinc 8 1, 3) := by decide +kernel
theorem dX3_weigh_96 : decode cX3_weigh 96 = .ok (.goto (-76), 3) := by decide +kernel
theorem dX3_weigh_99 : decode cX3_weigh 99 = .ok (.aload_n 0, 1) := by decide +kernel
theorem dX3_weigh_100 : decode cX3_weigh 100 = .ok (.getfield 21, 3) := by decide +kernel
theorem dX3_weigh_103 : decode cX3_weigh 103 = .ok (.iload_n 1, 1) := by decide +kernel
theorem dX3_weigh_104 : decode cX3_weigh 104 = .ok (.iconst 4, 1) := by decide +kernel
theorem dX3_weigh_105 : decode cX3_weigh 105 = .ok (.imul, 1) := by decide +kernel
theorem dX3_weigh_106 : decode cX3_weigh 106 = .ok (.iload_n 2, 1) := by decide +kernel
theorem dX3_weigh_107 : decode cX3_weigh 107 = .ok (.iadd, 1) := by decide +kernel
theorem dX3_weigh_108 : decode cX3_weigh 108 = .ok (.lload 4, 2) := by decide +kernel
theorem dX3_weigh_110 : decode cX3_weigh 110 = .ok (.lastore, 1) := by decide +kernel
theorem dX3_weigh_111 : decode cX3_weigh 111 = .ok (.iload 6, 2) := by decide +kernel
theorem dX3_weigh_113 : decode cX3_weigh 113 = .ok (.ireturn, 1) := by decide +kernel
theorem dX3_weightOf_0 : decode cX3_weightOf 0 = .ok (.iload_n 1, 1) := by decide +kernel
theorem dX3_weightOf_1 : decode cX3_weightOf 1 = .ok (.aload_n 0, 1) := by decide +kernel
theorem dX3_weightOf_2 : decode cX3_weightOf 2 = .ok (.getfield 29, 3) := by decide +kernel
theorem dX3_weightOf_5 : decode cX3_weightOf 5 = .ok (.iconst 1, 1) := by decide +kernel
theorem dX3_weightOf_6 : decode cX3_weightOf 6 = .ok (.isub, 1) := by decide +kernel
theorem dX3_weightOf_7 : decode cX3_weightOf 7 = .ok (.if_icmp .ne 5, 3) := by decide +kernel
theorem dX3_weightOf_10 : decode cX3_weightOf 10 = .ok (.lconst 1, 1) := by decide +kernel
theorem dX3_weightOf_11 : decode cX3_weightOf 11 = .ok (.lreturn, 1) := by decide +kernel
theorem dX3_weightOf_12 : decode cX3_weightOf 12 = .ok (.aload_n 0, 1) := by decide +kernel
theorem dX3_weightOf_13 : decode cX3_weightOf 13 = .ok (.getfield 18, 3) := by decide +kernel
theorem dX3_weightOf_16 : decode cX3_weightOf 16 = .ok (.iload_n 1, 1) := by decide +kernel
theorem dX3_weightOf_17 : decode cX3_weightOf 17 = .ok (.iaload, 1) := by decide +kernel
theorem dX3_weightOf_18 : decode cX3_weightOf 18 = .ok (.ifCond .ne 7, 3) := by decide +kernel
theorem dX3_weightOf_21 : decode cX3_weightOf 21 = .ok (.ldc2_w 37, 3) := by decide +kernel
theorem dX3_weightOf_24 : decode cX3_weightOf 24 = .ok (.lreturn, 1) := by decide +kernel
theorem dX3_weightOf_25 : decode cX3_weightOf 25 = .ok (.aload_n 0, 1) := by decide +kernel
theorem dX3_weightOf_26 : decode cX3_weightOf 26 = .ok (.getfield 21, 3) := by decide +kernel
theorem dX3_weightOf_29 : decode cX3_weightOf 29 = .ok (.iload_n 1, 1) := by decide +kernel
theorem dX3_weightOf_30 : decode cX3_weightOf 30 = .ok (.iconst 1, 1) := by decide +kernel
theorem dX3_weightOf_31 : decode cX3_weightOf 31 = .ok (.iadd, 1) := by decide +kernel
theorem dX3_weightOf_32 : decode cX3_weightOf 32 = .ok (.iconst 4, 1) := by decide +kernel
theorem dX3_weightOf_33 : decode cX3_weightOf 33 = .ok (.imul, 1) := by decide +kernel
theorem dX3_weightOf_34 : decode cX3_weightOf 34 = .ok (.iload_n 3, 1) := by decide +kernel
theorem dX3_weightOf_35 : decode cX3_weightOf 35 = .ok (.iadd, 1) := by decide +kernel
theorem dX3_weightOf_36 : decode cX3_weightOf 36 = .ok (.laload, 1) := by decide +kernel
theorem dX3_weightOf_37 : decode cX3_weightOf 37 = .ok (.lstore 4, 2) := by decide +kernel
theorem dX3_weightOf_39 : decode cX3_weightOf 39 = .ok (.lload 4, 2) := by decide +kernel
theorem dX3_weightOf_41 : decode cX3_weightOf 41 = .ok (.ldc2_w 37, 3) := by decide +kernel
theorem dX3_weightOf_44 : decode cX3_weightOf 44 = .ok (.lcmp, 1) := by decide +kernel
theorem dX3_weightOf_45 : decode cX3_weightOf 45 = .ok (.ifCond .ne 7, 3) := by decide +kernel
theorem dX3_weightOf_48 : decode cX3_weightOf 48 = .ok (.ldc2_w 37, 3) := by decide +kernel
theorem dX3_weightOf_51 : decode cX3_weightOf 51 = .ok (.lreturn, 1) := by decide +kernel
theorem dX3_weightOf_52 : decode cX3_weightOf 52 = .ok (.aload_n 0, 1) := by decide +kernel
theorem dX3_weightOf_53 : decode cX3_weightOf 53 = .ok (.getfield 9, 3) := by decide +kernel
theorem dX3_weightOf_56 : decode cX3_weightOf 56 = .ok (.iconst 0, 1) := by decide +kernel
theorem dX3_weightOf_57 : decode cX3_weightOf 57 = .ok (.iaload, 1) := by decide +kernel
theorem dX3_weightOf_58 : decode cX3_weightOf 58 = .ok (.iload_n 2, 1) := by decide +kernel
theorem dX3_weightOf_59 : decode cX3_weightOf 59 = .ok (.isub, 1) := by decide +kernel
theorem dX3_weightOf_60 : decode cX3_weightOf 60 = .ok (.istore 6, 2) := by decide +kernel
theorem dX3_weightOf_62 : decode cX3_weightOf 62 = .ok (.iload 6, 2) := by decide +kernel
theorem dX3_weightOf_64 : decode cX3_weightOf 64 = .ok (.iload 6, 2) := by decide +kernel
theorem dX3_weightOf_66 : decode cX3_weightOf 66 = .ok (.imul, 1) := by decide +kernel
theorem dX3_weightOf_67 : decode cX3_weightOf 67 = .ok (.istore 7, 2) := by decide +kernel
theorem dX3_weightOf_69 : decode cX3_weightOf 69 = .ok (.aload_n 0, 1) := by decide +kernel
theorem dX3_weightOf_70 : decode cX3_weightOf 70 = .ok (.getfield 18, 3) := by decide +kernel
theorem dX3_weightOf_73 : decode cX3_weightOf 73 = .ok (.iload_n 1, 1) := by decide +kernel
theorem dX3_weightOf_74 : decode cX3_weightOf 74 = .ok (.iaload, 1) := by decide +kernel
theorem dX3_weightOf_75 : decode cX3_weightOf 75 = .ok (.iconst 2, 1) := by decide +kernel
theorem dX3_weightOf_76 : decode cX3_weightOf 76 = .ok (.if_icmp .ne 29, 3) := by decide +kernel
theorem dX3_weightOf_79 : decode cX3_weightOf 79 = .ok (.iload 7, 2) := by decide +kernel
theorem dX3_weightOf_81 : decode cX3_weightOf 81 = .ok (.aload_n 0, 1) := by decide +kernel
theorem dX3_weightOf_82 : decode cX3_weightOf 82 = .ok (.getfield 9, 3) := by decide +kernel
theorem dX3_weightOf_85 : decode cX3_weightOf 85 = .ok (.iconst 3, 1) := by decide +kernel
theorem dX3_weightOf_86 : decode cX3_weightOf 86 = .ok (.iaload, 1) := by decide +kernel
theorem dX3_weightOf_87 : decode cX3_weightOf 87 = .ok (.iload_n 3, 1) := by decide +kernel
theorem dX3_weightOf_88 : decode cX3_weightOf 88 = .ok (.ifCond .ne 12, 3) := by decide +kernel
theorem dX3_weightOf_91 : decode cX3_weightOf 91 = .ok (.aload_n 0, 1) := by decide +kernel
theorem dX3_weightOf_92 : decode cX3_weightOf 92 = .ok (.getfield 9, 3) := by decide +kernel
theorem dX3_weightOf_95 : decode cX3_weightOf 95 = .ok (.iconst 4, 1) := by decide +kernel
theorem dX3_weightOf_96 : decode cX3_weightOf 96 = .ok (.iaload, 1) := by decide +kernel
theorem dX3_weightOf_97 : decode cX3_weightOf 97 = .ok (.goto 4, 3) := by decide +kernel
theorem dX3_weightOf_100 : decode cX3_weightOf 100 = .ok (.iconst 0, 1) := by decide +kernel
theorem dX3_weightOf_101 : decode cX3_weightOf 101 = .ok (.iadd, 1) := by decide +kernel
theorem dX3_weightOf_102 : decode cX3_weightOf 102 = .ok (.iadd, 1) := by decide +kernel
theorem dX3_weightOf_103 : decode cX3_weightOf 103 = .ok (.istore 7, 2) := by decide +kernel
theorem dX3_weightOf_105 : decode cX3_weightOf 105 = .ok (.lload 4, 2) := by decide +kernel
theorem dX3_weightOf_107 : decode cX3_weightOf 107 = .ok (.iload 7, 2) := by decide +kernel
theorem dX3_weightOf_109 : decode cX3_weightOf 109 = .ok (.i2l, 1) := by decide +kernel
theorem dX3_weightOf_110 : decode cX3_weightOf 110 = .ok (.ldc2_w 43, 3) := by decide +kernel
theorem dX3_weightOf_113 : decode cX3_weightOf 113 = .ok (.lmul, 1) := by decide +kernel
theorem dX3_weightOf_114 : decode cX3_weightOf 114 = .ok (.ladd, 1) := by decide +kernel
theorem dX3_weightOf_115 : decode cX3_weightOf 115 = .ok (.lconst 1, 1) := by decide +kernel
theorem dX3_weightOf_116 : decode cX3_weightOf 116 = .ok (.ladd, 1) := by decide +kernel
theorem dX3_weightOf_117 : decode cX3_weightOf 117 = .ok (.lreturn, 1) := by decide +kernel
theorem dX3_placeBehind_0 : decode cX3_placeBehind 0 = .ok (.iload_n 1, 1) := by decide +kernel
theorem dX3_placeBehind_1 : decode cX3_placeBehind 1 = .ok (.iconst 1, 1) := by decide +kernel
theorem dX3_placeBehind_2 : decode cX3_placeBehind 2 = .ok (.iadd, 1) := by decide +kernel
theorem dX3_placeBehind_3 : decode cX3_placeBehind 3 = .ok (.aload_n 0, 1) := by decide +kernel
theorem dX3_placeBehind_4 : decode cX3_placeBehind 4 = .ok (.getfield 9, 3) := by decide +kernel
theorem dX3_placeBehind_7 : decode cX3_placeBehind 7 = .ok (.iconst 1, 1) := by decide +kernel
theorem dX3_placeBehind_8 : decode cX3_placeBehind 8 = .ok (.iaload, 1) := by decide +kernel
theorem dX3_placeBehind_9 : decode cX3_placeBehind 9 = .ok (.if_icmp .lt 7, 3) := by decide +kernel
theorem dX3_placeBehind_12 : decode cX3_placeBehind 12 = .ok (.iconst 0, 1) := by decide +kernel
theorem dX3_placeBehind_13 : decode cX3_placeBehind 13 = .ok (.goto 6, 3) := by decide +kernel
theorem dX3_placeBehind_16 : decode cX3_placeBehind 16 = .ok (.iload_n 1, 1) := by decide +kernel
theorem dX3_placeBehind_17 : decode cX3_placeBehind 17 = .ok (.iconst 1, 1) := by decide +kernel
theorem dX3_placeBehind_18 : decode cX3_placeBehind 18 = .ok (.iadd, 1) := by decide +kernel
theorem dX3_placeBehind_19 : decode cX3_placeBehind 19 = .ok (.ireturn, 1) := by decide +kernel
set_option maxRecDepth 20000 in
theorem ggX3_layOut_X1_openEmpty : GoodIn wsX3_layOut wsX1_openEmpty := goodIn_r _ [8, 9, 10, 11, 12, 40, 41, 42, 43, 44, 45, 46, 47] (by decide +kernel) (by decide +kernel)
set_option maxRecDepth 20000 in
theorem gX3_layOut_X1_openEmpty : GoodIn wsX3_layOut (wsV RX3 82 RX1 yX1_openEmpty wsX1_openEmpty) := goodIn_app (goodIn_of _ (by decide +kernel)) ggX3_layOut_X1_openEmpty
set_option maxRecDepth 20000 in
theorem ggX3_layOut_X3_weigh : GoodIn wsX3_layOut wsX3_weigh := goodIn_r _ [17, 18, 2, 3, 1, 19, 20, 21, 22, 16, 23, 24, 25, 26, 27, 28, 29, 35, 36, 37, 38, 39] (by decide +kernel) (by decide +kernel)
set_option maxRecDepth 20000 in
theorem gX3_layOut_X3_weigh : GoodIn wsX3_layOut (wsV RX3 33 RX3 yX3_weigh wsX3_weigh) := goodIn_app (goodIn_of _ (by decide +kernel)) ggX3_layOut_X3_weigh
set_option maxRecDepth 20000 in
theorem ggX3_layOut_X1_addColumn : GoodIn wsX3_layOut wsX1_addColumn := goodIn_r _ [33, 34, 10, 12, 11, 40, 41, 42, 43, 44, 45, 46, 47] (by decide +kernel) (by decide +kernel)
set_option maxRecDepth 20000 in
theorem gX3_layOut_X1_addColumn : GoodIn wsX3_layOut (wsV RX3 86 RX1 yX1_addColumn wsX1_addColumn) := goodIn_app (goodIn_of _ (by decide +kernel)) ggX3_layOut_X1_addColumn
set_option maxRecDepth 20000 in
theorem ggX3_layOut_X3_placeBehind : GoodIn wsX3_layOut wsX3_placeBehind := goodIn_r _ [23, 1, 35, 36, 37, 38, 39] (by decide +kernel) (by decide +kernel)
set_option maxRecDepth 20000 in
theorem gX3_layOut_X3_placeBehind : GoodIn wsX3_layOut (wsV RX3 75 RX3 yX3_placeBehind wsX3_placeBehind) := goodIn_app (goodIn_of _ (by decide +kernel)) ggX3_layOut_X3_placeBehind
theorem dX3_layOut_0 : decode cX3_layOut 0 = .ok (.aload_n 1, 1) := by decide +kernel
theorem dX3_layOut_1 : decode cX3_layOut 1 = .ok (.aload_n 0, 1) := by decide +kernel
theorem dX3_layOut_2 : decode cX3_layOut 2 = .ok (.getfield 9, 3) := by decide +kernel
theorem dX3_layOut_5 : decode cX3_layOut 5 = .ok (.iconst 1, 1) := by decide +kernel
theorem dX3_layOut_6 : decode cX3_layOut 6 = .ok (.iaload, 1) := by decide +kernel
theorem dX3_layOut_7 : decode cX3_layOut 7 = .ok (.invokevirtual 82, 3) := by decide +kernel
theorem dX3_layOut_10 : decode cX3_layOut 10 = .ok (.iconst 0, 1) := by decide +kernel
theorem dX3_layOut_11 : decode cX3_layOut 11 = .ok (.istore_n 2, 1) := by decide +kernel
theorem dX3_layOut_12 : decode cX3_layOut 12 = .ok (.iconst 0, 1) := by decide +kernel
theorem dX3_layOut_13 : decode cX3_layOut 13 = .ok (.istore_n 3, 1) := by decide +kernel
theorem dX3_layOut_14 : decode cX3_layOut 14 = .ok (.iconst 0, 1) := by decide +kernel
theorem dX3_layOut_15 : decode cX3_layOut 15 = .ok (.istore 4, 2) := by decide +kernel
theorem dX3_layOut_17 : decode cX3_layOut 17 = .ok (.iload 4, 2) := by decide +kernel
theorem dX3_layOut_19 : decode cX3_layOut 19 = .ok (.sipush 900, 3) := by decide +kernel
theorem dX3_layOut_22 : decode cX3_layOut 22 = .ok (.if_icmp .ge 82, 3) := by decide +kernel
theorem dX3_layOut_25 : decode cX3_layOut 25 = .ok (.iload_n 2, 1) := by decide +kernel
theorem dX3_layOut_26 : decode cX3_layOut 26 = .ok (.aload_n 0, 1) := by decide +kernel
theorem dX3_layOut_27 : decode cX3_layOut 27 = .ok (.getfield 29, 3) := by decide +kernel
theorem dX3_layOut_30 : decode cX3_layOut 30 = .ok (.if_icmp .ge 74, 3) := by decide +kernel
theorem dX3_layOut_33 : decode cX3_layOut 33 = .ok (.aload_n 0, 1) := by decide +kernel
theorem dX3_layOut_34 : decode cX3_layOut 34 = .ok (.iload_n 2, 1) := by decide +kernel
theorem dX3_layOut_35 : decode cX3_layOut 35 = .ok (.iload_n 3, 1) := by decide +kernel
theorem dX3_layOut_36 : decode cX3_layOut 36 = .ok (.invokevirtual 33, 3) := by decide +kernel
theorem dX3_layOut_39 : decode cX3_layOut 39 = .ok (.istore 5, 2) := by decide +kernel
theorem dX3_layOut_41 : decode cX3_layOut 41 = .ok (.iconst 0, 1) := by decide +kernel
theorem dX3_layOut_42 : decode cX3_layOut 42 = .ok (.istore 6, 2) := by decide +kernel
theorem dX3_layOut_44 : decode cX3_layOut 44 = .ok (.iload_n 2, 1) := by decide +kernel
theorem dX3_layOut_45 : decode cX3_layOut 45 = .ok (.istore 7, 2) := by decide +kernel
theorem dX3_layOut_47 : decode cX3_layOut 47 = .ok (.iload 7, 2) := by decide +kernel
theorem dX3_layOut_49 : decode cX3_layOut 49 = .ok (.iload 5, 2) := by decide +kernel
theorem dX3_layOut_51 : decode cX3_layOut 51 = .ok (.if_icmp .ge 21, 3) := by decide +kernel
theorem dX3_layOut_54 : decode cX3_layOut 54 = .ok (.iload 6, 2) := by decide +kernel
theorem dX3_layOut_56 : decode cX3_layOut 56 = .ok (.aload_n 0, 1) := by decide +kernel
theorem dX3_layOut_57 : decode cX3_layOut 57 = .ok (.getfield 15, 3) := by decide +kernel
theorem dX3_layOut_60 : decode cX3_layOut 60 = .ok (.iload 7, 2) := by decide +kernel
theorem dX3_layOut_62 : decode cX3_layOut 62 = .ok (.iaload, 1) := by decide +kernel
theorem dX3_layOut_63 : decode cX3_layOut 63 = .ok (.iadd, 1) := by decide +kernel
theorem dX3_layOut_64 : decode cX3_layOut 64 = .ok (.istore 6, 2) := by decide +kernel
theorem dX3_layOut_66 : decode cX3_layOut 66 = .ok (.iinc 7 1, 3) := by decide +kernel
theorem dX3_layOut_69 : decode cX3_layOut 69 = .ok (.goto (-22), 3) := by decide +kernel
theorem dX3_layOut_72 : decode cX3_layOut 72 = .ok (.aload_n 1, 1) := by decide +kernel
theorem dX3_layOut_73 : decode cX3_layOut 73 = .ok (.iload 5, 2) := by decide +kernel
theorem dX3_layOut_75 : decode cX3_layOut 75 = .ok (.iload 6, 2) := by decide +kernel
theorem dX3_layOut_77 : decode cX3_layOut 77 = .ok (.iload_n 3, 1) := by decide +kernel
theorem dX3_layOut_78 : decode cX3_layOut 78 = .ok (.ifCond .ne 7, 3) := by decide +kernel
theorem dX3_layOut_81 : decode cX3_layOut 81 = .ok (.iconst 1, 1) := by decide +kernel
theorem dX3_layOut_82 : decode cX3_layOut 82 = .ok (.goto 4, 3) := by decide +kernel
theorem dX3_layOut_85 : decode cX3_layOut 85 = .ok (.iconst 0, 1) := by decide +kernel
theorem dX3_layOut_86 : decode cX3_layOut 86 = .ok (.invokevirtual 86, 3) := by decide +kernel
theorem dX3_layOut_89 : decode cX3_layOut 89 = .ok (.iload 5, 2) := by decide +kernel
theorem dX3_layOut_91 : decode cX3_layOut 91 = .ok (.istore_n 2, 1) := by decide +kernel
theorem dX3_layOut_92 : decode cX3_layOut 92 = .ok (.aload_n 0, 1) := by decide +kernel
theorem dX3_layOut_93 : decode cX3_layOut 93 = .ok (.iload_n 3, 1) := by decide +kernel
theorem dX3_layOut_94 : decode cX3_layOut 94 = .ok (.invokevirtual 75, 3) := by decide +kernel
theorem dX3_layOut_97 : decode cX3_layOut 97 = .ok (.istore_n 3, 1) := by decide +kernel
theorem dX3_layOut_98 : decode cX3_layOut 98 = .ok (.iinc 4 1, 3) := by decide +kernel
theorem dX3_layOut_101 : decode cX3_layOut 101 = .ok (.goto (-84), 3) := by decide +kernel
theorem dX3_layOut_104 : decode cX3_layOut 104 = .ok (.return_, 1) := by decide +kernel
end
section
set_option maxRecDepth 20000 in
theorem ggX4_init_X2_init : GoodIn wsX4_init wsX2_init := goodIn_r _ [27, 28, 2, 3, 4, 29, 68, 69] (by decide +kernel) (by decide +kernel)
set_option maxRecDepth 20000 in
theorem gX4_init_X2_init : GoodIn wsX4_init (wsX2_init) := ggX4_init_X2_init
set_option maxRecDepth 20000 in
theorem ggX4_init_X0_init : GoodIn wsX4_init wsX0_init := goodIn_r _ [32, 33, 2, 3, 34, 35, 36, 4, 37, 38, 39, 40, 41, 42, 70, 71, 72, 73, 74, 75, 76, 77, 78] (by decide +kernel) (by decide +kernel)
set_option maxRecDepth 20000 in
theorem gX4_init_X0_init : GoodIn wsX4_init (wsX0_init) := ggX4_init_X0_init
set_option maxRecDepth 20000 in
theorem ggX4_init_X3_init : GoodIn wsX4_init wsX3_init := goodIn_r _ [45, 46, 2, 3, 47, 4, 48, 49, 34, 50, 79, 80, 81, 82, 83] (by decide +kernel) (by decide +kernel)
set_option maxRecDepth 20000 in
theorem gX4_init_X3_init : GoodIn wsX4_init (wsX3_init) := ggX4_init_X3_init
set_option maxRecDepth 20000 in
theorem ggX4_init_X1_init : GoodIn wsX4_init wsX1_init := goodIn_r _ [53, 54, 2, 3, 4, 55, 56, 57, 84, 85, 86, 87, 88, 89, 90, 91] (by decide +kernel) (by decide +kernel)
set_option maxRecDepth 20000 in
theorem gX4_init_X1_init : GoodIn wsX4_init (wsX1_init) := ggX4_init_X1_init
theorem dX4_init_0 : decode cX4_init 0 = .ok (.aload_n 0, 1) := by decide +kernel
theorem dX4_init_1 : decode cX4_init 1 = .ok (.invokespecial 3, 3) := by decide +kernel
theorem dX4_init_4 : decode cX4_init 4 = .ok (.aload_n 0, 1) := by decide +kernel
theorem dX4_init_5 : decode cX4_init 5 = .ok (.iconst 5, 1) := by decide +kernel
theorem dX4_init_6 : decode cX4_init 6 = .ok (.newarray .int, 2) := by decide +kernel
theorem dX4_init_8 : decode cX4_init 8 = .ok (.putfield 9, 3) := by decide +kernel
theorem dX4_init_11 : decode cX4_init 11 = .ok (.aload_n 0, 1) := by decide +kernel
theorem dX4_init_12 : decode cX4_init 12 = .ok (.getfield 9, 3) := by decide +kernel
theorem dX4_init_15 : decode cX4_init 15 = .ok (.iconst 0, 1) := by decide +kernel
theorem dX4_init_16 : decode cX4_init 16 = .ok (.bipush 20, 2) := by decide +kernel
theorem dX4_init_18 : decode cX4_init 18 = .ok (.iastore, 1) := by decide +kernel
theorem dX4_init_19 : decode cX4_init 19 = .ok (.aload_n 0, 1) := by decide +kernel
theorem dX4_init_20 : decode cX4_init 20 = .ok (.getfield 9, 3) := by decide +kernel
theorem dX4_init_23 : decode cX4_init 23 = .ok (.iconst 1, 1) := by decide +kernel
theorem dX4_init_24 : decode cX4_init 24 = .ok (.iconst 2, 1) := by decide +kernel
theorem dX4_init_25 : decode cX4_init 25 = .ok (.iastore, 1) := by decide +kernel
theorem dX4_init_26 : decode cX4_init 26 = .ok (.aload_n 0, 1) := by decide +kernel
theorem dX4_init_27 : decode cX4_init 27 = .ok (.getfield 9, 3) := by decide +kernel
theorem dX4_init_30 : decode cX4_init 30 = .ok (.iconst 2, 1) := by decide +kernel
theorem dX4_init_31 : decode cX4_init 31 = .ok (.iconst 2, 1) := by decide +kernel
theorem dX4_init_32 : decode cX4_init 32 = .ok (.iastore, 1) := by decide +kernel
theorem dX4_init_33 : decode cX4_init 33 = .ok (.aload_n 0, 1) := by decide +kernel
theorem dX4_init_34 : decode cX4_init 34 = .ok (.getfield 9, 3) := by decide +kernel
theorem dX4_init_37 : decode cX4_init 37 = .ok (.iconst 3, 1) := by decide +kernel
theorem dX4_init_38 : decode cX4_init 38 = .ok (.bipush 10, 2) := by decide +kernel
theorem dX4_init_40 : decode cX4_init 40 = .ok (.iastore, 1) := by decide +kernel
theorem dX4_init_41 : decode cX4_init 41 = .ok (.aload_n 0, 1) := by decide +kernel
theorem dX4_init_42 : decode cX4_init 42 = .ok (.getfield 9, 3) := by decide +kernel
theorem dX4_init_45 : decode cX4_init 45 = .ok (.iconst 4, 1) := by decide +kernel
theorem dX4_init_46 : decode cX4_init 46 = .ok (.bipush 20, 2) := by decide +kernel
theorem dX4_init_48 : decode cX4_init 48 = .ok (.iastore, 1) := by decide +kernel
theorem dX4_init_49 : decode cX4_init 49 = .ok (.aload_n 0, 1) := by decide +kernel
theorem dX4_init_50 : decode cX4_init 50 = .ok (.bipush 6, 2) := by decide +kernel
theorem dX4_init_52 : decode cX4_init 52 = .ok (.newarray .int, 2) := by decide +kernel
theorem dX4_init_54 : decode cX4_init 54 = .ok (.putfield 13, 3) := by decide +kernel
theorem dX4_init_57 : decode cX4_init 57 = .ok (.aload_n 0, 1) := by decide +kernel
theorem dX4_init_58 : decode cX4_init 58 = .ok (.new 16, 3) := by decide +kernel
theorem dX4_init_61 : decode cX4_init 61 = .ok (.dup, 1) := by decide +kernel
theorem dX4_init_62 : decode cX4_init 62 = .ok (.invokespecial 18, 3) := by decide +kernel
theorem dX4_init_65 : decode cX4_init 65 = .ok (.putfield 19, 3) := by decide +kernel
theorem dX4_init_68 : decode cX4_init 68 = .ok (.aload_n 0, 1) := by decide +kernel
theorem dX4_init_69 : decode cX4_init 69 = .ok (.new 23, 3) := by decide +kernel
theorem dX4_init_72 : decode cX4_init 72 = .ok (.dup, 1) := by decide +kernel
theorem dX4_init_73 : decode cX4_init 73 = .ok (.invokespecial 25, 3) := by decide +kernel
theorem dX4_init_76 : decode cX4_init 76 = .ok (.putfield 26, 3) := by decide +kernel
theorem dX4_init_79 : decode cX4_init 79 = .ok (.aload_n 0, 1) := by decide +kernel
theorem dX4_init_80 : decode cX4_init 80 = .ok (.new 30, 3) := by decide +kernel
theorem dX4_init_83 : decode cX4_init 83 = .ok (.dup, 1) := by decide +kernel
theorem dX4_init_84 : decode cX4_init 84 = .ok (.aload_n 0, 1) := by decide +kernel
theorem dX4_init_85 : decode cX4_init 85 = .ok (.getfield 9, 3) := by decide +kernel
theorem dX4_init_88 : decode cX4_init 88 = .ok (.invokespecial 32, 3) := by decide +kernel
theorem dX4_init_91 : decode cX4_init 91 = .ok (.putfield 35, 3) := by decide +kernel
theorem dX4_init_94 : decode cX4_init 94 = .ok (.aload_n 0, 1) := by decide +kernel
theorem dX4_init_95 : decode cX4_init 95 = .ok (.bipush 26, 2) := by decide +kernel
theorem dX4_init_97 : decode cX4_init 97 = .ok (.newarray .int, 2) := by decide +kernel
theorem dX4_init_99 : decode cX4_init 99 = .ok (.putfield 39, 3) := by decide +kernel
theorem dX4_init_102 : decode cX4_init 102 = .ok (.aload_n 0, 1) := by decide +kernel
theorem dX4_init_103 : decode cX4_init 103 = .ok (.new 42, 3) := by decide +kernel
theorem dX4_init_106 : decode cX4_init 106 = .ok (.dup, 1) := by decide +kernel
theorem dX4_init_107 : decode cX4_init 107 = .ok (.invokespecial 44, 3) := by decide +kernel
theorem dX4_init_110 : decode cX4_init 110 = .ok (.putfield 45, 3) := by decide +kernel
theorem dX4_init_113 : decode cX4_init 113 = .ok (.aload_n 0, 1) := by decide +kernel
theorem dX4_init_114 : decode cX4_init 114 = .ok (.new 42, 3) := by decide +kernel
theorem dX4_init_117 : decode cX4_init 117 = .ok (.dup, 1) := by decide +kernel
theorem dX4_init_118 : decode cX4_init 118 = .ok (.invokespecial 44, 3) := by decide +kernel
theorem dX4_init_121 : decode cX4_init 121 = .ok (.putfield 49, 3) := by decide +kernel
theorem dX4_init_124 : decode cX4_init 124 = .ok (.return_, 1) := by decide +kernel
theorem dX4_set_0 : decode cX4_set 0 = .ok (.iload_n 1, 1) := by decide +kernel
theorem dX4_set_1 : decode cX4_set 1 = .ok (.ifCond .lt 8, 3) := by decide +kernel
theorem dX4_set_4 : decode cX4_set 4 = .ok (.iload_n 1, 1) := by decide +kernel
theorem dX4_set_5 : decode cX4_set 5 = .ok (.iconst 5, 1) := by decide +kernel
theorem dX4_set_6 : decode cX4_set 6 = .ok (.if_icmp .lt 13, 3) := by decide +kernel
theorem dX4_set_9 : decode cX4_set 9 = .ok (.new 52, 3) := by decide +kernel
theorem dX4_set_12 : decode cX4_set 12 = .ok (.dup, 1) := by decide +kernel
theorem dX4_set_13 : decode cX4_set 13 = .ok (.ldc 54, 2) := by decide +kernel
theorem dX4_set_15 : decode cX4_set 15 = .ok (.invokespecial 56, 3) := by decide +kernel
theorem dX4_set_18 : decode cX4_set 18 = .ok (.athrow, 1) := by decide +kernel
theorem dX4_set_19 : decode cX4_set 19 = .ok (.iload_n 2, 1) := by decide +kernel
theorem dX4_set_20 : decode cX4_set 20 = .ok (.getstatic 59, 3) := by decide +kernel
theorem dX4_set_23 : decode cX4_set 23 = .ok (.iload_n 1, 1) := by decide +kernel
theorem dX4_set_24 : decode cX4_set 24 = .ok (.iaload, 1) := by decide +kernel
theorem dX4_set_25 : decode cX4_set 25 = .ok (.if_icmp .lt 12, 3) := by decide +kernel
theorem dX4_set_28 : decode cX4_set 28 = .ok (.iload_n 2, 1) := by decide +kernel
theorem dX4_set_29 : decode cX4_set 29 = .ok (.getstatic 62, 3) := by decide +kernel
theorem dX4_set_32 : decode cX4_set 32 = .ok (.iload_n 1, 1) := by decide +kernel
theorem dX4_set_33 : decode cX4_set 33 = .ok (.iaload, 1) := by decide +kernel
theorem dX4_set_34 : decode cX4_set 34 = .ok (.if_icmp .le 13, 3) := by decide +kernel
theorem dX4_set_37 : decode cX4_set 37 = .ok (.new 52, 3) := by decide +kernel
theorem dX4_set_40 : decode cX4_set 40 = .ok (.dup, 1) := by decide +kernel
theorem dX4_set_41 : decode cX4_set 41 = .ok (.ldc 65, 2) := by decide +kernel
theorem dX4_set_43 : decode cX4_set 43 = .ok (.invokespecial 56, 3) := by decide +kernel
theorem dX4_set_46 : decode cX4_set 46 = .ok (.athrow, 1) := by decide +kernel
theorem dX4_set_47 : decode cX4_set 47 = .ok (.aload_n 0, 1) := by decide +kernel
theorem dX4_set_48 : decode cX4_set 48 = .ok (.getfield 9, 3) := by decide +kernel
theorem dX4_set_51 : decode cX4_set 51 = .ok (.iload_n 1, 1) := by decide +kernel
theorem dX4_set_52 : decode cX4_set 52 = .ok (.iaload, 1) := by decide +kernel
theorem dX4_set_53 : decode cX4_set 53 = .ok (.istore_n 3, 1) := by decide +kernel
theorem dX4_set_54 : decode cX4_set 54 = .ok (.aload_n 0, 1) := by decide +kernel
theorem dX4_set_55 : decode cX4_set 55 = .ok (.getfield 9, 3) := by decide +kernel
theorem dX4_set_58 : decode cX4_set 58 = .ok (.iload_n 1, 1) := by decide +kernel
theorem dX4_set_59 : decode cX4_set 59 = .ok (.iload_n 2, 1) := by decide +kernel
theorem dX4_set_60 : decode cX4_set 60 = .ok (.iastore, 1) := by decide +kernel
theorem dX4_set_61 : decode cX4_set 61 = .ok (.iload_n 3, 1) := by decide +kernel
theorem dX4_set_62 : decode cX4_set 62 = .ok (.ireturn, 1) := by decide +kernel
theorem dX4_push_0 : decode cX4_push 0 = .ok (.iload_n 1, 1) := by decide +kernel
theorem dX4_push_1 : decode cX4_push 1 = .ok (.iconst 1, 1) := by decide +kernel
theorem dX4_push_2 : decode cX4_push 2 = .ok (.if_icmp .lt 9, 3) := by decide +kernel
theorem dX4_push_5 : decode cX4_push 5 = .ok (.iload_n 1, 1) := by decide +kernel
theorem dX4_push_6 : decode cX4_push 6 = .ok (.bipush 20, 2) := by decide +kernel
theorem dX4_push_8 : decode cX4_push 8 = .ok (.if_icmp .le 13, 3) := by decide +kernel
theorem dX4_push_11 : decode cX4_push 11 = .ok (.new 52, 3) := by decide +kernel
theorem dX4_push_14 : decode cX4_push 14 = .ok (.dup, 1) := by decide +kernel
theorem dX4_push_15 : decode cX4_push 15 = .ok (.ldc 67, 2) := by decide +kernel
theorem dX4_push_17 : decode cX4_push 17 = .ok (.invokespecial 56, 3) := by decide +kernel
theorem dX4_push_20 : decode cX4_push 20 = .ok (.athrow, 1) := by decide +kernel
theorem dX4_push_21 : decode cX4_push 21 = .ok (.aload_n 0, 1) := by decide +kernel
theorem dX4_push_22 : decode cX4_push 22 = .ok (.getfield 69, 3) := by decide +kernel
theorem dX4_push_25 : decode cX4_push 25 = .ok (.bipush 6, 2) := by decide +kernel
theorem dX4_push_27 : decode cX4_push 27 = .ok (.if_icmp .lt 5, 3) := by decide +kernel
theorem dX4_push_30 : decode cX4_push 30 = .ok (.iconst (-1), 1) := by decide +kernel
theorem dX4_push_31 : decode cX4_push 31 = .ok (.ireturn, 1) := by decide +kernel
theorem dX4_push_32 : decode cX4_push 32 = .ok (.aload_n 0, 1) := by decide +kernel
theorem dX4_push_33 : decode cX4_push 33 = .ok (.getfield 13, 3) := by decide +kernel
theorem dX4_push_36 : decode cX4_push 36 = .ok (.aload_n 0, 1) := by decide +kernel
theorem dX4_push_37 : decode cX4_push 37 = .ok (.getfield 69, 3) := by decide +kernel
theorem dX4_push_40 : decode cX4_push 40 = .ok (.iload_n 1, 1) := by decide +kernel
theorem dX4_push_41 : decode cX4_push 41 = .ok (.iastore, 1) := by decide +kernel
theorem dX4_push_42 : decode cX4_push 42 = .ok (.aload_n 0, 1) := by decide +kernel
theorem dX4_push_43 : decode cX4_push 43 = .ok (.dup, 1) := by decide +kernel
theorem dX4_push_44 : decode cX4_push 44 = .ok (.getfield 69, 3) := by decide +kernel
theorem dX4_push_47 : decode cX4_push 47 = .ok (.iconst 1, 1) := by decide +kernel
theorem dX4_push_48 : decode cX4_push 48 = .ok (.iadd, 1) := by decide +kernel
theorem dX4_push_49 : decode cX4_push 49 = .ok (.putfield 69, 3) := by decide +kernel
theorem dX4_push_52 : decode cX4_push 52 = .ok (.aload_n 0, 1) := by decide +kernel
theorem dX4_push_53 : decode cX4_push 53 = .ok (.getfield 69, 3) := by decide +kernel
theorem dX4_push_56 : decode cX4_push 56 = .ok (.ireturn, 1) := by decide +kernel
set_option maxRecDepth 20000 in
theorem ggX4_feed_X2_hasRoom : GoodIn wsX4_feed wsX2_hasRoom := goodIn_r _ [6, 7, 27, 28] (by decide +kernel) (by decide +kernel)
set_option maxRecDepth 20000 in
theorem gX4_feed_X2_hasRoom : GoodIn wsX4_feed (wsV RX4 73 RX2 yX2_hasRoom wsX2_hasRoom) := goodIn_app (goodIn_of _ (by decide +kernel)) ggX4_feed_X2_hasRoom
set_option maxRecDepth 20000 in
theorem ggX4_feed_X2_append : GoodIn wsX4_feed wsX2_append := goodIn_r _ [11, 7, 12, 27, 28] (by decide +kernel) (by decide +kernel)
set_option maxRecDepth 20000 in
theorem gX4_feed_X2_append : GoodIn wsX4_feed (wsV RX4 77 RX2 yX2_append wsX2_append) := goodIn_app (goodIn_of _ (by decide +kernel)) ggX4_feed_X2_append
set_option maxRecDepth 20000 in
theorem ggX4_feed_X2_length : GoodIn wsX4_feed wsX2_length := goodIn_r _ [16, 7, 27, 28] (by decide +kernel) (by decide +kernel)
set_option maxRecDepth 20000 in
theorem gX4_feed_X2_length : GoodIn wsX4_feed (wsV RX4 81 RX2 yX2_length wsX2_length) := goodIn_app (goodIn_of _ (by decide +kernel)) ggX4_feed_X2_length
theorem dX4_feed_0 : decode cX4_feed 0 = .ok (.aload_n 0, 1) := by decide +kernel
theorem dX4_feed_1 : decode cX4_feed 1 = .ok (.getfield 19, 3) := by decide +kernel
theorem dX4_feed_4 : decode cX4_feed 4 = .ok (.invokevirtual 73, 3) := by decide +kernel
theorem dX4_feed_7 : decode cX4_feed 7 = .ok (.ifCond .ne 5, 3) := by decide +kernel
theorem dX4_feed_10 : decode cX4_feed 10 = .ok (.iconst (-1), 1) := by decide +kernel
theorem dX4_feed_11 : decode cX4_feed 11 = .ok (.ireturn, 1) := by decide +kernel
theorem dX4_feed_12 : decode cX4_feed 12 = .ok (.aload_n 0, 1) := by decide +kernel
theorem dX4_feed_13 : decode cX4_feed 13 = .ok (.getfield 19, 3) := by decide +kernel
theorem dX4_feed_16 : decode cX4_feed 16 = .ok (.iload_n 1, 1) := by decide +kernel
theorem dX4_feed_17 : decode cX4_feed 17 = .ok (.invokevirtual 77, 3) := by decide +kernel
theorem dX4_feed_20 : decode cX4_feed 20 = .ok (.aload_n 0, 1) := by decide +kernel
theorem dX4_feed_21 : decode cX4_feed 21 = .ok (.getfield 19, 3) := by decide +kernel
theorem dX4_feed_24 : decode cX4_feed 24 = .ok (.iload_n 2, 1) := by decide +kernel
theorem dX4_feed_25 : decode cX4_feed 25 = .ok (.invokevirtual 77, 3) := by decide +kernel
theorem dX4_feed_28 : decode cX4_feed 28 = .ok (.aload_n 0, 1) := by decide +kernel
theorem dX4_feed_29 : decode cX4_feed 29 = .ok (.getfield 19, 3) := by decide +kernel
theorem dX4_feed_32 : decode cX4_feed 32 = .ok (.iload_n 3, 1) := by decide +kernel
theorem dX4_feed_33 : decode cX4_feed 33 = .ok (.invokevirtual 77, 3) := by decide +kernel
theorem dX4_feed_36 : decode cX4_feed 36 = .ok (.aload_n 0, 1) := by decide +kernel
theorem dX4_feed_37 : decode cX4_feed 37 = .ok (.getfield 19, 3) := by decide +kernel
theorem dX4_feed_40 : decode cX4_feed 40 = .ok (.iload 4, 2) := by decide +kernel
theorem dX4_feed_42 : decode cX4_feed 42 = .ok (.invokevirtual 77, 3) := by decide +kernel
theorem dX4_feed_45 : decode cX4_feed 45 = .ok (.aload_n 0, 1) := by decide +kernel
theorem dX4_feed_46 : decode cX4_feed 46 = .ok (.getfield 19, 3) := by decide +kernel
theorem dX4_feed_49 : decode cX4_feed 49 = .ok (.iload 5, 2) := by decide +kernel
theorem dX4_feed_51 : decode cX4_feed 51 = .ok (.invokevirtual 77, 3) := by decide +kernel
theorem dX4_feed_54 : decode cX4_feed 54 = .ok (.aload_n 0, 1) := by decide +kernel
theorem dX4_feed_55 : decode cX4_feed 55 = .ok (.getfield 19, 3) := by decide +kernel
theorem dX4_feed_58 : decode cX4_feed 58 = .ok (.invokevirtual 81, 3) := by decide +kernel
theorem dX4_feed_61 : decode cX4_feed 61 = .ok (.ireturn, 1) := by decide +kernel
set_option maxRecDepth 20000 in
theorem ggX4_entry_X2_length : GoodIn wsX4_entry wsX2_length := goodIn_r _ [11, 12, 48, 49] (by decide +kernel) (by decide +kernel)
set_option maxRecDepth 20000 in
theorem gX4_entry_X2_length : GoodIn wsX4_entry (wsV RX4 81 RX2 yX2_length wsX2_length) := goodIn_app (goodIn_of _ (by decide +kernel)) ggX4_entry_X2_length
set_option maxRecDepth 20000 in
theorem ggX4_entry_X2_headAt : GoodIn wsX4_entry wsX2_headAt := goodIn_r _ [16, 12, 17, 48, 49] (by decide +kernel) (by decide +kernel)
set_option maxRecDepth 20000 in
theorem gX4_entry_X2_headAt : GoodIn wsX4_entry (wsV RX4 87 RX2 yX2_headAt wsX2_headAt) := goodIn_app (goodIn_of _ (by decide +kernel)) ggX4_entry_X2_headAt
set_option maxRecDepth 20000 in
theorem ggX4_entry_X2_clear : GoodIn wsX4_entry wsX2_clear := goodIn_r _ [21, 12, 48, 49] (by decide +kernel) (by decide +kernel)
set_option maxRecDepth 20000 in
theorem gX4_entry_X2_clear : GoodIn wsX4_entry (wsV RX4 91 RX2 yX2_clear wsX2_clear) := goodIn_app (goodIn_of _ (by decide +kernel)) ggX4_entry_X2_clear
set_option maxRecDepth 20000 in
theorem ggX4_entry_X0_admit : GoodIn wsX4_entry wsX0_admit := goodIn_r _ [26, 27, 28, 29, 30, 31, 32, 33, 34, 35, 36, 25, 37, 50, 51, 52, 53, 54, 55, 56, 57, 58] (by decide +kernel) (by decide +kernel)
set_option maxRecDepth 20000 in
theorem gX4_entry_X0_admit : GoodIn wsX4_entry (wsV RX4 94 RX0 yX0_admit wsX0_admit) := goodIn_app (goodIn_of _ (by decide +kernel)) ggX4_entry_X0_admit
theorem dX4_entry_0 : decode cX4_entry 0 = .ok (.iload_n 1, 1) := by decide +kernel
theorem dX4_entry_1 : decode cX4_entry 1 = .ok (.ifCond .lt 14, 3) := by decide +kernel
theorem dX4_entry_4 : decode cX4_entry 4 = .ok (.iload_n 1, 1) := by decide +kernel
theorem dX4_entry_5 : decode cX4_entry 5 = .ok (.aload_n 0, 1) := by decide +kernel
theorem dX4_entry_6 : decode cX4_entry 6 = .ok (.getfield 19, 3) := by decide +kernel
theorem dX4_entry_9 : decode cX4_entry 9 = .ok (.invokevirtual 81, 3) := by decide +kernel
theorem dX4_entry_12 : decode cX4_entry 12 = .ok (.if_icmp .le 13, 3) := by decide +kernel
theorem dX4_entry_15 : decode cX4_entry 15 = .ok (.new 52, 3) := by decide +kernel
theorem dX4_entry_18 : decode cX4_entry 18 = .ok (.dup, 1) := by decide +kernel
theorem dX4_entry_19 : decode cX4_entry 19 = .ok (.ldc 85, 2) := by decide +kernel
theorem dX4_entry_21 : decode cX4_entry 21 = .ok (.invokespecial 56, 3) := by decide +kernel
theorem dX4_entry_24 : decode cX4_entry 24 = .ok (.athrow, 1) := by decide +kernel
theorem dX4_entry_25 : decode cX4_entry 25 = .ok (.aload_n 0, 1) := by decide +kernel
theorem dX4_entry_26 : decode cX4_entry 26 = .ok (.getfield 19, 3) := by decide +kernel
theorem dX4_entry_29 : decode cX4_entry 29 = .ok (.iconst 0, 1) := by decide +kernel
theorem dX4_entry_30 : decode cX4_entry 30 = .ok (.iload_n 1, 1) := by decide +kernel
theorem dX4_entry_31 : decode cX4_entry 31 = .ok (.invokevirtual 87, 3) := by decide +kernel
theorem dX4_entry_34 : decode cX4_entry 34 = .ok (.lstore_n 2, 1) := by decide +kernel
theorem dX4_entry_35 : decode cX4_entry 35 = .ok (.aload_n 0, 1) := by decide +kernel
theorem dX4_entry_36 : decode cX4_entry 36 = .ok (.getfield 69, 3) := by decide +kernel
theorem dX4_entry_39 : decode cX4_entry 39 = .ok (.istore 4, 2) := by decide +kernel
theorem dX4_entry_41 : decode cX4_entry 41 = .ok (.aload_n 0, 1) := by decide +kernel
theorem dX4_entry_42 : decode cX4_entry 42 = .ok (.getfield 19, 3) := by decide +kernel
theorem dX4_entry_45 : decode cX4_entry 45 = .ok (.invokevirtual 91, 3) := by decide +kernel
theorem dX4_entry_48 : decode cX4_entry 48 = .ok (.aload_n 0, 1) := by decide +kernel
theorem dX4_entry_49 : decode cX4_entry 49 = .ok (.iconst 0, 1) := by decide +kernel
theorem dX4_entry_50 : decode cX4_entry 50 = .ok (.putfield 69, 3) := by decide +kernel
theorem dX4_entry_53 : decode cX4_entry 53 = .ok (.lload_n 2, 1) := by decide +kernel
theorem dX4_entry_54 : decode cX4_entry 54 = .ok (.lconst 0, 1) := by decide +kernel
theorem dX4_entry_55 : decode cX4_entry 55 = .ok (.lcmp, 1) := by decide +kernel
theorem dX4_entry_56 : decode cX4_entry 56 = .ok (.ifCond .ne 5, 3) := by decide +kernel
theorem dX4_entry_59 : decode cX4_entry 59 = .ok (.iconst (-1), 1) := by decide +kernel
theorem dX4_entry_60 : decode cX4_entry 60 = .ok (.ireturn, 1) := by decide +kernel
theorem dX4_entry_61 : decode cX4_entry 61 = .ok (.iload 4, 2) := by decide +kernel
theorem dX4_entry_63 : decode cX4_entry 63 = .ok (.ifCond .ne 6, 3) := by decide +kernel
theorem dX4_entry_66 : decode cX4_entry 66 = .ok (.bipush (-2), 2) := by decide +kernel
theorem dX4_entry_68 : decode cX4_entry 68 = .ok (.ireturn, 1) := by decide +kernel
theorem dX4_entry_69 : decode cX4_entry 69 = .ok (.aload_n 0, 1) := by decide +kernel
theorem dX4_entry_70 : decode cX4_entry 70 = .ok (.getfield 26, 3) := by decide +kernel
theorem dX4_entry_73 : decode cX4_entry 73 = .ok (.lload_n 2, 1) := by decide +kernel
theorem dX4_entry_74 : decode cX4_entry 74 = .ok (.lconst 0, 1) := by decide +kernel
theorem dX4_entry_75 : decode cX4_entry 75 = .ok (.aload_n 0, 1) := by decide +kernel
theorem dX4_entry_76 : decode cX4_entry 76 = .ok (.getfield 13, 3) := by decide +kernel
theorem dX4_entry_79 : decode cX4_entry 79 = .ok (.iload 4, 2) := by decide +kernel
theorem dX4_entry_81 : decode cX4_entry 81 = .ok (.invokevirtual 94, 3) := by decide +kernel
theorem dX4_entry_84 : decode cX4_entry 84 = .ok (.ireturn, 1) := by decide +kernel
set_option maxRecDepth 20000 in
theorem ggX4_see_X2_length : GoodIn wsX4_see wsX2_length := goodIn_r _ [10, 11, 47, 48] (by decide +kernel) (by decide +kernel)
set_option maxRecDepth 20000 in
theorem gX4_see_X2_length : GoodIn wsX4_see (wsV RX4 81 RX2 yX2_length wsX2_length) := goodIn_app (goodIn_of _ (by decide +kernel)) ggX4_see_X2_length
set_option maxRecDepth 20000 in
theorem ggX4_see_X2_headAt : GoodIn wsX4_see wsX2_headAt := goodIn_r _ [15, 11, 16, 47, 48] (by decide +kernel) (by decide +kernel)
set_option maxRecDepth 20000 in
theorem gX4_see_X2_headAt : GoodIn wsX4_see (wsV RX4 87 RX2 yX2_headAt wsX2_headAt) := goodIn_app (goodIn_of _ (by decide +kernel)) ggX4_see_X2_headAt
set_option maxRecDepth 20000 in
theorem ggX4_see_X2_clear : GoodIn wsX4_see wsX2_clear := goodIn_r _ [20, 11, 47, 48] (by decide +kernel) (by decide +kernel)
set_option maxRecDepth 20000 in
theorem gX4_see_X2_clear : GoodIn wsX4_see (wsV RX4 91 RX2 yX2_clear wsX2_clear) := goodIn_app (goodIn_of _ (by decide +kernel)) ggX4_see_X2_clear
set_option maxRecDepth 20000 in
theorem ggX4_see_X0_admit : GoodIn wsX4_see wsX0_admit := goodIn_r _ [25, 26, 27, 28, 29, 30, 31, 32, 33, 34, 35, 24, 36, 49, 50, 51, 52, 53, 54, 55, 56, 57] (by decide +kernel) (by decide +kernel)
set_option maxRecDepth 20000 in
theorem gX4_see_X0_admit : GoodIn wsX4_see (wsV RX4 94 RX0 yX0_admit wsX0_admit) := goodIn_app (goodIn_of _ (by decide +kernel)) ggX4_see_X0_admit
theorem dX4_see_0 : decode cX4_see 0 = .ok (.aload_n 0, 1) := by decide +kernel
theorem dX4_see_1 : decode cX4_see 1 = .ok (.getfield 19, 3) := by decide +kernel
theorem dX4_see_4 : decode cX4_see 4 = .ok (.invokevirtual 81, 3) := by decide +kernel
theorem dX4_see_7 : decode cX4_see 7 = .ok (.istore_n 3, 1) := by decide +kernel
theorem dX4_see_8 : decode cX4_see 8 = .ok (.iload_n 1, 1) := by decide +kernel
theorem dX4_see_9 : decode cX4_see 9 = .ok (.ifCond .lt 24, 3) := by decide +kernel
theorem dX4_see_12 : decode cX4_see 12 = .ok (.iload_n 1, 1) := by decide +kernel
theorem dX4_see_13 : decode cX4_see 13 = .ok (.iload_n 3, 1) := by decide +kernel
theorem dX4_see_14 : decode cX4_see 14 = .ok (.if_icmp .gt 19, 3) := by decide +kernel
theorem dX4_see_17 : decode cX4_see 17 = .ok (.iload_n 2, 1) := by decide +kernel
theorem dX4_see_18 : decode cX4_see 18 = .ok (.ifCond .lt 15, 3) := by decide +kernel
theorem dX4_see_21 : decode cX4_see 21 = .ok (.iload_n 2, 1) := by decide +kernel
theorem dX4_see_22 : decode cX4_see 22 = .ok (.iload_n 3, 1) := by decide +kernel
theorem dX4_see_23 : decode cX4_see 23 = .ok (.if_icmp .gt 10, 3) := by decide +kernel
theorem dX4_see_26 : decode cX4_see 26 = .ok (.iload_n 1, 1) := by decide +kernel
theorem dX4_see_27 : decode cX4_see 27 = .ok (.iload_n 2, 1) := by decide +kernel
theorem dX4_see_28 : decode cX4_see 28 = .ok (.iadd, 1) := by decide +kernel
theorem dX4_see_29 : decode cX4_see 29 = .ok (.iload_n 3, 1) := by decide +kernel
theorem dX4_see_30 : decode cX4_see 30 = .ok (.if_icmp .le 13, 3) := by decide +kernel
theorem dX4_see_33 : decode cX4_see 33 = .ok (.new 52, 3) := by decide +kernel
theorem dX4_see_36 : decode cX4_see 36 = .ok (.dup, 1) := by decide +kernel
theorem dX4_see_37 : decode cX4_see 37 = .ok (.ldc 85, 2) := by decide +kernel
theorem dX4_see_39 : decode cX4_see 39 = .ok (.invokespecial 56, 3) := by decide +kernel
theorem dX4_see_42 : decode cX4_see 42 = .ok (.athrow, 1) := by decide +kernel
theorem dX4_see_43 : decode cX4_see 43 = .ok (.aload_n 0, 1) := by decide +kernel
theorem dX4_see_44 : decode cX4_see 44 = .ok (.getfield 19, 3) := by decide +kernel
theorem dX4_see_47 : decode cX4_see 47 = .ok (.iconst 0, 1) := by decide +kernel
theorem dX4_see_48 : decode cX4_see 48 = .ok (.iload_n 1, 1) := by decide +kernel
theorem dX4_see_49 : decode cX4_see 49 = .ok (.invokevirtual 87, 3) := by decide +kernel
theorem dX4_see_52 : decode cX4_see 52 = .ok (.lstore 4, 2) := by decide +kernel
theorem dX4_see_54 : decode cX4_see 54 = .ok (.aload_n 0, 1) := by decide +kernel
theorem dX4_see_55 : decode cX4_see 55 = .ok (.getfield 19, 3) := by decide +kernel
theorem dX4_see_58 : decode cX4_see 58 = .ok (.iload_n 1, 1) := by decide +kernel
theorem dX4_see_59 : decode cX4_see 59 = .ok (.iload_n 2, 1) := by decide +kernel
theorem dX4_see_60 : decode cX4_see 60 = .ok (.invokevirtual 87, 3) := by decide +kernel
theorem dX4_see_63 : decode cX4_see 63 = .ok (.lstore 6, 2) := by decide +kernel
theorem dX4_see_65 : decode cX4_see 65 = .ok (.aload_n 0, 1) := by decide +kernel
theorem dX4_see_66 : decode cX4_see 66 = .ok (.getfield 19, 3) := by decide +kernel
theorem dX4_see_69 : decode cX4_see 69 = .ok (.invokevirtual 91, 3) := by decide +kernel
theorem dX4_see_72 : decode cX4_see 72 = .ok (.lload 4, 2) := by decide +kernel
theorem dX4_see_74 : decode cX4_see 74 = .ok (.lconst 0, 1) := by decide +kernel
theorem dX4_see_75 : decode cX4_see 75 = .ok (.lcmp, 1) := by decide +kernel
theorem dX4_see_76 : decode cX4_see 76 = .ok (.ifCond .eq 10, 3) := by decide +kernel
theorem dX4_see_79 : decode cX4_see 79 = .ok (.lload 6, 2) := by decide +kernel
theorem dX4_see_81 : decode cX4_see 81 = .ok (.lconst 0, 1) := by decide +kernel
theorem dX4_see_82 : decode cX4_see 82 = .ok (.lcmp, 1) := by decide +kernel
theorem dX4_see_83 : decode cX4_see 83 = .ok (.ifCond .ne 5, 3) := by decide +kernel
theorem dX4_see_86 : decode cX4_see 86 = .ok (.iconst (-1), 1) := by decide +kernel
theorem dX4_see_87 : decode cX4_see 87 = .ok (.ireturn, 1) := by decide +kernel
theorem dX4_see_88 : decode cX4_see 88 = .ok (.aload_n 0, 1) := by decide +kernel
theorem dX4_see_89 : decode cX4_see 89 = .ok (.getfield 26, 3) := by decide +kernel
theorem dX4_see_92 : decode cX4_see 92 = .ok (.lload 4, 2) := by decide +kernel
theorem dX4_see_94 : decode cX4_see 94 = .ok (.lload 6, 2) := by decide +kernel
theorem dX4_see_96 : decode cX4_see 96 = .ok (.getstatic 98, 3) := by decide +kernel
theorem dX4_see_99 : decode cX4_see 99 = .ok (.iconst 1, 1) := by decide +kernel
theorem dX4_see_100 : decode cX4_see 100 = .ok (.invokevirtual 94, 3) := by decide +kernel
theorem dX4_see_103 : decode cX4_see 103 = .ok (.ireturn, 1) := by decide +kernel
set_option maxRecDepth 20000 in
theorem ggX4_drop_X4_checkEntry : GoodIn wsX4_drop wsX4_checkEntry := goodIn_ca (goodIn_r _ [6, 7, 8, 1, 17, 18, 19, 20, 21, 22, 23, 24, 25, 26, 27, 28, 29, 30, 31, 32, 33, 34, 35] (by decide +kernel) (by decide +kernel)) (goodIn_sub (fun _ h => List.mem_cons_of_mem _ (List.mem_append_right _ h)) (by decide +kernel))
set_option maxRecDepth 20000 in
theorem gX4_drop_X4_checkEntry : GoodIn wsX4_drop (wsV RX4 101 RX4 yX4_checkEntry wsX4_checkEntry) := goodIn_app (goodIn_of _ (by decide +kernel)) ggX4_drop_X4_checkEntry
set_option maxRecDepth 20000 in
theorem ggX4_drop_X0_remove : GoodIn wsX4_drop wsX0_remove := goodIn_r _ [13, 14, 15, 16, 27, 28, 29, 30, 31, 32, 33, 34, 35] (by decide +kernel) (by decide +kernel)
set_option maxRecDepth 20000 in
theorem gX4_drop_X0_remove : GoodIn wsX4_drop (wsV RX4 104 RX0 yX0_remove wsX0_remove) := goodIn_app (goodIn_of _ (by decide +kernel)) ggX4_drop_X0_remove
theorem dX4_drop_0 : decode cX4_drop 0 = .ok (.aload_n 0, 1) := by decide +kernel
theorem dX4_drop_1 : decode cX4_drop 1 = .ok (.iload_n 1, 1) := by decide +kernel
theorem dX4_drop_2 : decode cX4_drop 2 = .ok (.invokevirtual 101, 3) := by decide +kernel
theorem dX4_drop_5 : decode cX4_drop 5 = .ok (.aload_n 0, 1) := by decide +kernel
theorem dX4_drop_6 : decode cX4_drop 6 = .ok (.getfield 26, 3) := by decide +kernel
theorem dX4_drop_9 : decode cX4_drop 9 = .ok (.iload_n 1, 1) := by decide +kernel
theorem dX4_drop_10 : decode cX4_drop 10 = .ok (.invokevirtual 104, 3) := by decide +kernel
theorem dX4_drop_13 : decode cX4_drop 13 = .ok (.ireturn, 1) := by decide +kernel
set_option maxRecDepth 20000 in
theorem ggX4_order_X0_inOrder : GoodIn wsX4_order wsX0_inOrder := goodIn_r _ [6, 7, 8, 19, 20, 21, 22, 23, 24, 25, 26, 27] (by decide +kernel) (by decide +kernel)
set_option maxRecDepth 20000 in
theorem gX4_order_X0_inOrder : GoodIn wsX4_order (wsV RX4 108 RX0 yX0_inOrder wsX0_inOrder) := goodIn_app (goodIn_of _ (by decide +kernel)) ggX4_order_X0_inOrder
theorem dX4_order_0 : decode cX4_order 0 = .ok (.aload_n 0, 1) := by decide +kernel
theorem dX4_order_1 : decode cX4_order 1 = .ok (.getfield 26, 3) := by decide +kernel
theorem dX4_order_4 : decode cX4_order 4 = .ok (.iload_n 1, 1) := by decide +kernel
theorem dX4_order_5 : decode cX4_order 5 = .ok (.invokevirtual 108, 3) := by decide +kernel
theorem dX4_order_8 : decode cX4_order 8 = .ok (.ireturn, 1) := by decide +kernel
set_option maxRecDepth 20000 in
theorem ggX4_leads_X4_checkEntry : GoodIn wsX4_leads wsX4_checkEntry := goodIn_ca (goodIn_r _ [6, 7, 8, 1, 31, 32, 33, 34, 35, 36, 37, 38, 39, 40, 41, 42, 43, 44, 45, 46, 47, 48, 49] (by decide +kernel) (by decide +kernel)) (goodIn_sub (fun _ h => List.mem_cons_of_mem _ (List.mem_append_right _ h)) (by decide +kernel))
set_option maxRecDepth 20000 in
theorem gX4_leads_X4_checkEntry : GoodIn wsX4_leads (wsV RX4 101 RX4 yX4_checkEntry wsX4_checkEntry) := goodIn_app (goodIn_of _ (by decide +kernel)) ggX4_leads_X4_checkEntry
set_option maxRecDepth 20000 in
theorem ggX4_leads_X0_follow : GoodIn wsX4_leads wsX0_follow := goodIn_r _ [13, 14, 15, 16, 17, 18, 19, 20, 21, 22, 12, 23, 24, 25, 26, 27, 28, 29, 30, 41, 42, 43, 44, 45, 46, 47, 48, 49] (by decide +kernel) (by decide +kernel)
set_option maxRecDepth 20000 in
theorem gX4_leads_X0_follow : GoodIn wsX4_leads (wsV RX4 112 RX0 yX0_follow wsX0_follow) := goodIn_app (goodIn_of _ (by decide +kernel)) ggX4_leads_X0_follow
theorem dX4_leads_0 : decode cX4_leads 0 = .ok (.aload_n 0, 1) := by decide +kernel
theorem dX4_leads_1 : decode cX4_leads 1 = .ok (.iload_n 1, 1) := by decide +kernel
theorem dX4_leads_2 : decode cX4_leads 2 = .ok (.invokevirtual 101, 3) := by decide +kernel
theorem dX4_leads_5 : decode cX4_leads 5 = .ok (.aload_n 0, 1) := by decide +kernel
theorem dX4_leads_6 : decode cX4_leads 6 = .ok (.getfield 26, 3) := by decide +kernel
theorem dX4_leads_9 : decode cX4_leads 9 = .ok (.iload_n 1, 1) := by decide +kernel
theorem dX4_leads_10 : decode cX4_leads 10 = .ok (.invokevirtual 112, 3) := by decide +kernel
theorem dX4_leads_13 : decode cX4_leads 13 = .ok (.ireturn, 1) := by decide +kernel
set_option maxRecDepth 20000 in
theorem ggX4_set__X3_compose : GoodIn wsX4_set_ wsX3_compose := goodIn_r _ [10, 11, 12, 13, 14, 15, 16, 17, 18, 9, 19, 20, 21, 22, 23, 24, 25, 26, 27, 28, 29, 30, 31, 32, 33, 34, 35, 36, 37, 38, 39, 40, 41, 42, 43, 44, 45, 46, 47, 48, 49, 50, 51, 52, 53, 54, 55, 56, 57, 58, 59, 60, 61, 62, 63, 64, 111, 112, 113, 114, 115, 103, 104, 105, 106, 107, 108, 109, 110, 116, 117, 118, 119, 120, 121, 122, 123, 124] (by decide +kernel) (by decide +kernel)
set_option maxRecDepth 20000 in
theorem gX4_set__X3_compose : GoodIn wsX4_set_ (wsV RX4 115 RX3 yX3_compose wsX3_compose) := goodIn_app (goodIn_of _ (by decide +kernel)) ggX4_set__X3_compose
set_option maxRecDepth 20000 in
theorem ggX4_set__X1_pagesUnlike : GoodIn wsX4_set_ wsX1_pagesUnlike := goodIn_r _ [68, 58, 69, 70, 71, 72, 73, 74, 75, 54, 76, 77, 78, 79, 80, 56, 57, 81, 82, 83, 84, 85, 86, 87, 88, 89, 90, 91, 59, 92, 103, 104, 105, 106, 107, 108, 109, 110] (by decide +kernel) (by decide +kernel)
set_option maxRecDepth 20000 in
theorem gX4_set__X1_pagesUnlike : GoodIn wsX4_set_ (wsV RX4 119 RX1 yX1_pagesUnlike wsX1_pagesUnlike) := goodIn_app (goodIn_of _ (by decide +kernel)) ggX4_set__X1_pagesUnlike
theorem dX4_set__0 : decode cX4_set_ 0 = .ok (.aload_n 0, 1) := by decide +kernel
theorem dX4_set__1 : decode cX4_set_ 1 = .ok (.getfield 35, 3) := by decide +kernel
theorem dX4_set__4 : decode cX4_set_ 4 = .ok (.aload_n 0, 1) := by decide +kernel
theorem dX4_set__5 : decode cX4_set_ 5 = .ok (.getfield 26, 3) := by decide +kernel
theorem dX4_set__8 : decode cX4_set_ 8 = .ok (.aload_n 0, 1) := by decide +kernel
theorem dX4_set__9 : decode cX4_set_ 9 = .ok (.getfield 49, 3) := by decide +kernel
theorem dX4_set__12 : decode cX4_set_ 12 = .ok (.invokevirtual 115, 3) := by decide +kernel
theorem dX4_set__15 : decode cX4_set_ 15 = .ok (.ifCond .ne 5, 3) := by decide +kernel
theorem dX4_set__18 : decode cX4_set_ 18 = .ok (.iconst (-1), 1) := by decide +kernel
theorem dX4_set__19 : decode cX4_set_ 19 = .ok (.ireturn, 1) := by decide +kernel
theorem dX4_set__20 : decode cX4_set_ 20 = .ok (.aload_n 0, 1) := by decide +kernel
theorem dX4_set__21 : decode cX4_set_ 21 = .ok (.getfield 45, 3) := by decide +kernel
theorem dX4_set__24 : decode cX4_set_ 24 = .ok (.astore_n 1, 1) := by decide +kernel
theorem dX4_set__25 : decode cX4_set_ 25 = .ok (.aload_n 0, 1) := by decide +kernel
theorem dX4_set__26 : decode cX4_set_ 26 = .ok (.aload_n 0, 1) := by decide +kernel
theorem dX4_set__27 : decode cX4_set_ 27 = .ok (.getfield 49, 3) := by decide +kernel
theorem dX4_set__30 : decode cX4_set_ 30 = .ok (.putfield 45, 3) := by decide +kernel
theorem dX4_set__33 : decode cX4_set_ 33 = .ok (.aload_n 0, 1) := by decide +kernel
theorem dX4_set__34 : decode cX4_set_ 34 = .ok (.aload_n 1, 1) := by decide +kernel
theorem dX4_set__35 : decode cX4_set_ 35 = .ok (.putfield 49, 3) := by decide +kernel
theorem dX4_set__38 : decode cX4_set_ 38 = .ok (.aload_n 0, 1) := by decide +kernel
theorem dX4_set__39 : decode cX4_set_ 39 = .ok (.aload_n 0, 1) := by decide +kernel
theorem dX4_set__40 : decode cX4_set_ 40 = .ok (.getfield 45, 3) := by decide +kernel
theorem dX4_set__43 : decode cX4_set_ 43 = .ok (.aload_n 1, 1) := by decide +kernel
theorem dX4_set__44 : decode cX4_set_ 44 = .ok (.invokevirtual 119, 3) := by decide +kernel
theorem dX4_set__47 : decode cX4_set_ 47 = .ok (.putfield 123, 3) := by decide +kernel
theorem dX4_set__50 : decode cX4_set_ 50 = .ok (.aload_n 0, 1) := by decide +kernel
theorem dX4_set__51 : decode cX4_set_ 51 = .ok (.getfield 45, 3) := by decide +kernel
theorem dX4_set__54 : decode cX4_set_ 54 = .ok (.getfield 126, 3) := by decide +kernel
theorem dX4_set__57 : decode cX4_set_ 57 = .ok (.ireturn, 1) := by decide +kernel
theorem dX4_told_0 : decode cX4_told 0 = .ok (.iload_n 1, 1) := by decide +kernel
theorem dX4_told_1 : decode cX4_told 1 = .ok (.tableswitch 72 0 4 #[35, 43, 51, 59, 67], 35) := by decide +kernel
theorem dX4_told_36 : decode cX4_told 36 = .ok (.aload_n 0, 1) := by decide +kernel
theorem dX4_told_37 : decode cX4_told 37 = .ok (.getfield 45, 3) := by decide +kernel
theorem dX4_told_40 : decode cX4_told 40 = .ok (.getfield 126, 3) := by decide +kernel
theorem dX4_told_43 : decode cX4_told 43 = .ok (.ireturn, 1) := by decide +kernel
theorem dX4_told_44 : decode cX4_told 44 = .ok (.aload_n 0, 1) := by decide +kernel
theorem dX4_told_45 : decode cX4_told 45 = .ok (.getfield 45, 3) := by decide +kernel
theorem dX4_told_48 : decode cX4_told 48 = .ok (.getfield 129, 3) := by decide +kernel
theorem dX4_told_51 : decode cX4_told 51 = .ok (.ireturn, 1) := by decide +kernel
theorem dX4_told_52 : decode cX4_told 52 = .ok (.aload_n 0, 1) := by decide +kernel
theorem dX4_told_53 : decode cX4_told 53 = .ok (.getfield 45, 3) := by decide +kernel
theorem dX4_told_56 : decode cX4_told 56 = .ok (.getfield 132, 3) := by decide +kernel
theorem dX4_told_59 : decode cX4_told 59 = .ok (.ireturn, 1) := by decide +kernel
theorem dX4_told_60 : decode cX4_told 60 = .ok (.aload_n 0, 1) := by decide +kernel
theorem dX4_told_61 : decode cX4_told 61 = .ok (.getfield 45, 3) := by decide +kernel
theorem dX4_told_64 : decode cX4_told 64 = .ok (.getfield 135, 3) := by decide +kernel
theorem dX4_told_67 : decode cX4_told 67 = .ok (.ireturn, 1) := by decide +kernel
theorem dX4_told_68 : decode cX4_told 68 = .ok (.aload_n 0, 1) := by decide +kernel
theorem dX4_told_69 : decode cX4_told 69 = .ok (.getfield 123, 3) := by decide +kernel
theorem dX4_told_72 : decode cX4_told 72 = .ok (.ireturn, 1) := by decide +kernel
theorem dX4_told_73 : decode cX4_told 73 = .ok (.new 52, 3) := by decide +kernel
theorem dX4_told_76 : decode cX4_told 76 = .ok (.dup, 1) := by decide +kernel
theorem dX4_told_77 : decode cX4_told 77 = .ok (.ldc 138, 2) := by decide +kernel
theorem dX4_told_79 : decode cX4_told 79 = .ok (.invokespecial 56, 3) := by decide +kernel
theorem dX4_told_82 : decode cX4_told 82 = .ok (.athrow, 1) := by decide +kernel
set_option maxRecDepth 20000 in
theorem ggX4_column_X1_entryOf : GoodIn wsX4_column wsX1_entryOf := goodIn_r _ [10, 11, 26, 27, 28, 29, 30, 31, 32, 33] (by decide +kernel) (by decide +kernel)
set_option maxRecDepth 20000 in
theorem gX4_column_X1_entryOf : GoodIn wsX4_column (wsV RX4 148 RX1 yX1_entryOf wsX1_entryOf) := goodIn_app (goodIn_of _ (by decide +kernel)) ggX4_column_X1_entryOf
set_option maxRecDepth 20000 in
theorem ggX4_column_X1_senseOf : GoodIn wsX4_column wsX1_senseOf := goodIn_r _ [15, 11, 26, 27, 28, 29, 30, 31, 32, 33] (by decide +kernel) (by decide +kernel)
set_option maxRecDepth 20000 in
theorem gX4_column_X1_senseOf : GoodIn wsX4_column (wsV RX4 151 RX1 yX1_senseOf wsX1_senseOf) := goodIn_app (goodIn_of _ (by decide +kernel)) ggX4_column_X1_senseOf
theorem dX4_column_0 : decode cX4_column 0 = .ok (.iload_n 1, 1) := by decide +kernel
theorem dX4_column_1 : decode cX4_column 1 = .ok (.ifCond .lt 14, 3) := by decide +kernel
theorem dX4_column_4 : decode cX4_column 4 = .ok (.iload_n 1, 1) := by decide +kernel
theorem dX4_column_5 : decode cX4_column 5 = .ok (.aload_n 0, 1) := by decide +kernel
theorem dX4_column_6 : decode cX4_column 6 = .ok (.getfield 45, 3) := by decide +kernel
theorem dX4_column_9 : decode cX4_column 9 = .ok (.getfield 132, 3) := by decide +kernel
theorem dX4_column_12 : decode cX4_column 12 = .ok (.if_icmp .lt 13, 3) := by decide +kernel
theorem dX4_column_15 : decode cX4_column 15 = .ok (.new 140, 3) := by decide +kernel
theorem dX4_column_18 : decode cX4_column 18 = .ok (.dup, 1) := by decide +kernel
theorem dX4_column_19 : decode cX4_column 19 = .ok (.ldc 142, 2) := by decide +kernel
theorem dX4_column_21 : decode cX4_column 21 = .ok (.invokespecial 144, 3) := by decide +kernel
theorem dX4_column_24 : decode cX4_column 24 = .ok (.athrow, 1) := by decide +kernel
theorem dX4_column_25 : decode cX4_column 25 = .ok (.aload_n 0, 1) := by decide +kernel
theorem dX4_column_26 : decode cX4_column 26 = .ok (.getfield 45, 3) := by decide +kernel
theorem dX4_column_29 : decode cX4_column 29 = .ok (.getfield 145, 3) := by decide +kernel
theorem dX4_column_32 : decode cX4_column 32 = .ok (.iload_n 1, 1) := by decide +kernel
theorem dX4_column_33 : decode cX4_column 33 = .ok (.iaload, 1) := by decide +kernel
theorem dX4_column_34 : decode cX4_column 34 = .ok (.istore_n 3, 1) := by decide +kernel
theorem dX4_column_35 : decode cX4_column 35 = .ok (.iload_n 2, 1) := by decide +kernel
theorem dX4_column_36 : decode cX4_column 36 = .ok (.tableswitch 74 0 3 #[32, 41, 50, 64], 32) := by decide +kernel
theorem dX4_column_68 : decode cX4_column 68 = .ok (.aload_n 0, 1) := by decide +kernel
theorem dX4_column_69 : decode cX4_column 69 = .ok (.getfield 45, 3) := by decide +kernel
theorem dX4_column_72 : decode cX4_column 72 = .ok (.iload_n 3, 1) := by decide +kernel
theorem dX4_column_73 : decode cX4_column 73 = .ok (.invokevirtual 148, 3) := by decide +kernel
theorem dX4_column_76 : decode cX4_column 76 = .ok (.ireturn, 1) := by decide +kernel
theorem dX4_column_77 : decode cX4_column 77 = .ok (.aload_n 0, 1) := by decide +kernel
theorem dX4_column_78 : decode cX4_column 78 = .ok (.getfield 45, 3) := by decide +kernel
theorem dX4_column_81 : decode cX4_column 81 = .ok (.iload_n 3, 1) := by decide +kernel
theorem dX4_column_82 : decode cX4_column 82 = .ok (.invokevirtual 151, 3) := by decide +kernel
theorem dX4_column_85 : decode cX4_column 85 = .ok (.ireturn, 1) := by decide +kernel
theorem dX4_column_86 : decode cX4_column 86 = .ok (.aload_n 0, 1) := by decide +kernel
theorem dX4_column_87 : decode cX4_column 87 = .ok (.getfield 45, 3) := by decide +kernel
theorem dX4_column_90 : decode cX4_column 90 = .ok (.getfield 145, 3) := by decide +kernel
theorem dX4_column_93 : decode cX4_column 93 = .ok (.iload_n 1, 1) := by decide +kernel
theorem dX4_column_94 : decode cX4_column 94 = .ok (.iconst 1, 1) := by decide +kernel
theorem dX4_column_95 : decode cX4_column 95 = .ok (.iadd, 1) := by decide +kernel
theorem dX4_column_96 : decode cX4_column 96 = .ok (.iaload, 1) := by decide +kernel
theorem dX4_column_97 : decode cX4_column 97 = .ok (.iload_n 3, 1) := by decide +kernel
theorem dX4_column_98 : decode cX4_column 98 = .ok (.isub, 1) := by decide +kernel
theorem dX4_column_99 : decode cX4_column 99 = .ok (.ireturn, 1) := by decide +kernel
theorem dX4_column_100 : decode cX4_column 100 = .ok (.aload_n 0, 1) := by decide +kernel
theorem dX4_column_101 : decode cX4_column 101 = .ok (.getfield 45, 3) := by decide +kernel
theorem dX4_column_104 : decode cX4_column 104 = .ok (.getfield 154, 3) := by decide +kernel
theorem dX4_column_107 : decode cX4_column 107 = .ok (.iload_n 1, 1) := by decide +kernel
theorem dX4_column_108 : decode cX4_column 108 = .ok (.iaload, 1) := by decide +kernel
theorem dX4_column_109 : decode cX4_column 109 = .ok (.ireturn, 1) := by decide +kernel
theorem dX4_column_110 : decode cX4_column 110 = .ok (.new 52, 3) := by decide +kernel
theorem dX4_column_113 : decode cX4_column 113 = .ok (.dup, 1) := by decide +kernel
theorem dX4_column_114 : decode cX4_column 114 = .ok (.ldc 157, 2) := by decide +kernel
theorem dX4_column_116 : decode cX4_column 116 = .ok (.invokespecial 56, 3) := by decide +kernel
theorem dX4_column_119 : decode cX4_column 119 = .ok (.athrow, 1) := by decide +kernel
set_option maxRecDepth 20000 in
theorem ggX4_where_X4_checkEntry : GoodIn wsX4_where wsX4_checkEntry := goodIn_ca (goodIn_r _ [6, 7, 8, 9, 18, 19, 20, 21, 22, 23, 24, 25, 26, 27, 28, 29, 30, 31, 32, 33, 34, 35, 36] (by decide +kernel) (by decide +kernel)) (goodIn_sub (fun _ h => List.mem_cons_of_mem _ (List.mem_append_right _ h)) (by decide +kernel))
set_option maxRecDepth 20000 in
theorem gX4_where_X4_checkEntry : GoodIn wsX4_where (wsV RX4 101 RX4 yX4_checkEntry wsX4_checkEntry) := goodIn_app (goodIn_of _ (by decide +kernel)) ggX4_where_X4_checkEntry
set_option maxRecDepth 20000 in
theorem ggX4_where_X1_columnWith : GoodIn wsX4_where wsX1_columnWith := goodIn_r _ [14, 15, 16, 17, 37, 38, 39, 40, 41, 42, 43, 44] (by decide +kernel) (by decide +kernel)
set_option maxRecDepth 20000 in
theorem gX4_where_X1_columnWith : GoodIn wsX4_where (wsV RX4 159 RX1 yX1_columnWith wsX1_columnWith) := goodIn_app (goodIn_of _ (by decide +kernel)) ggX4_where_X1_columnWith
theorem dX4_where_0 : decode cX4_where 0 = .ok (.aload_n 0, 1) := by decide +kernel
theorem dX4_where_1 : decode cX4_where 1 = .ok (.iload_n 1, 1) := by decide +kernel
theorem dX4_where_2 : decode cX4_where 2 = .ok (.invokevirtual 101, 3) := by decide +kernel
theorem dX4_where_5 : decode cX4_where 5 = .ok (.iload_n 2, 1) := by decide +kernel
theorem dX4_where_6 : decode cX4_where 6 = .ok (.ifCond .lt 9, 3) := by decide +kernel
theorem dX4_where_9 : decode cX4_where 9 = .ok (.iload_n 2, 1) := by decide +kernel
theorem dX4_where_10 : decode cX4_where 10 = .ok (.bipush 6, 2) := by decide +kernel
theorem dX4_where_12 : decode cX4_where 12 = .ok (.if_icmp .lt 5, 3) := by decide +kernel
theorem dX4_where_15 : decode cX4_where 15 = .ok (.iconst (-1), 1) := by decide +kernel
theorem dX4_where_16 : decode cX4_where 16 = .ok (.ireturn, 1) := by decide +kernel
theorem dX4_where_17 : decode cX4_where 17 = .ok (.aload_n 0, 1) := by decide +kernel
theorem dX4_where_18 : decode cX4_where 18 = .ok (.getfield 45, 3) := by decide +kernel
theorem dX4_where_21 : decode cX4_where 21 = .ok (.iload_n 1, 1) := by decide +kernel
theorem dX4_where_22 : decode cX4_where 22 = .ok (.bipush 6, 2) := by decide +kernel
theorem dX4_where_24 : decode cX4_where 24 = .ok (.imul, 1) := by decide +kernel
theorem dX4_where_25 : decode cX4_where 25 = .ok (.iload_n 2, 1) := by decide +kernel
theorem dX4_where_26 : decode cX4_where 26 = .ok (.iadd, 1) := by decide +kernel
theorem dX4_where_27 : decode cX4_where 27 = .ok (.invokevirtual 159, 3) := by decide +kernel
theorem dX4_where_30 : decode cX4_where 30 = .ok (.ireturn, 1) := by decide +kernel
set_option maxRecDepth 20000 in
theorem ggX4_guide_X1_firstGuide : GoodIn wsX4_guide wsX1_firstGuide := goodIn_r _ [10, 11, 12, 13, 14, 9, 15, 16, 17, 18, 19, 20, 21, 22, 23, 24, 25, 26, 27, 28, 29, 30, 31, 32, 33, 34, 49, 50, 51, 52, 53, 54, 55, 56] (by decide +kernel) (by decide +kernel)
set_option maxRecDepth 20000 in
theorem gX4_guide_X1_firstGuide : GoodIn wsX4_guide (wsV RX4 166 RX1 yX1_firstGuide wsX1_firstGuide) := goodIn_app (goodIn_of _ (by decide +kernel)) ggX4_guide_X1_firstGuide
set_option maxRecDepth 20000 in
theorem ggX4_guide_X1_lastGuide : GoodIn wsX4_guide wsX1_lastGuide := goodIn_r _ [38, 11, 12, 13, 14, 9, 15, 16, 17, 18, 19, 20, 21, 22, 23, 24, 25, 26, 27, 28, 29, 30, 31, 32, 33, 34, 49, 50, 51, 52, 53, 54, 55, 56] (by decide +kernel) (by decide +kernel)
set_option maxRecDepth 20000 in
theorem gX4_guide_X1_lastGuide : GoodIn wsX4_guide (wsV RX4 169 RX1 yX1_lastGuide wsX1_lastGuide) := goodIn_app (goodIn_of _ (by decide +kernel)) ggX4_guide_X1_lastGuide
theorem dX4_guide_0 : decode cX4_guide 0 = .ok (.iload_n 1, 1) := by decide +kernel
theorem dX4_guide_1 : decode cX4_guide 1 = .ok (.ifCond .lt 14, 3) := by decide +kernel
theorem dX4_guide_4 : decode cX4_guide 4 = .ok (.iload_n 1, 1) := by decide +kernel
theorem dX4_guide_5 : decode cX4_guide 5 = .ok (.aload_n 0, 1) := by decide +kernel
theorem dX4_guide_6 : decode cX4_guide 6 = .ok (.getfield 45, 3) := by decide +kernel
theorem dX4_guide_9 : decode cX4_guide 9 = .ok (.getfield 129, 3) := by decide +kernel
theorem dX4_guide_12 : decode cX4_guide 12 = .ok (.if_icmp .lt 13, 3) := by decide +kernel
theorem dX4_guide_15 : decode cX4_guide 15 = .ok (.new 140, 3) := by decide +kernel
theorem dX4_guide_18 : decode cX4_guide 18 = .ok (.dup, 1) := by decide +kernel
theorem dX4_guide_19 : decode cX4_guide 19 = .ok (.ldc 162, 2) := by decide +kernel
theorem dX4_guide_21 : decode cX4_guide 21 = .ok (.invokespecial 144, 3) := by decide +kernel
theorem dX4_guide_24 : decode cX4_guide 24 = .ok (.athrow, 1) := by decide +kernel
theorem dX4_guide_25 : decode cX4_guide 25 = .ok (.iload_n 2, 1) := by decide +kernel
theorem dX4_guide_26 : decode cX4_guide 26 = .ok (.ifCond .eq 18, 3) := by decide +kernel
theorem dX4_guide_29 : decode cX4_guide 29 = .ok (.iload_n 2, 1) := by decide +kernel
theorem dX4_guide_30 : decode cX4_guide 30 = .ok (.iconst 1, 1) := by decide +kernel
theorem dX4_guide_31 : decode cX4_guide 31 = .ok (.if_icmp .eq 13, 3) := by decide +kernel
theorem dX4_guide_34 : decode cX4_guide 34 = .ok (.new 52, 3) := by decide +kernel
theorem dX4_guide_37 : decode cX4_guide 37 = .ok (.dup, 1) := by decide +kernel
theorem dX4_guide_38 : decode cX4_guide 38 = .ok (.ldc 164, 2) := by decide +kernel
theorem dX4_guide_40 : decode cX4_guide 40 = .ok (.invokespecial 56, 3) := by decide +kernel
theorem dX4_guide_43 : decode cX4_guide 43 = .ok (.athrow, 1) := by decide +kernel
theorem dX4_guide_44 : decode cX4_guide 44 = .ok (.iload_n 2, 1) := by decide +kernel
theorem dX4_guide_45 : decode cX4_guide 45 = .ok (.ifCond .ne 14, 3) := by decide +kernel
theorem dX4_guide_48 : decode cX4_guide 48 = .ok (.aload_n 0, 1) := by decide +kernel
theorem dX4_guide_49 : decode cX4_guide 49 = .ok (.getfield 45, 3) := by decide +kernel
theorem dX4_guide_52 : decode cX4_guide 52 = .ok (.iload_n 1, 1) := by decide +kernel
theorem dX4_guide_53 : decode cX4_guide 53 = .ok (.invokevirtual 166, 3) := by decide +kernel
theorem dX4_guide_56 : decode cX4_guide 56 = .ok (.goto 11, 3) := by decide +kernel
theorem dX4_guide_59 : decode cX4_guide 59 = .ok (.aload_n 0, 1) := by decide +kernel
theorem dX4_guide_60 : decode cX4_guide 60 = .ok (.getfield 45, 3) := by decide +kernel
theorem dX4_guide_63 : decode cX4_guide 63 = .ok (.iload_n 1, 1) := by decide +kernel
theorem dX4_guide_64 : decode cX4_guide 64 = .ok (.invokevirtual 169, 3) := by decide +kernel
theorem dX4_guide_67 : decode cX4_guide 67 = .ok (.ireturn, 1) := by decide +kernel
set_option maxRecDepth 20000 in
theorem ggX4_thumb_X0_sumLines : GoodIn wsX4_thumb wsX0_sumLines := goodIn_r _ [10, 11, 12, 13, 14, 15, 16, 17, 18, 19, 20, 21, 9, 22, 23, 24, 25, 26, 27, 38, 39, 40, 41, 42, 43, 44, 45, 46] (by decide +kernel) (by decide +kernel)
set_option maxRecDepth 20000 in
theorem gX4_thumb_X0_sumLines : GoodIn wsX4_thumb (wsV RX4 176 RX0 yX0_sumLines wsX0_sumLines) := goodIn_app (goodIn_of _ (by decide +kernel)) ggX4_thumb_X0_sumLines
theorem dX4_thumb_0 : decode cX4_thumb 0 = .ok (.iload_n 1, 1) := by decide +kernel
theorem dX4_thumb_1 : decode cX4_thumb 1 = .ok (.ifCond .lt 9, 3) := by decide +kernel
theorem dX4_thumb_4 : decode cX4_thumb 4 = .ok (.iload_n 1, 1) := by decide +kernel
theorem dX4_thumb_5 : decode cX4_thumb 5 = .ok (.bipush 26, 2) := by decide +kernel
theorem dX4_thumb_7 : decode cX4_thumb 7 = .ok (.if_icmp .lt 13, 3) := by decide +kernel
theorem dX4_thumb_10 : decode cX4_thumb 10 = .ok (.new 52, 3) := by decide +kernel
theorem dX4_thumb_13 : decode cX4_thumb 13 = .ok (.dup, 1) := by decide +kernel
theorem dX4_thumb_14 : decode cX4_thumb 14 = .ok (.ldc 172, 2) := by decide +kernel
theorem dX4_thumb_16 : decode cX4_thumb 16 = .ok (.invokespecial 56, 3) := by decide +kernel
theorem dX4_thumb_19 : decode cX4_thumb 19 = .ok (.athrow, 1) := by decide +kernel
theorem dX4_thumb_20 : decode cX4_thumb 20 = .ok (.iload_n 2, 1) := by decide +kernel
theorem dX4_thumb_21 : decode cX4_thumb 21 = .ok (.iconst 1, 1) := by decide +kernel
theorem dX4_thumb_22 : decode cX4_thumb 22 = .ok (.if_icmp .lt 10, 3) := by decide +kernel
theorem dX4_thumb_25 : decode cX4_thumb 25 = .ok (.iload_n 2, 1) := by decide +kernel
theorem dX4_thumb_26 : decode cX4_thumb 26 = .ok (.sipush 10000, 3) := by decide +kernel
theorem dX4_thumb_29 : decode cX4_thumb 29 = .ok (.if_icmp .le 13, 3) := by decide +kernel
theorem dX4_thumb_32 : decode cX4_thumb 32 = .ok (.new 52, 3) := by decide +kernel
theorem dX4_thumb_35 : decode cX4_thumb 35 = .ok (.dup, 1) := by decide +kernel
theorem dX4_thumb_36 : decode cX4_thumb 36 = .ok (.ldc 174, 2) := by decide +kernel
theorem dX4_thumb_38 : decode cX4_thumb 38 = .ok (.invokespecial 56, 3) := by decide +kernel
theorem dX4_thumb_41 : decode cX4_thumb 41 = .ok (.athrow, 1) := by decide +kernel
theorem dX4_thumb_42 : decode cX4_thumb 42 = .ok (.aload_n 0, 1) := by decide +kernel
theorem dX4_thumb_43 : decode cX4_thumb 43 = .ok (.getfield 26, 3) := by decide +kernel
theorem dX4_thumb_46 : decode cX4_thumb 46 = .ok (.aload_n 0, 1) := by decide +kernel
theorem dX4_thumb_47 : decode cX4_thumb 47 = .ok (.getfield 39, 3) := by decide +kernel
theorem dX4_thumb_50 : decode cX4_thumb 50 = .ok (.aload_n 0, 1) := by decide +kernel
theorem dX4_thumb_51 : decode cX4_thumb 51 = .ok (.getfield 9, 3) := by decide +kernel
theorem dX4_thumb_54 : decode cX4_thumb 54 = .ok (.iconst 2, 1) := by decide +kernel
theorem dX4_thumb_55 : decode cX4_thumb 55 = .ok (.iaload, 1) := by decide +kernel
theorem dX4_thumb_56 : decode cX4_thumb 56 = .ok (.invokevirtual 176, 3) := by decide +kernel
theorem dX4_thumb_59 : decode cX4_thumb 59 = .ok (.istore_n 3, 1) := by decide +kernel
theorem dX4_thumb_60 : decode cX4_thumb 60 = .ok (.aload_n 0, 1) := by decide +kernel
theorem dX4_thumb_61 : decode cX4_thumb 61 = .ok (.getfield 39, 3) := by decide +kernel
theorem dX4_thumb_64 : decode cX4_thumb 64 = .ok (.iload_n 1, 1) := by decide +kernel
theorem dX4_thumb_65 : decode cX4_thumb 65 = .ok (.iaload, 1) := by decide +kernel
theorem dX4_thumb_66 : decode cX4_thumb 66 = .ok (.istore 4, 2) := by decide +kernel
theorem dX4_thumb_68 : decode cX4_thumb 68 = .ok (.iload 4, 2) := by decide +kernel
theorem dX4_thumb_70 : decode cX4_thumb 70 = .ok (.ifCond .eq 7, 3) := by decide +kernel
theorem dX4_thumb_73 : decode cX4_thumb 73 = .ok (.iload_n 3, 1) := by decide +kernel
theorem dX4_thumb_74 : decode cX4_thumb 74 = .ok (.ifCond .ne 5, 3) := by decide +kernel
theorem dX4_thumb_77 : decode cX4_thumb 77 = .ok (.iconst (-1), 1) := by decide +kernel
theorem dX4_thumb_78 : decode cX4_thumb 78 = .ok (.ireturn, 1) := by decide +kernel
theorem dX4_thumb_79 : decode cX4_thumb 79 = .ok (.iconst 0, 1) := by decide +kernel
theorem dX4_thumb_80 : decode cX4_thumb 80 = .ok (.istore 5, 2) := by decide +kernel
theorem dX4_thumb_82 : decode cX4_thumb 82 = .ok (.iconst 0, 1) := by decide +kernel
theorem dX4_thumb_83 : decode cX4_thumb 83 = .ok (.istore 6, 2) := by decide +kernel
theorem dX4_thumb_85 : decode cX4_thumb 85 = .ok (.iload 6, 2) := by decide +kernel
theorem dX4_thumb_87 : decode cX4_thumb 87 = .ok (.iload_n 1, 1) := by decide +kernel
theorem dX4_thumb_88 : decode cX4_thumb 88 = .ok (.if_icmp .ge 21, 3) := by decide +kernel
theorem dX4_thumb_91 : decode cX4_thumb 91 = .ok (.iload 5, 2) := by decide +kernel
theorem dX4_thumb_93 : decode cX4_thumb 93 = .ok (.aload_n 0, 1) := by decide +kernel
theorem dX4_thumb_94 : decode cX4_thumb 94 = .ok (.getfield 39, 3) := by decide +kernel
theorem dX4_thumb_97 : decode cX4_thumb 97 = .ok (.iload 6, 2) := by decide +kernel
theorem dX4_thumb_99 : decode cX4_thumb 99 = .ok (.iaload, 1) := by decide +kernel
theorem dX4_thumb_100 : decode cX4_thumb 100 = .ok (.iadd, 1) := by decide +kernel
theorem dX4_thumb_101 : decode cX4_thumb 101 = .ok (.istore 5, 2) := by decide +kernel
theorem dX4_thumb_103 : decode cX4_thumb 103 = .ok (.iinc 6 1, 3) := by decide +kernel
theorem dX4_thumb_106 : decode cX4_thumb 106 = .ok (.goto (-21), 3) := by decide +kernel
theorem dX4_thumb_109 : decode cX4_thumb 109 = .ok (.iload_n 2, 1) := by decide +kernel
theorem dX4_thumb_110 : decode cX4_thumb 110 = .ok (.iconst 2, 1) := by decide +kernel
theorem dX4_thumb_111 : decode cX4_thumb 111 = .ok (.iload 5, 2) := by decide +kernel
theorem dX4_thumb_113 : decode cX4_thumb 113 = .ok (.imul, 1) := by decide +kernel
theorem dX4_thumb_114 : decode cX4_thumb 114 = .ok (.iload 4, 2) := by decide +kernel
theorem dX4_thumb_116 : decode cX4_thumb 116 = .ok (.iadd, 1) := by decide +kernel
theorem dX4_thumb_117 : decode cX4_thumb 117 = .ok (.imul, 1) := by decide +kernel
theorem dX4_thumb_118 : decode cX4_thumb 118 = .ok (.iconst 2, 1) := by decide +kernel
theorem dX4_thumb_119 : decode cX4_thumb 119 = .ok (.iload_n 3, 1) := by decide +kernel
theorem dX4_thumb_120 : decode cX4_thumb 120 = .ok (.imul, 1) := by decide +kernel
theorem dX4_thumb_121 : decode cX4_thumb 121 = .ok (.idiv, 1) := by decide +kernel
theorem dX4_thumb_122 : decode cX4_thumb 122 = .ok (.ireturn, 1) := by decide +kernel
set_option maxRecDepth 20000 in
theorem ggX4_volume_X0_sumLines : GoodIn wsX4_volume wsX0_sumLines := goodIn_r _ [12, 13, 14, 15, 16, 17, 18, 19, 20, 21, 22, 23, 11, 24, 25, 26, 27, 28, 29, 40, 41, 42, 43, 44, 45, 46, 47, 48] (by decide +kernel) (by decide +kernel)
set_option maxRecDepth 20000 in
theorem gX4_volume_X0_sumLines : GoodIn wsX4_volume (wsV RX4 176 RX0 yX0_sumLines wsX0_sumLines) := goodIn_app (goodIn_of _ (by decide +kernel)) ggX4_volume_X0_sumLines
theorem dX4_volume_0 : decode cX4_volume 0 = .ok (.aload_n 0, 1) := by decide +kernel
theorem dX4_volume_1 : decode cX4_volume 1 = .ok (.getfield 26, 3) := by decide +kernel
theorem dX4_volume_4 : decode cX4_volume 4 = .ok (.aload_n 0, 1) := by decide +kernel
theorem dX4_volume_5 : decode cX4_volume 5 = .ok (.getfield 39, 3) := by decide +kernel
theorem dX4_volume_8 : decode cX4_volume 8 = .ok (.aload_n 0, 1) := by decide +kernel
theorem dX4_volume_9 : decode cX4_volume 9 = .ok (.getfield 9, 3) := by decide +kernel
theorem dX4_volume_12 : decode cX4_volume 12 = .ok (.iconst 2, 1) := by decide +kernel
theorem dX4_volume_13 : decode cX4_volume 13 = .ok (.iaload, 1) := by decide +kernel
theorem dX4_volume_14 : decode cX4_volume 14 = .ok (.invokevirtual 176, 3) := by decide +kernel
theorem dX4_volume_17 : decode cX4_volume 17 = .ok (.istore_n 1, 1) := by decide +kernel
theorem dX4_volume_18 : decode cX4_volume 18 = .ok (.iconst (-1), 1) := by decide +kernel
theorem dX4_volume_19 : decode cX4_volume 19 = .ok (.istore_n 2, 1) := by decide +kernel
theorem dX4_volume_20 : decode cX4_volume 20 = .ok (.iconst 0, 1) := by decide +kernel
theorem dX4_volume_21 : decode cX4_volume 21 = .ok (.istore_n 3, 1) := by decide +kernel
theorem dX4_volume_22 : decode cX4_volume 22 = .ok (.iconst 0, 1) := by decide +kernel
theorem dX4_volume_23 : decode cX4_volume 23 = .ok (.istore 4, 2) := by decide +kernel
theorem dX4_volume_25 : decode cX4_volume 25 = .ok (.iconst 0, 1) := by decide +kernel
theorem dX4_volume_26 : decode cX4_volume 26 = .ok (.istore 5, 2) := by decide +kernel
theorem dX4_volume_28 : decode cX4_volume 28 = .ok (.iload 5, 2) := by decide +kernel
theorem dX4_volume_30 : decode cX4_volume 30 = .ok (.bipush 26, 2) := by decide +kernel
theorem dX4_volume_32 : decode cX4_volume 32 = .ok (.if_icmp .ge 63, 3) := by decide +kernel
theorem dX4_volume_35 : decode cX4_volume 35 = .ok (.aload_n 0, 1) := by decide +kernel
theorem dX4_volume_36 : decode cX4_volume 36 = .ok (.getfield 39, 3) := by decide +kernel
theorem dX4_volume_39 : decode cX4_volume 39 = .ok (.iload 5, 2) := by decide +kernel
theorem dX4_volume_41 : decode cX4_volume 41 = .ok (.iaload, 1) := by decide +kernel
theorem dX4_volume_42 : decode cX4_volume 42 = .ok (.istore 6, 2) := by decide +kernel
theorem dX4_volume_44 : decode cX4_volume 44 = .ok (.iload 6, 2) := by decide +kernel
theorem dX4_volume_46 : decode cX4_volume 46 = .ok (.ifCond .le 36, 3) := by decide +kernel
theorem dX4_volume_49 : decode cX4_volume 49 = .ok (.iload 4, 2) := by decide +kernel
theorem dX4_volume_51 : decode cX4_volume 51 = .ok (.ifCond .le 31, 3) := by decide +kernel
theorem dX4_volume_54 : decode cX4_volume 54 = .ok (.iload_n 1, 1) := by decide +kernel
theorem dX4_volume_55 : decode cX4_volume 55 = .ok (.iconst 2, 1) := by decide +kernel
theorem dX4_volume_56 : decode cX4_volume 56 = .ok (.iload 4, 2) := by decide +kernel
theorem dX4_volume_58 : decode cX4_volume 58 = .ok (.imul, 1) := by decide +kernel
theorem dX4_volume_59 : decode cX4_volume 59 = .ok (.isub, 1) := by decide +kernel
theorem dX4_volume_60 : decode cX4_volume 60 = .ok (.invokestatic 180, 3) := by decide +kernel
theorem dX4_volume_63 : decode cX4_volume 63 = .ok (.istore 7, 2) := by decide +kernel
theorem dX4_volume_65 : decode cX4_volume 65 = .ok (.iload_n 2, 1) := by decide +kernel
theorem dX4_volume_66 : decode cX4_volume 66 = .ok (.iconst (-1), 1) := by decide +kernel
theorem dX4_volume_67 : decode cX4_volume 67 = .ok (.if_icmp .eq 9, 3) := by decide +kernel
theorem dX4_volume_70 : decode cX4_volume 70 = .ok (.iload 7, 2) := by decide +kernel
theorem dX4_volume_72 : decode cX4_volume 72 = .ok (.iload_n 3, 1) := by decide +kernel
theorem dX4_volume_73 : decode cX4_volume 73 = .ok (.if_icmp .ge 9, 3) := by decide +kernel
theorem dX4_volume_76 : decode cX4_volume 76 = .ok (.iload 5, 2) := by decide +kernel
theorem dX4_volume_78 : decode cX4_volume 78 = .ok (.istore_n 2, 1) := by decide +kernel
theorem dX4_volume_79 : decode cX4_volume 79 = .ok (.iload 7, 2) := by decide +kernel
theorem dX4_volume_81 : decode cX4_volume 81 = .ok (.istore_n 3, 1) := by decide +kernel
theorem dX4_volume_82 : decode cX4_volume 82 = .ok (.iload 4, 2) := by decide +kernel
theorem dX4_volume_84 : decode cX4_volume 84 = .ok (.iload 6, 2) := by decide +kernel
theorem dX4_volume_86 : decode cX4_volume 86 = .ok (.iadd, 1) := by decide +kernel
theorem dX4_volume_87 : decode cX4_volume 87 = .ok (.istore 4, 2) := by decide +kernel
theorem dX4_volume_89 : decode cX4_volume 89 = .ok (.iinc 5 1, 3) := by decide +kernel
theorem dX4_volume_92 : decode cX4_volume 92 = .ok (.goto (-64), 3) := by decide +kernel
theorem dX4_volume_95 : decode cX4_volume 95 = .ok (.iload_n 2, 1) := by decide +kernel
theorem dX4_volume_96 : decode cX4_volume 96 = .ok (.ireturn, 1) := by decide +kernel
set_option maxRecDepth 20000 in
theorem ggX4_count_X2_length : GoodIn wsX4_count wsX2_length := goodIn_r _ [8, 9, 29, 30] (by decide +kernel) (by decide +kernel)
set_option maxRecDepth 20000 in
theorem gX4_count_X2_length : GoodIn wsX4_count (wsV RX4 81 RX2 yX2_length wsX2_length) := goodIn_app (goodIn_of _ (by decide +kernel)) ggX4_count_X2_length
theorem dX4_count_0 : decode cX4_count 0 = .ok (.iload_n 1, 1) := by decide +kernel
theorem dX4_count_1 : decode cX4_count 1 = .ok (.tableswitch 60 0 3 #[31, 39, 47, 52], 31) := by decide +kernel
theorem dX4_count_32 : decode cX4_count 32 = .ok (.aload_n 0, 1) := by decide +kernel
theorem dX4_count_33 : decode cX4_count 33 = .ok (.getfield 26, 3) := by decide +kernel
theorem dX4_count_36 : decode cX4_count 36 = .ok (.getfield 185, 3) := by decide +kernel
theorem dX4_count_39 : decode cX4_count 39 = .ok (.ireturn, 1) := by decide +kernel
theorem dX4_count_40 : decode cX4_count 40 = .ok (.aload_n 0, 1) := by decide +kernel
theorem dX4_count_41 : decode cX4_count 41 = .ok (.getfield 26, 3) := by decide +kernel
theorem dX4_count_44 : decode cX4_count 44 = .ok (.getfield 188, 3) := by decide +kernel
theorem dX4_count_47 : decode cX4_count 47 = .ok (.ireturn, 1) := by decide +kernel
theorem dX4_count_48 : decode cX4_count 48 = .ok (.aload_n 0, 1) := by decide +kernel
theorem dX4_count_49 : decode cX4_count 49 = .ok (.getfield 69, 3) := by decide +kernel
theorem dX4_count_52 : decode cX4_count 52 = .ok (.ireturn, 1) := by decide +kernel
theorem dX4_count_53 : decode cX4_count 53 = .ok (.aload_n 0, 1) := by decide +kernel
theorem dX4_count_54 : decode cX4_count 54 = .ok (.getfield 19, 3) := by decide +kernel
theorem dX4_count_57 : decode cX4_count 57 = .ok (.invokevirtual 81, 3) := by decide +kernel
theorem dX4_count_60 : decode cX4_count 60 = .ok (.ireturn, 1) := by decide +kernel
theorem dX4_count_61 : decode cX4_count 61 = .ok (.iconst (-1), 1) := by decide +kernel
theorem dX4_count_62 : decode cX4_count 62 = .ok (.ireturn, 1) := by decide +kernel
theorem dX4_checkEntry_0 : decode cX4_checkEntry 0 = .ok (.iload_n 1, 1) := by decide +kernel
theorem dX4_checkEntry_1 : decode cX4_checkEntry 1 = .ok (.ifCond .lt 14, 3) := by decide +kernel
theorem dX4_checkEntry_4 : decode cX4_checkEntry 4 = .ok (.iload_n 1, 1) := by decide +kernel
theorem dX4_checkEntry_5 : decode cX4_checkEntry 5 = .ok (.aload_n 0, 1) := by decide +kernel
theorem dX4_checkEntry_6 : decode cX4_checkEntry 6 = .ok (.getfield 26, 3) := by decide +kernel
theorem dX4_checkEntry_9 : decode cX4_checkEntry 9 = .ok (.getfield 188, 3) := by decide +kernel
theorem dX4_checkEntry_12 : decode cX4_checkEntry 12 = .ok (.if_icmp .lt 13, 3) := by decide +kernel
theorem dX4_checkEntry_15 : decode cX4_checkEntry 15 = .ok (.new 140, 3) := by decide +kernel
theorem dX4_checkEntry_18 : decode cX4_checkEntry 18 = .ok (.dup, 1) := by decide +kernel
theorem dX4_checkEntry_19 : decode cX4_checkEntry 19 = .ok (.ldc 191, 2) := by decide +kernel
theorem dX4_checkEntry_21 : decode cX4_checkEntry 21 = .ok (.invokespecial 144, 3) := by decide +kernel
theorem dX4_checkEntry_24 : decode cX4_checkEntry 24 = .ok (.athrow, 1) := by decide +kernel
theorem dX4_checkEntry_25 : decode cX4_checkEntry 25 = .ok (.return_, 1) := by decide +kernel
end
section
theorem dX5_init_0 : decode cX5_init 0 = .ok (.aload_n 0, 1) := by decide +kernel
theorem dX5_init_1 : decode cX5_init 1 = .ok (.invokespecial 1, 3) := by decide +kernel
theorem dX5_init_4 : decode cX5_init 4 = .ok (.aload_n 0, 1) := by decide +kernel
theorem dX5_init_5 : decode cX5_init 5 = .ok (.bipush 20, 2) := by decide +kernel
theorem dX5_init_7 : decode cX5_init 7 = .ok (.putfield 7, 3) := by decide +kernel
theorem dX5_init_10 : decode cX5_init 10 = .ok (.aload_n 0, 1) := by decide +kernel
theorem dX5_init_11 : decode cX5_init 11 = .ok (.iconst 2, 1) := by decide +kernel
theorem dX5_init_12 : decode cX5_init 12 = .ok (.putfield 13, 3) := by decide +kernel
theorem dX5_init_15 : decode cX5_init 15 = .ok (.aload_n 0, 1) := by decide +kernel
theorem dX5_init_16 : decode cX5_init 16 = .ok (.iconst 2, 1) := by decide +kernel
theorem dX5_init_17 : decode cX5_init 17 = .ok (.putfield 16, 3) := by decide +kernel
theorem dX5_init_20 : decode cX5_init 20 = .ok (.aload_n 0, 1) := by decide +kernel
theorem dX5_init_21 : decode cX5_init 21 = .ok (.bipush 10, 2) := by decide +kernel
theorem dX5_init_23 : decode cX5_init 23 = .ok (.putfield 19, 3) := by decide +kernel
theorem dX5_init_26 : decode cX5_init 26 = .ok (.aload_n 0, 1) := by decide +kernel
theorem dX5_init_27 : decode cX5_init 27 = .ok (.bipush 20, 2) := by decide +kernel
theorem dX5_init_29 : decode cX5_init 29 = .ok (.putfield 22, 3) := by decide +kernel
theorem dX5_init_32 : decode cX5_init 32 = .ok (.aload_n 0, 1) := by decide +kernel
theorem dX5_init_33 : decode cX5_init 33 = .ok (.bipush 6, 2) := by decide +kernel
theorem dX5_init_35 : decode cX5_init 35 = .ok (.newarray .int, 2) := by decide +kernel
theorem dX5_init_37 : decode cX5_init 37 = .ok (.putfield 25, 3) := by decide +kernel
theorem dX5_init_40 : decode cX5_init 40 = .ok (.aload_n 0, 1) := by decide +kernel
theorem dX5_init_41 : decode cX5_init 41 = .ok (.bipush 60, 2) := by decide +kernel
theorem dX5_init_43 : decode cX5_init 43 = .ok (.newarray .byte, 2) := by decide +kernel
theorem dX5_init_45 : decode cX5_init 45 = .ok (.putfield 29, 3) := by decide +kernel
theorem dX5_init_48 : decode cX5_init 48 = .ok (.aload_n 0, 1) := by decide +kernel
theorem dX5_init_49 : decode cX5_init 49 = .ok (.sipush 1800, 3) := by decide +kernel
theorem dX5_init_52 : decode cX5_init 52 = .ok (.newarray .int, 2) := by decide +kernel
theorem dX5_init_54 : decode cX5_init 54 = .ok (.putfield 33, 3) := by decide +kernel
theorem dX5_init_57 : decode cX5_init 57 = .ok (.aload_n 0, 1) := by decide +kernel
theorem dX5_init_58 : decode cX5_init 58 = .ok (.sipush 1800, 3) := by decide +kernel
theorem dX5_init_61 : decode cX5_init 61 = .ok (.newarray .int, 2) := by decide +kernel
theorem dX5_init_63 : decode cX5_init 63 = .ok (.putfield 36, 3) := by decide +kernel
theorem dX5_init_66 : decode cX5_init 66 = .ok (.aload_n 0, 1) := by decide +kernel
theorem dX5_init_67 : decode cX5_init 67 = .ok (.sipush 900, 3) := by decide +kernel
theorem dX5_init_70 : decode cX5_init 70 = .ok (.newarray .int, 2) := by decide +kernel
theorem dX5_init_72 : decode cX5_init 72 = .ok (.putfield 39, 3) := by decide +kernel
theorem dX5_init_75 : decode cX5_init 75 = .ok (.aload_n 0, 1) := by decide +kernel
theorem dX5_init_76 : decode cX5_init 76 = .ok (.sipush 150, 3) := by decide +kernel
theorem dX5_init_79 : decode cX5_init 79 = .ok (.newarray .int, 2) := by decide +kernel
theorem dX5_init_81 : decode cX5_init 81 = .ok (.putfield 42, 3) := by decide +kernel
theorem dX5_init_84 : decode cX5_init 84 = .ok (.aload_n 0, 1) := by decide +kernel
theorem dX5_init_85 : decode cX5_init 85 = .ok (.sipush 150, 3) := by decide +kernel
theorem dX5_init_88 : decode cX5_init 88 = .ok (.newarray .boolean, 2) := by decide +kernel
theorem dX5_init_90 : decode cX5_init 90 = .ok (.putfield 45, 3) := by decide +kernel
theorem dX5_init_93 : decode cX5_init 93 = .ok (.aload_n 0, 1) := by decide +kernel
theorem dX5_init_94 : decode cX5_init 94 = .ok (.sipush 150, 3) := by decide +kernel
theorem dX5_init_97 : decode cX5_init 97 = .ok (.newarray .boolean, 2) := by decide +kernel
theorem dX5_init_99 : decode cX5_init 99 = .ok (.putfield 49, 3) := by decide +kernel
theorem dX5_init_102 : decode cX5_init 102 = .ok (.aload_n 0, 1) := by decide +kernel
theorem dX5_init_103 : decode cX5_init 103 = .ok (.sipush 150, 3) := by decide +kernel
theorem dX5_init_106 : decode cX5_init 106 = .ok (.newarray .int, 2) := by decide +kernel
theorem dX5_init_108 : decode cX5_init 108 = .ok (.putfield 52, 3) := by decide +kernel
theorem dX5_init_111 : decode cX5_init 111 = .ok (.aload_n 0, 1) := by decide +kernel
theorem dX5_init_112 : decode cX5_init 112 = .ok (.sipush 150, 3) := by decide +kernel
theorem dX5_init_115 : decode cX5_init 115 = .ok (.newarray .boolean, 2) := by decide +kernel
theorem dX5_init_117 : decode cX5_init 117 = .ok (.putfield 55, 3) := by decide +kernel
theorem dX5_init_120 : decode cX5_init 120 = .ok (.aload_n 0, 1) := by decide +kernel
theorem dX5_init_121 : decode cX5_init 121 = .ok (.sipush 900, 3) := by decide +kernel
theorem dX5_init_124 : decode cX5_init 124 = .ok (.newarray .int, 2) := by decide +kernel
theorem dX5_init_126 : decode cX5_init 126 = .ok (.putfield 58, 3) := by decide +kernel
theorem dX5_init_129 : decode cX5_init 129 = .ok (.aload_n 0, 1) := by decide +kernel
theorem dX5_init_130 : decode cX5_init 130 = .ok (.sipush 900, 3) := by decide +kernel
theorem dX5_init_133 : decode cX5_init 133 = .ok (.newarray .int, 2) := by decide +kernel
theorem dX5_init_135 : decode cX5_init 135 = .ok (.putfield 61, 3) := by decide +kernel
theorem dX5_init_138 : decode cX5_init 138 = .ok (.aload_n 0, 1) := by decide +kernel
theorem dX5_init_139 : decode cX5_init 139 = .ok (.sipush 900, 3) := by decide +kernel
theorem dX5_init_142 : decode cX5_init 142 = .ok (.newarray .int, 2) := by decide +kernel
theorem dX5_init_144 : decode cX5_init 144 = .ok (.putfield 64, 3) := by decide +kernel
theorem dX5_init_147 : decode cX5_init 147 = .ok (.aload_n 0, 1) := by decide +kernel
theorem dX5_init_148 : decode cX5_init 148 = .ok (.sipush 900, 3) := by decide +kernel
theorem dX5_init_151 : decode cX5_init 151 = .ok (.newarray .boolean, 2) := by decide +kernel
theorem dX5_init_153 : decode cX5_init 153 = .ok (.putfield 67, 3) := by decide +kernel
theorem dX5_init_156 : decode cX5_init 156 = .ok (.aload_n 0, 1) := by decide +kernel
theorem dX5_init_157 : decode cX5_init 157 = .ok (.sipush 900, 3) := by decide +kernel
theorem dX5_init_160 : decode cX5_init 160 = .ok (.newarray .boolean, 2) := by decide +kernel
theorem dX5_init_162 : decode cX5_init 162 = .ok (.putfield 70, 3) := by decide +kernel
theorem dX5_init_165 : decode cX5_init 165 = .ok (.aload_n 0, 1) := by decide +kernel
theorem dX5_init_166 : decode cX5_init 166 = .ok (.sipush 3604, 3) := by decide +kernel
theorem dX5_init_169 : decode cX5_init 169 = .ok (.newarray .long, 2) := by decide +kernel
theorem dX5_init_171 : decode cX5_init 171 = .ok (.putfield 73, 3) := by decide +kernel
theorem dX5_init_174 : decode cX5_init 174 = .ok (.aload_n 0, 1) := by decide +kernel
theorem dX5_init_175 : decode cX5_init 175 = .ok (.sipush 3604, 3) := by decide +kernel
theorem dX5_init_178 : decode cX5_init 178 = .ok (.newarray .int, 2) := by decide +kernel
theorem dX5_init_180 : decode cX5_init 180 = .ok (.putfield 77, 3) := by decide +kernel
theorem dX5_init_183 : decode cX5_init 183 = .ok (.aload_n 0, 1) := by decide +kernel
theorem dX5_init_184 : decode cX5_init 184 = .ok (.sipush 3604, 3) := by decide +kernel
theorem dX5_init_187 : decode cX5_init 187 = .ok (.newarray .int, 2) := by decide +kernel
theorem dX5_init_189 : decode cX5_init 189 = .ok (.putfield 80, 3) := by decide +kernel
theorem dX5_init_192 : decode cX5_init 192 = .ok (.aload_n 0, 1) := by decide +kernel
theorem dX5_init_193 : decode cX5_init 193 = .ok (.iconst 1, 1) := by decide +kernel
theorem dX5_init_194 : decode cX5_init 194 = .ok (.putfield 83, 3) := by decide +kernel
theorem dX5_init_197 : decode cX5_init 197 = .ok (.aload_n 0, 1) := by decide +kernel
theorem dX5_init_198 : decode cX5_init 198 = .ok (.sipush 900, 3) := by decide +kernel
theorem dX5_init_201 : decode cX5_init 201 = .ok (.newarray .int, 2) := by decide +kernel
theorem dX5_init_203 : decode cX5_init 203 = .ok (.putfield 86, 3) := by decide +kernel
theorem dX5_init_206 : decode cX5_init 206 = .ok (.aload_n 0, 1) := by decide +kernel
theorem dX5_init_207 : decode cX5_init 207 = .ok (.sipush 900, 3) := by decide +kernel
theorem dX5_init_210 : decode cX5_init 210 = .ok (.newarray .int, 2) := by decide +kernel
theorem dX5_init_212 : decode cX5_init 212 = .ok (.putfield 89, 3) := by decide +kernel
theorem dX5_init_215 : decode cX5_init 215 = .ok (.aload_n 0, 1) := by decide +kernel
theorem dX5_init_216 : decode cX5_init 216 = .ok (.sipush 901, 3) := by decide +kernel
theorem dX5_init_219 : decode cX5_init 219 = .ok (.newarray .int, 2) := by decide +kernel
theorem dX5_init_221 : decode cX5_init 221 = .ok (.putfield 92, 3) := by decide +kernel
theorem dX5_init_224 : decode cX5_init 224 = .ok (.aload_n 0, 1) := by decide +kernel
theorem dX5_init_225 : decode cX5_init 225 = .ok (.sipush 900, 3) := by decide +kernel
theorem dX5_init_228 : decode cX5_init 228 = .ok (.newarray .int, 2) := by decide +kernel
theorem dX5_init_230 : decode cX5_init 230 = .ok (.putfield 95, 3) := by decide +kernel
theorem dX5_init_233 : decode cX5_init 233 = .ok (.aload_n 0, 1) := by decide +kernel
theorem dX5_init_234 : decode cX5_init 234 = .ok (.sipush 900, 3) := by decide +kernel
theorem dX5_init_237 : decode cX5_init 237 = .ok (.newarray .int, 2) := by decide +kernel
theorem dX5_init_239 : decode cX5_init 239 = .ok (.putfield 98, 3) := by decide +kernel
theorem dX5_init_242 : decode cX5_init 242 = .ok (.aload_n 0, 1) := by decide +kernel
theorem dX5_init_243 : decode cX5_init 243 = .ok (.sipush 900, 3) := by decide +kernel
theorem dX5_init_246 : decode cX5_init 246 = .ok (.newarray .int, 2) := by decide +kernel
theorem dX5_init_248 : decode cX5_init 248 = .ok (.putfield 101, 3) := by decide +kernel
theorem dX5_init_251 : decode cX5_init 251 = .ok (.aload_n 0, 1) := by decide +kernel
theorem dX5_init_252 : decode cX5_init 252 = .ok (.sipush 901, 3) := by decide +kernel
theorem dX5_init_255 : decode cX5_init 255 = .ok (.newarray .int, 2) := by decide +kernel
theorem dX5_init_257 : decode cX5_init 257 = .ok (.putfield 104, 3) := by decide +kernel
theorem dX5_init_260 : decode cX5_init 260 = .ok (.aload_n 0, 1) := by decide +kernel
theorem dX5_init_261 : decode cX5_init 261 = .ok (.iconst 1, 1) := by decide +kernel
theorem dX5_init_262 : decode cX5_init 262 = .ok (.putfield 107, 3) := by decide +kernel
theorem dX5_init_265 : decode cX5_init 265 = .ok (.aload_n 0, 1) := by decide +kernel
theorem dX5_init_266 : decode cX5_init 266 = .ok (.bipush 26, 2) := by decide +kernel
theorem dX5_init_268 : decode cX5_init 268 = .ok (.newarray .int, 2) := by decide +kernel
theorem dX5_init_270 : decode cX5_init 270 = .ok (.putfield 110, 3) := by decide +kernel
theorem dX5_init_273 : decode cX5_init 273 = .ok (.aload_n 0, 1) := by decide +kernel
theorem dX5_init_274 : decode cX5_init 274 = .ok (.bipush 26, 2) := by decide +kernel
theorem dX5_init_276 : decode cX5_init 276 = .ok (.newarray .boolean, 2) := by decide +kernel
theorem dX5_init_278 : decode cX5_init 278 = .ok (.putfield 113, 3) := by decide +kernel
theorem dX5_init_281 : decode cX5_init 281 = .ok (.return_, 1) := by decide +kernel
theorem dX5_thrown_0 : decode cX5_thrown 0 = .ok (.aload_n 0, 1) := by decide +kernel
theorem dX5_thrown_1 : decode cX5_thrown 1 = .ok (.getfield 116, 3) := by decide +kernel
theorem dX5_thrown_4 : decode cX5_thrown 4 = .ok (.ireturn, 1) := by decide +kernel
theorem dX5_bad_0 : decode cX5_bad 0 = .ok (.iload_n 1, 1) := by decide +kernel
theorem dX5_bad_1 : decode cX5_bad 1 = .ok (.ifCond .eq 8, 3) := by decide +kernel
theorem dX5_bad_4 : decode cX5_bad 4 = .ok (.aload_n 0, 1) := by decide +kernel
theorem dX5_bad_5 : decode cX5_bad 5 = .ok (.iload_n 2, 1) := by decide +kernel
theorem dX5_bad_6 : decode cX5_bad 6 = .ok (.putfield 116, 3) := by decide +kernel
theorem dX5_bad_9 : decode cX5_bad 9 = .ok (.iload_n 1, 1) := by decide +kernel
theorem dX5_bad_10 : decode cX5_bad 10 = .ok (.ireturn, 1) := by decide +kernel
set_option maxRecDepth 20000 in
theorem ggX5_set_X5_bad : GoodIn wsX5_set wsX5_bad := goodIn_r _ [11, 1, 12, 13, 14, 15, 16, 17, 18, 19, 20, 21, 22, 23, 24, 25, 26, 27, 28, 29, 30, 31, 32, 33, 34, 35, 36, 37, 38, 39, 40, 41, 42, 43, 44, 45, 46, 47, 48, 49, 50, 51, 52, 53, 54, 55, 56, 57] (by decide +kernel) (by decide +kernel)
set_option maxRecDepth 20000 in
theorem gX5_set_X5_bad : GoodIn wsX5_set (wsV RX5 119 RX5 yX5_bad wsX5_bad) := goodIn_app (goodIn_of _ (by decide +kernel)) ggX5_set_X5_bad
theorem dX5_set_0 : decode cX5_set 0 = .ok (.aload_n 0, 1) := by decide +kernel
theorem dX5_set_1 : decode cX5_set 1 = .ok (.iconst 0, 1) := by decide +kernel
theorem dX5_set_2 : decode cX5_set 2 = .ok (.putfield 116, 3) := by decide +kernel
theorem dX5_set_5 : decode cX5_set 5 = .ok (.iload_n 1, 1) := by decide +kernel
theorem dX5_set_6 : decode cX5_set 6 = .ok (.ifCond .ne 7, 3) := by decide +kernel
theorem dX5_set_9 : decode cX5_set 9 = .ok (.iconst 4, 1) := by decide +kernel
theorem dX5_set_10 : decode cX5_set 10 = .ok (.goto 13, 3) := by decide +kernel
theorem dX5_set_13 : decode cX5_set 13 = .ok (.iload_n 1, 1) := by decide +kernel
theorem dX5_set_14 : decode cX5_set 14 = .ok (.iconst 1, 1) := by decide +kernel
theorem dX5_set_15 : decode cX5_set 15 = .ok (.if_icmp .ne 7, 3) := by decide +kernel
theorem dX5_set_18 : decode cX5_set 18 = .ok (.iconst 1, 1) := by decide +kernel
theorem dX5_set_19 : decode cX5_set 19 = .ok (.goto 4, 3) := by decide +kernel
theorem dX5_set_22 : decode cX5_set 22 = .ok (.iconst 0, 1) := by decide +kernel
theorem dX5_set_23 : decode cX5_set 23 = .ok (.istore_n 3, 1) := by decide +kernel
theorem dX5_set_24 : decode cX5_set 24 = .ok (.iload_n 1, 1) := by decide +kernel
theorem dX5_set_25 : decode cX5_set 25 = .ok (.ifCond .ne 8, 3) := by decide +kernel
theorem dX5_set_28 : decode cX5_set 28 = .ok (.bipush 60, 2) := by decide +kernel
theorem dX5_set_30 : decode cX5_set 30 = .ok (.goto 24, 3) := by decide +kernel
theorem dX5_set_33 : decode cX5_set 33 = .ok (.iload_n 1, 1) := by decide +kernel
theorem dX5_set_34 : decode cX5_set 34 = .ok (.iconst 1, 1) := by decide +kernel
theorem dX5_set_35 : decode cX5_set 35 = .ok (.if_icmp .ne 7, 3) := by decide +kernel
theorem dX5_set_38 : decode cX5_set 38 = .ok (.iconst 4, 1) := by decide +kernel
theorem dX5_set_39 : decode cX5_set 39 = .ok (.goto 15, 3) := by decide +kernel
theorem dX5_set_42 : decode cX5_set 42 = .ok (.iload_n 1, 1) := by decide +kernel
theorem dX5_set_43 : decode cX5_set 43 = .ok (.iconst 2, 1) := by decide +kernel
theorem dX5_set_44 : decode cX5_set 44 = .ok (.if_icmp .ne 7, 3) := by decide +kernel
theorem dX5_set_47 : decode cX5_set 47 = .ok (.iconst 3, 1) := by decide +kernel
theorem dX5_set_48 : decode cX5_set 48 = .ok (.goto 6, 3) := by decide +kernel
theorem dX5_set_51 : decode cX5_set 51 = .ok (.sipush 1000, 3) := by decide +kernel
theorem dX5_set_54 : decode cX5_set 54 = .ok (.istore 4, 2) := by decide +kernel
theorem dX5_set_56 : decode cX5_set 56 = .ok (.aload_n 0, 1) := by decide +kernel
theorem dX5_set_57 : decode cX5_set 57 = .ok (.iload_n 1, 1) := by decide +kernel
theorem dX5_set_58 : decode cX5_set 58 = .ok (.ifCond .lt 19, 3) := by decide +kernel
theorem dX5_set_61 : decode cX5_set 61 = .ok (.iload_n 1, 1) := by decide +kernel
theorem dX5_set_62 : decode cX5_set 62 = .ok (.iconst 4, 1) := by decide +kernel
theorem dX5_set_63 : decode cX5_set 63 = .ok (.if_icmp .gt 14, 3) := by decide +kernel
theorem dX5_set_66 : decode cX5_set 66 = .ok (.iload_n 2, 1) := by decide +kernel
theorem dX5_set_67 : decode cX5_set 67 = .ok (.iload_n 3, 1) := by decide +kernel
theorem dX5_set_68 : decode cX5_set 68 = .ok (.if_icmp .lt 9, 3) := by decide +kernel
theorem dX5_set_71 : decode cX5_set 71 = .ok (.iload_n 2, 1) := by decide +kernel
theorem dX5_set_72 : decode cX5_set 72 = .ok (.iload 4, 2) := by decide +kernel
theorem dX5_set_74 : decode cX5_set 74 = .ok (.if_icmp .le 7, 3) := by decide +kernel
theorem dX5_set_77 : decode cX5_set 77 = .ok (.iconst 1, 1) := by decide +kernel
theorem dX5_set_78 : decode cX5_set 78 = .ok (.goto 4, 3) := by decide +kernel
theorem dX5_set_81 : decode cX5_set 81 = .ok (.iconst 0, 1) := by decide +kernel
theorem dX5_set_82 : decode cX5_set 82 = .ok (.iconst 1, 1) := by decide +kernel
theorem dX5_set_83 : decode cX5_set 83 = .ok (.invokevirtual 119, 3) := by decide +kernel
theorem dX5_set_86 : decode cX5_set 86 = .ok (.ifCond .eq 5, 3) := by decide +kernel
theorem dX5_set_89 : decode cX5_set 89 = .ok (.iconst 0, 1) := by decide +kernel
theorem dX5_set_90 : decode cX5_set 90 = .ok (.ireturn, 1) := by decide +kernel
theorem dX5_set_91 : decode cX5_set 91 = .ok (.iload_n 1, 1) := by decide +kernel
theorem dX5_set_92 : decode cX5_set 92 = .ok (.ifCond .ne 10, 3) := by decide +kernel
theorem dX5_set_95 : decode cX5_set 95 = .ok (.aload_n 0, 1) := by decide +kernel
theorem dX5_set_96 : decode cX5_set 96 = .ok (.getfield 7, 3) := by decide +kernel
theorem dX5_set_99 : decode cX5_set 99 = .ok (.goto 43, 3) := by decide +kernel
theorem dX5_set_102 : decode cX5_set 102 = .ok (.iload_n 1, 1) := by decide +kernel
theorem dX5_set_103 : decode cX5_set 103 = .ok (.iconst 1, 1) := by decide +kernel
theorem dX5_set_104 : decode cX5_set 104 = .ok (.if_icmp .ne 10, 3) := by decide +kernel
theorem dX5_set_107 : decode cX5_set 107 = .ok (.aload_n 0, 1) := by decide +kernel
theorem dX5_set_108 : decode cX5_set 108 = .ok (.getfield 13, 3) := by decide +kernel
theorem dX5_set_111 : decode cX5_set 111 = .ok (.goto 31, 3) := by decide +kernel
theorem dX5_set_114 : decode cX5_set 114 = .ok (.iload_n 1, 1) := by decide +kernel
theorem dX5_set_115 : decode cX5_set 115 = .ok (.iconst 2, 1) := by decide +kernel
theorem dX5_set_116 : decode cX5_set 116 = .ok (.if_icmp .ne 10, 3) := by decide +kernel
theorem dX5_set_119 : decode cX5_set 119 = .ok (.aload_n 0, 1) := by decide +kernel
theorem dX5_set_120 : decode cX5_set 120 = .ok (.getfield 16, 3) := by decide +kernel
theorem dX5_set_123 : decode cX5_set 123 = .ok (.goto 19, 3) := by decide +kernel
theorem dX5_set_126 : decode cX5_set 126 = .ok (.iload_n 1, 1) := by decide +kernel
theorem dX5_set_127 : decode cX5_set 127 = .ok (.iconst 3, 1) := by decide +kernel
theorem dX5_set_128 : decode cX5_set 128 = .ok (.if_icmp .ne 10, 3) := by decide +kernel
theorem dX5_set_131 : decode cX5_set 131 = .ok (.aload_n 0, 1) := by decide +kernel
theorem dX5_set_132 : decode cX5_set 132 = .ok (.getfield 19, 3) := by decide +kernel
theorem dX5_set_135 : decode cX5_set 135 = .ok (.goto 7, 3) := by decide +kernel
theorem dX5_set_138 : decode cX5_set 138 = .ok (.aload_n 0, 1) := by decide +kernel
theorem dX5_set_139 : decode cX5_set 139 = .ok (.getfield 22, 3) := by decide +kernel
theorem dX5_set_142 : decode cX5_set 142 = .ok (.istore 5, 2) := by decide +kernel
theorem dX5_set_144 : decode cX5_set 144 = .ok (.iload_n 1, 1) := by decide +kernel
theorem dX5_set_145 : decode cX5_set 145 = .ok (.ifCond .ne 11, 3) := by decide +kernel
theorem dX5_set_148 : decode cX5_set 148 = .ok (.aload_n 0, 1) := by decide +kernel
theorem dX5_set_149 : decode cX5_set 149 = .ok (.iload_n 2, 1) := by decide +kernel
theorem dX5_set_150 : decode cX5_set 150 = .ok (.putfield 7, 3) := by decide +kernel
theorem dX5_set_153 : decode cX5_set 153 = .ok (.goto 47, 3) := by decide +kernel
theorem dX5_set_156 : decode cX5_set 156 = .ok (.iload_n 1, 1) := by decide +kernel
theorem dX5_set_157 : decode cX5_set 157 = .ok (.iconst 1, 1) := by decide +kernel
theorem dX5_set_158 : decode cX5_set 158 = .ok (.if_icmp .ne 11, 3) := by decide +kernel
theorem dX5_set_161 : decode cX5_set 161 = .ok (.aload_n 0, 1) := by decide +kernel
theorem dX5_set_162 : decode cX5_set 162 = .ok (.iload_n 2, 1) := by decide +kernel
theorem dX5_set_163 : decode cX5_set 163 = .ok (.putfield 13, 3) := by decide +kernel
theorem dX5_set_166 : decode cX5_set 166 = .ok (.goto 34, 3) := by decide +kernel
theorem dX5_set_169 : decode cX5_set 169 = .ok (.iload_n 1, 1) := by decide +kernel
theorem dX5_set_170 : decode cX5_set 170 = .ok (.iconst 2, 1) := by decide +kernel
theorem dX5_set_171 : decode cX5_set 171 = .ok (.if_icmp .ne 11, 3) := by decide +kernel
theorem dX5_set_174 : decode cX5_set 174 = .ok (.aload_n 0, 1) := by decide +kernel
theorem dX5_set_175 : decode cX5_set 175 = .ok (.iload_n 2, 1) := by decide +kernel
theorem dX5_set_176 : decode cX5_set 176 = .ok (.putfield 16, 3) := by decide +kernel
theorem dX5_set_179 : decode cX5_set 179 = .ok (.goto 21, 3) := by decide +kernel
theorem dX5_set_182 : decode cX5_set 182 = .ok (.iload_n 1, 1) := by decide +kernel
theorem dX5_set_183 : decode cX5_set 183 = .ok (.iconst 3, 1) := by decide +kernel
theorem dX5_set_184 : decode cX5_set 184 = .ok (.if_icmp .ne 11, 3) := by decide +kernel
theorem dX5_set_187 : decode cX5_set 187 = .ok (.aload_n 0, 1) := by decide +kernel
theorem dX5_set_188 : decode cX5_set 188 = .ok (.iload_n 2, 1) := by decide +kernel
theorem dX5_set_189 : decode cX5_set 189 = .ok (.putfield 19, 3) := by decide +kernel
theorem dX5_set_192 : decode cX5_set 192 = .ok (.goto 8, 3) := by decide +kernel
theorem dX5_set_195 : decode cX5_set 195 = .ok (.aload_n 0, 1) := by decide +kernel
theorem dX5_set_196 : decode cX5_set 196 = .ok (.iload_n 2, 1) := by decide +kernel
theorem dX5_set_197 : decode cX5_set 197 = .ok (.putfield 22, 3) := by decide +kernel
theorem dX5_set_200 : decode cX5_set 200 = .ok (.iload 5, 2) := by decide +kernel
theorem dX5_set_202 : decode cX5_set 202 = .ok (.ireturn, 1) := by decide +kernel
set_option maxRecDepth 20000 in
theorem ggX5_push_X5_bad : GoodIn wsX5_push wsX5_bad := goodIn_r _ [8, 1, 9, 10, 11, 12, 13, 14, 15, 16, 17, 18, 19, 20, 21, 22, 23, 24, 25, 26, 27, 28, 29, 30, 31, 32, 33, 34, 35, 36, 37, 38, 39, 40, 41, 42, 43, 44, 45, 46, 47, 48, 49, 50, 51, 52, 53, 54] (by decide +kernel) (by decide +kernel)
set_option maxRecDepth 20000 in
theorem gX5_push_X5_bad : GoodIn wsX5_push (wsV RX5 119 RX5 yX5_bad wsX5_bad) := goodIn_app (goodIn_of _ (by decide +kernel)) ggX5_push_X5_bad
theorem dX5_push_0 : decode cX5_push 0 = .ok (.aload_n 0, 1) := by decide +kernel
theorem dX5_push_1 : decode cX5_push 1 = .ok (.iconst 0, 1) := by decide +kernel
theorem dX5_push_2 : decode cX5_push 2 = .ok (.putfield 116, 3) := by decide +kernel
theorem dX5_push_5 : decode cX5_push 5 = .ok (.aload_n 0, 1) := by decide +kernel
theorem dX5_push_6 : decode cX5_push 6 = .ok (.iload_n 1, 1) := by decide +kernel
theorem dX5_push_7 : decode cX5_push 7 = .ok (.iconst 1, 1) := by decide +kernel
theorem dX5_push_8 : decode cX5_push 8 = .ok (.if_icmp .lt 9, 3) := by decide +kernel
theorem dX5_push_11 : decode cX5_push 11 = .ok (.iload_n 1, 1) := by decide +kernel
theorem dX5_push_12 : decode cX5_push 12 = .ok (.bipush 20, 2) := by decide +kernel
theorem dX5_push_14 : decode cX5_push 14 = .ok (.if_icmp .le 7, 3) := by decide +kernel
theorem dX5_push_17 : decode cX5_push 17 = .ok (.iconst 1, 1) := by decide +kernel
theorem dX5_push_18 : decode cX5_push 18 = .ok (.goto 4, 3) := by decide +kernel
theorem dX5_push_21 : decode cX5_push 21 = .ok (.iconst 0, 1) := by decide +kernel
theorem dX5_push_22 : decode cX5_push 22 = .ok (.iconst 1, 1) := by decide +kernel
theorem dX5_push_23 : decode cX5_push 23 = .ok (.invokevirtual 119, 3) := by decide +kernel
theorem dX5_push_26 : decode cX5_push 26 = .ok (.ifCond .eq 5, 3) := by decide +kernel
theorem dX5_push_29 : decode cX5_push 29 = .ok (.iconst 0, 1) := by decide +kernel
theorem dX5_push_30 : decode cX5_push 30 = .ok (.ireturn, 1) := by decide +kernel
theorem dX5_push_31 : decode cX5_push 31 = .ok (.aload_n 0, 1) := by decide +kernel
theorem dX5_push_32 : decode cX5_push 32 = .ok (.getfield 123, 3) := by decide +kernel
theorem dX5_push_35 : decode cX5_push 35 = .ok (.bipush 6, 2) := by decide +kernel
theorem dX5_push_37 : decode cX5_push 37 = .ok (.if_icmp .ne 5, 3) := by decide +kernel
theorem dX5_push_40 : decode cX5_push 40 = .ok (.iconst (-1), 1) := by decide +kernel
theorem dX5_push_41 : decode cX5_push 41 = .ok (.ireturn, 1) := by decide +kernel
theorem dX5_push_42 : decode cX5_push 42 = .ok (.aload_n 0, 1) := by decide +kernel
theorem dX5_push_43 : decode cX5_push 43 = .ok (.getfield 25, 3) := by decide +kernel
theorem dX5_push_46 : decode cX5_push 46 = .ok (.aload_n 0, 1) := by decide +kernel
theorem dX5_push_47 : decode cX5_push 47 = .ok (.getfield 123, 3) := by decide +kernel
theorem dX5_push_50 : decode cX5_push 50 = .ok (.iload_n 1, 1) := by decide +kernel
theorem dX5_push_51 : decode cX5_push 51 = .ok (.iastore, 1) := by decide +kernel
theorem dX5_push_52 : decode cX5_push 52 = .ok (.aload_n 0, 1) := by decide +kernel
theorem dX5_push_53 : decode cX5_push 53 = .ok (.dup, 1) := by decide +kernel
theorem dX5_push_54 : decode cX5_push 54 = .ok (.getfield 123, 3) := by decide +kernel
theorem dX5_push_57 : decode cX5_push 57 = .ok (.iconst 1, 1) := by decide +kernel
theorem dX5_push_58 : decode cX5_push 58 = .ok (.iadd, 1) := by decide +kernel
theorem dX5_push_59 : decode cX5_push 59 = .ok (.putfield 123, 3) := by decide +kernel
theorem dX5_push_62 : decode cX5_push 62 = .ok (.aload_n 0, 1) := by decide +kernel
theorem dX5_push_63 : decode cX5_push 63 = .ok (.getfield 123, 3) := by decide +kernel
theorem dX5_push_66 : decode cX5_push 66 = .ok (.ireturn, 1) := by decide +kernel
theorem dX5_feed_0 : decode cX5_feed 0 = .ok (.aload_n 0, 1) := by decide +kernel
theorem dX5_feed_1 : decode cX5_feed 1 = .ok (.iconst 0, 1) := by decide +kernel
theorem dX5_feed_2 : decode cX5_feed 2 = .ok (.putfield 116, 3) := by decide +kernel
theorem dX5_feed_5 : decode cX5_feed 5 = .ok (.aload_n 0, 1) := by decide +kernel
theorem dX5_feed_6 : decode cX5_feed 6 = .ok (.getfield 126, 3) := by decide +kernel
theorem dX5_feed_9 : decode cX5_feed 9 = .ok (.bipush 20, 2) := by decide +kernel
theorem dX5_feed_11 : decode cX5_feed 11 = .ok (.iadd, 1) := by decide +kernel
theorem dX5_feed_12 : decode cX5_feed 12 = .ok (.bipush 60, 2) := by decide +kernel
theorem dX5_feed_14 : decode cX5_feed 14 = .ok (.if_icmp .le 5, 3) := by decide +kernel
theorem dX5_feed_17 : decode cX5_feed 17 = .ok (.iconst (-1), 1) := by decide +kernel
theorem dX5_feed_18 : decode cX5_feed 18 = .ok (.ireturn, 1) := by decide +kernel
theorem dX5_feed_19 : decode cX5_feed 19 = .ok (.iconst 0, 1) := by decide +kernel
theorem dX5_feed_20 : decode cX5_feed 20 = .ok (.istore 6, 2) := by decide +kernel
theorem dX5_feed_22 : decode cX5_feed 22 = .ok (.iload 6, 2) := by decide +kernel
theorem dX5_feed_24 : decode cX5_feed 24 = .ok (.iconst 5, 1) := by decide +kernel
theorem dX5_feed_25 : decode cX5_feed 25 = .ok (.if_icmp .ge 93, 3) := by decide +kernel
theorem dX5_feed_28 : decode cX5_feed 28 = .ok (.iload 6, 2) := by decide +kernel
theorem dX5_feed_30 : decode cX5_feed 30 = .ok (.ifCond .ne 7, 3) := by decide +kernel
theorem dX5_feed_33 : decode cX5_feed 33 = .ok (.iload_n 1, 1) := by decide +kernel
theorem dX5_feed_34 : decode cX5_feed 34 = .ok (.goto 36, 3) := by decide +kernel
theorem dX5_feed_37 : decode cX5_feed 37 = .ok (.iload 6, 2) := by decide +kernel
theorem dX5_feed_39 : decode cX5_feed 39 = .ok (.iconst 1, 1) := by decide +kernel
theorem dX5_feed_40 : decode cX5_feed 40 = .ok (.if_icmp .ne 7, 3) := by decide +kernel
theorem dX5_feed_43 : decode cX5_feed 43 = .ok (.iload_n 2, 1) := by decide +kernel
theorem dX5_feed_44 : decode cX5_feed 44 = .ok (.goto 26, 3) := by decide +kernel
theorem dX5_feed_47 : decode cX5_feed 47 = .ok (.iload 6, 2) := by decide +kernel
theorem dX5_feed_49 : decode cX5_feed 49 = .ok (.iconst 2, 1) := by decide +kernel
theorem dX5_feed_50 : decode cX5_feed 50 = .ok (.if_icmp .ne 7, 3) := by decide +kernel
theorem dX5_feed_53 : decode cX5_feed 53 = .ok (.iload_n 3, 1) := by decide +kernel
theorem dX5_feed_54 : decode cX5_feed 54 = .ok (.goto 16, 3) := by decide +kernel
theorem dX5_feed_57 : decode cX5_feed 57 = .ok (.iload 6, 2) := by decide +kernel
theorem dX5_feed_59 : decode cX5_feed 59 = .ok (.iconst 3, 1) := by decide +kernel
theorem dX5_feed_60 : decode cX5_feed 60 = .ok (.if_icmp .ne 8, 3) := by decide +kernel
theorem dX5_feed_63 : decode cX5_feed 63 = .ok (.iload 4, 2) := by decide +kernel
theorem dX5_feed_65 : decode cX5_feed 65 = .ok (.goto 5, 3) := by decide +kernel
theorem dX5_feed_68 : decode cX5_feed 68 = .ok (.iload 5, 2) := by decide +kernel
theorem dX5_feed_70 : decode cX5_feed 70 = .ok (.istore 7, 2) := by decide +kernel
theorem dX5_feed_72 : decode cX5_feed 72 = .ok (.bipush 24, 2) := by decide +kernel
theorem dX5_feed_74 : decode cX5_feed 74 = .ok (.istore 8, 2) := by decide +kernel
theorem dX5_feed_76 : decode cX5_feed 76 = .ok (.iload 8, 2) := by decide +kernel
theorem dX5_feed_78 : decode cX5_feed 78 = .ok (.ifCond .lt 34, 3) := by decide +kernel
theorem dX5_feed_81 : decode cX5_feed 81 = .ok (.aload_n 0, 1) := by decide +kernel
theorem dX5_feed_82 : decode cX5_feed 82 = .ok (.getfield 29, 3) := by decide +kernel
theorem dX5_feed_85 : decode cX5_feed 85 = .ok (.aload_n 0, 1) := by decide +kernel
theorem dX5_feed_86 : decode cX5_feed 86 = .ok (.getfield 126, 3) := by decide +kernel
theorem dX5_feed_89 : decode cX5_feed 89 = .ok (.iload 7, 2) := by decide +kernel
theorem dX5_feed_91 : decode cX5_feed 91 = .ok (.iload 8, 2) := by decide +kernel
theorem dX5_feed_93 : decode cX5_feed 93 = .ok (.ishr, 1) := by decide +kernel
theorem dX5_feed_94 : decode cX5_feed 94 = .ok (.i2b, 1) := by decide +kernel
theorem dX5_feed_95 : decode cX5_feed 95 = .ok (.bastore, 1) := by decide +kernel
theorem dX5_feed_96 : decode cX5_feed 96 = .ok (.aload_n 0, 1) := by decide +kernel
theorem dX5_feed_97 : decode cX5_feed 97 = .ok (.dup, 1) := by decide +kernel
theorem dX5_feed_98 : decode cX5_feed 98 = .ok (.getfield 126, 3) := by decide +kernel
theorem dX5_feed_101 : decode cX5_feed 101 = .ok (.iconst 1, 1) := by decide +kernel
theorem dX5_feed_102 : decode cX5_feed 102 = .ok (.iadd, 1) := by decide +kernel
theorem dX5_feed_103 : decode cX5_feed 103 = .ok (.putfield 126, 3) := by decide +kernel
theorem dX5_feed_106 : decode cX5_feed 106 = .ok (.iinc 8 (-8), 3) := by decide +kernel
theorem dX5_feed_109 : decode cX5_feed 109 = .ok (.goto (-33), 3) := by decide +kernel
theorem dX5_feed_112 : decode cX5_feed 112 = .ok (.iinc 6 1, 3) := by decide +kernel
theorem dX5_feed_115 : decode cX5_feed 115 = .ok (.goto (-93), 3) := by decide +kernel
theorem dX5_feed_118 : decode cX5_feed 118 = .ok (.aload_n 0, 1) := by decide +kernel
theorem dX5_feed_119 : decode cX5_feed 119 = .ok (.getfield 126, 3) := by decide +kernel
theorem dX5_feed_122 : decode cX5_feed 122 = .ok (.ireturn, 1) := by decide +kernel
theorem dX5_isHead_0 : decode cX5_isHead 0 = .ok (.iload_n 2, 1) := by decide +kernel
theorem dX5_isHead_1 : decode cX5_isHead 1 = .ok (.iconst 1, 1) := by decide +kernel
theorem dX5_isHead_2 : decode cX5_isHead 2 = .ok (.if_icmp .lt 13, 3) := by decide +kernel
theorem dX5_isHead_5 : decode cX5_isHead 5 = .ok (.iload_n 2, 1) := by decide +kernel
theorem dX5_isHead_6 : decode cX5_isHead 6 = .ok (.bipush 12, 2) := by decide +kernel
theorem dX5_isHead_8 : decode cX5_isHead 8 = .ok (.if_icmp .gt 7, 3) := by decide +kernel
theorem dX5_isHead_11 : decode cX5_isHead 11 = .ok (.iconst 1, 1) := by decide +kernel
theorem dX5_isHead_12 : decode cX5_isHead 12 = .ok (.goto 4, 3) := by decide +kernel
theorem dX5_isHead_15 : decode cX5_isHead 15 = .ok (.iconst 0, 1) := by decide +kernel
theorem dX5_isHead_16 : decode cX5_isHead 16 = .ok (.istore_n 3, 1) := by decide +kernel
theorem dX5_isHead_17 : decode cX5_isHead 17 = .ok (.iconst 0, 1) := by decide +kernel
theorem dX5_isHead_18 : decode cX5_isHead 18 = .ok (.istore 4, 2) := by decide +kernel
theorem dX5_isHead_20 : decode cX5_isHead 20 = .ok (.iload 4, 2) := by decide +kernel
theorem dX5_isHead_22 : decode cX5_isHead 22 = .ok (.iload_n 2, 1) := by decide +kernel
theorem dX5_isHead_23 : decode cX5_isHead 23 = .ok (.if_icmp .ge 47, 3) := by decide +kernel
theorem dX5_isHead_26 : decode cX5_isHead 26 = .ok (.iload_n 3, 1) := by decide +kernel
theorem dX5_isHead_27 : decode cX5_isHead 27 = .ok (.ifCond .eq 43, 3) := by decide +kernel
theorem dX5_isHead_30 : decode cX5_isHead 30 = .ok (.aload_n 0, 1) := by decide +kernel
theorem dX5_isHead_31 : decode cX5_isHead 31 = .ok (.getfield 29, 3) := by decide +kernel
theorem dX5_isHead_34 : decode cX5_isHead 34 = .ok (.iload_n 1, 1) := by decide +kernel
theorem dX5_isHead_35 : decode cX5_isHead 35 = .ok (.iload 4, 2) := by decide +kernel
theorem dX5_isHead_37 : decode cX5_isHead 37 = .ok (.iadd, 1) := by decide +kernel
theorem dX5_isHead_38 : decode cX5_isHead 38 = .ok (.baload, 1) := by decide +kernel
theorem dX5_isHead_39 : decode cX5_isHead 39 = .ok (.bipush 97, 2) := by decide +kernel
theorem dX5_isHead_41 : decode cX5_isHead 41 = .ok (.if_icmp .lt 21, 3) := by decide +kernel
theorem dX5_isHead_44 : decode cX5_isHead 44 = .ok (.aload_n 0, 1) := by decide +kernel
theorem dX5_isHead_45 : decode cX5_isHead 45 = .ok (.getfield 29, 3) := by decide +kernel
theorem dX5_isHead_48 : decode cX5_isHead 48 = .ok (.iload_n 1, 1) := by decide +kernel
theorem dX5_isHead_49 : decode cX5_isHead 49 = .ok (.iload 4, 2) := by decide +kernel
theorem dX5_isHead_51 : decode cX5_isHead 51 = .ok (.iadd, 1) := by decide +kernel
theorem dX5_isHead_52 : decode cX5_isHead 52 = .ok (.baload, 1) := by decide +kernel
theorem dX5_isHead_53 : decode cX5_isHead 53 = .ok (.bipush 122, 2) := by decide +kernel
theorem dX5_isHead_55 : decode cX5_isHead 55 = .ok (.if_icmp .gt 7, 3) := by decide +kernel
theorem dX5_isHead_58 : decode cX5_isHead 58 = .ok (.iconst 1, 1) := by decide +kernel
theorem dX5_isHead_59 : decode cX5_isHead 59 = .ok (.goto 4, 3) := by decide +kernel
theorem dX5_isHead_62 : decode cX5_isHead 62 = .ok (.iconst 0, 1) := by decide +kernel
theorem dX5_isHead_63 : decode cX5_isHead 63 = .ok (.istore_n 3, 1) := by decide +kernel
theorem dX5_isHead_64 : decode cX5_isHead 64 = .ok (.iinc 4 1, 3) := by decide +kernel
theorem dX5_isHead_67 : decode cX5_isHead 67 = .ok (.goto (-47), 3) := by decide +kernel
theorem dX5_isHead_70 : decode cX5_isHead 70 = .ok (.iload_n 3, 1) := by decide +kernel
theorem dX5_isHead_71 : decode cX5_isHead 71 = .ok (.ireturn, 1) := by decide +kernel
theorem dX5_head_0 : decode cX5_head 0 = .ok (.iconst 0, 1) := by decide +kernel
theorem dX5_head_1 : decode cX5_head 1 = .ok (.istore 5, 2) := by decide +kernel
theorem dX5_head_3 : decode cX5_head 3 = .ok (.iload 5, 2) := by decide +kernel
theorem dX5_head_5 : decode cX5_head 5 = .ok (.bipush 12, 2) := by decide +kernel
theorem dX5_head_7 : decode cX5_head 7 = .ok (.if_icmp .ge 35, 3) := by decide +kernel
theorem dX5_head_10 : decode cX5_head 10 = .ok (.aload_n 1, 1) := by decide +kernel
theorem dX5_head_11 : decode cX5_head 11 = .ok (.iload_n 2, 1) := by decide +kernel
theorem dX5_head_12 : decode cX5_head 12 = .ok (.iload 5, 2) := by decide +kernel
theorem dX5_head_14 : decode cX5_head 14 = .ok (.iadd, 1) := by decide +kernel
theorem dX5_head_15 : decode cX5_head 15 = .ok (.iload 5, 2) := by decide +kernel
theorem dX5_head_17 : decode cX5_head 17 = .ok (.iload 4, 2) := by decide +kernel
theorem dX5_head_19 : decode cX5_head 19 = .ok (.if_icmp .ge 15, 3) := by decide +kernel
theorem dX5_head_22 : decode cX5_head 22 = .ok (.aload_n 0, 1) := by decide +kernel
theorem dX5_head_23 : decode cX5_head 23 = .ok (.getfield 29, 3) := by decide +kernel
theorem dX5_head_26 : decode cX5_head 26 = .ok (.iload_n 3, 1) := by decide +kernel
theorem dX5_head_27 : decode cX5_head 27 = .ok (.iload 5, 2) := by decide +kernel
theorem dX5_head_29 : decode cX5_head 29 = .ok (.iadd, 1) := by decide +kernel
theorem dX5_head_30 : decode cX5_head 30 = .ok (.baload, 1) := by decide +kernel
theorem dX5_head_31 : decode cX5_head 31 = .ok (.goto 4, 3) := by decide +kernel
theorem dX5_head_34 : decode cX5_head 34 = .ok (.iconst 0, 1) := by decide +kernel
theorem dX5_head_35 : decode cX5_head 35 = .ok (.iastore, 1) := by decide +kernel
theorem dX5_head_36 : decode cX5_head 36 = .ok (.iinc 5 1, 3) := by decide +kernel
theorem dX5_head_39 : decode cX5_head 39 = .ok (.goto (-36), 3) := by decide +kernel
theorem dX5_head_42 : decode cX5_head 42 = .ok (.return_, 1) := by decide +kernel
set_option maxRecDepth 20000 in
theorem ggX5_entry_X5_bad : GoodIn wsX5_entry wsX5_bad := goodIn_r _ [13, 1, 29, 30, 31, 32, 33, 34, 35, 36, 37, 38, 39, 40, 41, 42, 43, 44, 45, 46, 47, 48, 49, 50, 51, 52, 53, 54, 55, 56, 57, 58, 59, 60, 61, 62, 63, 64, 65, 66, 67, 68, 69, 70, 71, 72, 73, 74] (by decide +kernel) (by decide +kernel)
set_option maxRecDepth 20000 in
theorem gX5_entry_X5_bad : GoodIn wsX5_entry (wsV RX5 119 RX5 yX5_bad wsX5_bad) := goodIn_app (goodIn_of _ (by decide +kernel)) ggX5_entry_X5_bad
set_option maxRecDepth 20000 in
theorem ggX5_entry_X5_isHead : GoodIn wsX5_entry wsX5_isHead := goodIn_r _ [17, 18, 29, 30, 31, 32, 33, 34, 35, 36, 37, 38, 39, 40, 41, 42, 43, 44, 45, 46, 47, 48, 49, 50, 51, 52, 53, 54, 55, 56, 57, 58, 59, 60, 61, 62, 63, 64, 65, 66, 67, 68, 69, 70, 71, 72, 73, 74] (by decide +kernel) (by decide +kernel)
set_option maxRecDepth 20000 in
theorem gX5_entry_X5_isHead : GoodIn wsX5_entry (wsV RX5 129 RX5 yX5_isHead wsX5_isHead) := goodIn_app (goodIn_of _ (by decide +kernel)) ggX5_entry_X5_isHead
set_option maxRecDepth 20000 in
theorem ggX5_entry_X5_head : GoodIn wsX5_entry wsX5_head := goodIn_r _ [22, 18, 29, 30, 31, 32, 33, 34, 35, 36, 37, 38, 39, 40, 41, 42, 43, 44, 45, 46, 47, 48, 49, 50, 51, 52, 53, 54, 55, 56, 57, 58, 59, 60, 61, 62, 63, 64, 65, 66, 67, 68, 69, 70, 71, 72, 73, 74] (by decide +kernel) (by decide +kernel)
set_option maxRecDepth 20000 in
theorem gX5_entry_X5_head : GoodIn wsX5_entry (wsV RX5 136 RX5 yX5_head wsX5_head) := goodIn_app (goodIn_of _ (by decide +kernel)) ggX5_entry_X5_head
set_option maxRecDepth 20000 in
theorem ggX5_entry_X5_comes : GoodIn wsX5_entry wsX5_comes := goodIn_r _ [26, 27, 4, 28, 29, 30, 31, 32, 33, 34, 35, 36, 37, 38, 39, 40, 41, 42, 43, 44, 45, 46, 47, 48, 49, 50, 51, 52, 53, 54, 55, 56, 57, 58, 59, 60, 61, 62, 63, 64, 65, 66, 67, 68, 69, 70, 71, 72, 73, 74] (by decide +kernel) (by decide +kernel)
set_option maxRecDepth 20000 in
theorem gX5_entry_X5_comes : GoodIn wsX5_entry (wsV RX5 140 RX5 yX5_comes wsX5_comes) := goodIn_app (goodIn_of _ (by decide +kernel)) ggX5_entry_X5_comes
theorem dX5_entry_0 : decode cX5_entry 0 = .ok (.aload_n 0, 1) := by decide +kernel
theorem dX5_entry_1 : decode cX5_entry 1 = .ok (.iconst 0, 1) := by decide +kernel
theorem dX5_entry_2 : decode cX5_entry 2 = .ok (.putfield 116, 3) := by decide +kernel
theorem dX5_entry_5 : decode cX5_entry 5 = .ok (.aload_n 0, 1) := by decide +kernel
theorem dX5_entry_6 : decode cX5_entry 6 = .ok (.iload_n 1, 1) := by decide +kernel
theorem dX5_entry_7 : decode cX5_entry 7 = .ok (.ifCond .lt 11, 3) := by decide +kernel
theorem dX5_entry_10 : decode cX5_entry 10 = .ok (.iload_n 1, 1) := by decide +kernel
theorem dX5_entry_11 : decode cX5_entry 11 = .ok (.aload_n 0, 1) := by decide +kernel
theorem dX5_entry_12 : decode cX5_entry 12 = .ok (.getfield 126, 3) := by decide +kernel
theorem dX5_entry_15 : decode cX5_entry 15 = .ok (.if_icmp .le 7, 3) := by decide +kernel
theorem dX5_entry_18 : decode cX5_entry 18 = .ok (.iconst 1, 1) := by decide +kernel
theorem dX5_entry_19 : decode cX5_entry 19 = .ok (.goto 4, 3) := by decide +kernel
theorem dX5_entry_22 : decode cX5_entry 22 = .ok (.iconst 0, 1) := by decide +kernel
theorem dX5_entry_23 : decode cX5_entry 23 = .ok (.iconst 1, 1) := by decide +kernel
theorem dX5_entry_24 : decode cX5_entry 24 = .ok (.invokevirtual 119, 3) := by decide +kernel
theorem dX5_entry_27 : decode cX5_entry 27 = .ok (.ifCond .eq 5, 3) := by decide +kernel
theorem dX5_entry_30 : decode cX5_entry 30 = .ok (.iconst 0, 1) := by decide +kernel
theorem dX5_entry_31 : decode cX5_entry 31 = .ok (.ireturn, 1) := by decide +kernel
theorem dX5_entry_32 : decode cX5_entry 32 = .ok (.aload_n 0, 1) := by decide +kernel
theorem dX5_entry_33 : decode cX5_entry 33 = .ok (.getfield 123, 3) := by decide +kernel
theorem dX5_entry_36 : decode cX5_entry 36 = .ok (.istore_n 2, 1) := by decide +kernel
theorem dX5_entry_37 : decode cX5_entry 37 = .ok (.aload_n 0, 1) := by decide +kernel
theorem dX5_entry_38 : decode cX5_entry 38 = .ok (.iconst 0, 1) := by decide +kernel
theorem dX5_entry_39 : decode cX5_entry 39 = .ok (.putfield 126, 3) := by decide +kernel
theorem dX5_entry_42 : decode cX5_entry 42 = .ok (.aload_n 0, 1) := by decide +kernel
theorem dX5_entry_43 : decode cX5_entry 43 = .ok (.iconst 0, 1) := by decide +kernel
theorem dX5_entry_44 : decode cX5_entry 44 = .ok (.putfield 123, 3) := by decide +kernel
theorem dX5_entry_47 : decode cX5_entry 47 = .ok (.aload_n 0, 1) := by decide +kernel
theorem dX5_entry_48 : decode cX5_entry 48 = .ok (.iconst 0, 1) := by decide +kernel
theorem dX5_entry_49 : decode cX5_entry 49 = .ok (.iload_n 1, 1) := by decide +kernel
theorem dX5_entry_50 : decode cX5_entry 50 = .ok (.invokevirtual 129, 3) := by decide +kernel
theorem dX5_entry_53 : decode cX5_entry 53 = .ok (.ifCond .ne 5, 3) := by decide +kernel
theorem dX5_entry_56 : decode cX5_entry 56 = .ok (.iconst (-1), 1) := by decide +kernel
theorem dX5_entry_57 : decode cX5_entry 57 = .ok (.ireturn, 1) := by decide +kernel
theorem dX5_entry_58 : decode cX5_entry 58 = .ok (.iload_n 2, 1) := by decide +kernel
theorem dX5_entry_59 : decode cX5_entry 59 = .ok (.ifCond .ne 6, 3) := by decide +kernel
theorem dX5_entry_62 : decode cX5_entry 62 = .ok (.bipush (-2), 2) := by decide +kernel
theorem dX5_entry_64 : decode cX5_entry 64 = .ok (.ireturn, 1) := by decide +kernel
theorem dX5_entry_65 : decode cX5_entry 65 = .ok (.aload_n 0, 1) := by decide +kernel
theorem dX5_entry_66 : decode cX5_entry 66 = .ok (.getfield 133, 3) := by decide +kernel
theorem dX5_entry_69 : decode cX5_entry 69 = .ok (.sipush 150, 3) := by decide +kernel
theorem dX5_entry_72 : decode cX5_entry 72 = .ok (.if_icmp .ne 6, 3) := by decide +kernel
theorem dX5_entry_75 : decode cX5_entry 75 = .ok (.bipush (-3), 2) := by decide +kernel
theorem dX5_entry_77 : decode cX5_entry 77 = .ok (.ireturn, 1) := by decide +kernel
theorem dX5_entry_78 : decode cX5_entry 78 = .ok (.aload_n 0, 1) := by decide +kernel
theorem dX5_entry_79 : decode cX5_entry 79 = .ok (.aload_n 0, 1) := by decide +kernel
theorem dX5_entry_80 : decode cX5_entry 80 = .ok (.getfield 33, 3) := by decide +kernel
theorem dX5_entry_83 : decode cX5_entry 83 = .ok (.bipush 12, 2) := by decide +kernel
theorem dX5_entry_85 : decode cX5_entry 85 = .ok (.aload_n 0, 1) := by decide +kernel
theorem dX5_entry_86 : decode cX5_entry 86 = .ok (.getfield 133, 3) := by decide +kernel
theorem dX5_entry_89 : decode cX5_entry 89 = .ok (.imul, 1) := by decide +kernel
theorem dX5_entry_90 : decode cX5_entry 90 = .ok (.iconst 0, 1) := by decide +kernel
theorem dX5_entry_91 : decode cX5_entry 91 = .ok (.iload_n 1, 1) := by decide +kernel
theorem dX5_entry_92 : decode cX5_entry 92 = .ok (.invokevirtual 136, 3) := by decide +kernel
theorem dX5_entry_95 : decode cX5_entry 95 = .ok (.iconst 0, 1) := by decide +kernel
theorem dX5_entry_96 : decode cX5_entry 96 = .ok (.istore_n 3, 1) := by decide +kernel
theorem dX5_entry_97 : decode cX5_entry 97 = .ok (.iload_n 3, 1) := by decide +kernel
theorem dX5_entry_98 : decode cX5_entry 98 = .ok (.iload_n 2, 1) := by decide +kernel
theorem dX5_entry_99 : decode cX5_entry 99 = .ok (.if_icmp .ge 29, 3) := by decide +kernel
theorem dX5_entry_102 : decode cX5_entry 102 = .ok (.aload_n 0, 1) := by decide +kernel
theorem dX5_entry_103 : decode cX5_entry 103 = .ok (.getfield 39, 3) := by decide +kernel
theorem dX5_entry_106 : decode cX5_entry 106 = .ok (.bipush 6, 2) := by decide +kernel
theorem dX5_entry_108 : decode cX5_entry 108 = .ok (.aload_n 0, 1) := by decide +kernel
theorem dX5_entry_109 : decode cX5_entry 109 = .ok (.getfield 133, 3) := by decide +kernel
theorem dX5_entry_112 : decode cX5_entry 112 = .ok (.imul, 1) := by decide +kernel
theorem dX5_entry_113 : decode cX5_entry 113 = .ok (.iload_n 3, 1) := by decide +kernel
theorem dX5_entry_114 : decode cX5_entry 114 = .ok (.iadd, 1) := by decide +kernel
theorem dX5_entry_115 : decode cX5_entry 115 = .ok (.aload_n 0, 1) := by decide +kernel
theorem dX5_entry_116 : decode cX5_entry 116 = .ok (.getfield 25, 3) := by decide +kernel
theorem dX5_entry_119 : decode cX5_entry 119 = .ok (.iload_n 3, 1) := by decide +kernel
theorem dX5_entry_120 : decode cX5_entry 120 = .ok (.iaload, 1) := by decide +kernel
theorem dX5_entry_121 : decode cX5_entry 121 = .ok (.iastore, 1) := by decide +kernel
theorem dX5_entry_122 : decode cX5_entry 122 = .ok (.iinc 3 1, 3) := by decide +kernel
theorem dX5_entry_125 : decode cX5_entry 125 = .ok (.goto (-28), 3) := by decide +kernel
theorem dX5_entry_128 : decode cX5_entry 128 = .ok (.aload_n 0, 1) := by decide +kernel
theorem dX5_entry_129 : decode cX5_entry 129 = .ok (.getfield 42, 3) := by decide +kernel
theorem dX5_entry_132 : decode cX5_entry 132 = .ok (.aload_n 0, 1) := by decide +kernel
theorem dX5_entry_133 : decode cX5_entry 133 = .ok (.getfield 133, 3) := by decide +kernel
theorem dX5_entry_136 : decode cX5_entry 136 = .ok (.iload_n 2, 1) := by decide +kernel
theorem dX5_entry_137 : decode cX5_entry 137 = .ok (.iastore, 1) := by decide +kernel
theorem dX5_entry_138 : decode cX5_entry 138 = .ok (.aload_n 0, 1) := by decide +kernel
theorem dX5_entry_139 : decode cX5_entry 139 = .ok (.iconst 0, 1) := by decide +kernel
theorem dX5_entry_140 : decode cX5_entry 140 = .ok (.invokevirtual 140, 3) := by decide +kernel
theorem dX5_entry_143 : decode cX5_entry 143 = .ok (.ireturn, 1) := by decide +kernel
set_option maxRecDepth 20000 in
theorem ggX5_see_X5_bad : GoodIn wsX5_see wsX5_bad := goodIn_r _ [12, 1, 28, 29, 30, 31, 32, 33, 34, 35, 36, 37, 38, 39, 40, 41, 42, 43, 44, 45, 46, 47, 48, 49, 50, 51, 52, 53, 54, 55, 56, 57, 58, 59, 60, 61, 62, 63, 64, 65, 66, 67, 68, 69, 70, 71, 72, 73] (by decide +kernel) (by decide +kernel)
set_option maxRecDepth 20000 in
theorem gX5_see_X5_bad : GoodIn wsX5_see (wsV RX5 119 RX5 yX5_bad wsX5_bad) := goodIn_app (goodIn_of _ (by decide +kernel)) ggX5_see_X5_bad
set_option maxRecDepth 20000 in
theorem ggX5_see_X5_isHead : GoodIn wsX5_see wsX5_isHead := goodIn_r _ [16, 17, 28, 29, 30, 31, 32, 33, 34, 35, 36, 37, 38, 39, 40, 41, 42, 43, 44, 45, 46, 47, 48, 49, 50, 51, 52, 53, 54, 55, 56, 57, 58, 59, 60, 61, 62, 63, 64, 65, 66, 67, 68, 69, 70, 71, 72, 73] (by decide +kernel) (by decide +kernel)
set_option maxRecDepth 20000 in
theorem gX5_see_X5_isHead : GoodIn wsX5_see (wsV RX5 129 RX5 yX5_isHead wsX5_isHead) := goodIn_app (goodIn_of _ (by decide +kernel)) ggX5_see_X5_isHead
set_option maxRecDepth 20000 in
theorem ggX5_see_X5_head : GoodIn wsX5_see wsX5_head := goodIn_r _ [21, 17, 28, 29, 30, 31, 32, 33, 34, 35, 36, 37, 38, 39, 40, 41, 42, 43, 44, 45, 46, 47, 48, 49, 50, 51, 52, 53, 54, 55, 56, 57, 58, 59, 60, 61, 62, 63, 64, 65, 66, 67, 68, 69, 70, 71, 72, 73] (by decide +kernel) (by decide +kernel)
set_option maxRecDepth 20000 in
theorem gX5_see_X5_head : GoodIn wsX5_see (wsV RX5 136 RX5 yX5_head wsX5_head) := goodIn_app (goodIn_of _ (by decide +kernel)) ggX5_see_X5_head
set_option maxRecDepth 20000 in
theorem ggX5_see_X5_comes : GoodIn wsX5_see wsX5_comes := goodIn_r _ [25, 26, 3, 27, 28, 29, 30, 31, 32, 33, 34, 35, 36, 37, 38, 39, 40, 41, 42, 43, 44, 45, 46, 47, 48, 49, 50, 51, 52, 53, 54, 55, 56, 57, 58, 59, 60, 61, 62, 63, 64, 65, 66, 67, 68, 69, 70, 71, 72, 73] (by decide +kernel) (by decide +kernel)
set_option maxRecDepth 20000 in
theorem gX5_see_X5_comes : GoodIn wsX5_see (wsV RX5 140 RX5 yX5_comes wsX5_comes) := goodIn_app (goodIn_of _ (by decide +kernel)) ggX5_see_X5_comes
theorem dX5_see_0 : decode cX5_see 0 = .ok (.aload_n 0, 1) := by decide +kernel
theorem dX5_see_1 : decode cX5_see 1 = .ok (.iconst 0, 1) := by decide +kernel
theorem dX5_see_2 : decode cX5_see 2 = .ok (.putfield 116, 3) := by decide +kernel
theorem dX5_see_5 : decode cX5_see 5 = .ok (.aload_n 0, 1) := by decide +kernel
theorem dX5_see_6 : decode cX5_see 6 = .ok (.iload_n 1, 1) := by decide +kernel
theorem dX5_see_7 : decode cX5_see 7 = .ok (.ifCond .lt 33, 3) := by decide +kernel
theorem dX5_see_10 : decode cX5_see 10 = .ok (.iload_n 2, 1) := by decide +kernel
theorem dX5_see_11 : decode cX5_see 11 = .ok (.ifCond .lt 29, 3) := by decide +kernel
theorem dX5_see_14 : decode cX5_see 14 = .ok (.iload_n 1, 1) := by decide +kernel
theorem dX5_see_15 : decode cX5_see 15 = .ok (.aload_n 0, 1) := by decide +kernel
theorem dX5_see_16 : decode cX5_see 16 = .ok (.getfield 126, 3) := by decide +kernel
theorem dX5_see_19 : decode cX5_see 19 = .ok (.if_icmp .gt 21, 3) := by decide +kernel
theorem dX5_see_22 : decode cX5_see 22 = .ok (.iload_n 2, 1) := by decide +kernel
theorem dX5_see_23 : decode cX5_see 23 = .ok (.aload_n 0, 1) := by decide +kernel
theorem dX5_see_24 : decode cX5_see 24 = .ok (.getfield 126, 3) := by decide +kernel
theorem dX5_see_27 : decode cX5_see 27 = .ok (.if_icmp .gt 13, 3) := by decide +kernel
theorem dX5_see_30 : decode cX5_see 30 = .ok (.iload_n 1, 1) := by decide +kernel
theorem dX5_see_31 : decode cX5_see 31 = .ok (.iload_n 2, 1) := by decide +kernel
theorem dX5_see_32 : decode cX5_see 32 = .ok (.iadd, 1) := by decide +kernel
theorem dX5_see_33 : decode cX5_see 33 = .ok (.aload_n 0, 1) := by decide +kernel
theorem dX5_see_34 : decode cX5_see 34 = .ok (.getfield 126, 3) := by decide +kernel
theorem dX5_see_37 : decode cX5_see 37 = .ok (.if_icmp .le 7, 3) := by decide +kernel
theorem dX5_see_40 : decode cX5_see 40 = .ok (.iconst 1, 1) := by decide +kernel
theorem dX5_see_41 : decode cX5_see 41 = .ok (.goto 4, 3) := by decide +kernel
theorem dX5_see_44 : decode cX5_see 44 = .ok (.iconst 0, 1) := by decide +kernel
theorem dX5_see_45 : decode cX5_see 45 = .ok (.iconst 1, 1) := by decide +kernel
theorem dX5_see_46 : decode cX5_see 46 = .ok (.invokevirtual 119, 3) := by decide +kernel
theorem dX5_see_49 : decode cX5_see 49 = .ok (.ifCond .eq 5, 3) := by decide +kernel
theorem dX5_see_52 : decode cX5_see 52 = .ok (.iconst 0, 1) := by decide +kernel
theorem dX5_see_53 : decode cX5_see 53 = .ok (.ireturn, 1) := by decide +kernel
theorem dX5_see_54 : decode cX5_see 54 = .ok (.aload_n 0, 1) := by decide +kernel
theorem dX5_see_55 : decode cX5_see 55 = .ok (.iconst 0, 1) := by decide +kernel
theorem dX5_see_56 : decode cX5_see 56 = .ok (.putfield 126, 3) := by decide +kernel
theorem dX5_see_59 : decode cX5_see 59 = .ok (.aload_n 0, 1) := by decide +kernel
theorem dX5_see_60 : decode cX5_see 60 = .ok (.iconst 0, 1) := by decide +kernel
theorem dX5_see_61 : decode cX5_see 61 = .ok (.iload_n 1, 1) := by decide +kernel
theorem dX5_see_62 : decode cX5_see 62 = .ok (.invokevirtual 129, 3) := by decide +kernel
theorem dX5_see_65 : decode cX5_see 65 = .ok (.ifCond .eq 12, 3) := by decide +kernel
theorem dX5_see_68 : decode cX5_see 68 = .ok (.aload_n 0, 1) := by decide +kernel
theorem dX5_see_69 : decode cX5_see 69 = .ok (.iload_n 1, 1) := by decide +kernel
theorem dX5_see_70 : decode cX5_see 70 = .ok (.iload_n 2, 1) := by decide +kernel
theorem dX5_see_71 : decode cX5_see 71 = .ok (.invokevirtual 129, 3) := by decide +kernel
theorem dX5_see_74 : decode cX5_see 74 = .ok (.ifCond .ne 5, 3) := by decide +kernel
theorem dX5_see_77 : decode cX5_see 77 = .ok (.iconst (-1), 1) := by decide +kernel
theorem dX5_see_78 : decode cX5_see 78 = .ok (.ireturn, 1) := by decide +kernel
theorem dX5_see_79 : decode cX5_see 79 = .ok (.aload_n 0, 1) := by decide +kernel
theorem dX5_see_80 : decode cX5_see 80 = .ok (.getfield 133, 3) := by decide +kernel
theorem dX5_see_83 : decode cX5_see 83 = .ok (.sipush 150, 3) := by decide +kernel
theorem dX5_see_86 : decode cX5_see 86 = .ok (.if_icmp .ne 6, 3) := by decide +kernel
theorem dX5_see_89 : decode cX5_see 89 = .ok (.bipush (-3), 2) := by decide +kernel
theorem dX5_see_91 : decode cX5_see 91 = .ok (.ireturn, 1) := by decide +kernel
theorem dX5_see_92 : decode cX5_see 92 = .ok (.aload_n 0, 1) := by decide +kernel
theorem dX5_see_93 : decode cX5_see 93 = .ok (.aload_n 0, 1) := by decide +kernel
theorem dX5_see_94 : decode cX5_see 94 = .ok (.getfield 33, 3) := by decide +kernel
theorem dX5_see_97 : decode cX5_see 97 = .ok (.bipush 12, 2) := by decide +kernel
theorem dX5_see_99 : decode cX5_see 99 = .ok (.aload_n 0, 1) := by decide +kernel
theorem dX5_see_100 : decode cX5_see 100 = .ok (.getfield 133, 3) := by decide +kernel
theorem dX5_see_103 : decode cX5_see 103 = .ok (.imul, 1) := by decide +kernel
theorem dX5_see_104 : decode cX5_see 104 = .ok (.iconst 0, 1) := by decide +kernel
theorem dX5_see_105 : decode cX5_see 105 = .ok (.iload_n 1, 1) := by decide +kernel
theorem dX5_see_106 : decode cX5_see 106 = .ok (.invokevirtual 136, 3) := by decide +kernel
theorem dX5_see_109 : decode cX5_see 109 = .ok (.aload_n 0, 1) := by decide +kernel
theorem dX5_see_110 : decode cX5_see 110 = .ok (.aload_n 0, 1) := by decide +kernel
theorem dX5_see_111 : decode cX5_see 111 = .ok (.getfield 36, 3) := by decide +kernel
theorem dX5_see_114 : decode cX5_see 114 = .ok (.bipush 12, 2) := by decide +kernel
theorem dX5_see_116 : decode cX5_see 116 = .ok (.aload_n 0, 1) := by decide +kernel
theorem dX5_see_117 : decode cX5_see 117 = .ok (.getfield 133, 3) := by decide +kernel
theorem dX5_see_120 : decode cX5_see 120 = .ok (.imul, 1) := by decide +kernel
theorem dX5_see_121 : decode cX5_see 121 = .ok (.iload_n 1, 1) := by decide +kernel
theorem dX5_see_122 : decode cX5_see 122 = .ok (.iload_n 2, 1) := by decide +kernel
theorem dX5_see_123 : decode cX5_see 123 = .ok (.invokevirtual 136, 3) := by decide +kernel
theorem dX5_see_126 : decode cX5_see 126 = .ok (.aload_n 0, 1) := by decide +kernel
theorem dX5_see_127 : decode cX5_see 127 = .ok (.getfield 39, 3) := by decide +kernel
theorem dX5_see_130 : decode cX5_see 130 = .ok (.bipush 6, 2) := by decide +kernel
theorem dX5_see_132 : decode cX5_see 132 = .ok (.aload_n 0, 1) := by decide +kernel
theorem dX5_see_133 : decode cX5_see 133 = .ok (.getfield 133, 3) := by decide +kernel
theorem dX5_see_136 : decode cX5_see 136 = .ok (.imul, 1) := by decide +kernel
theorem dX5_see_137 : decode cX5_see 137 = .ok (.iconst 1, 1) := by decide +kernel
theorem dX5_see_138 : decode cX5_see 138 = .ok (.iastore, 1) := by decide +kernel
theorem dX5_see_139 : decode cX5_see 139 = .ok (.aload_n 0, 1) := by decide +kernel
theorem dX5_see_140 : decode cX5_see 140 = .ok (.getfield 42, 3) := by decide +kernel
theorem dX5_see_143 : decode cX5_see 143 = .ok (.aload_n 0, 1) := by decide +kernel
theorem dX5_see_144 : decode cX5_see 144 = .ok (.getfield 133, 3) := by decide +kernel
theorem dX5_see_147 : decode cX5_see 147 = .ok (.iconst 1, 1) := by decide +kernel
theorem dX5_see_148 : decode cX5_see 148 = .ok (.iastore, 1) := by decide +kernel
theorem dX5_see_149 : decode cX5_see 149 = .ok (.aload_n 0, 1) := by decide +kernel
theorem dX5_see_150 : decode cX5_see 150 = .ok (.iconst 1, 1) := by decide +kernel
theorem dX5_see_151 : decode cX5_see 151 = .ok (.invokevirtual 140, 3) := by decide +kernel
theorem dX5_see_154 : decode cX5_see 154 = .ok (.ireturn, 1) := by decide +kernel
theorem dX5_comes_0 : decode cX5_comes 0 = .ok (.aload_n 0, 1) := by decide +kernel
theorem dX5_comes_1 : decode cX5_comes 1 = .ok (.getfield 45, 3) := by decide +kernel
theorem dX5_comes_4 : decode cX5_comes 4 = .ok (.aload_n 0, 1) := by decide +kernel
theorem dX5_comes_5 : decode cX5_comes 5 = .ok (.getfield 133, 3) := by decide +kernel
theorem dX5_comes_8 : decode cX5_comes 8 = .ok (.iload_n 1, 1) := by decide +kernel
theorem dX5_comes_9 : decode cX5_comes 9 = .ok (.bastore, 1) := by decide +kernel
theorem dX5_comes_10 : decode cX5_comes 10 = .ok (.aload_n 0, 1) := by decide +kernel
theorem dX5_comes_11 : decode cX5_comes 11 = .ok (.getfield 49, 3) := by decide +kernel
theorem dX5_comes_14 : decode cX5_comes 14 = .ok (.aload_n 0, 1) := by decide +kernel
theorem dX5_comes_15 : decode cX5_comes 15 = .ok (.getfield 133, 3) := by decide +kernel
theorem dX5_comes_18 : decode cX5_comes 18 = .ok (.iconst 1, 1) := by decide +kernel
theorem dX5_comes_19 : decode cX5_comes 19 = .ok (.bastore, 1) := by decide +kernel
theorem dX5_comes_20 : decode cX5_comes 20 = .ok (.aload_n 0, 1) := by decide +kernel
theorem dX5_comes_21 : decode cX5_comes 21 = .ok (.dup, 1) := by decide +kernel
theorem dX5_comes_22 : decode cX5_comes 22 = .ok (.getfield 133, 3) := by decide +kernel
theorem dX5_comes_25 : decode cX5_comes 25 = .ok (.iconst 1, 1) := by decide +kernel
theorem dX5_comes_26 : decode cX5_comes 26 = .ok (.iadd, 1) := by decide +kernel
theorem dX5_comes_27 : decode cX5_comes 27 = .ok (.putfield 133, 3) := by decide +kernel
theorem dX5_comes_30 : decode cX5_comes 30 = .ok (.aload_n 0, 1) := by decide +kernel
theorem dX5_comes_31 : decode cX5_comes 31 = .ok (.getfield 133, 3) := by decide +kernel
theorem dX5_comes_34 : decode cX5_comes 34 = .ok (.iconst 1, 1) := by decide +kernel
theorem dX5_comes_35 : decode cX5_comes 35 = .ok (.isub, 1) := by decide +kernel
theorem dX5_comes_36 : decode cX5_comes 36 = .ok (.ireturn, 1) := by decide +kernel
theorem dX5_isEntry_0 : decode cX5_isEntry 0 = .ok (.aload_n 0, 1) := by decide +kernel
theorem dX5_isEntry_1 : decode cX5_isEntry 1 = .ok (.iload_n 1, 1) := by decide +kernel
theorem dX5_isEntry_2 : decode cX5_isEntry 2 = .ok (.ifCond .lt 11, 3) := by decide +kernel
theorem dX5_isEntry_5 : decode cX5_isEntry 5 = .ok (.iload_n 1, 1) := by decide +kernel
theorem dX5_isEntry_6 : decode cX5_isEntry 6 = .ok (.aload_n 0, 1) := by decide +kernel
theorem dX5_isEntry_7 : decode cX5_isEntry 7 = .ok (.getfield 133, 3) := by decide +kernel
theorem dX5_isEntry_10 : decode cX5_isEntry 10 = .ok (.if_icmp .lt 7, 3) := by decide +kernel
theorem dX5_isEntry_13 : decode cX5_isEntry 13 = .ok (.iconst 1, 1) := by decide +kernel
theorem dX5_isEntry_14 : decode cX5_isEntry 14 = .ok (.goto 4, 3) := by decide +kernel
theorem dX5_isEntry_17 : decode cX5_isEntry 17 = .ok (.iconst 0, 1) := by decide +kernel
theorem dX5_isEntry_18 : decode cX5_isEntry 18 = .ok (.putfield 116, 3) := by decide +kernel
theorem dX5_isEntry_21 : decode cX5_isEntry 21 = .ok (.aload_n 0, 1) := by decide +kernel
theorem dX5_isEntry_22 : decode cX5_isEntry 22 = .ok (.getfield 116, 3) := by decide +kernel
theorem dX5_isEntry_25 : decode cX5_isEntry 25 = .ok (.ifCond .ne 7, 3) := by decide +kernel
theorem dX5_isEntry_28 : decode cX5_isEntry 28 = .ok (.iconst 1, 1) := by decide +kernel
theorem dX5_isEntry_29 : decode cX5_isEntry 29 = .ok (.goto 4, 3) := by decide +kernel
theorem dX5_isEntry_32 : decode cX5_isEntry 32 = .ok (.iconst 0, 1) := by decide +kernel
theorem dX5_isEntry_33 : decode cX5_isEntry 33 = .ok (.ireturn, 1) := by decide +kernel
set_option maxRecDepth 20000 in
theorem ggX5_drop_X5_isEntry : GoodIn wsX5_drop wsX5_isEntry := goodIn_r _ [6, 7, 8, 9, 10, 11, 12, 13, 14, 15, 16, 17, 18, 19, 20, 21, 22, 23, 24, 25, 26, 27, 28, 29, 30, 31, 32, 33, 34, 35, 36, 37, 38, 39, 40, 41, 42, 43, 44, 45, 46, 47, 48, 49, 50, 51, 52, 53, 54] (by decide +kernel) (by decide +kernel)
set_option maxRecDepth 20000 in
theorem gX5_drop_X5_isEntry : GoodIn wsX5_drop (wsV RX5 144 RX5 yX5_isEntry wsX5_isEntry) := goodIn_app (goodIn_of _ (by decide +kernel)) ggX5_drop_X5_isEntry
theorem dX5_drop_0 : decode cX5_drop 0 = .ok (.aload_n 0, 1) := by decide +kernel
theorem dX5_drop_1 : decode cX5_drop 1 = .ok (.iload_n 1, 1) := by decide +kernel
theorem dX5_drop_2 : decode cX5_drop 2 = .ok (.invokevirtual 144, 3) := by decide +kernel
theorem dX5_drop_5 : decode cX5_drop 5 = .ok (.ifCond .ne 5, 3) := by decide +kernel
theorem dX5_drop_8 : decode cX5_drop 8 = .ok (.iconst 0, 1) := by decide +kernel
theorem dX5_drop_9 : decode cX5_drop 9 = .ok (.ireturn, 1) := by decide +kernel
theorem dX5_drop_10 : decode cX5_drop 10 = .ok (.aload_n 0, 1) := by decide +kernel
theorem dX5_drop_11 : decode cX5_drop 11 = .ok (.getfield 49, 3) := by decide +kernel
theorem dX5_drop_14 : decode cX5_drop 14 = .ok (.iload_n 1, 1) := by decide +kernel
theorem dX5_drop_15 : decode cX5_drop 15 = .ok (.baload, 1) := by decide +kernel
theorem dX5_drop_16 : decode cX5_drop 16 = .ok (.istore_n 2, 1) := by decide +kernel
theorem dX5_drop_17 : decode cX5_drop 17 = .ok (.aload_n 0, 1) := by decide +kernel
theorem dX5_drop_18 : decode cX5_drop 18 = .ok (.getfield 49, 3) := by decide +kernel
theorem dX5_drop_21 : decode cX5_drop 21 = .ok (.iload_n 1, 1) := by decide +kernel
theorem dX5_drop_22 : decode cX5_drop 22 = .ok (.iconst 0, 1) := by decide +kernel
theorem dX5_drop_23 : decode cX5_drop 23 = .ok (.bastore, 1) := by decide +kernel
theorem dX5_drop_24 : decode cX5_drop 24 = .ok (.iload_n 2, 1) := by decide +kernel
theorem dX5_drop_25 : decode cX5_drop 25 = .ok (.ireturn, 1) := by decide +kernel
theorem dX5_compare_0 : decode cX5_compare 0 = .ok (.iconst 0, 1) := by decide +kernel
theorem dX5_compare_1 : decode cX5_compare 1 = .ok (.istore 4, 2) := by decide +kernel
theorem dX5_compare_3 : decode cX5_compare 3 = .ok (.iload 4, 2) := by decide +kernel
theorem dX5_compare_5 : decode cX5_compare 5 = .ok (.bipush 12, 2) := by decide +kernel
theorem dX5_compare_7 : decode cX5_compare 7 = .ok (.if_icmp .ge 38, 3) := by decide +kernel
theorem dX5_compare_10 : decode cX5_compare 10 = .ok (.aload_n 0, 1) := by decide +kernel
theorem dX5_compare_11 : decode cX5_compare 11 = .ok (.iload_n 1, 1) := by decide +kernel
theorem dX5_compare_12 : decode cX5_compare 12 = .ok (.iload 4, 2) := by decide +kernel
theorem dX5_compare_14 : decode cX5_compare 14 = .ok (.iadd, 1) := by decide +kernel
theorem dX5_compare_15 : decode cX5_compare 15 = .ok (.iaload, 1) := by decide +kernel
theorem dX5_compare_16 : decode cX5_compare 16 = .ok (.aload_n 2, 1) := by decide +kernel
theorem dX5_compare_17 : decode cX5_compare 17 = .ok (.iload_n 3, 1) := by decide +kernel
theorem dX5_compare_18 : decode cX5_compare 18 = .ok (.iload 4, 2) := by decide +kernel
theorem dX5_compare_20 : decode cX5_compare 20 = .ok (.iadd, 1) := by decide +kernel
theorem dX5_compare_21 : decode cX5_compare 21 = .ok (.iaload, 1) := by decide +kernel
theorem dX5_compare_22 : decode cX5_compare 22 = .ok (.if_icmp .eq 17, 3) := by decide +kernel
theorem dX5_compare_25 : decode cX5_compare 25 = .ok (.aload_n 0, 1) := by decide +kernel
theorem dX5_compare_26 : decode cX5_compare 26 = .ok (.iload_n 1, 1) := by decide +kernel
theorem dX5_compare_27 : decode cX5_compare 27 = .ok (.iload 4, 2) := by decide +kernel
theorem dX5_compare_29 : decode cX5_compare 29 = .ok (.iadd, 1) := by decide +kernel
theorem dX5_compare_30 : decode cX5_compare 30 = .ok (.iaload, 1) := by decide +kernel
theorem dX5_compare_31 : decode cX5_compare 31 = .ok (.aload_n 2, 1) := by decide +kernel
theorem dX5_compare_32 : decode cX5_compare 32 = .ok (.iload_n 3, 1) := by decide +kernel
theorem dX5_compare_33 : decode cX5_compare 33 = .ok (.iload 4, 2) := by decide +kernel
theorem dX5_compare_35 : decode cX5_compare 35 = .ok (.iadd, 1) := by decide +kernel
theorem dX5_compare_36 : decode cX5_compare 36 = .ok (.iaload, 1) := by decide +kernel
theorem dX5_compare_37 : decode cX5_compare 37 = .ok (.isub, 1) := by decide +kernel
theorem dX5_compare_38 : decode cX5_compare 38 = .ok (.ireturn, 1) := by decide +kernel
theorem dX5_compare_39 : decode cX5_compare 39 = .ok (.iinc 4 1, 3) := by decide +kernel
theorem dX5_compare_42 : decode cX5_compare 42 = .ok (.goto (-39), 3) := by decide +kernel
theorem dX5_compare_45 : decode cX5_compare 45 = .ok (.iconst 0, 1) := by decide +kernel
theorem dX5_compare_46 : decode cX5_compare 46 = .ok (.ireturn, 1) := by decide +kernel
set_option maxRecDepth 20000 in
theorem ggX5_sorts_X5_compare : GoodIn wsX5_sorts wsX5_compare := goodIn_r _ [9] (by decide +kernel) (by decide +kernel)
set_option maxRecDepth 20000 in
theorem gX5_sorts_X5_compare : GoodIn wsX5_sorts (va_wsS RX5 151 yX5_compare wsX5_compare) := goodIn_app (goodIn_of _ (by decide +kernel)) ggX5_sorts_X5_compare
theorem dX5_sorts_0 : decode cX5_sorts 0 = .ok (.aload_n 0, 1) := by decide +kernel
theorem dX5_sorts_1 : decode cX5_sorts 1 = .ok (.iconst 0, 1) := by decide +kernel
theorem dX5_sorts_2 : decode cX5_sorts 2 = .ok (.putfield 148, 3) := by decide +kernel
theorem dX5_sorts_5 : decode cX5_sorts 5 = .ok (.iconst 0, 1) := by decide +kernel
theorem dX5_sorts_6 : decode cX5_sorts 6 = .ok (.istore_n 1, 1) := by decide +kernel
theorem dX5_sorts_7 : decode cX5_sorts 7 = .ok (.iload_n 1, 1) := by decide +kernel
theorem dX5_sorts_8 : decode cX5_sorts 8 = .ok (.aload_n 0, 1) := by decide +kernel
theorem dX5_sorts_9 : decode cX5_sorts 9 = .ok (.getfield 133, 3) := by decide +kernel
theorem dX5_sorts_12 : decode cX5_sorts 12 = .ok (.if_icmp .ge 96, 3) := by decide +kernel
theorem dX5_sorts_15 : decode cX5_sorts 15 = .ok (.aload_n 0, 1) := by decide +kernel
theorem dX5_sorts_16 : decode cX5_sorts 16 = .ok (.getfield 49, 3) := by decide +kernel
theorem dX5_sorts_19 : decode cX5_sorts 19 = .ok (.iload_n 1, 1) := by decide +kernel
theorem dX5_sorts_20 : decode cX5_sorts 20 = .ok (.baload, 1) := by decide +kernel
theorem dX5_sorts_21 : decode cX5_sorts 21 = .ok (.ifCond .ne 6, 3) := by decide +kernel
theorem dX5_sorts_24 : decode cX5_sorts 24 = .ok (.goto 78, 3) := by decide +kernel
theorem dX5_sorts_27 : decode cX5_sorts 27 = .ok (.aload_n 0, 1) := by decide +kernel
theorem dX5_sorts_28 : decode cX5_sorts 28 = .ok (.getfield 148, 3) := by decide +kernel
theorem dX5_sorts_31 : decode cX5_sorts 31 = .ok (.istore_n 2, 1) := by decide +kernel
theorem dX5_sorts_32 : decode cX5_sorts 32 = .ok (.iload_n 2, 1) := by decide +kernel
theorem dX5_sorts_33 : decode cX5_sorts 33 = .ok (.ifCond .le 52, 3) := by decide +kernel
theorem dX5_sorts_36 : decode cX5_sorts 36 = .ok (.aload_n 0, 1) := by decide +kernel
theorem dX5_sorts_37 : decode cX5_sorts 37 = .ok (.getfield 33, 3) := by decide +kernel
theorem dX5_sorts_40 : decode cX5_sorts 40 = .ok (.bipush 12, 2) := by decide +kernel
theorem dX5_sorts_42 : decode cX5_sorts 42 = .ok (.aload_n 0, 1) := by decide +kernel
theorem dX5_sorts_43 : decode cX5_sorts 43 = .ok (.getfield 52, 3) := by decide +kernel
theorem dX5_sorts_46 : decode cX5_sorts 46 = .ok (.iload_n 2, 1) := by decide +kernel
theorem dX5_sorts_47 : decode cX5_sorts 47 = .ok (.iconst 1, 1) := by decide +kernel
theorem dX5_sorts_48 : decode cX5_sorts 48 = .ok (.isub, 1) := by decide +kernel
theorem dX5_sorts_49 : decode cX5_sorts 49 = .ok (.iaload, 1) := by decide +kernel
theorem dX5_sorts_50 : decode cX5_sorts 50 = .ok (.imul, 1) := by decide +kernel
theorem dX5_sorts_51 : decode cX5_sorts 51 = .ok (.aload_n 0, 1) := by decide +kernel
theorem dX5_sorts_52 : decode cX5_sorts 52 = .ok (.getfield 33, 3) := by decide +kernel
theorem dX5_sorts_55 : decode cX5_sorts 55 = .ok (.bipush 12, 2) := by decide +kernel
theorem dX5_sorts_57 : decode cX5_sorts 57 = .ok (.iload_n 1, 1) := by decide +kernel
theorem dX5_sorts_58 : decode cX5_sorts 58 = .ok (.imul, 1) := by decide +kernel
theorem dX5_sorts_59 : decode cX5_sorts 59 = .ok (.invokestatic 151, 3) := by decide +kernel
theorem dX5_sorts_62 : decode cX5_sorts 62 = .ok (.ifCond .le 23, 3) := by decide +kernel
theorem dX5_sorts_65 : decode cX5_sorts 65 = .ok (.aload_n 0, 1) := by decide +kernel
theorem dX5_sorts_66 : decode cX5_sorts 66 = .ok (.getfield 52, 3) := by decide +kernel
theorem dX5_sorts_69 : decode cX5_sorts 69 = .ok (.iload_n 2, 1) := by decide +kernel
theorem dX5_sorts_70 : decode cX5_sorts 70 = .ok (.aload_n 0, 1) := by decide +kernel
theorem dX5_sorts_71 : decode cX5_sorts 71 = .ok (.getfield 52, 3) := by decide +kernel
theorem dX5_sorts_74 : decode cX5_sorts 74 = .ok (.iload_n 2, 1) := by decide +kernel
theorem dX5_sorts_75 : decode cX5_sorts 75 = .ok (.iconst 1, 1) := by decide +kernel
theorem dX5_sorts_76 : decode cX5_sorts 76 = .ok (.isub, 1) := by decide +kernel
theorem dX5_sorts_77 : decode cX5_sorts 77 = .ok (.iaload, 1) := by decide +kernel
theorem dX5_sorts_78 : decode cX5_sorts 78 = .ok (.iastore, 1) := by decide +kernel
theorem dX5_sorts_79 : decode cX5_sorts 79 = .ok (.iinc 2 (-1), 3) := by decide +kernel
theorem dX5_sorts_82 : decode cX5_sorts 82 = .ok (.goto (-50), 3) := by decide +kernel
theorem dX5_sorts_85 : decode cX5_sorts 85 = .ok (.aload_n 0, 1) := by decide +kernel
theorem dX5_sorts_86 : decode cX5_sorts 86 = .ok (.getfield 52, 3) := by decide +kernel
theorem dX5_sorts_89 : decode cX5_sorts 89 = .ok (.iload_n 2, 1) := by decide +kernel
theorem dX5_sorts_90 : decode cX5_sorts 90 = .ok (.iload_n 1, 1) := by decide +kernel
theorem dX5_sorts_91 : decode cX5_sorts 91 = .ok (.iastore, 1) := by decide +kernel
theorem dX5_sorts_92 : decode cX5_sorts 92 = .ok (.aload_n 0, 1) := by decide +kernel
theorem dX5_sorts_93 : decode cX5_sorts 93 = .ok (.dup, 1) := by decide +kernel
theorem dX5_sorts_94 : decode cX5_sorts 94 = .ok (.getfield 148, 3) := by decide +kernel
theorem dX5_sorts_97 : decode cX5_sorts 97 = .ok (.iconst 1, 1) := by decide +kernel
theorem dX5_sorts_98 : decode cX5_sorts 98 = .ok (.iadd, 1) := by decide +kernel
theorem dX5_sorts_99 : decode cX5_sorts 99 = .ok (.putfield 148, 3) := by decide +kernel
theorem dX5_sorts_102 : decode cX5_sorts 102 = .ok (.iinc 1 1, 3) := by decide +kernel
theorem dX5_sorts_105 : decode cX5_sorts 105 = .ok (.goto (-98), 3) := by decide +kernel
theorem dX5_sorts_108 : decode cX5_sorts 108 = .ok (.return_, 1) := by decide +kernel
set_option maxRecDepth 20000 in
theorem ggX5_order_X5_sorts : GoodIn wsX5_order wsX5_sorts := goodIn_r _ [8, 2, 9, 10, 11, 3, 12, 13, 7, 14, 15, 16, 17, 18, 19, 20, 21, 22, 23, 24, 25, 26, 27, 28, 29, 30, 31, 32, 33, 34, 35, 36, 37, 38, 39, 40, 41, 42, 43, 44, 45, 46, 47, 48, 49, 50, 51, 52, 53, 54, 55, 56, 57, 58, 59, 60] (by decide +kernel) (by decide +kernel)
set_option maxRecDepth 20000 in
theorem gX5_order_X5_sorts : GoodIn wsX5_order (wsV RX5 155 RX5 yX5_sorts wsX5_sorts) := goodIn_app (goodIn_of _ (by decide +kernel)) ggX5_order_X5_sorts
theorem dX5_order_0 : decode cX5_order 0 = .ok (.aload_n 0, 1) := by decide +kernel
theorem dX5_order_1 : decode cX5_order 1 = .ok (.iconst 0, 1) := by decide +kernel
theorem dX5_order_2 : decode cX5_order 2 = .ok (.putfield 116, 3) := by decide +kernel
theorem dX5_order_5 : decode cX5_order 5 = .ok (.aload_n 0, 1) := by decide +kernel
theorem dX5_order_6 : decode cX5_order 6 = .ok (.invokevirtual 155, 3) := by decide +kernel
theorem dX5_order_9 : decode cX5_order 9 = .ok (.iload_n 1, 1) := by decide +kernel
theorem dX5_order_10 : decode cX5_order 10 = .ok (.ifCond .lt 20, 3) := by decide +kernel
theorem dX5_order_13 : decode cX5_order 13 = .ok (.iload_n 1, 1) := by decide +kernel
theorem dX5_order_14 : decode cX5_order 14 = .ok (.aload_n 0, 1) := by decide +kernel
theorem dX5_order_15 : decode cX5_order 15 = .ok (.getfield 148, 3) := by decide +kernel
theorem dX5_order_18 : decode cX5_order 18 = .ok (.if_icmp .ge 12, 3) := by decide +kernel
theorem dX5_order_21 : decode cX5_order 21 = .ok (.aload_n 0, 1) := by decide +kernel
theorem dX5_order_22 : decode cX5_order 22 = .ok (.getfield 52, 3) := by decide +kernel
theorem dX5_order_25 : decode cX5_order 25 = .ok (.iload_n 1, 1) := by decide +kernel
theorem dX5_order_26 : decode cX5_order 26 = .ok (.iaload, 1) := by decide +kernel
theorem dX5_order_27 : decode cX5_order 27 = .ok (.goto 4, 3) := by decide +kernel
theorem dX5_order_30 : decode cX5_order 30 = .ok (.iconst (-1), 1) := by decide +kernel
theorem dX5_order_31 : decode cX5_order 31 = .ok (.ireturn, 1) := by decide +kernel
set_option maxRecDepth 20000 in
theorem ggX5_leads_X5_isEntry : GoodIn wsX5_leads wsX5_isEntry := goodIn_r _ [12, 1, 13, 22, 23, 24, 25, 26, 27, 28, 29, 30, 31, 32, 33, 34, 35, 36, 37, 38, 39, 40, 41, 42, 43, 44, 45, 46, 47, 48, 49, 50, 51, 52, 53, 54, 55, 56, 57, 58, 59, 60, 61, 62, 63, 64, 65, 66, 67] (by decide +kernel) (by decide +kernel)
set_option maxRecDepth 20000 in
theorem gX5_leads_X5_isEntry : GoodIn wsX5_leads (wsV RX5 144 RX5 yX5_isEntry wsX5_isEntry) := goodIn_app (goodIn_of _ (by decide +kernel)) ggX5_leads_X5_isEntry
set_option maxRecDepth 20000 in
theorem ggX5_leads_X5_sorts : GoodIn wsX5_leads wsX5_sorts := goodIn_r _ [17, 4, 1, 18, 6, 7, 19, 20, 11, 21, 22, 23, 24, 25, 26, 27, 28, 29, 30, 31, 32, 33, 34, 35, 36, 37, 38, 39, 40, 41, 42, 43, 44, 45, 46, 47, 48, 49, 50, 51, 52, 53, 54, 55, 56, 57, 58, 59, 60, 61, 62, 63, 64, 65, 66, 67] (by decide +kernel) (by decide +kernel)
set_option maxRecDepth 20000 in
theorem gX5_leads_X5_sorts : GoodIn wsX5_leads (wsV RX5 155 RX5 yX5_sorts wsX5_sorts) := goodIn_app (goodIn_of _ (by decide +kernel)) ggX5_leads_X5_sorts
set_option maxRecDepth 20000 in
theorem ggX5_leads_X5_compare : GoodIn wsX5_leads wsX5_compare := goodIn_r _ [21] (by decide +kernel) (by decide +kernel)
set_option maxRecDepth 20000 in
theorem gX5_leads_X5_compare : GoodIn wsX5_leads (va_wsS RX5 151 yX5_compare wsX5_compare) := goodIn_app (goodIn_of _ (by decide +kernel)) ggX5_leads_X5_compare
theorem dX5_leads_0 : decode cX5_leads 0 = .ok (.aload_n 0, 1) := by decide +kernel
theorem dX5_leads_1 : decode cX5_leads 1 = .ok (.iload_n 1, 1) := by decide +kernel
theorem dX5_leads_2 : decode cX5_leads 2 = .ok (.invokevirtual 144, 3) := by decide +kernel
theorem dX5_leads_5 : decode cX5_leads 5 = .ok (.ifCond .ne 5, 3) := by decide +kernel
theorem dX5_leads_8 : decode cX5_leads 8 = .ok (.iconst 0, 1) := by decide +kernel
theorem dX5_leads_9 : decode cX5_leads 9 = .ok (.ireturn, 1) := by decide +kernel
theorem dX5_leads_10 : decode cX5_leads 10 = .ok (.aload_n 0, 1) := by decide +kernel
theorem dX5_leads_11 : decode cX5_leads 11 = .ok (.invokevirtual 155, 3) := by decide +kernel
theorem dX5_leads_14 : decode cX5_leads 14 = .ok (.iconst 0, 1) := by decide +kernel
theorem dX5_leads_15 : decode cX5_leads 15 = .ok (.istore_n 2, 1) := by decide +kernel
theorem dX5_leads_16 : decode cX5_leads 16 = .ok (.iload_n 2, 1) := by decide +kernel
theorem dX5_leads_17 : decode cX5_leads 17 = .ok (.aload_n 0, 1) := by decide +kernel
theorem dX5_leads_18 : decode cX5_leads 18 = .ok (.getfield 133, 3) := by decide +kernel
theorem dX5_leads_21 : decode cX5_leads 21 = .ok (.if_icmp .ge 16, 3) := by decide +kernel
theorem dX5_leads_24 : decode cX5_leads 24 = .ok (.aload_n 0, 1) := by decide +kernel
theorem dX5_leads_25 : decode cX5_leads 25 = .ok (.getfield 55, 3) := by decide +kernel
theorem dX5_leads_28 : decode cX5_leads 28 = .ok (.iload_n 2, 1) := by decide +kernel
theorem dX5_leads_29 : decode cX5_leads 29 = .ok (.iconst 0, 1) := by decide +kernel
theorem dX5_leads_30 : decode cX5_leads 30 = .ok (.bastore, 1) := by decide +kernel
theorem dX5_leads_31 : decode cX5_leads 31 = .ok (.iinc 2 1, 3) := by decide +kernel
theorem dX5_leads_34 : decode cX5_leads 34 = .ok (.goto (-18), 3) := by decide +kernel
theorem dX5_leads_37 : decode cX5_leads 37 = .ok (.iload_n 1, 1) := by decide +kernel
theorem dX5_leads_38 : decode cX5_leads 38 = .ok (.istore_n 2, 1) := by decide +kernel
theorem dX5_leads_39 : decode cX5_leads 39 = .ok (.aload_n 0, 1) := by decide +kernel
theorem dX5_leads_40 : decode cX5_leads 40 = .ok (.getfield 45, 3) := by decide +kernel
theorem dX5_leads_43 : decode cX5_leads 43 = .ok (.iload_n 2, 1) := by decide +kernel
theorem dX5_leads_44 : decode cX5_leads 44 = .ok (.baload, 1) := by decide +kernel
theorem dX5_leads_45 : decode cX5_leads 45 = .ok (.ifCond .eq 85, 3) := by decide +kernel
theorem dX5_leads_48 : decode cX5_leads 48 = .ok (.aload_n 0, 1) := by decide +kernel
theorem dX5_leads_49 : decode cX5_leads 49 = .ok (.getfield 55, 3) := by decide +kernel
theorem dX5_leads_52 : decode cX5_leads 52 = .ok (.iload_n 2, 1) := by decide +kernel
theorem dX5_leads_53 : decode cX5_leads 53 = .ok (.iconst 1, 1) := by decide +kernel
theorem dX5_leads_54 : decode cX5_leads 54 = .ok (.bastore, 1) := by decide +kernel
theorem dX5_leads_55 : decode cX5_leads 55 = .ok (.iconst 0, 1) := by decide +kernel
theorem dX5_leads_56 : decode cX5_leads 56 = .ok (.istore_n 3, 1) := by decide +kernel
theorem dX5_leads_57 : decode cX5_leads 57 = .ok (.iload_n 3, 1) := by decide +kernel
theorem dX5_leads_58 : decode cX5_leads 58 = .ok (.aload_n 0, 1) := by decide +kernel
theorem dX5_leads_59 : decode cX5_leads 59 = .ok (.getfield 148, 3) := by decide +kernel
theorem dX5_leads_62 : decode cX5_leads 62 = .ok (.if_icmp .ge 36, 3) := by decide +kernel
theorem dX5_leads_65 : decode cX5_leads 65 = .ok (.aload_n 0, 1) := by decide +kernel
theorem dX5_leads_66 : decode cX5_leads 66 = .ok (.getfield 36, 3) := by decide +kernel
theorem dX5_leads_69 : decode cX5_leads 69 = .ok (.bipush 12, 2) := by decide +kernel
theorem dX5_leads_71 : decode cX5_leads 71 = .ok (.iload_n 2, 1) := by decide +kernel
theorem dX5_leads_72 : decode cX5_leads 72 = .ok (.imul, 1) := by decide +kernel
theorem dX5_leads_73 : decode cX5_leads 73 = .ok (.aload_n 0, 1) := by decide +kernel
theorem dX5_leads_74 : decode cX5_leads 74 = .ok (.getfield 33, 3) := by decide +kernel
theorem dX5_leads_77 : decode cX5_leads 77 = .ok (.bipush 12, 2) := by decide +kernel
theorem dX5_leads_79 : decode cX5_leads 79 = .ok (.aload_n 0, 1) := by decide +kernel
theorem dX5_leads_80 : decode cX5_leads 80 = .ok (.getfield 52, 3) := by decide +kernel
theorem dX5_leads_83 : decode cX5_leads 83 = .ok (.iload_n 3, 1) := by decide +kernel
theorem dX5_leads_84 : decode cX5_leads 84 = .ok (.iaload, 1) := by decide +kernel
theorem dX5_leads_85 : decode cX5_leads 85 = .ok (.imul, 1) := by decide +kernel
theorem dX5_leads_86 : decode cX5_leads 86 = .ok (.invokestatic 151, 3) := by decide +kernel
theorem dX5_leads_89 : decode cX5_leads 89 = .ok (.ifCond .eq 9, 3) := by decide +kernel
theorem dX5_leads_92 : decode cX5_leads 92 = .ok (.iinc 3 1, 3) := by decide +kernel
theorem dX5_leads_95 : decode cX5_leads 95 = .ok (.goto (-38), 3) := by decide +kernel
theorem dX5_leads_98 : decode cX5_leads 98 = .ok (.iload_n 3, 1) := by decide +kernel
theorem dX5_leads_99 : decode cX5_leads 99 = .ok (.aload_n 0, 1) := by decide +kernel
theorem dX5_leads_100 : decode cX5_leads 100 = .ok (.getfield 148, 3) := by decide +kernel
theorem dX5_leads_103 : decode cX5_leads 103 = .ok (.if_icmp .ne 5, 3) := by decide +kernel
theorem dX5_leads_106 : decode cX5_leads 106 = .ok (.iconst (-1), 1) := by decide +kernel
theorem dX5_leads_107 : decode cX5_leads 107 = .ok (.ireturn, 1) := by decide +kernel
theorem dX5_leads_108 : decode cX5_leads 108 = .ok (.aload_n 0, 1) := by decide +kernel
theorem dX5_leads_109 : decode cX5_leads 109 = .ok (.getfield 52, 3) := by decide +kernel
theorem dX5_leads_112 : decode cX5_leads 112 = .ok (.iload_n 3, 1) := by decide +kernel
theorem dX5_leads_113 : decode cX5_leads 113 = .ok (.iaload, 1) := by decide +kernel
theorem dX5_leads_114 : decode cX5_leads 114 = .ok (.istore_n 2, 1) := by decide +kernel
theorem dX5_leads_115 : decode cX5_leads 115 = .ok (.aload_n 0, 1) := by decide +kernel
theorem dX5_leads_116 : decode cX5_leads 116 = .ok (.getfield 55, 3) := by decide +kernel
theorem dX5_leads_119 : decode cX5_leads 119 = .ok (.iload_n 2, 1) := by decide +kernel
theorem dX5_leads_120 : decode cX5_leads 120 = .ok (.baload, 1) := by decide +kernel
theorem dX5_leads_121 : decode cX5_leads 121 = .ok (.ifCond .eq 6, 3) := by decide +kernel
theorem dX5_leads_124 : decode cX5_leads 124 = .ok (.bipush (-2), 2) := by decide +kernel
theorem dX5_leads_126 : decode cX5_leads 126 = .ok (.ireturn, 1) := by decide +kernel
theorem dX5_leads_127 : decode cX5_leads 127 = .ok (.goto (-88), 3) := by decide +kernel
theorem dX5_leads_130 : decode cX5_leads 130 = .ok (.iload_n 2, 1) := by decide +kernel
theorem dX5_leads_131 : decode cX5_leads 131 = .ok (.ireturn, 1) := by decide +kernel
set_option maxRecDepth 20000 in
theorem ggX5_makes_X5_sorts : GoodIn wsX5_makes wsX5_sorts := goodIn_r _ [17, 2, 18, 19, 11, 3, 20, 21, 16, 22, 23, 24, 25, 26, 27, 28, 29, 30, 31, 32, 33, 34, 35, 36, 37, 38, 39, 40, 41, 42, 43, 44, 45, 46, 47, 48, 49, 50, 51, 52, 53, 54, 55, 56, 57, 58, 59, 60, 61, 62, 63, 64, 65, 66, 67, 68] (by decide +kernel) (by decide +kernel)
set_option maxRecDepth 20000 in
theorem gX5_makes_X5_sorts : GoodIn wsX5_makes (wsV RX5 155 RX5 yX5_sorts wsX5_sorts) := goodIn_app (goodIn_of _ (by decide +kernel)) ggX5_makes_X5_sorts
theorem dX5_makes_0 : decode cX5_makes 0 = .ok (.aload_n 0, 1) := by decide +kernel
theorem dX5_makes_1 : decode cX5_makes 1 = .ok (.invokevirtual 155, 3) := by decide +kernel
theorem dX5_makes_4 : decode cX5_makes 4 = .ok (.aload_n 0, 1) := by decide +kernel
theorem dX5_makes_5 : decode cX5_makes 5 = .ok (.iconst 0, 1) := by decide +kernel
theorem dX5_makes_6 : decode cX5_makes 6 = .ok (.putfield 158, 3) := by decide +kernel
theorem dX5_makes_9 : decode cX5_makes 9 = .ok (.iconst 0, 1) := by decide +kernel
theorem dX5_makes_10 : decode cX5_makes 10 = .ok (.istore_n 1, 1) := by decide +kernel
theorem dX5_makes_11 : decode cX5_makes 11 = .ok (.iconst 0, 1) := by decide +kernel
theorem dX5_makes_12 : decode cX5_makes 12 = .ok (.istore_n 2, 1) := by decide +kernel
theorem dX5_makes_13 : decode cX5_makes 13 = .ok (.iload_n 2, 1) := by decide +kernel
theorem dX5_makes_14 : decode cX5_makes 14 = .ok (.aload_n 0, 1) := by decide +kernel
theorem dX5_makes_15 : decode cX5_makes 15 = .ok (.getfield 148, 3) := by decide +kernel
theorem dX5_makes_18 : decode cX5_makes 18 = .ok (.if_icmp .ge 193, 3) := by decide +kernel
theorem dX5_makes_21 : decode cX5_makes 21 = .ok (.aload_n 0, 1) := by decide +kernel
theorem dX5_makes_22 : decode cX5_makes 22 = .ok (.getfield 52, 3) := by decide +kernel
theorem dX5_makes_25 : decode cX5_makes 25 = .ok (.iload_n 2, 1) := by decide +kernel
theorem dX5_makes_26 : decode cX5_makes 26 = .ok (.iaload, 1) := by decide +kernel
theorem dX5_makes_27 : decode cX5_makes 27 = .ok (.istore_n 3, 1) := by decide +kernel
theorem dX5_makes_28 : decode cX5_makes 28 = .ok (.iconst 0, 1) := by decide +kernel
theorem dX5_makes_29 : decode cX5_makes 29 = .ok (.istore 4, 2) := by decide +kernel
theorem dX5_makes_31 : decode cX5_makes 31 = .ok (.iload 4, 2) := by decide +kernel
theorem dX5_makes_33 : decode cX5_makes 33 = .ok (.aload_n 0, 1) := by decide +kernel
theorem dX5_makes_34 : decode cX5_makes 34 = .ok (.getfield 42, 3) := by decide +kernel
theorem dX5_makes_37 : decode cX5_makes 37 = .ok (.iload_n 3, 1) := by decide +kernel
theorem dX5_makes_38 : decode cX5_makes 38 = .ok (.iaload, 1) := by decide +kernel
theorem dX5_makes_39 : decode cX5_makes 39 = .ok (.if_icmp .ge 156, 3) := by decide +kernel
theorem dX5_makes_42 : decode cX5_makes 42 = .ok (.aload_n 0, 1) := by decide +kernel
theorem dX5_makes_43 : decode cX5_makes 43 = .ok (.getfield 39, 3) := by decide +kernel
theorem dX5_makes_46 : decode cX5_makes 46 = .ok (.bipush 6, 2) := by decide +kernel
theorem dX5_makes_48 : decode cX5_makes 48 = .ok (.iload_n 3, 1) := by decide +kernel
theorem dX5_makes_49 : decode cX5_makes 49 = .ok (.imul, 1) := by decide +kernel
theorem dX5_makes_50 : decode cX5_makes 50 = .ok (.iload 4, 2) := by decide +kernel
theorem dX5_makes_52 : decode cX5_makes 52 = .ok (.iadd, 1) := by decide +kernel
theorem dX5_makes_53 : decode cX5_makes 53 = .ok (.iaload, 1) := by decide +kernel
theorem dX5_makes_54 : decode cX5_makes 54 = .ok (.istore 5, 2) := by decide +kernel
theorem dX5_makes_56 : decode cX5_makes 56 = .ok (.aload_n 0, 1) := by decide +kernel
theorem dX5_makes_57 : decode cX5_makes 57 = .ok (.getfield 58, 3) := by decide +kernel
theorem dX5_makes_60 : decode cX5_makes 60 = .ok (.aload_n 0, 1) := by decide +kernel
theorem dX5_makes_61 : decode cX5_makes 61 = .ok (.getfield 158, 3) := by decide +kernel
theorem dX5_makes_64 : decode cX5_makes 64 = .ok (.iload_n 3, 1) := by decide +kernel
theorem dX5_makes_65 : decode cX5_makes 65 = .ok (.iastore, 1) := by decide +kernel
theorem dX5_makes_66 : decode cX5_makes 66 = .ok (.aload_n 0, 1) := by decide +kernel
theorem dX5_makes_67 : decode cX5_makes 67 = .ok (.getfield 61, 3) := by decide +kernel
theorem dX5_makes_70 : decode cX5_makes 70 = .ok (.aload_n 0, 1) := by decide +kernel
theorem dX5_makes_71 : decode cX5_makes 71 = .ok (.getfield 158, 3) := by decide +kernel
theorem dX5_makes_74 : decode cX5_makes 74 = .ok (.iload 4, 2) := by decide +kernel
theorem dX5_makes_76 : decode cX5_makes 76 = .ok (.iastore, 1) := by decide +kernel
theorem dX5_makes_77 : decode cX5_makes 77 = .ok (.aload_n 0, 1) := by decide +kernel
theorem dX5_makes_78 : decode cX5_makes 78 = .ok (.getfield 70, 3) := by decide +kernel
theorem dX5_makes_81 : decode cX5_makes 81 = .ok (.aload_n 0, 1) := by decide +kernel
theorem dX5_makes_82 : decode cX5_makes 82 = .ok (.getfield 158, 3) := by decide +kernel
theorem dX5_makes_85 : decode cX5_makes 85 = .ok (.iload 4, 2) := by decide +kernel
theorem dX5_makes_87 : decode cX5_makes 87 = .ok (.aload_n 0, 1) := by decide +kernel
theorem dX5_makes_88 : decode cX5_makes 88 = .ok (.getfield 42, 3) := by decide +kernel
theorem dX5_makes_91 : decode cX5_makes 91 = .ok (.iload_n 3, 1) := by decide +kernel
theorem dX5_makes_92 : decode cX5_makes 92 = .ok (.iaload, 1) := by decide +kernel
theorem dX5_makes_93 : decode cX5_makes 93 = .ok (.iconst 1, 1) := by decide +kernel
theorem dX5_makes_94 : decode cX5_makes 94 = .ok (.isub, 1) := by decide +kernel
theorem dX5_makes_95 : decode cX5_makes 95 = .ok (.if_icmp .ne 7, 3) := by decide +kernel
theorem dX5_makes_98 : decode cX5_makes 98 = .ok (.iconst 1, 1) := by decide +kernel
theorem dX5_makes_99 : decode cX5_makes 99 = .ok (.goto 4, 3) := by decide +kernel
theorem dX5_makes_102 : decode cX5_makes 102 = .ok (.iconst 0, 1) := by decide +kernel
theorem dX5_makes_103 : decode cX5_makes 103 = .ok (.bastore, 1) := by decide +kernel
theorem dX5_makes_104 : decode cX5_makes 104 = .ok (.aload_n 0, 1) := by decide +kernel
theorem dX5_makes_105 : decode cX5_makes 105 = .ok (.getfield 67, 3) := by decide +kernel
theorem dX5_makes_108 : decode cX5_makes 108 = .ok (.aload_n 0, 1) := by decide +kernel
theorem dX5_makes_109 : decode cX5_makes 109 = .ok (.getfield 158, 3) := by decide +kernel
theorem dX5_makes_112 : decode cX5_makes 112 = .ok (.aload_n 0, 1) := by decide +kernel
theorem dX5_makes_113 : decode cX5_makes 113 = .ok (.getfield 70, 3) := by decide +kernel
theorem dX5_makes_116 : decode cX5_makes 116 = .ok (.aload_n 0, 1) := by decide +kernel
theorem dX5_makes_117 : decode cX5_makes 117 = .ok (.getfield 158, 3) := by decide +kernel
theorem dX5_makes_120 : decode cX5_makes 120 = .ok (.baload, 1) := by decide +kernel
theorem dX5_makes_121 : decode cX5_makes 121 = .ok (.ifCond .ne 14, 3) := by decide +kernel
theorem dX5_makes_124 : decode cX5_makes 124 = .ok (.iload 4, 2) := by decide +kernel
theorem dX5_makes_126 : decode cX5_makes 126 = .ok (.ifCond .gt 9, 3) := by decide +kernel
theorem dX5_makes_129 : decode cX5_makes 129 = .ok (.iload 5, 2) := by decide +kernel
theorem dX5_makes_131 : decode cX5_makes 131 = .ok (.iconst 1, 1) := by decide +kernel
theorem dX5_makes_132 : decode cX5_makes 132 = .ok (.if_icmp .le 7, 3) := by decide +kernel
theorem dX5_makes_135 : decode cX5_makes 135 = .ok (.iconst 1, 1) := by decide +kernel
theorem dX5_makes_136 : decode cX5_makes 136 = .ok (.goto 4, 3) := by decide +kernel
theorem dX5_makes_139 : decode cX5_makes 139 = .ok (.iconst 0, 1) := by decide +kernel
theorem dX5_makes_140 : decode cX5_makes 140 = .ok (.bastore, 1) := by decide +kernel
theorem dX5_makes_141 : decode cX5_makes 141 = .ok (.aload_n 0, 1) := by decide +kernel
theorem dX5_makes_142 : decode cX5_makes 142 = .ok (.getfield 64, 3) := by decide +kernel
theorem dX5_makes_145 : decode cX5_makes 145 = .ok (.aload_n 0, 1) := by decide +kernel
theorem dX5_makes_146 : decode cX5_makes 146 = .ok (.getfield 158, 3) := by decide +kernel
theorem dX5_makes_149 : decode cX5_makes 149 = .ok (.iload 5, 2) := by decide +kernel
theorem dX5_makes_151 : decode cX5_makes 151 = .ok (.iload 4, 2) := by decide +kernel
theorem dX5_makes_153 : decode cX5_makes 153 = .ok (.ifCond .ne 23, 3) := by decide +kernel
theorem dX5_makes_156 : decode cX5_makes 156 = .ok (.aload_n 0, 1) := by decide +kernel
theorem dX5_makes_157 : decode cX5_makes 157 = .ok (.getfield 33, 3) := by decide +kernel
theorem dX5_makes_160 : decode cX5_makes 160 = .ok (.bipush 12, 2) := by decide +kernel
theorem dX5_makes_162 : decode cX5_makes 162 = .ok (.iload_n 3, 1) := by decide +kernel
theorem dX5_makes_163 : decode cX5_makes 163 = .ok (.imul, 1) := by decide +kernel
theorem dX5_makes_164 : decode cX5_makes 164 = .ok (.iaload, 1) := by decide +kernel
theorem dX5_makes_165 : decode cX5_makes 165 = .ok (.iload_n 1, 1) := by decide +kernel
theorem dX5_makes_166 : decode cX5_makes 166 = .ok (.if_icmp .eq 10, 3) := by decide +kernel
theorem dX5_makes_169 : decode cX5_makes 169 = .ok (.aload_n 0, 1) := by decide +kernel
theorem dX5_makes_170 : decode cX5_makes 170 = .ok (.getfield 16, 3) := by decide +kernel
theorem dX5_makes_173 : decode cX5_makes 173 = .ok (.goto 4, 3) := by decide +kernel
theorem dX5_makes_176 : decode cX5_makes 176 = .ok (.iconst 0, 1) := by decide +kernel
theorem dX5_makes_177 : decode cX5_makes 177 = .ok (.iadd, 1) := by decide +kernel
theorem dX5_makes_178 : decode cX5_makes 178 = .ok (.iastore, 1) := by decide +kernel
theorem dX5_makes_179 : decode cX5_makes 179 = .ok (.aload_n 0, 1) := by decide +kernel
theorem dX5_makes_180 : decode cX5_makes 180 = .ok (.dup, 1) := by decide +kernel
theorem dX5_makes_181 : decode cX5_makes 181 = .ok (.getfield 158, 3) := by decide +kernel
theorem dX5_makes_184 : decode cX5_makes 184 = .ok (.iconst 1, 1) := by decide +kernel
theorem dX5_makes_185 : decode cX5_makes 185 = .ok (.iadd, 1) := by decide +kernel
theorem dX5_makes_186 : decode cX5_makes 186 = .ok (.putfield 158, 3) := by decide +kernel
theorem dX5_makes_189 : decode cX5_makes 189 = .ok (.iinc 4 1, 3) := by decide +kernel
theorem dX5_makes_192 : decode cX5_makes 192 = .ok (.goto (-161), 3) := by decide +kernel
theorem dX5_makes_195 : decode cX5_makes 195 = .ok (.aload_n 0, 1) := by decide +kernel
theorem dX5_makes_196 : decode cX5_makes 196 = .ok (.getfield 33, 3) := by decide +kernel
theorem dX5_makes_199 : decode cX5_makes 199 = .ok (.bipush 12, 2) := by decide +kernel
theorem dX5_makes_201 : decode cX5_makes 201 = .ok (.iload_n 3, 1) := by decide +kernel
theorem dX5_makes_202 : decode cX5_makes 202 = .ok (.imul, 1) := by decide +kernel
theorem dX5_makes_203 : decode cX5_makes 203 = .ok (.iaload, 1) := by decide +kernel
theorem dX5_makes_204 : decode cX5_makes 204 = .ok (.istore_n 1, 1) := by decide +kernel
theorem dX5_makes_205 : decode cX5_makes 205 = .ok (.iinc 2 1, 3) := by decide +kernel
theorem dX5_makes_208 : decode cX5_makes 208 = .ok (.goto (-195), 3) := by decide +kernel
theorem dX5_makes_211 : decode cX5_makes 211 = .ok (.return_, 1) := by decide +kernel
end
section
theorem dX5_best_0 : decode cX5_best 0 = .ok (.iconst 4, 1) := by decide +kernel
theorem dX5_best_1 : decode cX5_best 1 = .ok (.iload_n 1, 1) := by decide +kernel
theorem dX5_best_2 : decode cX5_best 2 = .ok (.imul, 1) := by decide +kernel
theorem dX5_best_3 : decode cX5_best 3 = .ok (.iload_n 2, 1) := by decide +kernel
theorem dX5_best_4 : decode cX5_best 4 = .ok (.iadd, 1) := by decide +kernel
theorem dX5_best_5 : decode cX5_best 5 = .ok (.istore_n 3, 1) := by decide +kernel
theorem dX5_best_6 : decode cX5_best 6 = .ok (.aload_n 0, 1) := by decide +kernel
theorem dX5_best_7 : decode cX5_best 7 = .ok (.getfield 73, 3) := by decide +kernel
theorem dX5_best_10 : decode cX5_best 10 = .ok (.iload_n 3, 1) := by decide +kernel
theorem dX5_best_11 : decode cX5_best 11 = .ok (.ldc2_w 161, 3) := by decide +kernel
theorem dX5_best_14 : decode cX5_best 14 = .ok (.lastore, 1) := by decide +kernel
theorem dX5_best_15 : decode cX5_best 15 = .ok (.iconst 0, 1) := by decide +kernel
theorem dX5_best_16 : decode cX5_best 16 = .ok (.istore 4, 2) := by decide +kernel
theorem dX5_best_18 : decode cX5_best 18 = .ok (.iload_n 1, 1) := by decide +kernel
theorem dX5_best_19 : decode cX5_best 19 = .ok (.iconst 1, 1) := by decide +kernel
theorem dX5_best_20 : decode cX5_best 20 = .ok (.iadd, 1) := by decide +kernel
theorem dX5_best_21 : decode cX5_best 21 = .ok (.istore 5, 2) := by decide +kernel
theorem dX5_best_23 : decode cX5_best 23 = .ok (.iload 5, 2) := by decide +kernel
theorem dX5_best_25 : decode cX5_best 25 = .ok (.aload_n 0, 1) := by decide +kernel
theorem dX5_best_26 : decode cX5_best 26 = .ok (.getfield 158, 3) := by decide +kernel
theorem dX5_best_29 : decode cX5_best 29 = .ok (.if_icmp .gt 234, 3) := by decide +kernel
theorem dX5_best_32 : decode cX5_best 32 = .ok (.iload 4, 2) := by decide +kernel
theorem dX5_best_34 : decode cX5_best 34 = .ok (.aload_n 0, 1) := by decide +kernel
theorem dX5_best_35 : decode cX5_best 35 = .ok (.getfield 64, 3) := by decide +kernel
theorem dX5_best_38 : decode cX5_best 38 = .ok (.iload 5, 2) := by decide +kernel
theorem dX5_best_40 : decode cX5_best 40 = .ok (.iconst 1, 1) := by decide +kernel
theorem dX5_best_41 : decode cX5_best 41 = .ok (.isub, 1) := by decide +kernel
theorem dX5_best_42 : decode cX5_best 42 = .ok (.iaload, 1) := by decide +kernel
theorem dX5_best_43 : decode cX5_best 43 = .ok (.iadd, 1) := by decide +kernel
theorem dX5_best_44 : decode cX5_best 44 = .ok (.istore 4, 2) := by decide +kernel
theorem dX5_best_46 : decode cX5_best 46 = .ok (.iload 4, 2) := by decide +kernel
theorem dX5_best_48 : decode cX5_best 48 = .ok (.aload_n 0, 1) := by decide +kernel
theorem dX5_best_49 : decode cX5_best 49 = .ok (.getfield 7, 3) := by decide +kernel
theorem dX5_best_52 : decode cX5_best 52 = .ok (.if_icmp .le 4, 3) := by decide +kernel
theorem dX5_best_55 : decode cX5_best 55 = .ok (.return_, 1) := by decide +kernel
theorem dX5_best_56 : decode cX5_best 56 = .ok (.iload 5, 2) := by decide +kernel
theorem dX5_best_58 : decode cX5_best 58 = .ok (.aload_n 0, 1) := by decide +kernel
theorem dX5_best_59 : decode cX5_best 59 = .ok (.getfield 158, 3) := by decide +kernel
theorem dX5_best_62 : decode cX5_best 62 = .ok (.if_icmp .ge 18, 3) := by decide +kernel
theorem dX5_best_65 : decode cX5_best 65 = .ok (.aload_n 0, 1) := by decide +kernel
theorem dX5_best_66 : decode cX5_best 66 = .ok (.getfield 67, 3) := by decide +kernel
theorem dX5_best_69 : decode cX5_best 69 = .ok (.iload 5, 2) := by decide +kernel
theorem dX5_best_71 : decode cX5_best 71 = .ok (.iconst 1, 1) := by decide +kernel
theorem dX5_best_72 : decode cX5_best 72 = .ok (.isub, 1) := by decide +kernel
theorem dX5_best_73 : decode cX5_best 73 = .ok (.baload, 1) := by decide +kernel
theorem dX5_best_74 : decode cX5_best 74 = .ok (.ifCond .ne 6, 3) := by decide +kernel
theorem dX5_best_77 : decode cX5_best 77 = .ok (.goto 180, 3) := by decide +kernel
theorem dX5_best_80 : decode cX5_best 80 = .ok (.lconst 0, 1) := by decide +kernel
theorem dX5_best_81 : decode cX5_best 81 = .ok (.lstore 6, 2) := by decide +kernel
theorem dX5_best_83 : decode cX5_best 83 = .ok (.iconst 1, 1) := by decide +kernel
theorem dX5_best_84 : decode cX5_best 84 = .ok (.istore 8, 2) := by decide +kernel
theorem dX5_best_86 : decode cX5_best 86 = .ok (.iload 5, 2) := by decide +kernel
theorem dX5_best_88 : decode cX5_best 88 = .ok (.aload_n 0, 1) := by decide +kernel
theorem dX5_best_89 : decode cX5_best 89 = .ok (.getfield 158, 3) := by decide +kernel
theorem dX5_best_92 : decode cX5_best 92 = .ok (.if_icmp .ge 94, 3) := by decide +kernel
theorem dX5_best_95 : decode cX5_best 95 = .ok (.iconst 4, 1) := by decide +kernel
theorem dX5_best_96 : decode cX5_best 96 = .ok (.iload 5, 2) := by decide +kernel
theorem dX5_best_98 : decode cX5_best 98 = .ok (.imul, 1) := by decide +kernel
theorem dX5_best_99 : decode cX5_best 99 = .ok (.iload_n 2, 1) := by decide +kernel
theorem dX5_best_100 : decode cX5_best 100 = .ok (.iconst 1, 1) := by decide +kernel
theorem dX5_best_101 : decode cX5_best 101 = .ok (.iadd, 1) := by decide +kernel
theorem dX5_best_102 : decode cX5_best 102 = .ok (.aload_n 0, 1) := by decide +kernel
theorem dX5_best_103 : decode cX5_best 103 = .ok (.getfield 13, 3) := by decide +kernel
theorem dX5_best_106 : decode cX5_best 106 = .ok (.irem, 1) := by decide +kernel
theorem dX5_best_107 : decode cX5_best 107 = .ok (.iadd, 1) := by decide +kernel
theorem dX5_best_108 : decode cX5_best 108 = .ok (.istore 9, 2) := by decide +kernel
theorem dX5_best_110 : decode cX5_best 110 = .ok (.aload_n 0, 1) := by decide +kernel
theorem dX5_best_111 : decode cX5_best 111 = .ok (.getfield 7, 3) := by decide +kernel
theorem dX5_best_114 : decode cX5_best 114 = .ok (.iload 4, 2) := by decide +kernel
theorem dX5_best_116 : decode cX5_best 116 = .ok (.isub, 1) := by decide +kernel
theorem dX5_best_117 : decode cX5_best 117 = .ok (.istore 10, 2) := by decide +kernel
theorem dX5_best_119 : decode cX5_best 119 = .ok (.iload 10, 2) := by decide +kernel
theorem dX5_best_121 : decode cX5_best 121 = .ok (.iload 10, 2) := by decide +kernel
theorem dX5_best_123 : decode cX5_best 123 = .ok (.imul, 1) := by decide +kernel
theorem dX5_best_124 : decode cX5_best 124 = .ok (.aload_n 0, 1) := by decide +kernel
theorem dX5_best_125 : decode cX5_best 125 = .ok (.getfield 70, 3) := by decide +kernel
theorem dX5_best_128 : decode cX5_best 128 = .ok (.iload 5, 2) := by decide +kernel
theorem dX5_best_130 : decode cX5_best 130 = .ok (.iconst 1, 1) := by decide +kernel
theorem dX5_best_131 : decode cX5_best 131 = .ok (.isub, 1) := by decide +kernel
theorem dX5_best_132 : decode cX5_best 132 = .ok (.baload, 1) := by decide +kernel
theorem dX5_best_133 : decode cX5_best 133 = .ok (.ifCond .eq 7, 3) := by decide +kernel
theorem dX5_best_136 : decode cX5_best 136 = .ok (.iconst 0, 1) := by decide +kernel
theorem dX5_best_137 : decode cX5_best 137 = .ok (.goto 26, 3) := by decide +kernel
theorem dX5_best_140 : decode cX5_best 140 = .ok (.aload_n 0, 1) := by decide +kernel
theorem dX5_best_141 : decode cX5_best 141 = .ok (.getfield 19, 3) := by decide +kernel
theorem dX5_best_144 : decode cX5_best 144 = .ok (.iload_n 2, 1) := by decide +kernel
theorem dX5_best_145 : decode cX5_best 145 = .ok (.aload_n 0, 1) := by decide +kernel
theorem dX5_best_146 : decode cX5_best 146 = .ok (.getfield 13, 3) := by decide +kernel
theorem dX5_best_149 : decode cX5_best 149 = .ok (.iconst 1, 1) := by decide +kernel
theorem dX5_best_150 : decode cX5_best 150 = .ok (.isub, 1) := by decide +kernel
theorem dX5_best_151 : decode cX5_best 151 = .ok (.if_icmp .ne 10, 3) := by decide +kernel
theorem dX5_best_154 : decode cX5_best 154 = .ok (.aload_n 0, 1) := by decide +kernel
theorem dX5_best_155 : decode cX5_best 155 = .ok (.getfield 22, 3) := by decide +kernel
theorem dX5_best_158 : decode cX5_best 158 = .ok (.goto 4, 3) := by decide +kernel
theorem dX5_best_161 : decode cX5_best 161 = .ok (.iconst 0, 1) := by decide +kernel
theorem dX5_best_162 : decode cX5_best 162 = .ok (.iadd, 1) := by decide +kernel
theorem dX5_best_163 : decode cX5_best 163 = .ok (.iadd, 1) := by decide +kernel
theorem dX5_best_164 : decode cX5_best 164 = .ok (.i2l, 1) := by decide +kernel
theorem dX5_best_165 : decode cX5_best 165 = .ok (.aload_n 0, 1) := by decide +kernel
theorem dX5_best_166 : decode cX5_best 166 = .ok (.getfield 73, 3) := by decide +kernel
theorem dX5_best_169 : decode cX5_best 169 = .ok (.iload 9, 2) := by decide +kernel
theorem dX5_best_171 : decode cX5_best 171 = .ok (.laload, 1) := by decide +kernel
theorem dX5_best_172 : decode cX5_best 172 = .ok (.ladd, 1) := by decide +kernel
theorem dX5_best_173 : decode cX5_best 173 = .ok (.lstore 6, 2) := by decide +kernel
theorem dX5_best_175 : decode cX5_best 175 = .ok (.iconst 1, 1) := by decide +kernel
theorem dX5_best_176 : decode cX5_best 176 = .ok (.aload_n 0, 1) := by decide +kernel
theorem dX5_best_177 : decode cX5_best 177 = .ok (.getfield 77, 3) := by decide +kernel
theorem dX5_best_180 : decode cX5_best 180 = .ok (.iload 9, 2) := by decide +kernel
theorem dX5_best_182 : decode cX5_best 182 = .ok (.iaload, 1) := by decide +kernel
theorem dX5_best_183 : decode cX5_best 183 = .ok (.iadd, 1) := by decide +kernel
theorem dX5_best_184 : decode cX5_best 184 = .ok (.istore 8, 2) := by decide +kernel
theorem dX5_best_186 : decode cX5_best 186 = .ok (.lload 6, 2) := by decide +kernel
theorem dX5_best_188 : decode cX5_best 188 = .ok (.ldc2_w 161, 3) := by decide +kernel
theorem dX5_best_191 : decode cX5_best 191 = .ok (.lcmp, 1) := by decide +kernel
theorem dX5_best_192 : decode cX5_best 192 = .ok (.ifCond .ge 65, 3) := by decide +kernel
theorem dX5_best_195 : decode cX5_best 195 = .ok (.lload 6, 2) := by decide +kernel
theorem dX5_best_197 : decode cX5_best 197 = .ok (.aload_n 0, 1) := by decide +kernel
theorem dX5_best_198 : decode cX5_best 198 = .ok (.getfield 73, 3) := by decide +kernel
theorem dX5_best_201 : decode cX5_best 201 = .ok (.iload_n 3, 1) := by decide +kernel
theorem dX5_best_202 : decode cX5_best 202 = .ok (.laload, 1) := by decide +kernel
theorem dX5_best_203 : decode cX5_best 203 = .ok (.lcmp, 1) := by decide +kernel
theorem dX5_best_204 : decode cX5_best 204 = .ok (.ifCond .gt 53, 3) := by decide +kernel
theorem dX5_best_207 : decode cX5_best 207 = .ok (.lload 6, 2) := by decide +kernel
theorem dX5_best_209 : decode cX5_best 209 = .ok (.aload_n 0, 1) := by decide +kernel
theorem dX5_best_210 : decode cX5_best 210 = .ok (.getfield 73, 3) := by decide +kernel
theorem dX5_best_213 : decode cX5_best 213 = .ok (.iload_n 3, 1) := by decide +kernel
theorem dX5_best_214 : decode cX5_best 214 = .ok (.laload, 1) := by decide +kernel
theorem dX5_best_215 : decode cX5_best 215 = .ok (.lcmp, 1) := by decide +kernel
theorem dX5_best_216 : decode cX5_best 216 = .ok (.ifCond .ne 17, 3) := by decide +kernel
theorem dX5_best_219 : decode cX5_best 219 = .ok (.iload 8, 2) := by decide +kernel
theorem dX5_best_221 : decode cX5_best 221 = .ok (.aload_n 0, 1) := by decide +kernel
theorem dX5_best_222 : decode cX5_best 222 = .ok (.getfield 77, 3) := by decide +kernel
theorem dX5_best_225 : decode cX5_best 225 = .ok (.iload_n 3, 1) := by decide +kernel
theorem dX5_best_226 : decode cX5_best 226 = .ok (.iaload, 1) := by decide +kernel
theorem dX5_best_227 : decode cX5_best 227 = .ok (.if_icmp .le 6, 3) := by decide +kernel
theorem dX5_best_230 : decode cX5_best 230 = .ok (.goto 27, 3) := by decide +kernel
theorem dX5_best_233 : decode cX5_best 233 = .ok (.aload_n 0, 1) := by decide +kernel
theorem dX5_best_234 : decode cX5_best 234 = .ok (.getfield 73, 3) := by decide +kernel
theorem dX5_best_237 : decode cX5_best 237 = .ok (.iload_n 3, 1) := by decide +kernel
theorem dX5_best_238 : decode cX5_best 238 = .ok (.lload 6, 2) := by decide +kernel
theorem dX5_best_240 : decode cX5_best 240 = .ok (.lastore, 1) := by decide +kernel
theorem dX5_best_241 : decode cX5_best 241 = .ok (.aload_n 0, 1) := by decide +kernel
theorem dX5_best_242 : decode cX5_best 242 = .ok (.getfield 77, 3) := by decide +kernel
theorem dX5_best_245 : decode cX5_best 245 = .ok (.iload_n 3, 1) := by decide +kernel
theorem dX5_best_246 : decode cX5_best 246 = .ok (.iload 8, 2) := by decide +kernel
theorem dX5_best_248 : decode cX5_best 248 = .ok (.iastore, 1) := by decide +kernel
theorem dX5_best_249 : decode cX5_best 249 = .ok (.aload_n 0, 1) := by decide +kernel
theorem dX5_best_250 : decode cX5_best 250 = .ok (.getfield 80, 3) := by decide +kernel
theorem dX5_best_253 : decode cX5_best 253 = .ok (.iload_n 3, 1) := by decide +kernel
theorem dX5_best_254 : decode cX5_best 254 = .ok (.iload 5, 2) := by decide +kernel
theorem dX5_best_256 : decode cX5_best 256 = .ok (.iastore, 1) := by decide +kernel
theorem dX5_best_257 : decode cX5_best 257 = .ok (.iinc 5 1, 3) := by decide +kernel
theorem dX5_best_260 : decode cX5_best 260 = .ok (.goto (-237), 3) := by decide +kernel
theorem dX5_best_263 : decode cX5_best 263 = .ok (.return_, 1) := by decide +kernel
set_option maxRecDepth 20000 in
theorem ggX5_set__X5_makes : GoodIn wsX5_set_ wsX5_makes := goodIn_r _ [29, 2, 30, 31, 32, 33, 21, 22, 34, 35, 20, 36, 37, 38, 39, 40, 28, 41, 42, 43, 44, 45, 46, 59, 60, 61, 62, 63, 64, 65, 66, 67, 68, 69, 70, 71, 72, 73, 74, 75, 76, 77, 78, 79, 80, 81, 82, 83, 84, 85, 86, 87, 88, 89, 90, 91, 92, 93, 94, 95, 96, 97, 98, 99, 100, 101, 102, 103, 104] (by decide +kernel) (by decide +kernel)
set_option maxRecDepth 20000 in
theorem gX5_set__X5_makes : GoodIn wsX5_set_ (wsV RX5 163 RX5 yX5_makes wsX5_makes) := goodIn_app (goodIn_of _ (by decide +kernel)) ggX5_set__X5_makes
set_option maxRecDepth 20000 in
theorem ggX5_set__X5_best : GoodIn wsX5_set_ wsX5_best := goodIn_r _ [50, 4, 5, 2, 20, 51, 35, 3, 34, 52, 53, 54, 19, 59, 60, 61, 62, 63, 64, 65, 66, 67, 68, 69, 70, 71, 72, 73, 74, 75, 76, 77, 78, 79, 80, 81, 82, 83, 84, 85, 86, 87, 88, 89, 90, 91, 92, 93, 94, 95, 96, 97, 98, 99, 100, 101, 102, 103, 104] (by decide +kernel) (by decide +kernel)
set_option maxRecDepth 20000 in
theorem gX5_set__X5_best : GoodIn wsX5_set_ (wsV RX5 166 RX5 yX5_best wsX5_best) := goodIn_app (goodIn_of _ (by decide +kernel)) ggX5_set__X5_best
set_option maxRecDepth 20000 in
theorem ggX5_set__X5_isAlike : GoodIn wsX5_set_ wsX5_isAlike := goodIn_r _ [58, 15, 16, 11, 14, 13, 12, 8, 7, 10, 9, 59, 60, 61, 62, 63, 64, 65, 66, 67, 68, 69, 70, 71, 72, 73, 74, 75, 76, 77, 78, 79, 80, 81, 82, 83, 84, 85, 86, 87, 88, 89, 90, 91, 92, 93, 94, 95, 96, 97, 98, 99, 100, 101, 102, 103, 104] (by decide +kernel) (by decide +kernel)
set_option maxRecDepth 20000 in
theorem gX5_set__X5_isAlike : GoodIn wsX5_set_ (wsV RX5 188 RX5 yX5_isAlike wsX5_isAlike) := goodIn_app (goodIn_of _ (by decide +kernel)) ggX5_set__X5_isAlike
theorem dX5_set__0 : decode cX5_set_ 0 = .ok (.aload_n 0, 1) := by decide +kernel
theorem dX5_set__1 : decode cX5_set_ 1 = .ok (.iconst 0, 1) := by decide +kernel
theorem dX5_set__2 : decode cX5_set_ 2 = .ok (.putfield 116, 3) := by decide +kernel
theorem dX5_set__5 : decode cX5_set_ 5 = .ok (.aload_n 0, 1) := by decide +kernel
theorem dX5_set__6 : decode cX5_set_ 6 = .ok (.invokevirtual 163, 3) := by decide +kernel
theorem dX5_set__9 : decode cX5_set_ 9 = .ok (.aload_n 0, 1) := by decide +kernel
theorem dX5_set__10 : decode cX5_set_ 10 = .ok (.getfield 158, 3) := by decide +kernel
theorem dX5_set__13 : decode cX5_set_ 13 = .ok (.ifCond .ne 5, 3) := by decide +kernel
theorem dX5_set__16 : decode cX5_set_ 16 = .ok (.iconst (-1), 1) := by decide +kernel
theorem dX5_set__17 : decode cX5_set_ 17 = .ok (.ireturn, 1) := by decide +kernel
theorem dX5_set__18 : decode cX5_set_ 18 = .ok (.aload_n 0, 1) := by decide +kernel
theorem dX5_set__19 : decode cX5_set_ 19 = .ok (.getfield 158, 3) := by decide +kernel
theorem dX5_set__22 : decode cX5_set_ 22 = .ok (.iconst 1, 1) := by decide +kernel
theorem dX5_set__23 : decode cX5_set_ 23 = .ok (.isub, 1) := by decide +kernel
theorem dX5_set__24 : decode cX5_set_ 24 = .ok (.istore_n 1, 1) := by decide +kernel
theorem dX5_set__25 : decode cX5_set_ 25 = .ok (.iload_n 1, 1) := by decide +kernel
theorem dX5_set__26 : decode cX5_set_ 26 = .ok (.ifCond .lt 31, 3) := by decide +kernel
theorem dX5_set__29 : decode cX5_set_ 29 = .ok (.iconst 0, 1) := by decide +kernel
theorem dX5_set__30 : decode cX5_set_ 30 = .ok (.istore_n 2, 1) := by decide +kernel
theorem dX5_set__31 : decode cX5_set_ 31 = .ok (.iload_n 2, 1) := by decide +kernel
theorem dX5_set__32 : decode cX5_set_ 32 = .ok (.aload_n 0, 1) := by decide +kernel
theorem dX5_set__33 : decode cX5_set_ 33 = .ok (.getfield 13, 3) := by decide +kernel
theorem dX5_set__36 : decode cX5_set_ 36 = .ok (.if_icmp .ge 15, 3) := by decide +kernel
theorem dX5_set__39 : decode cX5_set_ 39 = .ok (.aload_n 0, 1) := by decide +kernel
theorem dX5_set__40 : decode cX5_set_ 40 = .ok (.iload_n 1, 1) := by decide +kernel
theorem dX5_set__41 : decode cX5_set_ 41 = .ok (.iload_n 2, 1) := by decide +kernel
theorem dX5_set__42 : decode cX5_set_ 42 = .ok (.invokevirtual 166, 3) := by decide +kernel
theorem dX5_set__45 : decode cX5_set_ 45 = .ok (.iinc 2 1, 3) := by decide +kernel
theorem dX5_set__48 : decode cX5_set_ 48 = .ok (.goto (-17), 3) := by decide +kernel
theorem dX5_set__51 : decode cX5_set_ 51 = .ok (.iinc 1 (-1), 3) := by decide +kernel
theorem dX5_set__54 : decode cX5_set_ 54 = .ok (.goto (-29), 3) := by decide +kernel
theorem dX5_set__57 : decode cX5_set_ 57 = .ok (.aload_n 0, 1) := by decide +kernel
theorem dX5_set__58 : decode cX5_set_ 58 = .ok (.getfield 73, 3) := by decide +kernel
theorem dX5_set__61 : decode cX5_set_ 61 = .ok (.iconst 0, 1) := by decide +kernel
theorem dX5_set__62 : decode cX5_set_ 62 = .ok (.laload, 1) := by decide +kernel
theorem dX5_set__63 : decode cX5_set_ 63 = .ok (.ldc2_w 161, 3) := by decide +kernel
theorem dX5_set__66 : decode cX5_set_ 66 = .ok (.lcmp, 1) := by decide +kernel
theorem dX5_set__67 : decode cX5_set_ 67 = .ok (.ifCond .lt 5, 3) := by decide +kernel
theorem dX5_set__70 : decode cX5_set_ 70 = .ok (.iconst (-1), 1) := by decide +kernel
theorem dX5_set__71 : decode cX5_set_ 71 = .ok (.ireturn, 1) := by decide +kernel
theorem dX5_set__72 : decode cX5_set_ 72 = .ok (.iconst 0, 1) := by decide +kernel
theorem dX5_set__73 : decode cX5_set_ 73 = .ok (.istore_n 1, 1) := by decide +kernel
theorem dX5_set__74 : decode cX5_set_ 74 = .ok (.iload_n 1, 1) := by decide +kernel
theorem dX5_set__75 : decode cX5_set_ 75 = .ok (.aload_n 0, 1) := by decide +kernel
theorem dX5_set__76 : decode cX5_set_ 76 = .ok (.getfield 170, 3) := by decide +kernel
theorem dX5_set__79 : decode cX5_set_ 79 = .ok (.if_icmp .ge 33, 3) := by decide +kernel
theorem dX5_set__82 : decode cX5_set_ 82 = .ok (.aload_n 0, 1) := by decide +kernel
theorem dX5_set__83 : decode cX5_set_ 83 = .ok (.getfield 98, 3) := by decide +kernel
theorem dX5_set__86 : decode cX5_set_ 86 = .ok (.iload_n 1, 1) := by decide +kernel
theorem dX5_set__87 : decode cX5_set_ 87 = .ok (.aload_n 0, 1) := by decide +kernel
theorem dX5_set__88 : decode cX5_set_ 88 = .ok (.getfield 86, 3) := by decide +kernel
theorem dX5_set__91 : decode cX5_set_ 91 = .ok (.iload_n 1, 1) := by decide +kernel
theorem dX5_set__92 : decode cX5_set_ 92 = .ok (.iaload, 1) := by decide +kernel
theorem dX5_set__93 : decode cX5_set_ 93 = .ok (.iastore, 1) := by decide +kernel
theorem dX5_set__94 : decode cX5_set_ 94 = .ok (.aload_n 0, 1) := by decide +kernel
theorem dX5_set__95 : decode cX5_set_ 95 = .ok (.getfield 101, 3) := by decide +kernel
theorem dX5_set__98 : decode cX5_set_ 98 = .ok (.iload_n 1, 1) := by decide +kernel
theorem dX5_set__99 : decode cX5_set_ 99 = .ok (.aload_n 0, 1) := by decide +kernel
theorem dX5_set__100 : decode cX5_set_ 100 = .ok (.getfield 89, 3) := by decide +kernel
theorem dX5_set__103 : decode cX5_set_ 103 = .ok (.iload_n 1, 1) := by decide +kernel
theorem dX5_set__104 : decode cX5_set_ 104 = .ok (.iaload, 1) := by decide +kernel
theorem dX5_set__105 : decode cX5_set_ 105 = .ok (.iastore, 1) := by decide +kernel
theorem dX5_set__106 : decode cX5_set_ 106 = .ok (.iinc 1 1, 3) := by decide +kernel
theorem dX5_set__109 : decode cX5_set_ 109 = .ok (.goto (-35), 3) := by decide +kernel
theorem dX5_set__112 : decode cX5_set_ 112 = .ok (.iconst 0, 1) := by decide +kernel
theorem dX5_set__113 : decode cX5_set_ 113 = .ok (.istore_n 1, 1) := by decide +kernel
theorem dX5_set__114 : decode cX5_set_ 114 = .ok (.iload_n 1, 1) := by decide +kernel
theorem dX5_set__115 : decode cX5_set_ 115 = .ok (.aload_n 0, 1) := by decide +kernel
theorem dX5_set__116 : decode cX5_set_ 116 = .ok (.getfield 173, 3) := by decide +kernel
theorem dX5_set__119 : decode cX5_set_ 119 = .ok (.if_icmp .gt 21, 3) := by decide +kernel
theorem dX5_set__122 : decode cX5_set_ 122 = .ok (.aload_n 0, 1) := by decide +kernel
theorem dX5_set__123 : decode cX5_set_ 123 = .ok (.getfield 104, 3) := by decide +kernel
theorem dX5_set__126 : decode cX5_set_ 126 = .ok (.iload_n 1, 1) := by decide +kernel
theorem dX5_set__127 : decode cX5_set_ 127 = .ok (.aload_n 0, 1) := by decide +kernel
theorem dX5_set__128 : decode cX5_set_ 128 = .ok (.getfield 92, 3) := by decide +kernel
theorem dX5_set__131 : decode cX5_set_ 131 = .ok (.iload_n 1, 1) := by decide +kernel
theorem dX5_set__132 : decode cX5_set_ 132 = .ok (.iaload, 1) := by decide +kernel
theorem dX5_set__133 : decode cX5_set_ 133 = .ok (.iastore, 1) := by decide +kernel
theorem dX5_set__134 : decode cX5_set_ 134 = .ok (.iinc 1 1, 3) := by decide +kernel
theorem dX5_set__137 : decode cX5_set_ 137 = .ok (.goto (-23), 3) := by decide +kernel
theorem dX5_set__140 : decode cX5_set_ 140 = .ok (.aload_n 0, 1) := by decide +kernel
theorem dX5_set__141 : decode cX5_set_ 141 = .ok (.aload_n 0, 1) := by decide +kernel
theorem dX5_set__142 : decode cX5_set_ 142 = .ok (.getfield 173, 3) := by decide +kernel
theorem dX5_set__145 : decode cX5_set_ 145 = .ok (.putfield 176, 3) := by decide +kernel
theorem dX5_set__148 : decode cX5_set_ 148 = .ok (.aload_n 0, 1) := by decide +kernel
theorem dX5_set__149 : decode cX5_set_ 149 = .ok (.aload_n 0, 1) := by decide +kernel
theorem dX5_set__150 : decode cX5_set_ 150 = .ok (.getfield 83, 3) := by decide +kernel
theorem dX5_set__153 : decode cX5_set_ 153 = .ok (.putfield 107, 3) := by decide +kernel
theorem dX5_set__156 : decode cX5_set_ 156 = .ok (.aload_n 0, 1) := by decide +kernel
theorem dX5_set__157 : decode cX5_set_ 157 = .ok (.aload_n 0, 1) := by decide +kernel
theorem dX5_set__158 : decode cX5_set_ 158 = .ok (.getfield 73, 3) := by decide +kernel
theorem dX5_set__161 : decode cX5_set_ 161 = .ok (.iconst 0, 1) := by decide +kernel
theorem dX5_set__162 : decode cX5_set_ 162 = .ok (.laload, 1) := by decide +kernel
theorem dX5_set__163 : decode cX5_set_ 163 = .ok (.l2i, 1) := by decide +kernel
theorem dX5_set__164 : decode cX5_set_ 164 = .ok (.putfield 179, 3) := by decide +kernel
theorem dX5_set__167 : decode cX5_set_ 167 = .ok (.aload_n 0, 1) := by decide +kernel
theorem dX5_set__168 : decode cX5_set_ 168 = .ok (.aload_n 0, 1) := by decide +kernel
theorem dX5_set__169 : decode cX5_set_ 169 = .ok (.getfield 158, 3) := by decide +kernel
theorem dX5_set__172 : decode cX5_set_ 172 = .ok (.putfield 170, 3) := by decide +kernel
theorem dX5_set__175 : decode cX5_set_ 175 = .ok (.aload_n 0, 1) := by decide +kernel
theorem dX5_set__176 : decode cX5_set_ 176 = .ok (.aload_n 0, 1) := by decide +kernel
theorem dX5_set__177 : decode cX5_set_ 177 = .ok (.getfield 13, 3) := by decide +kernel
theorem dX5_set__180 : decode cX5_set_ 180 = .ok (.putfield 83, 3) := by decide +kernel
theorem dX5_set__183 : decode cX5_set_ 183 = .ok (.aload_n 0, 1) := by decide +kernel
theorem dX5_set__184 : decode cX5_set_ 184 = .ok (.iconst 0, 1) := by decide +kernel
theorem dX5_set__185 : decode cX5_set_ 185 = .ok (.putfield 173, 3) := by decide +kernel
theorem dX5_set__188 : decode cX5_set_ 188 = .ok (.iconst 0, 1) := by decide +kernel
theorem dX5_set__189 : decode cX5_set_ 189 = .ok (.istore_n 1, 1) := by decide +kernel
theorem dX5_set__190 : decode cX5_set_ 190 = .ok (.iload_n 1, 1) := by decide +kernel
theorem dX5_set__191 : decode cX5_set_ 191 = .ok (.aload_n 0, 1) := by decide +kernel
theorem dX5_set__192 : decode cX5_set_ 192 = .ok (.getfield 158, 3) := by decide +kernel
theorem dX5_set__195 : decode cX5_set_ 195 = .ok (.if_icmp .ge 105, 3) := by decide +kernel
theorem dX5_set__198 : decode cX5_set_ 198 = .ok (.aload_n 0, 1) := by decide +kernel
theorem dX5_set__199 : decode cX5_set_ 199 = .ok (.getfield 92, 3) := by decide +kernel
theorem dX5_set__202 : decode cX5_set_ 202 = .ok (.aload_n 0, 1) := by decide +kernel
theorem dX5_set__203 : decode cX5_set_ 203 = .ok (.getfield 173, 3) := by decide +kernel
theorem dX5_set__206 : decode cX5_set_ 206 = .ok (.iload_n 1, 1) := by decide +kernel
theorem dX5_set__207 : decode cX5_set_ 207 = .ok (.iastore, 1) := by decide +kernel
theorem dX5_set__208 : decode cX5_set_ 208 = .ok (.aload_n 0, 1) := by decide +kernel
theorem dX5_set__209 : decode cX5_set_ 209 = .ok (.getfield 95, 3) := by decide +kernel
theorem dX5_set__212 : decode cX5_set_ 212 = .ok (.aload_n 0, 1) := by decide +kernel
theorem dX5_set__213 : decode cX5_set_ 213 = .ok (.getfield 173, 3) := by decide +kernel
theorem dX5_set__216 : decode cX5_set_ 216 = .ok (.iconst 0, 1) := by decide +kernel
theorem dX5_set__217 : decode cX5_set_ 217 = .ok (.iastore, 1) := by decide +kernel
theorem dX5_set__218 : decode cX5_set_ 218 = .ok (.iload_n 1, 1) := by decide +kernel
theorem dX5_set__219 : decode cX5_set_ 219 = .ok (.istore_n 2, 1) := by decide +kernel
theorem dX5_set__220 : decode cX5_set_ 220 = .ok (.iload_n 2, 1) := by decide +kernel
theorem dX5_set__221 : decode cX5_set_ 221 = .ok (.aload_n 0, 1) := by decide +kernel
theorem dX5_set__222 : decode cX5_set_ 222 = .ok (.getfield 80, 3) := by decide +kernel
theorem dX5_set__225 : decode cX5_set_ 225 = .ok (.iconst 4, 1) := by decide +kernel
theorem dX5_set__226 : decode cX5_set_ 226 = .ok (.iload_n 1, 1) := by decide +kernel
theorem dX5_set__227 : decode cX5_set_ 227 = .ok (.imul, 1) := by decide +kernel
theorem dX5_set__228 : decode cX5_set_ 228 = .ok (.aload_n 0, 1) := by decide +kernel
theorem dX5_set__229 : decode cX5_set_ 229 = .ok (.getfield 173, 3) := by decide +kernel
theorem dX5_set__232 : decode cX5_set_ 232 = .ok (.aload_n 0, 1) := by decide +kernel
theorem dX5_set__233 : decode cX5_set_ 233 = .ok (.getfield 13, 3) := by decide +kernel
theorem dX5_set__236 : decode cX5_set_ 236 = .ok (.irem, 1) := by decide +kernel
theorem dX5_set__237 : decode cX5_set_ 237 = .ok (.iadd, 1) := by decide +kernel
theorem dX5_set__238 : decode cX5_set_ 238 = .ok (.iaload, 1) := by decide +kernel
theorem dX5_set__239 : decode cX5_set_ 239 = .ok (.if_icmp .ge 27, 3) := by decide +kernel
theorem dX5_set__242 : decode cX5_set_ 242 = .ok (.aload_n 0, 1) := by decide +kernel
theorem dX5_set__243 : decode cX5_set_ 243 = .ok (.getfield 95, 3) := by decide +kernel
theorem dX5_set__246 : decode cX5_set_ 246 = .ok (.aload_n 0, 1) := by decide +kernel
theorem dX5_set__247 : decode cX5_set_ 247 = .ok (.getfield 173, 3) := by decide +kernel
theorem dX5_set__250 : decode cX5_set_ 250 = .ok (.dup2, 1) := by decide +kernel
theorem dX5_set__251 : decode cX5_set_ 251 = .ok (.iaload, 1) := by decide +kernel
theorem dX5_set__252 : decode cX5_set_ 252 = .ok (.aload_n 0, 1) := by decide +kernel
theorem dX5_set__253 : decode cX5_set_ 253 = .ok (.getfield 64, 3) := by decide +kernel
theorem dX5_set__256 : decode cX5_set_ 256 = .ok (.iload_n 2, 1) := by decide +kernel
theorem dX5_set__257 : decode cX5_set_ 257 = .ok (.iaload, 1) := by decide +kernel
theorem dX5_set__258 : decode cX5_set_ 258 = .ok (.iadd, 1) := by decide +kernel
theorem dX5_set__259 : decode cX5_set_ 259 = .ok (.iastore, 1) := by decide +kernel
theorem dX5_set__260 : decode cX5_set_ 260 = .ok (.iinc 2 1, 3) := by decide +kernel
theorem dX5_set__263 : decode cX5_set_ 263 = .ok (.goto (-43), 3) := by decide +kernel
theorem dX5_set__266 : decode cX5_set_ 266 = .ok (.aload_n 0, 1) := by decide +kernel
theorem dX5_set__267 : decode cX5_set_ 267 = .ok (.dup, 1) := by decide +kernel
theorem dX5_set__268 : decode cX5_set_ 268 = .ok (.getfield 173, 3) := by decide +kernel
theorem dX5_set__271 : decode cX5_set_ 271 = .ok (.iconst 1, 1) := by decide +kernel
theorem dX5_set__272 : decode cX5_set_ 272 = .ok (.iadd, 1) := by decide +kernel
theorem dX5_set__273 : decode cX5_set_ 273 = .ok (.putfield 173, 3) := by decide +kernel
theorem dX5_set__276 : decode cX5_set_ 276 = .ok (.aload_n 0, 1) := by decide +kernel
theorem dX5_set__277 : decode cX5_set_ 277 = .ok (.getfield 80, 3) := by decide +kernel
theorem dX5_set__280 : decode cX5_set_ 280 = .ok (.iconst 4, 1) := by decide +kernel
theorem dX5_set__281 : decode cX5_set_ 281 = .ok (.iload_n 1, 1) := by decide +kernel
theorem dX5_set__282 : decode cX5_set_ 282 = .ok (.imul, 1) := by decide +kernel
theorem dX5_set__283 : decode cX5_set_ 283 = .ok (.aload_n 0, 1) := by decide +kernel
theorem dX5_set__284 : decode cX5_set_ 284 = .ok (.getfield 173, 3) := by decide +kernel
theorem dX5_set__287 : decode cX5_set_ 287 = .ok (.iconst 1, 1) := by decide +kernel
theorem dX5_set__288 : decode cX5_set_ 288 = .ok (.isub, 1) := by decide +kernel
theorem dX5_set__289 : decode cX5_set_ 289 = .ok (.aload_n 0, 1) := by decide +kernel
theorem dX5_set__290 : decode cX5_set_ 290 = .ok (.getfield 13, 3) := by decide +kernel
theorem dX5_set__293 : decode cX5_set_ 293 = .ok (.irem, 1) := by decide +kernel
theorem dX5_set__294 : decode cX5_set_ 294 = .ok (.iadd, 1) := by decide +kernel
theorem dX5_set__295 : decode cX5_set_ 295 = .ok (.iaload, 1) := by decide +kernel
theorem dX5_set__296 : decode cX5_set_ 296 = .ok (.istore_n 1, 1) := by decide +kernel
theorem dX5_set__297 : decode cX5_set_ 297 = .ok (.goto (-107), 3) := by decide +kernel
theorem dX5_set__300 : decode cX5_set_ 300 = .ok (.aload_n 0, 1) := by decide +kernel
theorem dX5_set__301 : decode cX5_set_ 301 = .ok (.getfield 92, 3) := by decide +kernel
theorem dX5_set__304 : decode cX5_set_ 304 = .ok (.aload_n 0, 1) := by decide +kernel
theorem dX5_set__305 : decode cX5_set_ 305 = .ok (.getfield 173, 3) := by decide +kernel
theorem dX5_set__308 : decode cX5_set_ 308 = .ok (.aload_n 0, 1) := by decide +kernel
theorem dX5_set__309 : decode cX5_set_ 309 = .ok (.getfield 158, 3) := by decide +kernel
theorem dX5_set__312 : decode cX5_set_ 312 = .ok (.iastore, 1) := by decide +kernel
theorem dX5_set__313 : decode cX5_set_ 313 = .ok (.iconst 0, 1) := by decide +kernel
theorem dX5_set__314 : decode cX5_set_ 314 = .ok (.istore_n 1, 1) := by decide +kernel
theorem dX5_set__315 : decode cX5_set_ 315 = .ok (.iload_n 1, 1) := by decide +kernel
theorem dX5_set__316 : decode cX5_set_ 316 = .ok (.aload_n 0, 1) := by decide +kernel
theorem dX5_set__317 : decode cX5_set_ 317 = .ok (.getfield 158, 3) := by decide +kernel
theorem dX5_set__320 : decode cX5_set_ 320 = .ok (.if_icmp .ge 33, 3) := by decide +kernel
theorem dX5_set__323 : decode cX5_set_ 323 = .ok (.aload_n 0, 1) := by decide +kernel
theorem dX5_set__324 : decode cX5_set_ 324 = .ok (.getfield 86, 3) := by decide +kernel
theorem dX5_set__327 : decode cX5_set_ 327 = .ok (.iload_n 1, 1) := by decide +kernel
theorem dX5_set__328 : decode cX5_set_ 328 = .ok (.aload_n 0, 1) := by decide +kernel
theorem dX5_set__329 : decode cX5_set_ 329 = .ok (.getfield 58, 3) := by decide +kernel
theorem dX5_set__332 : decode cX5_set_ 332 = .ok (.iload_n 1, 1) := by decide +kernel
theorem dX5_set__333 : decode cX5_set_ 333 = .ok (.iaload, 1) := by decide +kernel
theorem dX5_set__334 : decode cX5_set_ 334 = .ok (.iastore, 1) := by decide +kernel
theorem dX5_set__335 : decode cX5_set_ 335 = .ok (.aload_n 0, 1) := by decide +kernel
theorem dX5_set__336 : decode cX5_set_ 336 = .ok (.getfield 89, 3) := by decide +kernel
theorem dX5_set__339 : decode cX5_set_ 339 = .ok (.iload_n 1, 1) := by decide +kernel
theorem dX5_set__340 : decode cX5_set_ 340 = .ok (.aload_n 0, 1) := by decide +kernel
theorem dX5_set__341 : decode cX5_set_ 341 = .ok (.getfield 61, 3) := by decide +kernel
theorem dX5_set__344 : decode cX5_set_ 344 = .ok (.iload_n 1, 1) := by decide +kernel
theorem dX5_set__345 : decode cX5_set_ 345 = .ok (.iaload, 1) := by decide +kernel
theorem dX5_set__346 : decode cX5_set_ 346 = .ok (.iastore, 1) := by decide +kernel
theorem dX5_set__347 : decode cX5_set_ 347 = .ok (.iinc 1 1, 3) := by decide +kernel
theorem dX5_set__350 : decode cX5_set_ 350 = .ok (.goto (-35), 3) := by decide +kernel
theorem dX5_set__353 : decode cX5_set_ 353 = .ok (.aload_n 0, 1) := by decide +kernel
theorem dX5_set__354 : decode cX5_set_ 354 = .ok (.aload_n 0, 1) := by decide +kernel
theorem dX5_set__355 : decode cX5_set_ 355 = .ok (.getfield 173, 3) := by decide +kernel
theorem dX5_set__358 : decode cX5_set_ 358 = .ok (.aload_n 0, 1) := by decide +kernel
theorem dX5_set__359 : decode cX5_set_ 359 = .ok (.getfield 13, 3) := by decide +kernel
theorem dX5_set__362 : decode cX5_set_ 362 = .ok (.iadd, 1) := by decide +kernel
theorem dX5_set__363 : decode cX5_set_ 363 = .ok (.iconst 1, 1) := by decide +kernel
theorem dX5_set__364 : decode cX5_set_ 364 = .ok (.isub, 1) := by decide +kernel
theorem dX5_set__365 : decode cX5_set_ 365 = .ok (.aload_n 0, 1) := by decide +kernel
theorem dX5_set__366 : decode cX5_set_ 366 = .ok (.getfield 13, 3) := by decide +kernel
theorem dX5_set__369 : decode cX5_set_ 369 = .ok (.idiv, 1) := by decide +kernel
theorem dX5_set__370 : decode cX5_set_ 370 = .ok (.putfield 182, 3) := by decide +kernel
theorem dX5_set__373 : decode cX5_set_ 373 = .ok (.aload_n 0, 1) := by decide +kernel
theorem dX5_set__374 : decode cX5_set_ 374 = .ok (.getfield 176, 3) := by decide +kernel
theorem dX5_set__377 : decode cX5_set_ 377 = .ok (.aload_n 0, 1) := by decide +kernel
theorem dX5_set__378 : decode cX5_set_ 378 = .ok (.getfield 107, 3) := by decide +kernel
theorem dX5_set__381 : decode cX5_set_ 381 = .ok (.iadd, 1) := by decide +kernel
theorem dX5_set__382 : decode cX5_set_ 382 = .ok (.iconst 1, 1) := by decide +kernel
theorem dX5_set__383 : decode cX5_set_ 383 = .ok (.isub, 1) := by decide +kernel
theorem dX5_set__384 : decode cX5_set_ 384 = .ok (.aload_n 0, 1) := by decide +kernel
theorem dX5_set__385 : decode cX5_set_ 385 = .ok (.getfield 107, 3) := by decide +kernel
theorem dX5_set__388 : decode cX5_set_ 388 = .ok (.idiv, 1) := by decide +kernel
theorem dX5_set__389 : decode cX5_set_ 389 = .ok (.istore_n 1, 1) := by decide +kernel
theorem dX5_set__390 : decode cX5_set_ 390 = .ok (.aload_n 0, 1) := by decide +kernel
theorem dX5_set__391 : decode cX5_set_ 391 = .ok (.iconst 0, 1) := by decide +kernel
theorem dX5_set__392 : decode cX5_set_ 392 = .ok (.putfield 185, 3) := by decide +kernel
theorem dX5_set__395 : decode cX5_set_ 395 = .ok (.iconst 0, 1) := by decide +kernel
theorem dX5_set__396 : decode cX5_set_ 396 = .ok (.istore_n 2, 1) := by decide +kernel
theorem dX5_set__397 : decode cX5_set_ 397 = .ok (.iload_n 2, 1) := by decide +kernel
theorem dX5_set__398 : decode cX5_set_ 398 = .ok (.aload_n 0, 1) := by decide +kernel
theorem dX5_set__399 : decode cX5_set_ 399 = .ok (.getfield 182, 3) := by decide +kernel
theorem dX5_set__402 : decode cX5_set_ 402 = .ok (.if_icmp .lt 8, 3) := by decide +kernel
theorem dX5_set__405 : decode cX5_set_ 405 = .ok (.iload_n 2, 1) := by decide +kernel
theorem dX5_set__406 : decode cX5_set_ 406 = .ok (.iload_n 1, 1) := by decide +kernel
theorem dX5_set__407 : decode cX5_set_ 407 = .ok (.if_icmp .ge 44, 3) := by decide +kernel
theorem dX5_set__410 : decode cX5_set_ 410 = .ok (.aload_n 0, 1) := by decide +kernel
theorem dX5_set__411 : decode cX5_set_ 411 = .ok (.dup, 1) := by decide +kernel
theorem dX5_set__412 : decode cX5_set_ 412 = .ok (.getfield 185, 3) := by decide +kernel
theorem dX5_set__415 : decode cX5_set_ 415 = .ok (.iload_n 2, 1) := by decide +kernel
theorem dX5_set__416 : decode cX5_set_ 416 = .ok (.aload_n 0, 1) := by decide +kernel
theorem dX5_set__417 : decode cX5_set_ 417 = .ok (.getfield 182, 3) := by decide +kernel
theorem dX5_set__420 : decode cX5_set_ 420 = .ok (.if_icmp .ge 20, 3) := by decide +kernel
theorem dX5_set__423 : decode cX5_set_ 423 = .ok (.iload_n 2, 1) := by decide +kernel
theorem dX5_set__424 : decode cX5_set_ 424 = .ok (.iload_n 1, 1) := by decide +kernel
theorem dX5_set__425 : decode cX5_set_ 425 = .ok (.if_icmp .ge 15, 3) := by decide +kernel
theorem dX5_set__428 : decode cX5_set_ 428 = .ok (.aload_n 0, 1) := by decide +kernel
theorem dX5_set__429 : decode cX5_set_ 429 = .ok (.iload_n 2, 1) := by decide +kernel
theorem dX5_set__430 : decode cX5_set_ 430 = .ok (.invokevirtual 188, 3) := by decide +kernel
theorem dX5_set__433 : decode cX5_set_ 433 = .ok (.ifCond .eq 7, 3) := by decide +kernel
theorem dX5_set__436 : decode cX5_set_ 436 = .ok (.iconst 0, 1) := by decide +kernel
theorem dX5_set__437 : decode cX5_set_ 437 = .ok (.goto 4, 3) := by decide +kernel
theorem dX5_set__440 : decode cX5_set_ 440 = .ok (.iconst 1, 1) := by decide +kernel
theorem dX5_set__441 : decode cX5_set_ 441 = .ok (.iadd, 1) := by decide +kernel
theorem dX5_set__442 : decode cX5_set_ 442 = .ok (.putfield 185, 3) := by decide +kernel
theorem dX5_set__445 : decode cX5_set_ 445 = .ok (.iinc 2 1, 3) := by decide +kernel
theorem dX5_set__448 : decode cX5_set_ 448 = .ok (.goto (-51), 3) := by decide +kernel
theorem dX5_set__451 : decode cX5_set_ 451 = .ok (.aload_n 0, 1) := by decide +kernel
theorem dX5_set__452 : decode cX5_set_ 452 = .ok (.getfield 179, 3) := by decide +kernel
theorem dX5_set__455 : decode cX5_set_ 455 = .ok (.ireturn, 1) := by decide +kernel
theorem dX5_isAlike_0 : decode cX5_isAlike 0 = .ok (.iload_n 1, 1) := by decide +kernel
theorem dX5_isAlike_1 : decode cX5_isAlike 1 = .ok (.aload_n 0, 1) := by decide +kernel
theorem dX5_isAlike_2 : decode cX5_isAlike 2 = .ok (.getfield 83, 3) := by decide +kernel
theorem dX5_isAlike_5 : decode cX5_isAlike 5 = .ok (.imul, 1) := by decide +kernel
theorem dX5_isAlike_6 : decode cX5_isAlike 6 = .ok (.istore_n 2, 1) := by decide +kernel
theorem dX5_isAlike_7 : decode cX5_isAlike 7 = .ok (.iload_n 1, 1) := by decide +kernel
theorem dX5_isAlike_8 : decode cX5_isAlike 8 = .ok (.aload_n 0, 1) := by decide +kernel
theorem dX5_isAlike_9 : decode cX5_isAlike 9 = .ok (.getfield 107, 3) := by decide +kernel
theorem dX5_isAlike_12 : decode cX5_isAlike 12 = .ok (.imul, 1) := by decide +kernel
theorem dX5_isAlike_13 : decode cX5_isAlike 13 = .ok (.istore_n 3, 1) := by decide +kernel
theorem dX5_isAlike_14 : decode cX5_isAlike 14 = .ok (.aload_n 0, 1) := by decide +kernel
theorem dX5_isAlike_15 : decode cX5_isAlike 15 = .ok (.getfield 173, 3) := by decide +kernel
theorem dX5_isAlike_18 : decode cX5_isAlike 18 = .ok (.iload_n 2, 1) := by decide +kernel
theorem dX5_isAlike_19 : decode cX5_isAlike 19 = .ok (.isub, 1) := by decide +kernel
theorem dX5_isAlike_20 : decode cX5_isAlike 20 = .ok (.aload_n 0, 1) := by decide +kernel
theorem dX5_isAlike_21 : decode cX5_isAlike 21 = .ok (.getfield 83, 3) := by decide +kernel
theorem dX5_isAlike_24 : decode cX5_isAlike 24 = .ok (.if_icmp .ge 12, 3) := by decide +kernel
theorem dX5_isAlike_27 : decode cX5_isAlike 27 = .ok (.aload_n 0, 1) := by decide +kernel
theorem dX5_isAlike_28 : decode cX5_isAlike 28 = .ok (.getfield 173, 3) := by decide +kernel
theorem dX5_isAlike_31 : decode cX5_isAlike 31 = .ok (.iload_n 2, 1) := by decide +kernel
theorem dX5_isAlike_32 : decode cX5_isAlike 32 = .ok (.isub, 1) := by decide +kernel
theorem dX5_isAlike_33 : decode cX5_isAlike 33 = .ok (.goto 7, 3) := by decide +kernel
theorem dX5_isAlike_36 : decode cX5_isAlike 36 = .ok (.aload_n 0, 1) := by decide +kernel
theorem dX5_isAlike_37 : decode cX5_isAlike 37 = .ok (.getfield 83, 3) := by decide +kernel
theorem dX5_isAlike_40 : decode cX5_isAlike 40 = .ok (.istore 4, 2) := by decide +kernel
theorem dX5_isAlike_42 : decode cX5_isAlike 42 = .ok (.aload_n 0, 1) := by decide +kernel
theorem dX5_isAlike_43 : decode cX5_isAlike 43 = .ok (.getfield 176, 3) := by decide +kernel
theorem dX5_isAlike_46 : decode cX5_isAlike 46 = .ok (.iload_n 3, 1) := by decide +kernel
theorem dX5_isAlike_47 : decode cX5_isAlike 47 = .ok (.isub, 1) := by decide +kernel
theorem dX5_isAlike_48 : decode cX5_isAlike 48 = .ok (.aload_n 0, 1) := by decide +kernel
theorem dX5_isAlike_49 : decode cX5_isAlike 49 = .ok (.getfield 107, 3) := by decide +kernel
theorem dX5_isAlike_52 : decode cX5_isAlike 52 = .ok (.if_icmp .ge 12, 3) := by decide +kernel
theorem dX5_isAlike_55 : decode cX5_isAlike 55 = .ok (.aload_n 0, 1) := by decide +kernel
theorem dX5_isAlike_56 : decode cX5_isAlike 56 = .ok (.getfield 176, 3) := by decide +kernel
theorem dX5_isAlike_59 : decode cX5_isAlike 59 = .ok (.iload_n 3, 1) := by decide +kernel
theorem dX5_isAlike_60 : decode cX5_isAlike 60 = .ok (.isub, 1) := by decide +kernel
theorem dX5_isAlike_61 : decode cX5_isAlike 61 = .ok (.goto 7, 3) := by decide +kernel
theorem dX5_isAlike_64 : decode cX5_isAlike 64 = .ok (.aload_n 0, 1) := by decide +kernel
theorem dX5_isAlike_65 : decode cX5_isAlike 65 = .ok (.getfield 107, 3) := by decide +kernel
theorem dX5_isAlike_68 : decode cX5_isAlike 68 = .ok (.istore 5, 2) := by decide +kernel
theorem dX5_isAlike_70 : decode cX5_isAlike 70 = .ok (.iload 4, 2) := by decide +kernel
theorem dX5_isAlike_72 : decode cX5_isAlike 72 = .ok (.iload 5, 2) := by decide +kernel
theorem dX5_isAlike_74 : decode cX5_isAlike 74 = .ok (.if_icmp .eq 5, 3) := by decide +kernel
theorem dX5_isAlike_77 : decode cX5_isAlike 77 = .ok (.iconst 0, 1) := by decide +kernel
theorem dX5_isAlike_78 : decode cX5_isAlike 78 = .ok (.ireturn, 1) := by decide +kernel
theorem dX5_isAlike_79 : decode cX5_isAlike 79 = .ok (.iconst 0, 1) := by decide +kernel
theorem dX5_isAlike_80 : decode cX5_isAlike 80 = .ok (.istore 6, 2) := by decide +kernel
theorem dX5_isAlike_82 : decode cX5_isAlike 82 = .ok (.iload 6, 2) := by decide +kernel
theorem dX5_isAlike_84 : decode cX5_isAlike 84 = .ok (.iload 4, 2) := by decide +kernel
theorem dX5_isAlike_86 : decode cX5_isAlike 86 = .ok (.if_icmp .ge 132, 3) := by decide +kernel
theorem dX5_isAlike_89 : decode cX5_isAlike 89 = .ok (.aload_n 0, 1) := by decide +kernel
theorem dX5_isAlike_90 : decode cX5_isAlike 90 = .ok (.getfield 92, 3) := by decide +kernel
theorem dX5_isAlike_93 : decode cX5_isAlike 93 = .ok (.iload_n 2, 1) := by decide +kernel
theorem dX5_isAlike_94 : decode cX5_isAlike 94 = .ok (.iload 6, 2) := by decide +kernel
theorem dX5_isAlike_96 : decode cX5_isAlike 96 = .ok (.iadd, 1) := by decide +kernel
theorem dX5_isAlike_97 : decode cX5_isAlike 97 = .ok (.iaload, 1) := by decide +kernel
theorem dX5_isAlike_98 : decode cX5_isAlike 98 = .ok (.istore 7, 2) := by decide +kernel
theorem dX5_isAlike_100 : decode cX5_isAlike 100 = .ok (.aload_n 0, 1) := by decide +kernel
theorem dX5_isAlike_101 : decode cX5_isAlike 101 = .ok (.getfield 104, 3) := by decide +kernel
theorem dX5_isAlike_104 : decode cX5_isAlike 104 = .ok (.iload_n 3, 1) := by decide +kernel
theorem dX5_isAlike_105 : decode cX5_isAlike 105 = .ok (.iload 6, 2) := by decide +kernel
theorem dX5_isAlike_107 : decode cX5_isAlike 107 = .ok (.iadd, 1) := by decide +kernel
theorem dX5_isAlike_108 : decode cX5_isAlike 108 = .ok (.iaload, 1) := by decide +kernel
theorem dX5_isAlike_109 : decode cX5_isAlike 109 = .ok (.istore 8, 2) := by decide +kernel
theorem dX5_isAlike_111 : decode cX5_isAlike 111 = .ok (.aload_n 0, 1) := by decide +kernel
theorem dX5_isAlike_112 : decode cX5_isAlike 112 = .ok (.getfield 92, 3) := by decide +kernel
theorem dX5_isAlike_115 : decode cX5_isAlike 115 = .ok (.iload_n 2, 1) := by decide +kernel
theorem dX5_isAlike_116 : decode cX5_isAlike 116 = .ok (.iload 6, 2) := by decide +kernel
theorem dX5_isAlike_118 : decode cX5_isAlike 118 = .ok (.iadd, 1) := by decide +kernel
theorem dX5_isAlike_119 : decode cX5_isAlike 119 = .ok (.iconst 1, 1) := by decide +kernel
theorem dX5_isAlike_120 : decode cX5_isAlike 120 = .ok (.iadd, 1) := by decide +kernel
theorem dX5_isAlike_121 : decode cX5_isAlike 121 = .ok (.iaload, 1) := by decide +kernel
theorem dX5_isAlike_122 : decode cX5_isAlike 122 = .ok (.iload 7, 2) := by decide +kernel
theorem dX5_isAlike_124 : decode cX5_isAlike 124 = .ok (.isub, 1) := by decide +kernel
theorem dX5_isAlike_125 : decode cX5_isAlike 125 = .ok (.istore 9, 2) := by decide +kernel
theorem dX5_isAlike_127 : decode cX5_isAlike 127 = .ok (.iload 9, 2) := by decide +kernel
theorem dX5_isAlike_129 : decode cX5_isAlike 129 = .ok (.aload_n 0, 1) := by decide +kernel
theorem dX5_isAlike_130 : decode cX5_isAlike 130 = .ok (.getfield 104, 3) := by decide +kernel
theorem dX5_isAlike_133 : decode cX5_isAlike 133 = .ok (.iload_n 3, 1) := by decide +kernel
theorem dX5_isAlike_134 : decode cX5_isAlike 134 = .ok (.iload 6, 2) := by decide +kernel
theorem dX5_isAlike_136 : decode cX5_isAlike 136 = .ok (.iadd, 1) := by decide +kernel
theorem dX5_isAlike_137 : decode cX5_isAlike 137 = .ok (.iconst 1, 1) := by decide +kernel
theorem dX5_isAlike_138 : decode cX5_isAlike 138 = .ok (.iadd, 1) := by decide +kernel
theorem dX5_isAlike_139 : decode cX5_isAlike 139 = .ok (.iaload, 1) := by decide +kernel
theorem dX5_isAlike_140 : decode cX5_isAlike 140 = .ok (.iload 8, 2) := by decide +kernel
theorem dX5_isAlike_142 : decode cX5_isAlike 142 = .ok (.isub, 1) := by decide +kernel
theorem dX5_isAlike_143 : decode cX5_isAlike 143 = .ok (.if_icmp .eq 5, 3) := by decide +kernel
theorem dX5_isAlike_146 : decode cX5_isAlike 146 = .ok (.iconst 0, 1) := by decide +kernel
theorem dX5_isAlike_147 : decode cX5_isAlike 147 = .ok (.ireturn, 1) := by decide +kernel
theorem dX5_isAlike_148 : decode cX5_isAlike 148 = .ok (.iconst 0, 1) := by decide +kernel
theorem dX5_isAlike_149 : decode cX5_isAlike 149 = .ok (.istore 10, 2) := by decide +kernel
theorem dX5_isAlike_151 : decode cX5_isAlike 151 = .ok (.iload 10, 2) := by decide +kernel
theorem dX5_isAlike_153 : decode cX5_isAlike 153 = .ok (.iload 9, 2) := by decide +kernel
theorem dX5_isAlike_155 : decode cX5_isAlike 155 = .ok (.if_icmp .ge 57, 3) := by decide +kernel
theorem dX5_isAlike_158 : decode cX5_isAlike 158 = .ok (.aload_n 0, 1) := by decide +kernel
theorem dX5_isAlike_159 : decode cX5_isAlike 159 = .ok (.getfield 86, 3) := by decide +kernel
theorem dX5_isAlike_162 : decode cX5_isAlike 162 = .ok (.iload 7, 2) := by decide +kernel
theorem dX5_isAlike_164 : decode cX5_isAlike 164 = .ok (.iload 10, 2) := by decide +kernel
theorem dX5_isAlike_166 : decode cX5_isAlike 166 = .ok (.iadd, 1) := by decide +kernel
theorem dX5_isAlike_167 : decode cX5_isAlike 167 = .ok (.iaload, 1) := by decide +kernel
theorem dX5_isAlike_168 : decode cX5_isAlike 168 = .ok (.aload_n 0, 1) := by decide +kernel
theorem dX5_isAlike_169 : decode cX5_isAlike 169 = .ok (.getfield 98, 3) := by decide +kernel
theorem dX5_isAlike_172 : decode cX5_isAlike 172 = .ok (.iload 8, 2) := by decide +kernel
theorem dX5_isAlike_174 : decode cX5_isAlike 174 = .ok (.iload 10, 2) := by decide +kernel
theorem dX5_isAlike_176 : decode cX5_isAlike 176 = .ok (.iadd, 1) := by decide +kernel
theorem dX5_isAlike_177 : decode cX5_isAlike 177 = .ok (.iaload, 1) := by decide +kernel
theorem dX5_isAlike_178 : decode cX5_isAlike 178 = .ok (.if_icmp .ne 26, 3) := by decide +kernel
theorem dX5_isAlike_181 : decode cX5_isAlike 181 = .ok (.aload_n 0, 1) := by decide +kernel
theorem dX5_isAlike_182 : decode cX5_isAlike 182 = .ok (.getfield 89, 3) := by decide +kernel
theorem dX5_isAlike_185 : decode cX5_isAlike 185 = .ok (.iload 7, 2) := by decide +kernel
theorem dX5_isAlike_187 : decode cX5_isAlike 187 = .ok (.iload 10, 2) := by decide +kernel
theorem dX5_isAlike_189 : decode cX5_isAlike 189 = .ok (.iadd, 1) := by decide +kernel
theorem dX5_isAlike_190 : decode cX5_isAlike 190 = .ok (.iaload, 1) := by decide +kernel
theorem dX5_isAlike_191 : decode cX5_isAlike 191 = .ok (.aload_n 0, 1) := by decide +kernel
theorem dX5_isAlike_192 : decode cX5_isAlike 192 = .ok (.getfield 101, 3) := by decide +kernel
theorem dX5_isAlike_195 : decode cX5_isAlike 195 = .ok (.iload 8, 2) := by decide +kernel
theorem dX5_isAlike_197 : decode cX5_isAlike 197 = .ok (.iload 10, 2) := by decide +kernel
theorem dX5_isAlike_199 : decode cX5_isAlike 199 = .ok (.iadd, 1) := by decide +kernel
theorem dX5_isAlike_200 : decode cX5_isAlike 200 = .ok (.iaload, 1) := by decide +kernel
theorem dX5_isAlike_201 : decode cX5_isAlike 201 = .ok (.if_icmp .eq 5, 3) := by decide +kernel
theorem dX5_isAlike_204 : decode cX5_isAlike 204 = .ok (.iconst 0, 1) := by decide +kernel
theorem dX5_isAlike_205 : decode cX5_isAlike 205 = .ok (.ireturn, 1) := by decide +kernel
theorem dX5_isAlike_206 : decode cX5_isAlike 206 = .ok (.iinc 10 1, 3) := by decide +kernel
theorem dX5_isAlike_209 : decode cX5_isAlike 209 = .ok (.goto (-58), 3) := by decide +kernel
theorem dX5_isAlike_212 : decode cX5_isAlike 212 = .ok (.iinc 6 1, 3) := by decide +kernel
theorem dX5_isAlike_215 : decode cX5_isAlike 215 = .ok (.goto (-133), 3) := by decide +kernel
theorem dX5_isAlike_218 : decode cX5_isAlike 218 = .ok (.iconst 1, 1) := by decide +kernel
theorem dX5_isAlike_219 : decode cX5_isAlike 219 = .ok (.ireturn, 1) := by decide +kernel
set_option maxRecDepth 20000 in
theorem ggX5_told_X5_bad : GoodIn wsX5_told wsX5_bad := goodIn_r _ [11, 1, 12, 13, 14, 15, 16, 17, 18, 19, 20, 21, 22, 23, 24, 25, 26, 27, 28, 29, 30, 31, 32, 33, 34, 35, 36, 37, 38, 39, 40, 41, 42, 43, 44, 45, 46, 47, 48, 49, 50, 51, 52, 53, 54, 55, 56, 57] (by decide +kernel) (by decide +kernel)
set_option maxRecDepth 20000 in
theorem gX5_told_X5_bad : GoodIn wsX5_told (wsV RX5 119 RX5 yX5_bad wsX5_bad) := goodIn_app (goodIn_of _ (by decide +kernel)) ggX5_told_X5_bad
theorem dX5_told_0 : decode cX5_told 0 = .ok (.aload_n 0, 1) := by decide +kernel
theorem dX5_told_1 : decode cX5_told 1 = .ok (.iconst 0, 1) := by decide +kernel
theorem dX5_told_2 : decode cX5_told 2 = .ok (.putfield 116, 3) := by decide +kernel
theorem dX5_told_5 : decode cX5_told 5 = .ok (.aload_n 0, 1) := by decide +kernel
theorem dX5_told_6 : decode cX5_told 6 = .ok (.iload_n 1, 1) := by decide +kernel
theorem dX5_told_7 : decode cX5_told 7 = .ok (.ifCond .lt 8, 3) := by decide +kernel
theorem dX5_told_10 : decode cX5_told 10 = .ok (.iload_n 1, 1) := by decide +kernel
theorem dX5_told_11 : decode cX5_told 11 = .ok (.iconst 4, 1) := by decide +kernel
theorem dX5_told_12 : decode cX5_told 12 = .ok (.if_icmp .le 7, 3) := by decide +kernel
theorem dX5_told_15 : decode cX5_told 15 = .ok (.iconst 1, 1) := by decide +kernel
theorem dX5_told_16 : decode cX5_told 16 = .ok (.goto 4, 3) := by decide +kernel
theorem dX5_told_19 : decode cX5_told 19 = .ok (.iconst 0, 1) := by decide +kernel
theorem dX5_told_20 : decode cX5_told 20 = .ok (.iconst 1, 1) := by decide +kernel
theorem dX5_told_21 : decode cX5_told 21 = .ok (.invokevirtual 119, 3) := by decide +kernel
theorem dX5_told_24 : decode cX5_told 24 = .ok (.ifCond .eq 5, 3) := by decide +kernel
theorem dX5_told_27 : decode cX5_told 27 = .ok (.iconst 0, 1) := by decide +kernel
theorem dX5_told_28 : decode cX5_told 28 = .ok (.ireturn, 1) := by decide +kernel
theorem dX5_told_29 : decode cX5_told 29 = .ok (.iload_n 1, 1) := by decide +kernel
theorem dX5_told_30 : decode cX5_told 30 = .ok (.ifCond .ne 10, 3) := by decide +kernel
theorem dX5_told_33 : decode cX5_told 33 = .ok (.aload_n 0, 1) := by decide +kernel
theorem dX5_told_34 : decode cX5_told 34 = .ok (.getfield 179, 3) := by decide +kernel
theorem dX5_told_37 : decode cX5_told 37 = .ok (.goto 43, 3) := by decide +kernel
theorem dX5_told_40 : decode cX5_told 40 = .ok (.iload_n 1, 1) := by decide +kernel
theorem dX5_told_41 : decode cX5_told 41 = .ok (.iconst 1, 1) := by decide +kernel
theorem dX5_told_42 : decode cX5_told 42 = .ok (.if_icmp .ne 10, 3) := by decide +kernel
theorem dX5_told_45 : decode cX5_told 45 = .ok (.aload_n 0, 1) := by decide +kernel
theorem dX5_told_46 : decode cX5_told 46 = .ok (.getfield 182, 3) := by decide +kernel
theorem dX5_told_49 : decode cX5_told 49 = .ok (.goto 31, 3) := by decide +kernel
theorem dX5_told_52 : decode cX5_told 52 = .ok (.iload_n 1, 1) := by decide +kernel
theorem dX5_told_53 : decode cX5_told 53 = .ok (.iconst 2, 1) := by decide +kernel
theorem dX5_told_54 : decode cX5_told 54 = .ok (.if_icmp .ne 10, 3) := by decide +kernel
theorem dX5_told_57 : decode cX5_told 57 = .ok (.aload_n 0, 1) := by decide +kernel
theorem dX5_told_58 : decode cX5_told 58 = .ok (.getfield 173, 3) := by decide +kernel
theorem dX5_told_61 : decode cX5_told 61 = .ok (.goto 19, 3) := by decide +kernel
theorem dX5_told_64 : decode cX5_told 64 = .ok (.iload_n 1, 1) := by decide +kernel
theorem dX5_told_65 : decode cX5_told 65 = .ok (.iconst 3, 1) := by decide +kernel
theorem dX5_told_66 : decode cX5_told 66 = .ok (.if_icmp .ne 10, 3) := by decide +kernel
theorem dX5_told_69 : decode cX5_told 69 = .ok (.aload_n 0, 1) := by decide +kernel
theorem dX5_told_70 : decode cX5_told 70 = .ok (.getfield 170, 3) := by decide +kernel
theorem dX5_told_73 : decode cX5_told 73 = .ok (.goto 7, 3) := by decide +kernel
theorem dX5_told_76 : decode cX5_told 76 = .ok (.aload_n 0, 1) := by decide +kernel
theorem dX5_told_77 : decode cX5_told 77 = .ok (.getfield 185, 3) := by decide +kernel
theorem dX5_told_80 : decode cX5_told 80 = .ok (.ireturn, 1) := by decide +kernel
set_option maxRecDepth 20000 in
theorem ggX5_column_X5_bad : GoodIn wsX5_column wsX5_bad := goodIn_r _ [11, 1, 12, 13, 14, 15, 16, 17, 18, 19, 20, 21, 22, 23, 24, 25, 26, 27, 28, 29, 30, 31, 32, 33, 34, 35, 36, 37, 38, 39, 40, 41, 42, 43, 44, 45, 46, 47, 48, 49, 50, 51, 52, 53, 54, 55, 56, 57] (by decide +kernel) (by decide +kernel)
set_option maxRecDepth 20000 in
theorem gX5_column_X5_bad : GoodIn wsX5_column (wsV RX5 119 RX5 yX5_bad wsX5_bad) := goodIn_app (goodIn_of _ (by decide +kernel)) ggX5_column_X5_bad
theorem dX5_column_0 : decode cX5_column 0 = .ok (.aload_n 0, 1) := by decide +kernel
theorem dX5_column_1 : decode cX5_column 1 = .ok (.iconst 0, 1) := by decide +kernel
theorem dX5_column_2 : decode cX5_column 2 = .ok (.putfield 116, 3) := by decide +kernel
theorem dX5_column_5 : decode cX5_column 5 = .ok (.aload_n 0, 1) := by decide +kernel
theorem dX5_column_6 : decode cX5_column 6 = .ok (.iload_n 1, 1) := by decide +kernel
theorem dX5_column_7 : decode cX5_column 7 = .ok (.ifCond .lt 11, 3) := by decide +kernel
theorem dX5_column_10 : decode cX5_column 10 = .ok (.iload_n 1, 1) := by decide +kernel
theorem dX5_column_11 : decode cX5_column 11 = .ok (.aload_n 0, 1) := by decide +kernel
theorem dX5_column_12 : decode cX5_column 12 = .ok (.getfield 173, 3) := by decide +kernel
theorem dX5_column_15 : decode cX5_column 15 = .ok (.if_icmp .lt 7, 3) := by decide +kernel
theorem dX5_column_18 : decode cX5_column 18 = .ok (.iconst 1, 1) := by decide +kernel
theorem dX5_column_19 : decode cX5_column 19 = .ok (.goto 4, 3) := by decide +kernel
theorem dX5_column_22 : decode cX5_column 22 = .ok (.iconst 0, 1) := by decide +kernel
theorem dX5_column_23 : decode cX5_column 23 = .ok (.iconst 1, 1) := by decide +kernel
theorem dX5_column_24 : decode cX5_column 24 = .ok (.invokevirtual 119, 3) := by decide +kernel
theorem dX5_column_27 : decode cX5_column 27 = .ok (.ifCond .ne 25, 3) := by decide +kernel
theorem dX5_column_30 : decode cX5_column 30 = .ok (.aload_n 0, 1) := by decide +kernel
theorem dX5_column_31 : decode cX5_column 31 = .ok (.iload_n 2, 1) := by decide +kernel
theorem dX5_column_32 : decode cX5_column 32 = .ok (.ifCond .lt 8, 3) := by decide +kernel
theorem dX5_column_35 : decode cX5_column 35 = .ok (.iload_n 2, 1) := by decide +kernel
theorem dX5_column_36 : decode cX5_column 36 = .ok (.iconst 3, 1) := by decide +kernel
theorem dX5_column_37 : decode cX5_column 37 = .ok (.if_icmp .le 7, 3) := by decide +kernel
theorem dX5_column_40 : decode cX5_column 40 = .ok (.iconst 1, 1) := by decide +kernel
theorem dX5_column_41 : decode cX5_column 41 = .ok (.goto 4, 3) := by decide +kernel
theorem dX5_column_44 : decode cX5_column 44 = .ok (.iconst 0, 1) := by decide +kernel
theorem dX5_column_45 : decode cX5_column 45 = .ok (.iconst 2, 1) := by decide +kernel
theorem dX5_column_46 : decode cX5_column 46 = .ok (.invokevirtual 119, 3) := by decide +kernel
theorem dX5_column_49 : decode cX5_column 49 = .ok (.ifCond .eq 5, 3) := by decide +kernel
theorem dX5_column_52 : decode cX5_column 52 = .ok (.iconst 0, 1) := by decide +kernel
theorem dX5_column_53 : decode cX5_column 53 = .ok (.ireturn, 1) := by decide +kernel
theorem dX5_column_54 : decode cX5_column 54 = .ok (.iload_n 2, 1) := by decide +kernel
theorem dX5_column_55 : decode cX5_column 55 = .ok (.ifCond .ne 17, 3) := by decide +kernel
theorem dX5_column_58 : decode cX5_column 58 = .ok (.aload_n 0, 1) := by decide +kernel
theorem dX5_column_59 : decode cX5_column 59 = .ok (.getfield 86, 3) := by decide +kernel
theorem dX5_column_62 : decode cX5_column 62 = .ok (.aload_n 0, 1) := by decide +kernel
theorem dX5_column_63 : decode cX5_column 63 = .ok (.getfield 92, 3) := by decide +kernel
theorem dX5_column_66 : decode cX5_column 66 = .ok (.iload_n 1, 1) := by decide +kernel
theorem dX5_column_67 : decode cX5_column 67 = .ok (.iaload, 1) := by decide +kernel
theorem dX5_column_68 : decode cX5_column 68 = .ok (.iaload, 1) := by decide +kernel
theorem dX5_column_69 : decode cX5_column 69 = .ok (.goto 51, 3) := by decide +kernel
theorem dX5_column_72 : decode cX5_column 72 = .ok (.iload_n 2, 1) := by decide +kernel
theorem dX5_column_73 : decode cX5_column 73 = .ok (.iconst 1, 1) := by decide +kernel
theorem dX5_column_74 : decode cX5_column 74 = .ok (.if_icmp .ne 17, 3) := by decide +kernel
theorem dX5_column_77 : decode cX5_column 77 = .ok (.aload_n 0, 1) := by decide +kernel
theorem dX5_column_78 : decode cX5_column 78 = .ok (.getfield 89, 3) := by decide +kernel
theorem dX5_column_81 : decode cX5_column 81 = .ok (.aload_n 0, 1) := by decide +kernel
theorem dX5_column_82 : decode cX5_column 82 = .ok (.getfield 92, 3) := by decide +kernel
theorem dX5_column_85 : decode cX5_column 85 = .ok (.iload_n 1, 1) := by decide +kernel
theorem dX5_column_86 : decode cX5_column 86 = .ok (.iaload, 1) := by decide +kernel
theorem dX5_column_87 : decode cX5_column 87 = .ok (.iaload, 1) := by decide +kernel
theorem dX5_column_88 : decode cX5_column 88 = .ok (.goto 32, 3) := by decide +kernel
theorem dX5_column_91 : decode cX5_column 91 = .ok (.iload_n 2, 1) := by decide +kernel
theorem dX5_column_92 : decode cX5_column 92 = .ok (.iconst 2, 1) := by decide +kernel
theorem dX5_column_93 : decode cX5_column 93 = .ok (.if_icmp .ne 21, 3) := by decide +kernel
theorem dX5_column_96 : decode cX5_column 96 = .ok (.aload_n 0, 1) := by decide +kernel
theorem dX5_column_97 : decode cX5_column 97 = .ok (.getfield 92, 3) := by decide +kernel
theorem dX5_column_100 : decode cX5_column 100 = .ok (.iload_n 1, 1) := by decide +kernel
theorem dX5_column_101 : decode cX5_column 101 = .ok (.iconst 1, 1) := by decide +kernel
theorem dX5_column_102 : decode cX5_column 102 = .ok (.iadd, 1) := by decide +kernel
theorem dX5_column_103 : decode cX5_column 103 = .ok (.iaload, 1) := by decide +kernel
theorem dX5_column_104 : decode cX5_column 104 = .ok (.aload_n 0, 1) := by decide +kernel
theorem dX5_column_105 : decode cX5_column 105 = .ok (.getfield 92, 3) := by decide +kernel
theorem dX5_column_108 : decode cX5_column 108 = .ok (.iload_n 1, 1) := by decide +kernel
theorem dX5_column_109 : decode cX5_column 109 = .ok (.iaload, 1) := by decide +kernel
theorem dX5_column_110 : decode cX5_column 110 = .ok (.isub, 1) := by decide +kernel
theorem dX5_column_111 : decode cX5_column 111 = .ok (.goto 9, 3) := by decide +kernel
theorem dX5_column_114 : decode cX5_column 114 = .ok (.aload_n 0, 1) := by decide +kernel
theorem dX5_column_115 : decode cX5_column 115 = .ok (.getfield 95, 3) := by decide +kernel
theorem dX5_column_118 : decode cX5_column 118 = .ok (.iload_n 1, 1) := by decide +kernel
theorem dX5_column_119 : decode cX5_column 119 = .ok (.iaload, 1) := by decide +kernel
theorem dX5_column_120 : decode cX5_column 120 = .ok (.ireturn, 1) := by decide +kernel
set_option maxRecDepth 20000 in
theorem ggX5_where_X5_isEntry : GoodIn wsX5_where wsX5_isEntry := goodIn_r _ [9, 10, 11, 12, 13, 14, 15, 16, 17, 18, 19, 20, 21, 22, 23, 24, 25, 26, 27, 28, 29, 30, 31, 32, 33, 34, 35, 36, 37, 38, 39, 40, 41, 42, 43, 44, 45, 46, 47, 48, 49, 50, 51, 52, 53, 54, 55, 56, 57] (by decide +kernel) (by decide +kernel)
set_option maxRecDepth 20000 in
theorem gX5_where_X5_isEntry : GoodIn wsX5_where (wsV RX5 144 RX5 yX5_isEntry wsX5_isEntry) := goodIn_app (goodIn_of _ (by decide +kernel)) ggX5_where_X5_isEntry
theorem dX5_where_0 : decode cX5_where 0 = .ok (.aload_n 0, 1) := by decide +kernel
theorem dX5_where_1 : decode cX5_where 1 = .ok (.iload_n 1, 1) := by decide +kernel
theorem dX5_where_2 : decode cX5_where 2 = .ok (.invokevirtual 144, 3) := by decide +kernel
theorem dX5_where_5 : decode cX5_where 5 = .ok (.ifCond .ne 5, 3) := by decide +kernel
theorem dX5_where_8 : decode cX5_where 8 = .ok (.iconst 0, 1) := by decide +kernel
theorem dX5_where_9 : decode cX5_where 9 = .ok (.ireturn, 1) := by decide +kernel
theorem dX5_where_10 : decode cX5_where 10 = .ok (.iconst 0, 1) := by decide +kernel
theorem dX5_where_11 : decode cX5_where 11 = .ok (.istore_n 3, 1) := by decide +kernel
theorem dX5_where_12 : decode cX5_where 12 = .ok (.iload_n 3, 1) := by decide +kernel
theorem dX5_where_13 : decode cX5_where 13 = .ok (.aload_n 0, 1) := by decide +kernel
theorem dX5_where_14 : decode cX5_where 14 = .ok (.getfield 173, 3) := by decide +kernel
theorem dX5_where_17 : decode cX5_where 17 = .ok (.if_icmp .ge 60, 3) := by decide +kernel
theorem dX5_where_20 : decode cX5_where 20 = .ok (.aload_n 0, 1) := by decide +kernel
theorem dX5_where_21 : decode cX5_where 21 = .ok (.getfield 92, 3) := by decide +kernel
theorem dX5_where_24 : decode cX5_where 24 = .ok (.iload_n 3, 1) := by decide +kernel
theorem dX5_where_25 : decode cX5_where 25 = .ok (.iaload, 1) := by decide +kernel
theorem dX5_where_26 : decode cX5_where 26 = .ok (.istore 4, 2) := by decide +kernel
theorem dX5_where_28 : decode cX5_where 28 = .ok (.iload 4, 2) := by decide +kernel
theorem dX5_where_30 : decode cX5_where 30 = .ok (.aload_n 0, 1) := by decide +kernel
theorem dX5_where_31 : decode cX5_where 31 = .ok (.getfield 92, 3) := by decide +kernel
theorem dX5_where_34 : decode cX5_where 34 = .ok (.iload_n 3, 1) := by decide +kernel
theorem dX5_where_35 : decode cX5_where 35 = .ok (.iconst 1, 1) := by decide +kernel
theorem dX5_where_36 : decode cX5_where 36 = .ok (.iadd, 1) := by decide +kernel
theorem dX5_where_37 : decode cX5_where 37 = .ok (.iaload, 1) := by decide +kernel
theorem dX5_where_38 : decode cX5_where 38 = .ok (.if_icmp .ge 33, 3) := by decide +kernel
theorem dX5_where_41 : decode cX5_where 41 = .ok (.aload_n 0, 1) := by decide +kernel
theorem dX5_where_42 : decode cX5_where 42 = .ok (.getfield 86, 3) := by decide +kernel
theorem dX5_where_45 : decode cX5_where 45 = .ok (.iload 4, 2) := by decide +kernel
theorem dX5_where_47 : decode cX5_where 47 = .ok (.iaload, 1) := by decide +kernel
theorem dX5_where_48 : decode cX5_where 48 = .ok (.iload_n 1, 1) := by decide +kernel
theorem dX5_where_49 : decode cX5_where 49 = .ok (.if_icmp .ne 16, 3) := by decide +kernel
theorem dX5_where_52 : decode cX5_where 52 = .ok (.aload_n 0, 1) := by decide +kernel
theorem dX5_where_53 : decode cX5_where 53 = .ok (.getfield 89, 3) := by decide +kernel
theorem dX5_where_56 : decode cX5_where 56 = .ok (.iload 4, 2) := by decide +kernel
theorem dX5_where_58 : decode cX5_where 58 = .ok (.iaload, 1) := by decide +kernel
theorem dX5_where_59 : decode cX5_where 59 = .ok (.iload_n 2, 1) := by decide +kernel
theorem dX5_where_60 : decode cX5_where 60 = .ok (.if_icmp .ne 5, 3) := by decide +kernel
theorem dX5_where_63 : decode cX5_where 63 = .ok (.iload_n 3, 1) := by decide +kernel
theorem dX5_where_64 : decode cX5_where 64 = .ok (.ireturn, 1) := by decide +kernel
theorem dX5_where_65 : decode cX5_where 65 = .ok (.iinc 4 1, 3) := by decide +kernel
theorem dX5_where_68 : decode cX5_where 68 = .ok (.goto (-40), 3) := by decide +kernel
theorem dX5_where_71 : decode cX5_where 71 = .ok (.iinc 3 1, 3) := by decide +kernel
theorem dX5_where_74 : decode cX5_where 74 = .ok (.goto (-62), 3) := by decide +kernel
theorem dX5_where_77 : decode cX5_where 77 = .ok (.iconst (-1), 1) := by decide +kernel
theorem dX5_where_78 : decode cX5_where 78 = .ok (.ireturn, 1) := by decide +kernel
set_option maxRecDepth 20000 in
theorem ggX5_guide_X5_bad : GoodIn wsX5_guide wsX5_bad := goodIn_r _ [13, 1, 14, 15, 16, 17, 18, 19, 20, 21, 22, 23, 24, 25, 26, 27, 28, 29, 30, 31, 32, 33, 34, 35, 36, 37, 38, 39, 40, 41, 42, 43, 44, 45, 46, 47, 48, 49, 50, 51, 52, 53, 54, 55, 56, 57, 58, 59] (by decide +kernel) (by decide +kernel)
set_option maxRecDepth 20000 in
theorem gX5_guide_X5_bad : GoodIn wsX5_guide (wsV RX5 119 RX5 yX5_bad wsX5_bad) := goodIn_app (goodIn_of _ (by decide +kernel)) ggX5_guide_X5_bad
theorem dX5_guide_0 : decode cX5_guide 0 = .ok (.aload_n 0, 1) := by decide +kernel
theorem dX5_guide_1 : decode cX5_guide 1 = .ok (.iconst 0, 1) := by decide +kernel
theorem dX5_guide_2 : decode cX5_guide 2 = .ok (.putfield 116, 3) := by decide +kernel
theorem dX5_guide_5 : decode cX5_guide 5 = .ok (.aload_n 0, 1) := by decide +kernel
theorem dX5_guide_6 : decode cX5_guide 6 = .ok (.iload_n 1, 1) := by decide +kernel
theorem dX5_guide_7 : decode cX5_guide 7 = .ok (.ifCond .lt 11, 3) := by decide +kernel
theorem dX5_guide_10 : decode cX5_guide 10 = .ok (.iload_n 1, 1) := by decide +kernel
theorem dX5_guide_11 : decode cX5_guide 11 = .ok (.aload_n 0, 1) := by decide +kernel
theorem dX5_guide_12 : decode cX5_guide 12 = .ok (.getfield 182, 3) := by decide +kernel
theorem dX5_guide_15 : decode cX5_guide 15 = .ok (.if_icmp .lt 7, 3) := by decide +kernel
theorem dX5_guide_18 : decode cX5_guide 18 = .ok (.iconst 1, 1) := by decide +kernel
theorem dX5_guide_19 : decode cX5_guide 19 = .ok (.goto 4, 3) := by decide +kernel
theorem dX5_guide_22 : decode cX5_guide 22 = .ok (.iconst 0, 1) := by decide +kernel
theorem dX5_guide_23 : decode cX5_guide 23 = .ok (.iconst 1, 1) := by decide +kernel
theorem dX5_guide_24 : decode cX5_guide 24 = .ok (.invokevirtual 119, 3) := by decide +kernel
theorem dX5_guide_27 : decode cX5_guide 27 = .ok (.ifCond .ne 25, 3) := by decide +kernel
theorem dX5_guide_30 : decode cX5_guide 30 = .ok (.aload_n 0, 1) := by decide +kernel
theorem dX5_guide_31 : decode cX5_guide 31 = .ok (.iload_n 2, 1) := by decide +kernel
theorem dX5_guide_32 : decode cX5_guide 32 = .ok (.ifCond .lt 8, 3) := by decide +kernel
theorem dX5_guide_35 : decode cX5_guide 35 = .ok (.iload_n 2, 1) := by decide +kernel
theorem dX5_guide_36 : decode cX5_guide 36 = .ok (.iconst 1, 1) := by decide +kernel
theorem dX5_guide_37 : decode cX5_guide 37 = .ok (.if_icmp .le 7, 3) := by decide +kernel
theorem dX5_guide_40 : decode cX5_guide 40 = .ok (.iconst 1, 1) := by decide +kernel
theorem dX5_guide_41 : decode cX5_guide 41 = .ok (.goto 4, 3) := by decide +kernel
theorem dX5_guide_44 : decode cX5_guide 44 = .ok (.iconst 0, 1) := by decide +kernel
theorem dX5_guide_45 : decode cX5_guide 45 = .ok (.iconst 2, 1) := by decide +kernel
theorem dX5_guide_46 : decode cX5_guide 46 = .ok (.invokevirtual 119, 3) := by decide +kernel
theorem dX5_guide_49 : decode cX5_guide 49 = .ok (.ifCond .eq 5, 3) := by decide +kernel
theorem dX5_guide_52 : decode cX5_guide 52 = .ok (.iconst 0, 1) := by decide +kernel
theorem dX5_guide_53 : decode cX5_guide 53 = .ok (.ireturn, 1) := by decide +kernel
theorem dX5_guide_54 : decode cX5_guide 54 = .ok (.aload_n 0, 1) := by decide +kernel
theorem dX5_guide_55 : decode cX5_guide 55 = .ok (.getfield 92, 3) := by decide +kernel
theorem dX5_guide_58 : decode cX5_guide 58 = .ok (.iload_n 1, 1) := by decide +kernel
theorem dX5_guide_59 : decode cX5_guide 59 = .ok (.aload_n 0, 1) := by decide +kernel
theorem dX5_guide_60 : decode cX5_guide 60 = .ok (.getfield 83, 3) := by decide +kernel
theorem dX5_guide_63 : decode cX5_guide 63 = .ok (.imul, 1) := by decide +kernel
theorem dX5_guide_64 : decode cX5_guide 64 = .ok (.iaload, 1) := by decide +kernel
theorem dX5_guide_65 : decode cX5_guide 65 = .ok (.istore_n 3, 1) := by decide +kernel
theorem dX5_guide_66 : decode cX5_guide 66 = .ok (.iload_n 1, 1) := by decide +kernel
theorem dX5_guide_67 : decode cX5_guide 67 = .ok (.iconst 1, 1) := by decide +kernel
theorem dX5_guide_68 : decode cX5_guide 68 = .ok (.iadd, 1) := by decide +kernel
theorem dX5_guide_69 : decode cX5_guide 69 = .ok (.aload_n 0, 1) := by decide +kernel
theorem dX5_guide_70 : decode cX5_guide 70 = .ok (.getfield 83, 3) := by decide +kernel
theorem dX5_guide_73 : decode cX5_guide 73 = .ok (.imul, 1) := by decide +kernel
theorem dX5_guide_74 : decode cX5_guide 74 = .ok (.aload_n 0, 1) := by decide +kernel
theorem dX5_guide_75 : decode cX5_guide 75 = .ok (.getfield 173, 3) := by decide +kernel
theorem dX5_guide_78 : decode cX5_guide 78 = .ok (.if_icmp .ge 19, 3) := by decide +kernel
theorem dX5_guide_81 : decode cX5_guide 81 = .ok (.aload_n 0, 1) := by decide +kernel
theorem dX5_guide_82 : decode cX5_guide 82 = .ok (.getfield 92, 3) := by decide +kernel
theorem dX5_guide_85 : decode cX5_guide 85 = .ok (.iload_n 1, 1) := by decide +kernel
theorem dX5_guide_86 : decode cX5_guide 86 = .ok (.iconst 1, 1) := by decide +kernel
theorem dX5_guide_87 : decode cX5_guide 87 = .ok (.iadd, 1) := by decide +kernel
theorem dX5_guide_88 : decode cX5_guide 88 = .ok (.aload_n 0, 1) := by decide +kernel
theorem dX5_guide_89 : decode cX5_guide 89 = .ok (.getfield 83, 3) := by decide +kernel
theorem dX5_guide_92 : decode cX5_guide 92 = .ok (.imul, 1) := by decide +kernel
theorem dX5_guide_93 : decode cX5_guide 93 = .ok (.iaload, 1) := by decide +kernel
theorem dX5_guide_94 : decode cX5_guide 94 = .ok (.goto 7, 3) := by decide +kernel
theorem dX5_guide_97 : decode cX5_guide 97 = .ok (.aload_n 0, 1) := by decide +kernel
theorem dX5_guide_98 : decode cX5_guide 98 = .ok (.getfield 170, 3) := by decide +kernel
theorem dX5_guide_101 : decode cX5_guide 101 = .ok (.istore 4, 2) := by decide +kernel
theorem dX5_guide_103 : decode cX5_guide 103 = .ok (.iconst (-1), 1) := by decide +kernel
theorem dX5_guide_104 : decode cX5_guide 104 = .ok (.istore 5, 2) := by decide +kernel
theorem dX5_guide_106 : decode cX5_guide 106 = .ok (.iconst (-1), 1) := by decide +kernel
theorem dX5_guide_107 : decode cX5_guide 107 = .ok (.istore 6, 2) := by decide +kernel
theorem dX5_guide_109 : decode cX5_guide 109 = .ok (.iload_n 3, 1) := by decide +kernel
theorem dX5_guide_110 : decode cX5_guide 110 = .ok (.istore 7, 2) := by decide +kernel
theorem dX5_guide_112 : decode cX5_guide 112 = .ok (.iload 7, 2) := by decide +kernel
theorem dX5_guide_114 : decode cX5_guide 114 = .ok (.iload 4, 2) := by decide +kernel
theorem dX5_guide_116 : decode cX5_guide 116 = .ok (.if_icmp .ge 50, 3) := by decide +kernel
theorem dX5_guide_119 : decode cX5_guide 119 = .ok (.aload_n 0, 1) := by decide +kernel
theorem dX5_guide_120 : decode cX5_guide 120 = .ok (.getfield 89, 3) := by decide +kernel
theorem dX5_guide_123 : decode cX5_guide 123 = .ok (.iload 7, 2) := by decide +kernel
theorem dX5_guide_125 : decode cX5_guide 125 = .ok (.iaload, 1) := by decide +kernel
theorem dX5_guide_126 : decode cX5_guide 126 = .ok (.ifCond .eq 6, 3) := by decide +kernel
theorem dX5_guide_129 : decode cX5_guide 129 = .ok (.goto 31, 3) := by decide +kernel
theorem dX5_guide_132 : decode cX5_guide 132 = .ok (.iload 5, 2) := by decide +kernel
theorem dX5_guide_134 : decode cX5_guide 134 = .ok (.ifCond .ge 13, 3) := by decide +kernel
theorem dX5_guide_137 : decode cX5_guide 137 = .ok (.aload_n 0, 1) := by decide +kernel
theorem dX5_guide_138 : decode cX5_guide 138 = .ok (.getfield 86, 3) := by decide +kernel
theorem dX5_guide_141 : decode cX5_guide 141 = .ok (.iload 7, 2) := by decide +kernel
theorem dX5_guide_143 : decode cX5_guide 143 = .ok (.iaload, 1) := by decide +kernel
theorem dX5_guide_144 : decode cX5_guide 144 = .ok (.goto 5, 3) := by decide +kernel
theorem dX5_guide_147 : decode cX5_guide 147 = .ok (.iload 5, 2) := by decide +kernel
theorem dX5_guide_149 : decode cX5_guide 149 = .ok (.istore 5, 2) := by decide +kernel
theorem dX5_guide_151 : decode cX5_guide 151 = .ok (.aload_n 0, 1) := by decide +kernel
theorem dX5_guide_152 : decode cX5_guide 152 = .ok (.getfield 86, 3) := by decide +kernel
theorem dX5_guide_155 : decode cX5_guide 155 = .ok (.iload 7, 2) := by decide +kernel
theorem dX5_guide_157 : decode cX5_guide 157 = .ok (.iaload, 1) := by decide +kernel
theorem dX5_guide_158 : decode cX5_guide 158 = .ok (.istore 6, 2) := by decide +kernel
theorem dX5_guide_160 : decode cX5_guide 160 = .ok (.iinc 7 1, 3) := by decide +kernel
theorem dX5_guide_163 : decode cX5_guide 163 = .ok (.goto (-51), 3) := by decide +kernel
theorem dX5_guide_166 : decode cX5_guide 166 = .ok (.iload 5, 2) := by decide +kernel
theorem dX5_guide_168 : decode cX5_guide 168 = .ok (.ifCond .ge 10, 3) := by decide +kernel
theorem dX5_guide_171 : decode cX5_guide 171 = .ok (.aload_n 0, 1) := by decide +kernel
theorem dX5_guide_172 : decode cX5_guide 172 = .ok (.getfield 86, 3) := by decide +kernel
theorem dX5_guide_175 : decode cX5_guide 175 = .ok (.iload_n 3, 1) := by decide +kernel
theorem dX5_guide_176 : decode cX5_guide 176 = .ok (.iaload, 1) := by decide +kernel
theorem dX5_guide_177 : decode cX5_guide 177 = .ok (.ireturn, 1) := by decide +kernel
theorem dX5_guide_178 : decode cX5_guide 178 = .ok (.iload_n 2, 1) := by decide +kernel
theorem dX5_guide_179 : decode cX5_guide 179 = .ok (.ifCond .ne 8, 3) := by decide +kernel
theorem dX5_guide_182 : decode cX5_guide 182 = .ok (.iload 5, 2) := by decide +kernel
theorem dX5_guide_184 : decode cX5_guide 184 = .ok (.goto 5, 3) := by decide +kernel
theorem dX5_guide_187 : decode cX5_guide 187 = .ok (.iload 6, 2) := by decide +kernel
theorem dX5_guide_189 : decode cX5_guide 189 = .ok (.ireturn, 1) := by decide +kernel
set_option maxRecDepth 20000 in
theorem ggX5_counts_X5_makes : GoodIn wsX5_counts wsX5_makes := goodIn_r _ [11, 3, 12, 13, 14, 15, 5, 16, 17, 18, 6, 4, 19, 20, 21, 22, 10, 23, 24, 25, 26, 27, 28, 29, 30, 31, 32, 33, 34, 35, 36, 37, 38, 39, 40, 41, 42, 43, 44, 45, 46, 47, 48, 49, 50, 51, 52, 53, 54, 55, 56, 57, 58, 59, 60, 61, 62, 63, 64, 65, 66, 67, 68, 69, 70, 71, 72, 73, 74] (by decide +kernel) (by decide +kernel)
set_option maxRecDepth 20000 in
theorem gX5_counts_X5_makes : GoodIn wsX5_counts (wsV RX5 163 RX5 yX5_makes wsX5_makes) := goodIn_app (goodIn_of _ (by decide +kernel)) ggX5_counts_X5_makes
theorem dX5_counts_0 : decode cX5_counts 0 = .ok (.aload_n 0, 1) := by decide +kernel
theorem dX5_counts_1 : decode cX5_counts 1 = .ok (.invokevirtual 163, 3) := by decide +kernel
theorem dX5_counts_4 : decode cX5_counts 4 = .ok (.iconst 0, 1) := by decide +kernel
theorem dX5_counts_5 : decode cX5_counts 5 = .ok (.istore_n 1, 1) := by decide +kernel
theorem dX5_counts_6 : decode cX5_counts 6 = .ok (.iload_n 1, 1) := by decide +kernel
theorem dX5_counts_7 : decode cX5_counts 7 = .ok (.bipush 26, 2) := by decide +kernel
theorem dX5_counts_9 : decode cX5_counts 9 = .ok (.if_icmp .ge 23, 3) := by decide +kernel
theorem dX5_counts_12 : decode cX5_counts 12 = .ok (.aload_n 0, 1) := by decide +kernel
theorem dX5_counts_13 : decode cX5_counts 13 = .ok (.getfield 110, 3) := by decide +kernel
theorem dX5_counts_16 : decode cX5_counts 16 = .ok (.iload_n 1, 1) := by decide +kernel
theorem dX5_counts_17 : decode cX5_counts 17 = .ok (.iconst 0, 1) := by decide +kernel
theorem dX5_counts_18 : decode cX5_counts 18 = .ok (.iastore, 1) := by decide +kernel
theorem dX5_counts_19 : decode cX5_counts 19 = .ok (.aload_n 0, 1) := by decide +kernel
theorem dX5_counts_20 : decode cX5_counts 20 = .ok (.getfield 113, 3) := by decide +kernel
theorem dX5_counts_23 : decode cX5_counts 23 = .ok (.iload_n 1, 1) := by decide +kernel
theorem dX5_counts_24 : decode cX5_counts 24 = .ok (.iconst 0, 1) := by decide +kernel
theorem dX5_counts_25 : decode cX5_counts 25 = .ok (.bastore, 1) := by decide +kernel
theorem dX5_counts_26 : decode cX5_counts 26 = .ok (.iinc 1 1, 3) := by decide +kernel
theorem dX5_counts_29 : decode cX5_counts 29 = .ok (.goto (-23), 3) := by decide +kernel
theorem dX5_counts_32 : decode cX5_counts 32 = .ok (.iconst 0, 1) := by decide +kernel
theorem dX5_counts_33 : decode cX5_counts 33 = .ok (.istore_n 1, 1) := by decide +kernel
theorem dX5_counts_34 : decode cX5_counts 34 = .ok (.iconst 0, 1) := by decide +kernel
theorem dX5_counts_35 : decode cX5_counts 35 = .ok (.istore_n 2, 1) := by decide +kernel
theorem dX5_counts_36 : decode cX5_counts 36 = .ok (.iload_n 2, 1) := by decide +kernel
theorem dX5_counts_37 : decode cX5_counts 37 = .ok (.aload_n 0, 1) := by decide +kernel
theorem dX5_counts_38 : decode cX5_counts 38 = .ok (.getfield 158, 3) := by decide +kernel
theorem dX5_counts_41 : decode cX5_counts 41 = .ok (.if_icmp .ge 58, 3) := by decide +kernel
theorem dX5_counts_44 : decode cX5_counts 44 = .ok (.aload_n 0, 1) := by decide +kernel
theorem dX5_counts_45 : decode cX5_counts 45 = .ok (.getfield 33, 3) := by decide +kernel
theorem dX5_counts_48 : decode cX5_counts 48 = .ok (.bipush 12, 2) := by decide +kernel
theorem dX5_counts_50 : decode cX5_counts 50 = .ok (.aload_n 0, 1) := by decide +kernel
theorem dX5_counts_51 : decode cX5_counts 51 = .ok (.getfield 58, 3) := by decide +kernel
theorem dX5_counts_54 : decode cX5_counts 54 = .ok (.iload_n 2, 1) := by decide +kernel
theorem dX5_counts_55 : decode cX5_counts 55 = .ok (.iaload, 1) := by decide +kernel
theorem dX5_counts_56 : decode cX5_counts 56 = .ok (.imul, 1) := by decide +kernel
theorem dX5_counts_57 : decode cX5_counts 57 = .ok (.iaload, 1) := by decide +kernel
theorem dX5_counts_58 : decode cX5_counts 58 = .ok (.bipush 97, 2) := by decide +kernel
theorem dX5_counts_60 : decode cX5_counts 60 = .ok (.isub, 1) := by decide +kernel
theorem dX5_counts_61 : decode cX5_counts 61 = .ok (.istore_n 3, 1) := by decide +kernel
theorem dX5_counts_62 : decode cX5_counts 62 = .ok (.aload_n 0, 1) := by decide +kernel
theorem dX5_counts_63 : decode cX5_counts 63 = .ok (.getfield 110, 3) := by decide +kernel
theorem dX5_counts_66 : decode cX5_counts 66 = .ok (.iload_n 3, 1) := by decide +kernel
theorem dX5_counts_67 : decode cX5_counts 67 = .ok (.dup2, 1) := by decide +kernel
theorem dX5_counts_68 : decode cX5_counts 68 = .ok (.iaload, 1) := by decide +kernel
theorem dX5_counts_69 : decode cX5_counts 69 = .ok (.aload_n 0, 1) := by decide +kernel
theorem dX5_counts_70 : decode cX5_counts 70 = .ok (.getfield 64, 3) := by decide +kernel
theorem dX5_counts_73 : decode cX5_counts 73 = .ok (.iload_n 2, 1) := by decide +kernel
theorem dX5_counts_74 : decode cX5_counts 74 = .ok (.iaload, 1) := by decide +kernel
theorem dX5_counts_75 : decode cX5_counts 75 = .ok (.iadd, 1) := by decide +kernel
theorem dX5_counts_76 : decode cX5_counts 76 = .ok (.iastore, 1) := by decide +kernel
theorem dX5_counts_77 : decode cX5_counts 77 = .ok (.aload_n 0, 1) := by decide +kernel
theorem dX5_counts_78 : decode cX5_counts 78 = .ok (.getfield 113, 3) := by decide +kernel
theorem dX5_counts_81 : decode cX5_counts 81 = .ok (.iload_n 3, 1) := by decide +kernel
theorem dX5_counts_82 : decode cX5_counts 82 = .ok (.iconst 1, 1) := by decide +kernel
theorem dX5_counts_83 : decode cX5_counts 83 = .ok (.bastore, 1) := by decide +kernel
theorem dX5_counts_84 : decode cX5_counts 84 = .ok (.iload_n 1, 1) := by decide +kernel
theorem dX5_counts_85 : decode cX5_counts 85 = .ok (.aload_n 0, 1) := by decide +kernel
theorem dX5_counts_86 : decode cX5_counts 86 = .ok (.getfield 64, 3) := by decide +kernel
theorem dX5_counts_89 : decode cX5_counts 89 = .ok (.iload_n 2, 1) := by decide +kernel
theorem dX5_counts_90 : decode cX5_counts 90 = .ok (.iaload, 1) := by decide +kernel
theorem dX5_counts_91 : decode cX5_counts 91 = .ok (.iadd, 1) := by decide +kernel
theorem dX5_counts_92 : decode cX5_counts 92 = .ok (.istore_n 1, 1) := by decide +kernel
theorem dX5_counts_93 : decode cX5_counts 93 = .ok (.iinc 2 1, 3) := by decide +kernel
theorem dX5_counts_96 : decode cX5_counts 96 = .ok (.goto (-60), 3) := by decide +kernel
theorem dX5_counts_99 : decode cX5_counts 99 = .ok (.iload_n 1, 1) := by decide +kernel
theorem dX5_counts_100 : decode cX5_counts 100 = .ok (.ireturn, 1) := by decide +kernel
set_option maxRecDepth 20000 in
theorem ggX5_thumb_X5_bad : GoodIn wsX5_thumb wsX5_bad := goodIn_r _ [9, 1, 39, 40, 41, 42, 43, 44, 45, 46, 47, 48, 49, 50, 51, 52, 53, 54, 55, 56, 57, 58, 59, 60, 61, 62, 63, 64, 65, 66, 67, 68, 69, 70, 71, 72, 73, 74, 75, 76, 77, 78, 79, 80, 81, 82, 83, 84] (by decide +kernel) (by decide +kernel)
set_option maxRecDepth 20000 in
theorem gX5_thumb_X5_bad : GoodIn wsX5_thumb (wsV RX5 119 RX5 yX5_bad wsX5_bad) := goodIn_app (goodIn_of _ (by decide +kernel)) ggX5_thumb_X5_bad
set_option maxRecDepth 20000 in
theorem ggX5_thumb_X5_counts : GoodIn wsX5_thumb wsX5_counts := goodIn_r _ [13, 3, 2, 14, 15, 16, 17, 18, 19, 20, 8, 21, 22, 23, 24, 25, 26, 27, 28, 29, 30, 31, 32, 33, 34, 35, 36, 37, 38, 39, 40, 41, 42, 43, 44, 45, 46, 47, 48, 49, 50, 51, 52, 53, 54, 55, 56, 57, 58, 59, 60, 61, 62, 63, 64, 65, 66, 67, 68, 69, 70, 71, 72, 73, 74, 75, 76, 77, 78, 79, 80, 81, 82, 83, 84] (by decide +kernel) (by decide +kernel)
set_option maxRecDepth 20000 in
theorem gX5_thumb_X5_counts : GoodIn wsX5_thumb (wsV RX5 191 RX5 yX5_counts wsX5_counts) := goodIn_app (goodIn_of _ (by decide +kernel)) ggX5_thumb_X5_counts
theorem dX5_thumb_0 : decode cX5_thumb 0 = .ok (.aload_n 0, 1) := by decide +kernel
theorem dX5_thumb_1 : decode cX5_thumb 1 = .ok (.iconst 0, 1) := by decide +kernel
theorem dX5_thumb_2 : decode cX5_thumb 2 = .ok (.putfield 116, 3) := by decide +kernel
theorem dX5_thumb_5 : decode cX5_thumb 5 = .ok (.aload_n 0, 1) := by decide +kernel
theorem dX5_thumb_6 : decode cX5_thumb 6 = .ok (.iload_n 1, 1) := by decide +kernel
theorem dX5_thumb_7 : decode cX5_thumb 7 = .ok (.ifCond .lt 21, 3) := by decide +kernel
theorem dX5_thumb_10 : decode cX5_thumb 10 = .ok (.iload_n 1, 1) := by decide +kernel
theorem dX5_thumb_11 : decode cX5_thumb 11 = .ok (.bipush 25, 2) := by decide +kernel
theorem dX5_thumb_13 : decode cX5_thumb 13 = .ok (.if_icmp .gt 15, 3) := by decide +kernel
theorem dX5_thumb_16 : decode cX5_thumb 16 = .ok (.iload_n 2, 1) := by decide +kernel
theorem dX5_thumb_17 : decode cX5_thumb 17 = .ok (.iconst 1, 1) := by decide +kernel
theorem dX5_thumb_18 : decode cX5_thumb 18 = .ok (.if_icmp .lt 10, 3) := by decide +kernel
theorem dX5_thumb_21 : decode cX5_thumb 21 = .ok (.iload_n 2, 1) := by decide +kernel
theorem dX5_thumb_22 : decode cX5_thumb 22 = .ok (.sipush 10000, 3) := by decide +kernel
theorem dX5_thumb_25 : decode cX5_thumb 25 = .ok (.if_icmp .le 7, 3) := by decide +kernel
theorem dX5_thumb_28 : decode cX5_thumb 28 = .ok (.iconst 1, 1) := by decide +kernel
theorem dX5_thumb_29 : decode cX5_thumb 29 = .ok (.goto 4, 3) := by decide +kernel
theorem dX5_thumb_32 : decode cX5_thumb 32 = .ok (.iconst 0, 1) := by decide +kernel
theorem dX5_thumb_33 : decode cX5_thumb 33 = .ok (.iconst 1, 1) := by decide +kernel
theorem dX5_thumb_34 : decode cX5_thumb 34 = .ok (.invokevirtual 119, 3) := by decide +kernel
theorem dX5_thumb_37 : decode cX5_thumb 37 = .ok (.ifCond .eq 5, 3) := by decide +kernel
theorem dX5_thumb_40 : decode cX5_thumb 40 = .ok (.iconst 0, 1) := by decide +kernel
theorem dX5_thumb_41 : decode cX5_thumb 41 = .ok (.ireturn, 1) := by decide +kernel
theorem dX5_thumb_42 : decode cX5_thumb 42 = .ok (.aload_n 0, 1) := by decide +kernel
theorem dX5_thumb_43 : decode cX5_thumb 43 = .ok (.invokevirtual 191, 3) := by decide +kernel
theorem dX5_thumb_46 : decode cX5_thumb 46 = .ok (.istore_n 3, 1) := by decide +kernel
theorem dX5_thumb_47 : decode cX5_thumb 47 = .ok (.aload_n 0, 1) := by decide +kernel
theorem dX5_thumb_48 : decode cX5_thumb 48 = .ok (.getfield 113, 3) := by decide +kernel
theorem dX5_thumb_51 : decode cX5_thumb 51 = .ok (.iload_n 1, 1) := by decide +kernel
theorem dX5_thumb_52 : decode cX5_thumb 52 = .ok (.baload, 1) := by decide +kernel
theorem dX5_thumb_53 : decode cX5_thumb 53 = .ok (.ifCond .ne 5, 3) := by decide +kernel
theorem dX5_thumb_56 : decode cX5_thumb 56 = .ok (.iconst (-1), 1) := by decide +kernel
theorem dX5_thumb_57 : decode cX5_thumb 57 = .ok (.ireturn, 1) := by decide +kernel
theorem dX5_thumb_58 : decode cX5_thumb 58 = .ok (.iconst 0, 1) := by decide +kernel
theorem dX5_thumb_59 : decode cX5_thumb 59 = .ok (.istore 4, 2) := by decide +kernel
theorem dX5_thumb_61 : decode cX5_thumb 61 = .ok (.iconst 0, 1) := by decide +kernel
theorem dX5_thumb_62 : decode cX5_thumb 62 = .ok (.istore 5, 2) := by decide +kernel
theorem dX5_thumb_64 : decode cX5_thumb 64 = .ok (.iload 5, 2) := by decide +kernel
theorem dX5_thumb_66 : decode cX5_thumb 66 = .ok (.iload_n 1, 1) := by decide +kernel
theorem dX5_thumb_67 : decode cX5_thumb 67 = .ok (.if_icmp .ge 21, 3) := by decide +kernel
theorem dX5_thumb_70 : decode cX5_thumb 70 = .ok (.iload 4, 2) := by decide +kernel
theorem dX5_thumb_72 : decode cX5_thumb 72 = .ok (.aload_n 0, 1) := by decide +kernel
theorem dX5_thumb_73 : decode cX5_thumb 73 = .ok (.getfield 110, 3) := by decide +kernel
theorem dX5_thumb_76 : decode cX5_thumb 76 = .ok (.iload 5, 2) := by decide +kernel
theorem dX5_thumb_78 : decode cX5_thumb 78 = .ok (.iaload, 1) := by decide +kernel
theorem dX5_thumb_79 : decode cX5_thumb 79 = .ok (.iadd, 1) := by decide +kernel
theorem dX5_thumb_80 : decode cX5_thumb 80 = .ok (.istore 4, 2) := by decide +kernel
theorem dX5_thumb_82 : decode cX5_thumb 82 = .ok (.iinc 5 1, 3) := by decide +kernel
theorem dX5_thumb_85 : decode cX5_thumb 85 = .ok (.goto (-21), 3) := by decide +kernel
theorem dX5_thumb_88 : decode cX5_thumb 88 = .ok (.iload_n 2, 1) := by decide +kernel
theorem dX5_thumb_89 : decode cX5_thumb 89 = .ok (.i2l, 1) := by decide +kernel
theorem dX5_thumb_90 : decode cX5_thumb 90 = .ok (.iconst 2, 1) := by decide +kernel
theorem dX5_thumb_91 : decode cX5_thumb 91 = .ok (.iload 4, 2) := by decide +kernel
theorem dX5_thumb_93 : decode cX5_thumb 93 = .ok (.imul, 1) := by decide +kernel
theorem dX5_thumb_94 : decode cX5_thumb 94 = .ok (.aload_n 0, 1) := by decide +kernel
theorem dX5_thumb_95 : decode cX5_thumb 95 = .ok (.getfield 110, 3) := by decide +kernel
theorem dX5_thumb_98 : decode cX5_thumb 98 = .ok (.iload_n 1, 1) := by decide +kernel
theorem dX5_thumb_99 : decode cX5_thumb 99 = .ok (.iaload, 1) := by decide +kernel
theorem dX5_thumb_100 : decode cX5_thumb 100 = .ok (.iadd, 1) := by decide +kernel
theorem dX5_thumb_101 : decode cX5_thumb 101 = .ok (.i2l, 1) := by decide +kernel
theorem dX5_thumb_102 : decode cX5_thumb 102 = .ok (.lmul, 1) := by decide +kernel
theorem dX5_thumb_103 : decode cX5_thumb 103 = .ok (.ldc2_w 195, 3) := by decide +kernel
theorem dX5_thumb_106 : decode cX5_thumb 106 = .ok (.iload_n 3, 1) := by decide +kernel
theorem dX5_thumb_107 : decode cX5_thumb 107 = .ok (.i2l, 1) := by decide +kernel
theorem dX5_thumb_108 : decode cX5_thumb 108 = .ok (.lmul, 1) := by decide +kernel
theorem dX5_thumb_109 : decode cX5_thumb 109 = .ok (.ldiv, 1) := by decide +kernel
theorem dX5_thumb_110 : decode cX5_thumb 110 = .ok (.l2i, 1) := by decide +kernel
theorem dX5_thumb_111 : decode cX5_thumb 111 = .ok (.ireturn, 1) := by decide +kernel
set_option maxRecDepth 20000 in
theorem ggX5_volume_X5_counts : GoodIn wsX5_volume wsX5_counts := goodIn_r _ [8, 3, 2, 9, 10, 11, 12, 13, 14, 15, 7, 16, 17, 18, 19, 20, 21, 22, 23, 24, 25, 26, 27, 28, 29, 30, 31, 32, 33, 34, 35, 36, 37, 38, 39, 40, 41, 42, 43, 44, 45, 46, 47, 48, 49, 50, 51, 52, 53, 54, 55, 56, 57, 58, 59, 60, 61, 62, 63, 64, 65, 66, 67, 68, 69, 70, 71, 72, 73, 74, 75, 76, 77, 78, 79] (by decide +kernel) (by decide +kernel)
set_option maxRecDepth 20000 in
theorem gX5_volume_X5_counts : GoodIn wsX5_volume (wsV RX5 191 RX5 yX5_counts wsX5_counts) := goodIn_app (goodIn_of _ (by decide +kernel)) ggX5_volume_X5_counts
theorem dX5_volume_0 : decode cX5_volume 0 = .ok (.aload_n 0, 1) := by decide +kernel
theorem dX5_volume_1 : decode cX5_volume 1 = .ok (.iconst 0, 1) := by decide +kernel
theorem dX5_volume_2 : decode cX5_volume 2 = .ok (.putfield 116, 3) := by decide +kernel
theorem dX5_volume_5 : decode cX5_volume 5 = .ok (.aload_n 0, 1) := by decide +kernel
theorem dX5_volume_6 : decode cX5_volume 6 = .ok (.invokevirtual 191, 3) := by decide +kernel
theorem dX5_volume_9 : decode cX5_volume 9 = .ok (.istore_n 1, 1) := by decide +kernel
theorem dX5_volume_10 : decode cX5_volume 10 = .ok (.iconst 0, 1) := by decide +kernel
theorem dX5_volume_11 : decode cX5_volume 11 = .ok (.istore_n 2, 1) := by decide +kernel
theorem dX5_volume_12 : decode cX5_volume 12 = .ok (.iconst (-1), 1) := by decide +kernel
theorem dX5_volume_13 : decode cX5_volume 13 = .ok (.istore_n 3, 1) := by decide +kernel
theorem dX5_volume_14 : decode cX5_volume 14 = .ok (.iconst 0, 1) := by decide +kernel
theorem dX5_volume_15 : decode cX5_volume 15 = .ok (.istore 4, 2) := by decide +kernel
theorem dX5_volume_17 : decode cX5_volume 17 = .ok (.iconst 1, 1) := by decide +kernel
theorem dX5_volume_18 : decode cX5_volume 18 = .ok (.istore 5, 2) := by decide +kernel
theorem dX5_volume_20 : decode cX5_volume 20 = .ok (.iconst 0, 1) := by decide +kernel
theorem dX5_volume_21 : decode cX5_volume 21 = .ok (.istore 6, 2) := by decide +kernel
theorem dX5_volume_23 : decode cX5_volume 23 = .ok (.iload 6, 2) := by decide +kernel
theorem dX5_volume_25 : decode cX5_volume 25 = .ok (.bipush 26, 2) := by decide +kernel
theorem dX5_volume_27 : decode cX5_volume 27 = .ok (.if_icmp .ge 80, 3) := by decide +kernel
theorem dX5_volume_30 : decode cX5_volume 30 = .ok (.aload_n 0, 1) := by decide +kernel
theorem dX5_volume_31 : decode cX5_volume 31 = .ok (.getfield 113, 3) := by decide +kernel
theorem dX5_volume_34 : decode cX5_volume 34 = .ok (.iload 6, 2) := by decide +kernel
theorem dX5_volume_36 : decode cX5_volume 36 = .ok (.baload, 1) := by decide +kernel
theorem dX5_volume_37 : decode cX5_volume 37 = .ok (.ifCond .ne 6, 3) := by decide +kernel
theorem dX5_volume_40 : decode cX5_volume 40 = .ok (.goto 61, 3) := by decide +kernel
theorem dX5_volume_43 : decode cX5_volume 43 = .ok (.iconst 2, 1) := by decide +kernel
theorem dX5_volume_44 : decode cX5_volume 44 = .ok (.iload_n 2, 1) := by decide +kernel
theorem dX5_volume_45 : decode cX5_volume 45 = .ok (.imul, 1) := by decide +kernel
theorem dX5_volume_46 : decode cX5_volume 46 = .ok (.iload_n 1, 1) := by decide +kernel
theorem dX5_volume_47 : decode cX5_volume 47 = .ok (.isub, 1) := by decide +kernel
theorem dX5_volume_48 : decode cX5_volume 48 = .ok (.istore 7, 2) := by decide +kernel
theorem dX5_volume_50 : decode cX5_volume 50 = .ok (.iload 7, 2) := by decide +kernel
theorem dX5_volume_52 : decode cX5_volume 52 = .ok (.ifCond .ge 9, 3) := by decide +kernel
theorem dX5_volume_55 : decode cX5_volume 55 = .ok (.iload 7, 2) := by decide +kernel
theorem dX5_volume_57 : decode cX5_volume 57 = .ok (.ineg, 1) := by decide +kernel
theorem dX5_volume_58 : decode cX5_volume 58 = .ok (.goto 5, 3) := by decide +kernel
theorem dX5_volume_61 : decode cX5_volume 61 = .ok (.iload 7, 2) := by decide +kernel
theorem dX5_volume_63 : decode cX5_volume 63 = .ok (.istore 7, 2) := by decide +kernel
theorem dX5_volume_65 : decode cX5_volume 65 = .ok (.iload 5, 2) := by decide +kernel
theorem dX5_volume_67 : decode cX5_volume 67 = .ok (.ifCond .ne 21, 3) := by decide +kernel
theorem dX5_volume_70 : decode cX5_volume 70 = .ok (.iload_n 3, 1) := by decide +kernel
theorem dX5_volume_71 : decode cX5_volume 71 = .ok (.ifCond .lt 10, 3) := by decide +kernel
theorem dX5_volume_74 : decode cX5_volume 74 = .ok (.iload 7, 2) := by decide +kernel
theorem dX5_volume_76 : decode cX5_volume 76 = .ok (.iload 4, 2) := by decide +kernel
theorem dX5_volume_78 : decode cX5_volume 78 = .ok (.if_icmp .ge 10, 3) := by decide +kernel
theorem dX5_volume_81 : decode cX5_volume 81 = .ok (.iload 6, 2) := by decide +kernel
theorem dX5_volume_83 : decode cX5_volume 83 = .ok (.istore_n 3, 1) := by decide +kernel
theorem dX5_volume_84 : decode cX5_volume 84 = .ok (.iload 7, 2) := by decide +kernel
theorem dX5_volume_86 : decode cX5_volume 86 = .ok (.istore 4, 2) := by decide +kernel
theorem dX5_volume_88 : decode cX5_volume 88 = .ok (.iconst 0, 1) := by decide +kernel
theorem dX5_volume_89 : decode cX5_volume 89 = .ok (.istore 5, 2) := by decide +kernel
theorem dX5_volume_91 : decode cX5_volume 91 = .ok (.iload_n 2, 1) := by decide +kernel
theorem dX5_volume_92 : decode cX5_volume 92 = .ok (.aload_n 0, 1) := by decide +kernel
theorem dX5_volume_93 : decode cX5_volume 93 = .ok (.getfield 110, 3) := by decide +kernel
theorem dX5_volume_96 : decode cX5_volume 96 = .ok (.iload 6, 2) := by decide +kernel
theorem dX5_volume_98 : decode cX5_volume 98 = .ok (.iaload, 1) := by decide +kernel
theorem dX5_volume_99 : decode cX5_volume 99 = .ok (.iadd, 1) := by decide +kernel
theorem dX5_volume_100 : decode cX5_volume 100 = .ok (.istore_n 2, 1) := by decide +kernel
theorem dX5_volume_101 : decode cX5_volume 101 = .ok (.iinc 6 1, 3) := by decide +kernel
theorem dX5_volume_104 : decode cX5_volume 104 = .ok (.goto (-81), 3) := by decide +kernel
theorem dX5_volume_107 : decode cX5_volume 107 = .ok (.iload_n 3, 1) := by decide +kernel
theorem dX5_volume_108 : decode cX5_volume 108 = .ok (.ireturn, 1) := by decide +kernel
set_option maxRecDepth 20000 in
theorem ggX5_count_X5_sorts : GoodIn wsX5_count wsX5_sorts := goodIn_r _ [10, 2, 3, 11, 12, 13, 14, 15, 9, 16, 17, 18, 19, 20, 21, 22, 23, 24, 25, 26, 27, 28, 29, 30, 31, 32, 33, 34, 35, 36, 37, 38, 39, 40, 41, 42, 43, 44, 45, 46, 47, 48, 49, 50, 51, 52, 53, 54, 55, 56, 57, 58, 59, 60, 61, 62] (by decide +kernel) (by decide +kernel)
set_option maxRecDepth 20000 in
theorem gX5_count_X5_sorts : GoodIn wsX5_count (wsV RX5 155 RX5 yX5_sorts wsX5_sorts) := goodIn_app (goodIn_of _ (by decide +kernel)) ggX5_count_X5_sorts
theorem dX5_count_0 : decode cX5_count 0 = .ok (.aload_n 0, 1) := by decide +kernel
theorem dX5_count_1 : decode cX5_count 1 = .ok (.iconst 0, 1) := by decide +kernel
theorem dX5_count_2 : decode cX5_count 2 = .ok (.putfield 116, 3) := by decide +kernel
theorem dX5_count_5 : decode cX5_count 5 = .ok (.iload_n 1, 1) := by decide +kernel
theorem dX5_count_6 : decode cX5_count 6 = .ok (.tableswitch 54 0 3 #[30, 39, 44, 49], 30) := by decide +kernel
theorem dX5_count_36 : decode cX5_count 36 = .ok (.aload_n 0, 1) := by decide +kernel
theorem dX5_count_37 : decode cX5_count 37 = .ok (.invokevirtual 155, 3) := by decide +kernel
theorem dX5_count_40 : decode cX5_count 40 = .ok (.aload_n 0, 1) := by decide +kernel
theorem dX5_count_41 : decode cX5_count 41 = .ok (.getfield 148, 3) := by decide +kernel
theorem dX5_count_44 : decode cX5_count 44 = .ok (.ireturn, 1) := by decide +kernel
theorem dX5_count_45 : decode cX5_count 45 = .ok (.aload_n 0, 1) := by decide +kernel
theorem dX5_count_46 : decode cX5_count 46 = .ok (.getfield 133, 3) := by decide +kernel
theorem dX5_count_49 : decode cX5_count 49 = .ok (.ireturn, 1) := by decide +kernel
theorem dX5_count_50 : decode cX5_count 50 = .ok (.aload_n 0, 1) := by decide +kernel
theorem dX5_count_51 : decode cX5_count 51 = .ok (.getfield 123, 3) := by decide +kernel
theorem dX5_count_54 : decode cX5_count 54 = .ok (.ireturn, 1) := by decide +kernel
theorem dX5_count_55 : decode cX5_count 55 = .ok (.aload_n 0, 1) := by decide +kernel
theorem dX5_count_56 : decode cX5_count 56 = .ok (.getfield 126, 3) := by decide +kernel
theorem dX5_count_59 : decode cX5_count 59 = .ok (.ireturn, 1) := by decide +kernel
theorem dX5_count_60 : decode cX5_count 60 = .ok (.iconst (-1), 1) := by decide +kernel
theorem dX5_count_61 : decode cX5_count 61 = .ok (.ireturn, 1) := by decide +kernel
end
section
theorem dJ9_abs_0f7a4_0 : decode cJ9_abs_0f7a4 0 = .ok (.iload_n 0, 1) := by decide +kernel
theorem dJ9_abs_0f7a4_1 : decode cJ9_abs_0f7a4 1 = .ok (.ifCond .ge 8, 3) := by decide +kernel
theorem dJ9_abs_0f7a4_4 : decode cJ9_abs_0f7a4 4 = .ok (.iload_n 0, 1) := by decide +kernel
theorem dJ9_abs_0f7a4_5 : decode cJ9_abs_0f7a4 5 = .ok (.ineg, 1) := by decide +kernel
theorem dJ9_abs_0f7a4_6 : decode cJ9_abs_0f7a4 6 = .ok (.goto 4, 3) := by decide +kernel
theorem dJ9_abs_0f7a4_9 : decode cJ9_abs_0f7a4 9 = .ok (.iload_n 0, 1) := by decide +kernel
theorem dJ9_abs_0f7a4_10 : decode cJ9_abs_0f7a4 10 = .ok (.ireturn, 1) := by decide +kernel
theorem dJ9_max_7cf53_0 : decode cJ9_max_7cf53 0 = .ok (.iload_n 0, 1) := by decide +kernel
theorem dJ9_max_7cf53_1 : decode cJ9_max_7cf53 1 = .ok (.iload_n 1, 1) := by decide +kernel
theorem dJ9_max_7cf53_2 : decode cJ9_max_7cf53 2 = .ok (.if_icmp .lt 7, 3) := by decide +kernel
theorem dJ9_max_7cf53_5 : decode cJ9_max_7cf53 5 = .ok (.iload_n 0, 1) := by decide +kernel
theorem dJ9_max_7cf53_6 : decode cJ9_max_7cf53 6 = .ok (.goto 4, 3) := by decide +kernel
theorem dJ9_max_7cf53_9 : decode cJ9_max_7cf53 9 = .ok (.iload_n 1, 1) := by decide +kernel
theorem dJ9_max_7cf53_10 : decode cJ9_max_7cf53 10 = .ok (.ireturn, 1) := by decide +kernel
theorem dJ9_min_7cf53_0 : decode cJ9_min_7cf53 0 = .ok (.iload_n 0, 1) := by decide +kernel
theorem dJ9_min_7cf53_1 : decode cJ9_min_7cf53 1 = .ok (.iload_n 1, 1) := by decide +kernel
theorem dJ9_min_7cf53_2 : decode cJ9_min_7cf53 2 = .ok (.if_icmp .gt 7, 3) := by decide +kernel
theorem dJ9_min_7cf53_5 : decode cJ9_min_7cf53 5 = .ok (.iload_n 0, 1) := by decide +kernel
theorem dJ9_min_7cf53_6 : decode cJ9_min_7cf53 6 = .ok (.goto 4, 3) := by decide +kernel
theorem dJ9_min_7cf53_9 : decode cJ9_min_7cf53 9 = .ok (.iload_n 1, 1) := by decide +kernel
theorem dJ9_min_7cf53_10 : decode cJ9_min_7cf53 10 = .ok (.ireturn, 1) := by decide +kernel
theorem dJ7_fill_53178_0 : decode cJ7_fill_53178 0 = .ok (.iconst 0, 1) := by decide +kernel
theorem dJ7_fill_53178_1 : decode cJ7_fill_53178 1 = .ok (.istore_n 2, 1) := by decide +kernel
theorem dJ7_fill_53178_2 : decode cJ7_fill_53178 2 = .ok (.aload_n 0, 1) := by decide +kernel
theorem dJ7_fill_53178_3 : decode cJ7_fill_53178 3 = .ok (.arraylength, 1) := by decide +kernel
theorem dJ7_fill_53178_4 : decode cJ7_fill_53178 4 = .ok (.istore_n 3, 1) := by decide +kernel
theorem dJ7_fill_53178_5 : decode cJ7_fill_53178 5 = .ok (.iload_n 2, 1) := by decide +kernel
theorem dJ7_fill_53178_6 : decode cJ7_fill_53178 6 = .ok (.iload_n 3, 1) := by decide +kernel
theorem dJ7_fill_53178_7 : decode cJ7_fill_53178 7 = .ok (.if_icmp .ge 13, 3) := by decide +kernel
theorem dJ7_fill_53178_10 : decode cJ7_fill_53178 10 = .ok (.aload_n 0, 1) := by decide +kernel
theorem dJ7_fill_53178_11 : decode cJ7_fill_53178 11 = .ok (.iload_n 2, 1) := by decide +kernel
theorem dJ7_fill_53178_12 : decode cJ7_fill_53178 12 = .ok (.iload_n 1, 1) := by decide +kernel
theorem dJ7_fill_53178_13 : decode cJ7_fill_53178 13 = .ok (.iastore, 1) := by decide +kernel
theorem dJ7_fill_53178_14 : decode cJ7_fill_53178 14 = .ok (.iinc 2 1, 3) := by decide +kernel
theorem dJ7_fill_53178_17 : decode cJ7_fill_53178 17 = .ok (.goto (-12), 3) := by decide +kernel
theorem dJ7_fill_53178_20 : decode cJ7_fill_53178 20 = .ok (.return_, 1) := by decide +kernel
set_option maxRecDepth 20000 in
theorem ggL_set_X4_set : GoodIn wsL_set wsX4_set := goodIn_ca (goodIn_r _ [6, 7, 8, 9, 10, 11, 12, 13, 14, 15, 16, 17, 18, 19, 20, 21] (by decide +kernel) (by decide +kernel)) (goodIn_sub (fun _ h => List.mem_cons_of_mem _ (List.mem_append_right _ h)) (by decide +kernel))
set_option maxRecDepth 20000 in
theorem gL_set_X4_set : GoodIn wsL_set (wsV RL 7 RX4 yX4_set wsX4_set) := goodIn_app (goodIn_of _ (by decide +kernel)) ggL_set_X4_set
theorem dL_set_0 : decode cL_set 0 = .ok (.aload_n 3, 1) := by decide +kernel
theorem dL_set_1 : decode cL_set 1 = .ok (.iconst 0, 1) := by decide +kernel
theorem dL_set_2 : decode cL_set 2 = .ok (.aload_n 0, 1) := by decide +kernel
theorem dL_set_3 : decode cL_set 3 = .ok (.iload_n 1, 1) := by decide +kernel
theorem dL_set_4 : decode cL_set 4 = .ok (.iload_n 2, 1) := by decide +kernel
theorem dL_set_5 : decode cL_set 5 = .ok (.invokevirtual 7, 3) := by decide +kernel
theorem dL_set_8 : decode cL_set 8 = .ok (.i2l, 1) := by decide +kernel
theorem dL_set_9 : decode cL_set 9 = .ok (.lastore, 1) := by decide +kernel
theorem dL_set_10 : decode cL_set 10 = .ok (.goto 7, 3) := by decide +kernel
theorem dL_set_13 : decode cL_set 13 = .ok (.astore 4, 2) := by decide +kernel
theorem dL_set_15 : decode cL_set 15 = .ok (.iconst 1, 1) := by decide +kernel
theorem dL_set_16 : decode cL_set 16 = .ok (.ireturn, 1) := by decide +kernel
theorem dL_set_17 : decode cL_set 17 = .ok (.iconst 0, 1) := by decide +kernel
theorem dL_set_18 : decode cL_set 18 = .ok (.ireturn, 1) := by decide +kernel
set_option maxRecDepth 20000 in
theorem ggL_push_X4_push : GoodIn wsL_push wsX4_push := goodIn_ca (goodIn_r _ [6, 7, 8, 9, 10, 11, 12, 13, 14, 15, 16, 17, 18, 19, 20] (by decide +kernel) (by decide +kernel)) (goodIn_sub (fun _ h => List.mem_cons_of_mem _ (List.mem_append_right _ h)) (by decide +kernel))
set_option maxRecDepth 20000 in
theorem gL_push_X4_push : GoodIn wsL_push (wsV RL 15 RX4 yX4_push wsX4_push) := goodIn_app (goodIn_of _ (by decide +kernel)) ggL_push_X4_push
theorem dL_push_0 : decode cL_push 0 = .ok (.aload_n 2, 1) := by decide +kernel
theorem dL_push_1 : decode cL_push 1 = .ok (.iconst 0, 1) := by decide +kernel
theorem dL_push_2 : decode cL_push 2 = .ok (.aload_n 0, 1) := by decide +kernel
theorem dL_push_3 : decode cL_push 3 = .ok (.iload_n 1, 1) := by decide +kernel
theorem dL_push_4 : decode cL_push 4 = .ok (.invokevirtual 15, 3) := by decide +kernel
theorem dL_push_7 : decode cL_push 7 = .ok (.i2l, 1) := by decide +kernel
theorem dL_push_8 : decode cL_push 8 = .ok (.lastore, 1) := by decide +kernel
theorem dL_push_9 : decode cL_push 9 = .ok (.goto 6, 3) := by decide +kernel
theorem dL_push_12 : decode cL_push 12 = .ok (.astore_n 3, 1) := by decide +kernel
theorem dL_push_13 : decode cL_push 13 = .ok (.iconst 1, 1) := by decide +kernel
theorem dL_push_14 : decode cL_push 14 = .ok (.ireturn, 1) := by decide +kernel
theorem dL_push_15 : decode cL_push 15 = .ok (.iconst 0, 1) := by decide +kernel
theorem dL_push_16 : decode cL_push 16 = .ok (.ireturn, 1) := by decide +kernel
set_option maxRecDepth 20000 in
theorem ggL_entry_X4_entry : GoodIn wsL_entry wsX4_entry := goodIn_ca (goodIn_r _ [6, 7, 8, 9, 10, 11, 12, 13, 14, 15, 16, 17, 18, 19, 20, 21, 22, 23, 24, 25, 26, 27, 28, 29, 30, 31, 32, 33, 34, 35, 36, 37, 38, 39, 40, 41, 42, 43, 44, 45, 46, 47, 48, 49, 50, 51, 52, 53, 54, 55, 56, 57, 58, 59, 60, 61, 62, 63, 64] (by decide +kernel) (by decide +kernel)) (goodIn_sub (fun _ h => List.mem_cons_of_mem _ (List.mem_append_right _ h)) (by decide +kernel))
set_option maxRecDepth 20000 in
theorem gL_entry_X4_entry : GoodIn wsL_entry (wsV RL 19 RX4 yX4_entry wsX4_entry) := goodIn_app (goodIn_of _ (by decide +kernel)) ggL_entry_X4_entry
theorem dL_entry_0 : decode cL_entry 0 = .ok (.aload_n 2, 1) := by decide +kernel
theorem dL_entry_1 : decode cL_entry 1 = .ok (.iconst 0, 1) := by decide +kernel
theorem dL_entry_2 : decode cL_entry 2 = .ok (.aload_n 0, 1) := by decide +kernel
theorem dL_entry_3 : decode cL_entry 3 = .ok (.iload_n 1, 1) := by decide +kernel
theorem dL_entry_4 : decode cL_entry 4 = .ok (.invokevirtual 19, 3) := by decide +kernel
theorem dL_entry_7 : decode cL_entry 7 = .ok (.i2l, 1) := by decide +kernel
theorem dL_entry_8 : decode cL_entry 8 = .ok (.lastore, 1) := by decide +kernel
theorem dL_entry_9 : decode cL_entry 9 = .ok (.goto 6, 3) := by decide +kernel
theorem dL_entry_12 : decode cL_entry 12 = .ok (.astore_n 3, 1) := by decide +kernel
theorem dL_entry_13 : decode cL_entry 13 = .ok (.iconst 1, 1) := by decide +kernel
theorem dL_entry_14 : decode cL_entry 14 = .ok (.ireturn, 1) := by decide +kernel
theorem dL_entry_15 : decode cL_entry 15 = .ok (.iconst 0, 1) := by decide +kernel
theorem dL_entry_16 : decode cL_entry 16 = .ok (.ireturn, 1) := by decide +kernel
set_option maxRecDepth 20000 in
theorem ggL_see_X4_see : GoodIn wsL_see wsX4_see := goodIn_ca (goodIn_r _ [6, 7, 8, 9, 10, 11, 12, 13, 14, 15, 16, 17, 18, 19, 20, 21, 22, 23, 24, 25, 26, 27, 28, 29, 30, 31, 32, 33, 34, 35, 36, 37, 38, 39, 40, 41, 42, 43, 44, 45, 46, 47, 48, 49, 50, 51, 52, 53, 54, 55, 56, 57, 58, 59, 60, 61, 62, 63] (by decide +kernel) (by decide +kernel)) (goodIn_sub (fun _ h => List.mem_cons_of_mem _ (List.mem_append_right _ h)) (by decide +kernel))
set_option maxRecDepth 20000 in
theorem gL_see_X4_see : GoodIn wsL_see (wsV RL 22 RX4 yX4_see wsX4_see) := goodIn_app (goodIn_of _ (by decide +kernel)) ggL_see_X4_see
theorem dL_see_0 : decode cL_see 0 = .ok (.aload_n 3, 1) := by decide +kernel
theorem dL_see_1 : decode cL_see 1 = .ok (.iconst 0, 1) := by decide +kernel
theorem dL_see_2 : decode cL_see 2 = .ok (.aload_n 0, 1) := by decide +kernel
theorem dL_see_3 : decode cL_see 3 = .ok (.iload_n 1, 1) := by decide +kernel
theorem dL_see_4 : decode cL_see 4 = .ok (.iload_n 2, 1) := by decide +kernel
theorem dL_see_5 : decode cL_see 5 = .ok (.invokevirtual 22, 3) := by decide +kernel
theorem dL_see_8 : decode cL_see 8 = .ok (.i2l, 1) := by decide +kernel
theorem dL_see_9 : decode cL_see 9 = .ok (.lastore, 1) := by decide +kernel
theorem dL_see_10 : decode cL_see 10 = .ok (.goto 7, 3) := by decide +kernel
theorem dL_see_13 : decode cL_see 13 = .ok (.astore 4, 2) := by decide +kernel
theorem dL_see_15 : decode cL_see 15 = .ok (.iconst 1, 1) := by decide +kernel
theorem dL_see_16 : decode cL_see 16 = .ok (.ireturn, 1) := by decide +kernel
theorem dL_see_17 : decode cL_see 17 = .ok (.iconst 0, 1) := by decide +kernel
theorem dL_see_18 : decode cL_see 18 = .ok (.ireturn, 1) := by decide +kernel
set_option maxRecDepth 20000 in
theorem ggL_drop_X4_drop : GoodIn wsL_drop wsX4_drop := goodIn_ca (goodIn_r _ [6, 7, 8, 9, 10, 5, 11, 12, 13, 14, 15, 16, 17, 18, 19, 20, 21, 22, 23, 24, 25, 26, 27, 28, 29, 30, 31, 32, 33, 34, 35, 36, 37, 38, 39, 40] (by decide +kernel) (by decide +kernel)) (goodIn_sub (fun _ h => List.mem_cons_of_mem _ (List.mem_append_right _ h)) (by decide +kernel))
set_option maxRecDepth 20000 in
theorem gL_drop_X4_drop : GoodIn wsL_drop (wsV RL 25 RX4 yX4_drop wsX4_drop) := goodIn_app (goodIn_of _ (by decide +kernel)) ggL_drop_X4_drop
theorem dL_drop_0 : decode cL_drop 0 = .ok (.aload_n 2, 1) := by decide +kernel
theorem dL_drop_1 : decode cL_drop 1 = .ok (.iconst 0, 1) := by decide +kernel
theorem dL_drop_2 : decode cL_drop 2 = .ok (.aload_n 0, 1) := by decide +kernel
theorem dL_drop_3 : decode cL_drop 3 = .ok (.iload_n 1, 1) := by decide +kernel
theorem dL_drop_4 : decode cL_drop 4 = .ok (.invokevirtual 25, 3) := by decide +kernel
theorem dL_drop_7 : decode cL_drop 7 = .ok (.ifCond .eq 7, 3) := by decide +kernel
theorem dL_drop_10 : decode cL_drop 10 = .ok (.lconst 1, 1) := by decide +kernel
theorem dL_drop_11 : decode cL_drop 11 = .ok (.goto 4, 3) := by decide +kernel
theorem dL_drop_14 : decode cL_drop 14 = .ok (.lconst 0, 1) := by decide +kernel
theorem dL_drop_15 : decode cL_drop 15 = .ok (.lastore, 1) := by decide +kernel
theorem dL_drop_16 : decode cL_drop 16 = .ok (.goto 6, 3) := by decide +kernel
theorem dL_drop_19 : decode cL_drop 19 = .ok (.astore_n 3, 1) := by decide +kernel
theorem dL_drop_20 : decode cL_drop 20 = .ok (.iconst 1, 1) := by decide +kernel
theorem dL_drop_21 : decode cL_drop 21 = .ok (.ireturn, 1) := by decide +kernel
theorem dL_drop_22 : decode cL_drop 22 = .ok (.iconst 0, 1) := by decide +kernel
theorem dL_drop_23 : decode cL_drop 23 = .ok (.ireturn, 1) := by decide +kernel
set_option maxRecDepth 20000 in
theorem ggL_leads_X4_leads : GoodIn wsL_leads wsX4_leads := goodIn_ca (goodIn_r _ [6, 7, 8, 9, 10, 5, 11, 12, 13, 14, 15, 16, 17, 18, 19, 20, 21, 22, 23, 24, 25, 26, 27, 28, 29, 30, 31, 32, 33, 34, 35, 36, 37, 38, 39, 40, 41, 42, 43, 44, 45, 46, 47, 48, 49, 50, 51, 52, 53, 54] (by decide +kernel) (by decide +kernel)) (goodIn_sub (fun _ h => List.mem_cons_of_mem _ (List.mem_append_right _ h)) (by decide +kernel))
set_option maxRecDepth 20000 in
theorem gL_leads_X4_leads : GoodIn wsL_leads (wsV RL 31 RX4 yX4_leads wsX4_leads) := goodIn_app (goodIn_of _ (by decide +kernel)) ggL_leads_X4_leads
theorem dL_leads_0 : decode cL_leads 0 = .ok (.aload_n 2, 1) := by decide +kernel
theorem dL_leads_1 : decode cL_leads 1 = .ok (.iconst 0, 1) := by decide +kernel
theorem dL_leads_2 : decode cL_leads 2 = .ok (.aload_n 0, 1) := by decide +kernel
theorem dL_leads_3 : decode cL_leads 3 = .ok (.iload_n 1, 1) := by decide +kernel
theorem dL_leads_4 : decode cL_leads 4 = .ok (.invokevirtual 31, 3) := by decide +kernel
theorem dL_leads_7 : decode cL_leads 7 = .ok (.i2l, 1) := by decide +kernel
theorem dL_leads_8 : decode cL_leads 8 = .ok (.lastore, 1) := by decide +kernel
theorem dL_leads_9 : decode cL_leads 9 = .ok (.goto 6, 3) := by decide +kernel
theorem dL_leads_12 : decode cL_leads 12 = .ok (.astore_n 3, 1) := by decide +kernel
theorem dL_leads_13 : decode cL_leads 13 = .ok (.iconst 1, 1) := by decide +kernel
theorem dL_leads_14 : decode cL_leads 14 = .ok (.ireturn, 1) := by decide +kernel
theorem dL_leads_15 : decode cL_leads 15 = .ok (.iconst 0, 1) := by decide +kernel
theorem dL_leads_16 : decode cL_leads 16 = .ok (.ireturn, 1) := by decide +kernel
set_option maxRecDepth 20000 in
theorem ggL_told_X4_told : GoodIn wsL_told wsX4_told := goodIn_ca (goodIn_r _ [6, 7, 8, 9, 10, 11, 12, 13, 14, 15, 16, 17, 18, 19, 20, 21, 22, 23, 24, 25, 26, 27, 28] (by decide +kernel) (by decide +kernel)) (goodIn_sub (fun _ h => List.mem_cons_of_mem _ (List.mem_append_right _ h)) (by decide +kernel))
set_option maxRecDepth 20000 in
theorem gL_told_X4_told : GoodIn wsL_told (wsV RL 34 RX4 yX4_told wsX4_told) := goodIn_app (goodIn_of _ (by decide +kernel)) ggL_told_X4_told
theorem dL_told_0 : decode cL_told 0 = .ok (.aload_n 2, 1) := by decide +kernel
theorem dL_told_1 : decode cL_told 1 = .ok (.iconst 0, 1) := by decide +kernel
theorem dL_told_2 : decode cL_told 2 = .ok (.aload_n 0, 1) := by decide +kernel
theorem dL_told_3 : decode cL_told 3 = .ok (.iload_n 1, 1) := by decide +kernel
theorem dL_told_4 : decode cL_told 4 = .ok (.invokevirtual 34, 3) := by decide +kernel
theorem dL_told_7 : decode cL_told 7 = .ok (.i2l, 1) := by decide +kernel
theorem dL_told_8 : decode cL_told 8 = .ok (.lastore, 1) := by decide +kernel
theorem dL_told_9 : decode cL_told 9 = .ok (.goto 6, 3) := by decide +kernel
theorem dL_told_12 : decode cL_told 12 = .ok (.astore_n 3, 1) := by decide +kernel
theorem dL_told_13 : decode cL_told 13 = .ok (.iconst 1, 1) := by decide +kernel
theorem dL_told_14 : decode cL_told 14 = .ok (.ireturn, 1) := by decide +kernel
theorem dL_told_15 : decode cL_told 15 = .ok (.iconst 0, 1) := by decide +kernel
theorem dL_told_16 : decode cL_told 16 = .ok (.ireturn, 1) := by decide +kernel
set_option maxRecDepth 20000 in
theorem ggL_column_X4_column : GoodIn wsL_column wsX4_column := goodIn_ca (goodIn_ca (goodIn_r _ [7, 8, 9, 10, 11, 12, 13, 14, 15, 16, 17, 18, 19, 20, 21, 22, 23, 24, 25, 26, 27, 28, 29, 30, 31, 32, 33, 34, 35, 36, 37, 38, 39, 40] (by decide +kernel) (by decide +kernel)) (goodIn_sub (fun _ h => List.mem_cons_of_mem _ (List.mem_append_left _ (List.mem_append_right _ h))) (by decide +kernel))) (goodIn_sub (fun _ h => List.mem_cons_of_mem _ (List.mem_append_right _ h)) (by decide +kernel))
set_option maxRecDepth 20000 in
theorem gL_column_X4_column : GoodIn wsL_column (wsV RL 37 RX4 yX4_column wsX4_column) := goodIn_app (goodIn_of _ (by decide +kernel)) ggL_column_X4_column
theorem dL_column_0 : decode cL_column 0 = .ok (.aload_n 3, 1) := by decide +kernel
theorem dL_column_1 : decode cL_column 1 = .ok (.iconst 0, 1) := by decide +kernel
theorem dL_column_2 : decode cL_column 2 = .ok (.aload_n 0, 1) := by decide +kernel
theorem dL_column_3 : decode cL_column 3 = .ok (.iload_n 1, 1) := by decide +kernel
theorem dL_column_4 : decode cL_column 4 = .ok (.iload_n 2, 1) := by decide +kernel
theorem dL_column_5 : decode cL_column 5 = .ok (.invokevirtual 37, 3) := by decide +kernel
theorem dL_column_8 : decode cL_column 8 = .ok (.i2l, 1) := by decide +kernel
theorem dL_column_9 : decode cL_column 9 = .ok (.lastore, 1) := by decide +kernel
theorem dL_column_10 : decode cL_column 10 = .ok (.goto 11, 3) := by decide +kernel
theorem dL_column_13 : decode cL_column 13 = .ok (.astore 4, 2) := by decide +kernel
theorem dL_column_15 : decode cL_column 15 = .ok (.iconst 1, 1) := by decide +kernel
theorem dL_column_16 : decode cL_column 16 = .ok (.ireturn, 1) := by decide +kernel
theorem dL_column_17 : decode cL_column 17 = .ok (.astore 4, 2) := by decide +kernel
theorem dL_column_19 : decode cL_column 19 = .ok (.iconst 2, 1) := by decide +kernel
theorem dL_column_20 : decode cL_column 20 = .ok (.ireturn, 1) := by decide +kernel
theorem dL_column_21 : decode cL_column 21 = .ok (.iconst 0, 1) := by decide +kernel
theorem dL_column_22 : decode cL_column 22 = .ok (.ireturn, 1) := by decide +kernel
set_option maxRecDepth 20000 in
theorem ggL_where_X4_where : GoodIn wsL_where wsX4_where := goodIn_ca (goodIn_r _ [6, 7, 8, 9, 10, 5, 11, 12, 13, 14, 15, 16, 17, 18, 19, 20, 21, 22, 23, 24, 25, 26, 27, 28, 29, 30, 31, 32, 33, 34, 35, 36, 37, 38, 39, 40, 41, 42, 43, 44, 45, 46, 47, 48, 49] (by decide +kernel) (by decide +kernel)) (goodIn_sub (fun _ h => List.mem_cons_of_mem _ (List.mem_append_right _ h)) (by decide +kernel))
set_option maxRecDepth 20000 in
theorem gL_where_X4_where : GoodIn wsL_where (wsV RL 40 RX4 yX4_where wsX4_where) := goodIn_app (goodIn_of _ (by decide +kernel)) ggL_where_X4_where
theorem dL_where_0 : decode cL_where 0 = .ok (.aload_n 3, 1) := by decide +kernel
theorem dL_where_1 : decode cL_where 1 = .ok (.iconst 0, 1) := by decide +kernel
theorem dL_where_2 : decode cL_where 2 = .ok (.aload_n 0, 1) := by decide +kernel
theorem dL_where_3 : decode cL_where 3 = .ok (.iload_n 1, 1) := by decide +kernel
theorem dL_where_4 : decode cL_where 4 = .ok (.iload_n 2, 1) := by decide +kernel
theorem dL_where_5 : decode cL_where 5 = .ok (.invokevirtual 40, 3) := by decide +kernel
theorem dL_where_8 : decode cL_where 8 = .ok (.i2l, 1) := by decide +kernel
theorem dL_where_9 : decode cL_where 9 = .ok (.lastore, 1) := by decide +kernel
theorem dL_where_10 : decode cL_where 10 = .ok (.goto 7, 3) := by decide +kernel
theorem dL_where_13 : decode cL_where 13 = .ok (.astore 4, 2) := by decide +kernel
theorem dL_where_15 : decode cL_where 15 = .ok (.iconst 1, 1) := by decide +kernel
theorem dL_where_16 : decode cL_where 16 = .ok (.ireturn, 1) := by decide +kernel
theorem dL_where_17 : decode cL_where 17 = .ok (.iconst 0, 1) := by decide +kernel
theorem dL_where_18 : decode cL_where 18 = .ok (.ireturn, 1) := by decide +kernel
set_option maxRecDepth 20000 in
theorem ggL_guide_X4_guide : GoodIn wsL_guide wsX4_guide := goodIn_ca (goodIn_ca (goodIn_r _ [7, 8, 9, 10, 11, 12, 13, 14, 15, 16, 17, 18, 19, 20, 21, 22, 23, 24, 25, 26, 27, 28, 29, 30, 31, 32, 33, 34, 35, 36, 37, 38, 39, 40, 41, 42, 43, 44, 45, 46, 47, 48, 49, 50, 51, 52, 53, 54, 55, 56, 57, 58, 59, 60, 61, 62, 63] (by decide +kernel) (by decide +kernel)) (goodIn_sub (fun _ h => List.mem_cons_of_mem _ (List.mem_append_left _ (List.mem_append_right _ h))) (by decide +kernel))) (goodIn_sub (fun _ h => List.mem_cons_of_mem _ (List.mem_append_right _ h)) (by decide +kernel))
set_option maxRecDepth 20000 in
theorem gL_guide_X4_guide : GoodIn wsL_guide (wsV RL 43 RX4 yX4_guide wsX4_guide) := goodIn_app (goodIn_of _ (by decide +kernel)) ggL_guide_X4_guide
theorem dL_guide_0 : decode cL_guide 0 = .ok (.aload_n 3, 1) := by decide +kernel
theorem dL_guide_1 : decode cL_guide 1 = .ok (.iconst 0, 1) := by decide +kernel
theorem dL_guide_2 : decode cL_guide 2 = .ok (.aload_n 0, 1) := by decide +kernel
theorem dL_guide_3 : decode cL_guide 3 = .ok (.iload_n 1, 1) := by decide +kernel
theorem dL_guide_4 : decode cL_guide 4 = .ok (.iload_n 2, 1) := by decide +kernel
theorem dL_guide_5 : decode cL_guide 5 = .ok (.invokevirtual 43, 3) := by decide +kernel
theorem dL_guide_8 : decode cL_guide 8 = .ok (.i2l, 1) := by decide +kernel
theorem dL_guide_9 : decode cL_guide 9 = .ok (.lastore, 1) := by decide +kernel
theorem dL_guide_10 : decode cL_guide 10 = .ok (.goto 11, 3) := by decide +kernel
theorem dL_guide_13 : decode cL_guide 13 = .ok (.astore 4, 2) := by decide +kernel
theorem dL_guide_15 : decode cL_guide 15 = .ok (.iconst 1, 1) := by decide +kernel
theorem dL_guide_16 : decode cL_guide 16 = .ok (.ireturn, 1) := by decide +kernel
theorem dL_guide_17 : decode cL_guide 17 = .ok (.astore 4, 2) := by decide +kernel
theorem dL_guide_19 : decode cL_guide 19 = .ok (.iconst 2, 1) := by decide +kernel
theorem dL_guide_20 : decode cL_guide 20 = .ok (.ireturn, 1) := by decide +kernel
theorem dL_guide_21 : decode cL_guide 21 = .ok (.iconst 0, 1) := by decide +kernel
theorem dL_guide_22 : decode cL_guide 22 = .ok (.ireturn, 1) := by decide +kernel
set_option maxRecDepth 20000 in
theorem ggL_thumb_X4_thumb : GoodIn wsL_thumb wsX4_thumb := goodIn_ca (goodIn_r _ [6, 7, 8, 9, 10, 11, 12, 13, 14, 15, 16, 17, 18, 19, 20, 21, 22, 23, 24, 25, 26, 27, 28, 29, 30, 31, 32, 33, 34, 35, 36, 37, 38, 39, 40, 41, 42, 43, 44, 45, 46, 47, 48, 49, 50, 51, 52] (by decide +kernel) (by decide +kernel)) (goodIn_sub (fun _ h => List.mem_cons_of_mem _ (List.mem_append_right _ h)) (by decide +kernel))
set_option maxRecDepth 20000 in
theorem gL_thumb_X4_thumb : GoodIn wsL_thumb (wsV RL 46 RX4 yX4_thumb wsX4_thumb) := goodIn_app (goodIn_of _ (by decide +kernel)) ggL_thumb_X4_thumb
theorem dL_thumb_0 : decode cL_thumb 0 = .ok (.aload_n 3, 1) := by decide +kernel
theorem dL_thumb_1 : decode cL_thumb 1 = .ok (.iconst 0, 1) := by decide +kernel
theorem dL_thumb_2 : decode cL_thumb 2 = .ok (.aload_n 0, 1) := by decide +kernel
theorem dL_thumb_3 : decode cL_thumb 3 = .ok (.iload_n 1, 1) := by decide +kernel
theorem dL_thumb_4 : decode cL_thumb 4 = .ok (.iload_n 2, 1) := by decide +kernel
theorem dL_thumb_5 : decode cL_thumb 5 = .ok (.invokevirtual 46, 3) := by decide +kernel
theorem dL_thumb_8 : decode cL_thumb 8 = .ok (.i2l, 1) := by decide +kernel
theorem dL_thumb_9 : decode cL_thumb 9 = .ok (.lastore, 1) := by decide +kernel
theorem dL_thumb_10 : decode cL_thumb 10 = .ok (.goto 7, 3) := by decide +kernel
theorem dL_thumb_13 : decode cL_thumb 13 = .ok (.astore 4, 2) := by decide +kernel
theorem dL_thumb_15 : decode cL_thumb 15 = .ok (.iconst 1, 1) := by decide +kernel
theorem dL_thumb_16 : decode cL_thumb 16 = .ok (.ireturn, 1) := by decide +kernel
theorem dL_thumb_17 : decode cL_thumb 17 = .ok (.iconst 0, 1) := by decide +kernel
theorem dL_thumb_18 : decode cL_thumb 18 = .ok (.ireturn, 1) := by decide +kernel
end
section
/-! GW: a layer over the kit. Numbers are kept as integers: iZ z, lZ z; rows of them as zA f, lA f. gW: the judgement 'from this pc, with these cells, locals and stack, the machine comes to Q'; gM: a method's contract. -/
def iZ (z : Int) : Int32 := Int32.ofInt z
def lZ (z : Int) : Int64 := Int64.ofInt z
def zA (f : Int → Int) : Nat → Int32 := fun j => iZ (f (j : Int))
def lA (f : Int → Int) : Nat → Int64 := fun j => lZ (f (j : Int))
def upZ (f : Int → Int) (k v : Int) : Int → Int := fun j => if j = k then v else f j
theorem upZ_s {f : Int → Int} {k v : Int} : upZ f k v k = v := by simp [upZ]
theorem upZ_n {f : Int → Int} {k v j : Int} (h : j ≠ k) : upZ f k v j = f j := by simp [upZ, h]
theorem iZ_toInt {z : Int} (h : -2147483648 ≤ z ∧ z ≤ 2147483647) : (iZ z).toInt = z := Int32.toInt_ofInt_of_le (by simpa using h.1) (by simp; omega)
theorem lZ_toInt {z : Int} (h : -9223372036854775808 ≤ z ∧ z ≤ 9223372036854775807) : (lZ z).toInt = z := Int64.toInt_ofInt_of_le (by simpa using h.1) (by simp; omega)
theorem iZ_of (x : Int32) : x = iZ x.toInt := by simp [iZ]
theorem lZ_of (x : Int64) : x = lZ x.toInt := by simp [lZ]
theorem iZ_rng (x : Int32) : -2147483648 ≤ x.toInt ∧ x.toInt ≤ 2147483647 := by
  have h1 := x.le_toInt
  have h2 := x.toInt_lt
  constructor <;> simp at h1 h2 <;> omega
theorem iZ_ex (x : Int32) : ∃ z : Int, x = iZ z ∧ -2147483648 ≤ z ∧ z ≤ 2147483647 := ⟨x.toInt, iZ_of x, iZ_rng x⟩
theorem iZ_add (a b : Int) : iZ a + iZ b = iZ (a + b) := (Int32.ofInt_add a b).symm
theorem iZ_sub (a b : Int) : iZ a - iZ b = iZ (a - b) := (Int32.ofInt_sub a b).symm
theorem iZ_mul (a b : Int) : iZ a * iZ b = iZ (a * b) := (Int32.ofInt_mul a b).symm
theorem iZ_neg (a : Int) : - iZ a = iZ (-a) := (Int32.ofInt_neg a).symm
theorem lZ_add (a b : Int) : lZ a + lZ b = lZ (a + b) := (Int64.ofInt_add a b).symm
theorem lZ_sub (a b : Int) : lZ a - lZ b = lZ (a - b) := (Int64.ofInt_sub a b).symm
theorem lZ_mul (a b : Int) : lZ a * lZ b = lZ (a * b) := (Int64.ofInt_mul a b).symm
theorem iZ_lt {a b : Int} (ha : -2147483648 ≤ a ∧ a ≤ 2147483647) (hb : -2147483648 ≤ b ∧ b ≤ 2147483647) : iZ a < iZ b ↔ a < b := by rw [Int32.lt_iff_toInt_lt, iZ_toInt ha, iZ_toInt hb]
theorem iZ_le {a b : Int} (ha : -2147483648 ≤ a ∧ a ≤ 2147483647) (hb : -2147483648 ≤ b ∧ b ≤ 2147483647) : iZ a ≤ iZ b ↔ a ≤ b := by rw [Int32.le_iff_toInt_le, iZ_toInt ha, iZ_toInt hb]
theorem iZ_eq {a b : Int} (ha : -2147483648 ≤ a ∧ a ≤ 2147483647) (hb : -2147483648 ≤ b ∧ b ≤ 2147483647) : iZ a = iZ b ↔ a = b := by rw [← Int32.toInt_inj, iZ_toInt ha, iZ_toInt hb]
theorem lZ_lt {a b : Int} (ha : -9223372036854775808 ≤ a ∧ a ≤ 9223372036854775807) (hb : -9223372036854775808 ≤ b ∧ b ≤ 9223372036854775807) : lZ a < lZ b ↔ a < b := by rw [Int64.lt_iff_toInt_lt, lZ_toInt ha, lZ_toInt hb]
theorem lZ_eq {a b : Int} (ha : -9223372036854775808 ≤ a ∧ a ≤ 9223372036854775807) (hb : -9223372036854775808 ≤ b ∧ b ≤ 9223372036854775807) : lZ a = lZ b ↔ a = b := by rw [← Int64.toInt_inj, lZ_toInt ha, lZ_toInt hb]
theorem iZ_l {z : Int} (h : -2147483648 ≤ z ∧ z ≤ 2147483647) : (iZ z).toInt64 = lZ z := by
  rw [← Int64.toInt_inj, Int32.toInt_toInt64, iZ_toInt h, lZ_toInt (by omega)]
theorem lZ_i (z : Int) : (lZ z).toInt32 = iZ z := by simp [lZ, iZ]
theorem iZ_clamp {z : Int} (h : 0 ≤ z ∧ z ≤ 2147483647) : (iZ z).toNatClampNeg = z.toNat := by
  show (iZ z).toInt.toNat = _
  rw [iZ_toInt (by omega)]
theorem zA_at (f : Int → Int) {z : Int} (h : 0 ≤ z) : zA f z.toNat = iZ (f z) := by simp [zA, Int.toNat_of_nonneg h]
theorem lA_at (f : Int → Int) {z : Int} (h : 0 ≤ z) : lA f z.toNat = lZ (f z) := by simp [lA, Int.toNat_of_nonneg h]
theorem zA_up (f : Int → Int) {z v : Int} (h : 0 ≤ z) : upd (zA f) z.toNat (iZ v) = zA (upZ f z v) := by
  funext j
  simp only [upd, zA, upZ]
  by_cases e : j = z.toNat
  · have e2 : (j : Int) = z := by omega
    simp [e, e2, Int.toNat_of_nonneg h]
  · have e2 : ¬ (j : Int) = z := by omega
    simp [e, e2]
theorem lA_up (f : Int → Int) {z v : Int} (h : 0 ≤ z) : vp_updL (lA f) z.toNat (lZ v) = lA (upZ f z v) := by
  funext j
  simp only [vp_updL, lA, upZ]
  by_cases e : j = z.toNat
  · have e2 : (j : Int) = z := by omega
    simp [e, e2, Int.toNat_of_nonneg h]
  · have e2 : ¬ (j : Int) = z := by omega
    simp [e, e2]
theorem vp_in_iZ {z : Int} {n : Nat} (h : 0 ≤ z ∧ z < n) (hn : (n : Int) ≤ 2147483647) : vp_in (iZ z) n := by
  rw [vp_in_iff, iZ_toInt (by omega)]
  exact h
theorem vp_in_ofZ {z : Int} {n : Nat} (h : vp_in (iZ z) n) (hz : -2147483648 ≤ z ∧ z ≤ 2147483647) : 0 ≤ z ∧ z < n := by
  rw [vp_in_iff, iZ_toInt hz] at h
  exact h
theorem iZ_nI {a : Int} (ha : 0 ≤ a ∧ a ≤ 2147483647) : iZ a = nI a.toNat := by
  rw [← Int32.toInt_inj, iZ_toInt (by omega), nI_toInt (by omega)]
  omega
theorem lZ_lN {a : Int} (ha : 0 ≤ a ∧ a ≤ 9223372036854775807) : lZ a = lN a.toNat := by
  rw [← Int64.toInt_inj, lZ_toInt (by omega), pk_lT (by omega)]
  omega
theorem iZ_div {a b : Int} (ha : 0 ≤ a ∧ a ≤ 2147483647) (hb : 0 < b ∧ b ≤ 2147483647) : iZ a / iZ b = iZ (a / b) := by
  have h3 : (((a.toNat / b.toNat : Nat)) : Int) = a / b := by
    rw [Int.natCast_ediv, Int.toNat_of_nonneg ha.1, Int.toNat_of_nonneg (Int.le_of_lt hb.1)]
  have h4 : 0 ≤ a / b := Int.ediv_nonneg ha.1 (Int.le_of_lt hb.1)
  have h5 : a / b ≤ a := Int.ediv_le_self b ha.1
  rw [iZ_nI ha, iZ_nI (by omega : 0 ≤ b ∧ b ≤ 2147483647), pk_div (by omega) (by omega) (by omega), iZ_nI (by omega : 0 ≤ a / b ∧ a / b ≤ 2147483647), ← h3, Int.toNat_natCast]
theorem iZ_rem {a b : Int} (ha : 0 ≤ a ∧ a ≤ 2147483647) (hb : 0 < b ∧ b ≤ 2147483647) : iZ a - iZ a / iZ b * iZ b = iZ (a % b) := by
  rw [iZ_div ha hb, iZ_mul, iZ_sub]
  congr 1
  have := Int.emod_add_mul_ediv a b
  have e : b * (a / b) = a / b * b := Int.mul_comm _ _
  omega
theorem lZ_div {a b : Int} (ha : 0 ≤ a ∧ a ≤ 9223372036854775807) (hb : 0 < b ∧ b ≤ 9223372036854775807) : lZ a / lZ b = lZ (a / b) := by
  have h3 : (((a.toNat / b.toNat : Nat)) : Int) = a / b := by
    rw [Int.natCast_ediv, Int.toNat_of_nonneg ha.1, Int.toNat_of_nonneg (Int.le_of_lt hb.1)]
  have h4 : 0 ≤ a / b := Int.ediv_nonneg ha.1 (Int.le_of_lt hb.1)
  have h5 : a / b ≤ a := Int.ediv_le_self b ha.1
  rw [lZ_lN ha, lZ_lN (by omega : 0 ≤ b ∧ b ≤ 9223372036854775807), pk_lDiv (by omega) (by omega) (by omega), lZ_lN (by omega : 0 ≤ a / b ∧ a / b ≤ 9223372036854775807), ← h3, Int.toNat_natCast]
theorem vp_nar_bool {z : Int} (h : z = 0 ∨ z = 1) : vp_nar .boolean (iZ z) = iZ z := by
  rcases h with rfl | rfl <;> rfl
abbrev vwCl : List vw_C := [(RX0, TX0, 9), (RX1, TX1, 8), (RX2, TX2, 2), (RX3, TX3, 5), (RX4, TX4, 10), (RX5, TX5, 46)]
/-- the array classes: byte 0, int 1, long 2, boolean 3 -/
abbrev gT (cB cI cJ cY : ClassId) : List (ClassId × FieldType) := [(cB, .byte), (cI, .int), (cJ, .long), (cY, .boolean)]
/-- the links to private fields of nest mates -/
def gNest : List Cond := tables_1.filter (fun w => match w with | .fieldLinkNest _ _ _ _ _ _ => true | _ => false)
def gN (U : State) : Prop := ∀ w ∈ gNest, va_Nw w U
theorem gN.warm {s U : State} (hW : s.WarmedH U.vm) (h : gN s) : gN U := by
  intro w hw
  have h1 := h w hw
  have h2 := (List.mem_filter.mp hw).2
  cases w <;> simp at h2
  exact va_Nw.warmF hW h1
theorem gN.same {s U : State} (hvm : s.vm = U.vm) (h : gN s) : gN U := by
  intro w hw
  have h1 := h w hw
  have h2 := (List.mem_filter.mp hw).2
  cases w <;> simp at h2
  exact va_Nw.same rfl hvm h1
/-- what stands fast while a method runs -/
def gX (p : Program) (s : State) (m : MethodId) (args : Array Value) (meth : Method) (c : Code) (cc : ByteArray) (nL : Nat) (Ts : List Cond) (own : String) (D : va_G) (tys : List (ClassId × FieldType)) (A : Nat → Prop) : Prop :=
  p.tables.exec = Jvm.exec ∧ c.code = cc ∧ c.maxLocals = nL ∧ s.vm.findClass own = some m.cls ∧ (∀ w ∈ Ts, w.before args s = true) ∧ va_K D vwCl tys s ∧ (∀ q, s.heap.size ≤ q → A q) ∧ meth.locks = false ∧ gN s
def gW (p : Program) (l : Launch) (e : Env) (R : Room) (s : State) (m : MethodId) (args : Array Value) (below : List Frame) (meth : Method) (c : Code) (D : va_G) (A : Nat → Prop) (nL cells slots : Nat) (Q : State → Prop) (ws : va_W) (pc : Nat) (lv : List (Nat × Value)) (st : List Value) : Prop :=
  ∀ (H : Heap) (locs : List Loc) (ls : Array Slot), va_P D vwCl ws H → va_D A ws → va_S A s.heap H locs → lv_has ls nL lv → W p l e R s m args below meth c H locs cells slots Q (F0 m pc ls st)
/-- what a contract says of its end -/
def gQ (D : va_G) (tys : List (ClassId × FieldType)) (Qp : Option Value → va_W → Prop) (A : Nat → Prop) : Array Value → State → Outcome → State → Prop := fun _ st oc t =>
  (∃ (v : Option Value) (w1 : va_W), oc = .returned v ∧ Qp v w1 ∧ va_P D vwCl w1 t.heap ∧ va_K D vwCl tys t ∧ va_D A w1) ∧ va_F A st t
/-- .. and of its start -/
def gP (D : va_G) (tys : List (ClassId × FieldType)) (av : List Value) (ws : va_W) (sz : Nat) : Array Value → State → Prop := va_Pc av (fun U => U.heap.size = sz ∧ va_P D vwCl ws U.heap ∧ va_K D vwCl tys U ∧ va_D (fun _ => True) ws ∧ gN U)
def gM (l : Launch) (y : MethodName) (wy : List Cond) (rm : Room) (D : va_G) (tys : List (ClassId × FieldType)) (av : List Value) (ws : va_W) (mc ms : Nat) (Qp : Option Value → va_W → Prop) : Prop :=
  ∀ sz : Nat, Met l y wy rm (gP D tys av ws sz) (gQ D tys Qp (va_A ws sz)) mc ms (va_A ws sz)
theorem g_start {l : Launch} {y : MethodName} {wy ws' : List Cond} {rm : Room} {D : va_G} {tys : List (ClassId × FieldType)} {av : List Value} {ws : va_W} {mc ms : Nat} {Qp : Option Value → va_W → Prop} {cc : ByteArray} {maxL : Nat} {ret : Option FieldType} {lv : List (Nat × Value)}
    (hy : plainName y.cls = true) (hw : wy = Cond.code y cc maxL ret :: ws') (hl : (lg_sl av).length ≤ maxL) (hlv : lv_args 0 av = lv)
    (body : ∀ p e s m args below meth c A, gX p s m args meth c cc maxL wy y.cls D tys A → meth.sig.returnType = ret → meth.name = y.name → gW p l e rm s m args below meth c D A maxL 0 0 (MQ below (gQ D tys Qp A) args s mc ms A) ws 0 lv []) : gM l y wy rm D tys av ws mc ms Qp := by
  intro sz
  refine Met.ofW (cc := cc) (maxL := maxL) (ret := ret) hy hw ?_
  intro p e s m args below meth c s₁ B hml hv
  obtain ⟨rfl, hsz, hP, hK, hD0, hN⟩ := hv
  have hts := atoms_spec (ws := wy) B.pre
  have hown : s.vm.findClass y.cls = some m.cls := findClass_of_methodNamed (x := y) B.named
  subst hsz
  have hD := hD0.self (sz := s.heap.size)
  have hA : ∀ q : Nat, s.heap.size ≤ q → va_A ws s.heap.size q := fun q h => Or.inr h
  have hlv' := lv_entry av (n := maxL) hl
  rw [lg_entry_eq]
  rw [hlv] at hlv'
  exact body p e s m _ below meth c _ ⟨B.exec, B.bytes, hml, hown, hts, hK, hA, B.notSynchronized, hN⟩ B.returns (name_of_methodNamed B.named B.method).1 s.heap [] _ hP hD va_S.rf hlv'
end
section
theorem i32_ext {x y : Int32} (h : x.toBitVec.toNat = y.toBitVec.toNat) : x = y := Int32.toBitVec_inj.mp (BitVec.eq_of_toNat_eq h)
theorem iZ_bv (z : Int) : (iZ z).toBitVec.toNat = (z % 4294967296).toNat := by
  show (BitVec.ofInt 32 z).toNat = _
  rw [BitVec.toNat_ofInt]
  rfl
/-! instruction rules over gW, printed by wip/whole/gen/mkrules.py -/
def cmpZ (a b : Int) : Int := if b < a then 1 else if a = b then 0 else -1
theorem cmpZ_lt {a b : Int} : cmpZ a b < 0 ↔ a < b := by unfold cmpZ; split; omega; split <;> omega
theorem cmpZ_le {a b : Int} : cmpZ a b ≤ 0 ↔ a ≤ b := by unfold cmpZ; split; omega; split <;> omega
theorem cmpZ_eq {a b : Int} : cmpZ a b = 0 ↔ a = b := by unfold cmpZ; split; omega; split <;> omega
theorem cmpZ_rng (a b : Int) : -1 ≤ cmpZ a b ∧ cmpZ a b ≤ 1 := by unfold cmpZ; split; omega; split <;> omega
theorem lg_cmpZ {a b : Int} (ha : -9223372036854775808 ≤ a ∧ a ≤ 9223372036854775807) (hb : -9223372036854775808 ≤ b ∧ b ≤ 9223372036854775807) : lg_cmp (lZ a) (lZ b) = iZ (cmpZ a b) := by
  unfold lg_cmp cmpZ
  simp only [gt_iff_lt, lZ_lt hb ha, lZ_eq ha hb]
  split
  · rfl
  · split <;> rfl
def minZ (a b : Int) : Int := if b < a then b else a
def maxZ (a b : Int) : Int := if a < b then b else a
def absZ (a : Int) : Int := if a < 0 then -a else a
section GR
variable {p : Program} {l : Launch} {e : Env} {R : Room} {s : State} {m : MethodId} {args : Array Value} {below : List Frame} {meth : Method} {c : Code} {cells slots : Nat} {Q : State → Prop}
variable {cc : ByteArray} {nL : Nat} {Ts : List Cond} {own : String} {D : va_G} {tys : List (ClassId × FieldType)} {A : Nat → Prop} {ws : va_W} {pc : Nat} {lv : List (Nat × Value)} {st : List Value}
theorem g_eq {ws' : va_W} {pc' : Nat} {lv' : List (Nat × Value)} {st' : List Value} (h1 : ws = ws') (h2 : pc = pc') (h3 : lv = lv') (h4 : st = st') (k : gW p l e R s m args below meth c D A nL cells slots Q ws' pc' lv' st') : gW p l e R s m args below meth c D A nL cells slots Q ws pc lv st := by
  subst h1; subst h2; subst h3; subst h4; exact k
theorem g_perm {ws' : va_W} (is : List Nat) (hn : va_nd is = true) (hs : is.map (fun i => ws[i]?) = ws'.map some) (k : gW p l e R s m args below meth c D A nL cells slots Q ws' pc lv st) : gW p l e R s m args below meth c D A nL cells slots Q ws pc lv st := by
  intro H locs ls hP hD hS hl
  refine k H locs ls (hP.sub is ?_) (hD.sub is hn hs) hS hl
  have h1 : is.filterMap (fun i => ws[i]?) = (is.map (fun i => ws[i]?)).filterMap id := by rw [List.filterMap_map]; rfl
  rw [h1, hs, List.filterMap_map]
  exact List.filterMap_some
theorem g_widen {k n : Nat} (h1 : cells ≤ k) (h2 : slots ≤ n) (kk : gW p l e R s m args below meth c D A nL k n Q ws pc lv st) : gW p l e R s m args below meth c D A nL cells slots Q ws pc lv st := by
  intro H locs ls hP hD hS hl
  exact W.widen h1 h2 (kk H locs ls hP hD hS hl)
theorem g_lv {lv' : List (Nat × Value)} (ks : List Nat) (h : lv_pick lv ks = lv') (k : gW p l e R s m args below meth c D A nL cells slots Q ws pc lv' st) : gW p l e R s m args below meth c D A nL cells slots Q ws pc lv st := by
  intro H locs ls hP hD hS hl
  exact k H locs ls hP hD hS (lv_sub hl ks h)
theorem g_iconst (X : gX p s m args meth c cc nL Ts own D tys A) {n : Int} (hd : decode cc pc = .ok (.iconst n, 1)) (k : gW p l e R s m args below meth c D A nL cells slots Q ws (pc + 1) lv (.int (iZ n) :: st)) : gW p l e R s m args below meth c D A nL cells slots Q ws pc lv (st) := by
  intro H locs ls hP hD hS hl
  refine lv_iconst X.1 X.2.1 hd rfl ?_
  exact k H locs ls hP hD hS hl
theorem g_bipush (X : gX p s m args meth c cc nL Ts own D tys A) {n : Int} (hd : decode cc pc = .ok (.bipush n, 2)) (hv : (Int8.ofInt n).toInt32 = iZ n) (k : gW p l e R s m args below meth c D A nL cells slots Q ws (pc + 2) lv (.int (iZ n) :: st)) : gW p l e R s m args below meth c D A nL cells slots Q ws pc lv (st) := by
  intro H locs ls hP hD hS hl
  refine lv_bipush X.1 X.2.1 hd hv ?_
  exact k H locs ls hP hD hS hl
theorem g_sipush (X : gX p s m args meth c cc nL Ts own D tys A) {n : Int} (hd : decode cc pc = .ok (.sipush n, 3)) (hv : (Int16.ofInt n).toInt32 = iZ n) (k : gW p l e R s m args below meth c D A nL cells slots Q ws (pc + 3) lv (.int (iZ n) :: st)) : gW p l e R s m args below meth c D A nL cells slots Q ws pc lv (st) := by
  intro H locs ls hP hD hS hl
  refine lv_sipush X.1 X.2.1 hd hv ?_
  exact k H locs ls hP hD hS hl
theorem g_lconst (X : gX p s m args meth c cc nL Ts own D tys A) {n : Fin 2} {z : Int} (hd : decode cc pc = .ok (.lconst n, 1)) (hv : Int64.ofNat (n : Nat) = lZ z) (k : gW p l e R s m args below meth c D A nL cells slots Q ws (pc + 1) lv (.long (lZ z) :: st)) : gW p l e R s m args below meth c D A nL cells slots Q ws pc lv (st) := by
  intro H locs ls hP hD hS hl
  refine lv_lconst X.1 X.2.1 hd hv ?_
  exact k H locs ls hP hD hS hl
theorem g_ldc2 (X : gX p s m args meth c cc nL Ts own D tys A) {index : Nat} {v : Int64} {z : Int} (hd : decode cc pc = .ok (.ldc2_w index, 3)) (hw : .constantLong own index v ∈ Ts) (hv : v = lZ z) (k : gW p l e R s m args below meth c D A nL cells slots Q ws (pc + 3) lv (.long (lZ z) :: st)) : gW p l e R s m args below meth c D A nL cells slots Q ws pc lv (st) := by
  intro H locs ls hP hD hS hl
  subst hv
  refine lv_ldc2 X.1 X.2.1 X.2.2.2.1 (X.2.2.2.2.1 _ hw) hd ?_
  exact k H locs ls hP hD hS hl
theorem g_iload_n (X : gX p s m args meth c cc nL Ts own D tys A) {k0 : Fin 4} {i : Nat} {x : Int32} (q : Nat) (hd : decode cc pc = .ok (.iload_n k0, 1)) (hi : (k0 : Nat) = i) (hq : lv[q]? = some (i, .int x)) (k : gW p l e R s m args below meth c D A nL cells slots Q ws (pc + 1) lv (.int x :: st)) : gW p l e R s m args below meth c D A nL cells slots Q ws pc lv (st) := by
  intro H locs ls hP hD hS hl
  refine lv_iload_n X.1 X.2.1 hd hi (lv_at hl q hq) ?_
  exact k H locs ls hP hD hS hl
theorem g_iload (X : gX p s m args meth c cc nL Ts own D tys A) {i : Nat} {x : Int32} (q : Nat) (hd : decode cc pc = .ok (.iload i, 2)) (hq : lv[q]? = some (i, .int x)) (k : gW p l e R s m args below meth c D A nL cells slots Q ws (pc + 2) lv (.int x :: st)) : gW p l e R s m args below meth c D A nL cells slots Q ws pc lv (st) := by
  intro H locs ls hP hD hS hl
  refine lv_iload X.1 X.2.1 hd (lv_at hl q hq) ?_
  exact k H locs ls hP hD hS hl
theorem g_istore_n (X : gX p s m args meth c cc nL Ts own D tys A) {k0 : Fin 4} {i : Nat} {x : Int32} {lv2 : List (Nat × Value)} (hd : decode cc pc = .ok (.istore_n k0, 1)) (hi : (k0 : Nat) = i) (hn : i < nL) (hlv : (i, Value.int x) :: lv.filter (fun q => !(q.1 == i) && !(q.1 + 1 == i && q.2.category == 2)) = lv2) (k : gW p l e R s m args below meth c D A nL cells slots Q ws (pc + 1) lv2 (st)) : gW p l e R s m args below meth c D A nL cells slots Q ws pc lv (.int x :: st) := by
  intro H locs ls hP hD hS hl
  refine lv_istore_n X.1 X.2.1 hd hi hl hn hlv (fun ls hl => ?_)
  exact k H locs ls hP hD hS hl
theorem g_istore (X : gX p s m args meth c cc nL Ts own D tys A) {i : Nat} {x : Int32} {lv2 : List (Nat × Value)} (hd : decode cc pc = .ok (.istore i, 2)) (hn : i < nL) (hlv : (i, Value.int x) :: lv.filter (fun q => !(q.1 == i) && !(q.1 + 1 == i && q.2.category == 2)) = lv2) (k : gW p l e R s m args below meth c D A nL cells slots Q ws (pc + 2) lv2 (st)) : gW p l e R s m args below meth c D A nL cells slots Q ws pc lv (.int x :: st) := by
  intro H locs ls hP hD hS hl
  refine lv_istore X.1 X.2.1 hd hl hn hlv (fun ls hl => ?_)
  exact k H locs ls hP hD hS hl
theorem g_lload_n (X : gX p s m args meth c cc nL Ts own D tys A) {k0 : Fin 4} {i : Nat} {x : Int64} (q : Nat) (hd : decode cc pc = .ok (.lload_n k0, 1)) (hi : (k0 : Nat) = i) (hq : lv[q]? = some (i, .long x)) (k : gW p l e R s m args below meth c D A nL cells slots Q ws (pc + 1) lv (.long x :: st)) : gW p l e R s m args below meth c D A nL cells slots Q ws pc lv (st) := by
  intro H locs ls hP hD hS hl
  refine lv_lload_n X.1 X.2.1 hd hi (lv_at hl q hq) ?_
  exact k H locs ls hP hD hS hl
theorem g_lload (X : gX p s m args meth c cc nL Ts own D tys A) {i : Nat} {x : Int64} (q : Nat) (hd : decode cc pc = .ok (.lload i, 2)) (hq : lv[q]? = some (i, .long x)) (k : gW p l e R s m args below meth c D A nL cells slots Q ws (pc + 2) lv (.long x :: st)) : gW p l e R s m args below meth c D A nL cells slots Q ws pc lv (st) := by
  intro H locs ls hP hD hS hl
  refine lv_lload X.1 X.2.1 hd (lv_at hl q hq) ?_
  exact k H locs ls hP hD hS hl
theorem g_lstore_n (X : gX p s m args meth c cc nL Ts own D tys A) {k0 : Fin 4} {i : Nat} {x : Int64} {lv2 : List (Nat × Value)} (hd : decode cc pc = .ok (.lstore_n k0, 1)) (hi : (k0 : Nat) = i) (hn : i + 1 < nL) (hlv : (i, Value.long x) :: lv.filter (fun q => !(q.1 == i) && (!(q.1 == i + 1) && !(q.1 + 1 == i && q.2.category == 2))) = lv2) (k : gW p l e R s m args below meth c D A nL cells slots Q ws (pc + 1) lv2 (st)) : gW p l e R s m args below meth c D A nL cells slots Q ws pc lv (.long x :: st) := by
  intro H locs ls hP hD hS hl
  refine lv_lstore_n X.1 X.2.1 hd hi hl hn hlv (fun ls hl => ?_)
  exact k H locs ls hP hD hS hl
theorem g_lstore (X : gX p s m args meth c cc nL Ts own D tys A) {i : Nat} {x : Int64} {lv2 : List (Nat × Value)} (hd : decode cc pc = .ok (.lstore i, 2)) (hn : i + 1 < nL) (hlv : (i, Value.long x) :: lv.filter (fun q => !(q.1 == i) && (!(q.1 == i + 1) && !(q.1 + 1 == i && q.2.category == 2))) = lv2) (k : gW p l e R s m args below meth c D A nL cells slots Q ws (pc + 2) lv2 (st)) : gW p l e R s m args below meth c D A nL cells slots Q ws pc lv (.long x :: st) := by
  intro H locs ls hP hD hS hl
  refine lv_lstore X.1 X.2.1 hd hl hn hlv (fun ls hl => ?_)
  exact k H locs ls hP hD hS hl
theorem g_aload_n (X : gX p s m args meth c cc nL Ts own D tys A) {k0 : Fin 4} {i : Nat} {x : Nat} (q : Nat) (hd : decode cc pc = .ok (.aload_n k0, 1)) (hi : (k0 : Nat) = i) (hq : lv[q]? = some (i, .ref x)) (k : gW p l e R s m args below meth c D A nL cells slots Q ws (pc + 1) lv (.ref x :: st)) : gW p l e R s m args below meth c D A nL cells slots Q ws pc lv (st) := by
  intro H locs ls hP hD hS hl
  refine lv_aload_n X.1 X.2.1 hd hi (lv_at hl q hq) ?_
  exact k H locs ls hP hD hS hl
theorem g_aload (X : gX p s m args meth c cc nL Ts own D tys A) {i : Nat} {x : Nat} (q : Nat) (hd : decode cc pc = .ok (.aload i, 2)) (hq : lv[q]? = some (i, .ref x)) (k : gW p l e R s m args below meth c D A nL cells slots Q ws (pc + 2) lv (.ref x :: st)) : gW p l e R s m args below meth c D A nL cells slots Q ws pc lv (st) := by
  intro H locs ls hP hD hS hl
  refine lv_aload X.1 X.2.1 hd (lv_at hl q hq) ?_
  exact k H locs ls hP hD hS hl
theorem g_astore_n (X : gX p s m args meth c cc nL Ts own D tys A) {k0 : Fin 4} {i : Nat} {x : Nat} {lv2 : List (Nat × Value)} (hd : decode cc pc = .ok (.astore_n k0, 1)) (hi : (k0 : Nat) = i) (hn : i < nL) (hlv : (i, Value.ref x) :: lv.filter (fun q => !(q.1 == i) && !(q.1 + 1 == i && q.2.category == 2)) = lv2) (k : gW p l e R s m args below meth c D A nL cells slots Q ws (pc + 1) lv2 (st)) : gW p l e R s m args below meth c D A nL cells slots Q ws pc lv (.ref x :: st) := by
  intro H locs ls hP hD hS hl
  refine lv_astore_n X.1 X.2.1 hd hi hl hn hlv (fun ls hl => ?_)
  exact k H locs ls hP hD hS hl
theorem g_astore (X : gX p s m args meth c cc nL Ts own D tys A) {i : Nat} {x : Nat} {lv2 : List (Nat × Value)} (hd : decode cc pc = .ok (.astore i, 2)) (hn : i < nL) (hlv : (i, Value.ref x) :: lv.filter (fun q => !(q.1 == i) && !(q.1 + 1 == i && q.2.category == 2)) = lv2) (k : gW p l e R s m args below meth c D A nL cells slots Q ws (pc + 2) lv2 (st)) : gW p l e R s m args below meth c D A nL cells slots Q ws pc lv (.ref x :: st) := by
  intro H locs ls hP hD hS hl
  refine lv_astore X.1 X.2.1 hd hl hn hlv (fun ls hl => ?_)
  exact k H locs ls hP hD hS hl
theorem g_iinc (X : gX p s m args meth c cc nL Ts own D tys A) {i q : Nat} {n a : Int} {lv2 : List (Nat × Value)} (hd : decode cc pc = .ok (.iinc i n, 3)) (hq : lv[q]? = some (i, .int (iZ a))) (hn : i < nL) (hlv : (i, Value.int (iZ (a + n))) :: lv.filter (fun q => !(q.1 == i) && !(q.1 + 1 == i && q.2.category == 2)) = lv2) (k : gW p l e R s m args below meth c D A nL cells slots Q ws (pc + 3) lv2 (st)) : gW p l e R s m args below meth c D A nL cells slots Q ws pc lv (st) := by
  intro H locs ls hP hD hS hl
  refine lv_iinc (v := iZ (a + n)) X.1 X.2.1 hd hl hq (iZ_add a n) hn hlv (fun ls hl => ?_)
  exact k H locs ls hP hD hS hl
theorem g_iadd (X : gX p s m args meth c cc nL Ts own D tys A) {a b : Int} (hd : decode cc pc = .ok (.iadd, 1)) (k : gW p l e R s m args below meth c D A nL cells slots Q ws (pc + 1) lv (.int (iZ (a + b)) :: st)) : gW p l e R s m args below meth c D A nL cells slots Q ws pc lv (.int (iZ b) :: .int (iZ a) :: st) := by
  intro H locs ls hP hD hS hl
  refine lv_iadd X.1 X.2.1 hd ?_
  rw [iZ_add]
  exact k H locs ls hP hD hS hl
theorem g_isub (X : gX p s m args meth c cc nL Ts own D tys A) {a b : Int} (hd : decode cc pc = .ok (.isub, 1)) (k : gW p l e R s m args below meth c D A nL cells slots Q ws (pc + 1) lv (.int (iZ (a - b)) :: st)) : gW p l e R s m args below meth c D A nL cells slots Q ws pc lv (.int (iZ b) :: .int (iZ a) :: st) := by
  intro H locs ls hP hD hS hl
  refine lv_isub X.1 X.2.1 hd ?_
  rw [iZ_sub]
  exact k H locs ls hP hD hS hl
theorem g_imul (X : gX p s m args meth c cc nL Ts own D tys A) {a b : Int} (hd : decode cc pc = .ok (.imul, 1)) (k : gW p l e R s m args below meth c D A nL cells slots Q ws (pc + 1) lv (.int (iZ (a * b)) :: st)) : gW p l e R s m args below meth c D A nL cells slots Q ws pc lv (.int (iZ b) :: .int (iZ a) :: st) := by
  intro H locs ls hP hD hS hl
  refine lv_imul X.1 X.2.1 hd ?_
  rw [iZ_mul]
  exact k H locs ls hP hD hS hl
theorem g_ladd (X : gX p s m args meth c cc nL Ts own D tys A) {a b : Int} (hd : decode cc pc = .ok (.ladd, 1)) (k : gW p l e R s m args below meth c D A nL cells slots Q ws (pc + 1) lv (.long (lZ (a + b)) :: st)) : gW p l e R s m args below meth c D A nL cells slots Q ws pc lv (.long (lZ b) :: .long (lZ a) :: st) := by
  intro H locs ls hP hD hS hl
  refine lv_ladd X.1 X.2.1 hd ?_
  rw [lZ_add]
  exact k H locs ls hP hD hS hl
theorem g_lsub (X : gX p s m args meth c cc nL Ts own D tys A) {a b : Int} (hd : decode cc pc = .ok (.lsub, 1)) (k : gW p l e R s m args below meth c D A nL cells slots Q ws (pc + 1) lv (.long (lZ (a - b)) :: st)) : gW p l e R s m args below meth c D A nL cells slots Q ws pc lv (.long (lZ b) :: .long (lZ a) :: st) := by
  intro H locs ls hP hD hS hl
  refine lv_lsub X.1 X.2.1 hd ?_
  rw [lZ_sub]
  exact k H locs ls hP hD hS hl
theorem g_lmul (X : gX p s m args meth c cc nL Ts own D tys A) {a b : Int} (hd : decode cc pc = .ok (.lmul, 1)) (k : gW p l e R s m args below meth c D A nL cells slots Q ws (pc + 1) lv (.long (lZ (a * b)) :: st)) : gW p l e R s m args below meth c D A nL cells slots Q ws pc lv (.long (lZ b) :: .long (lZ a) :: st) := by
  intro H locs ls hP hD hS hl
  refine lv_lmul X.1 X.2.1 hd ?_
  rw [lZ_mul]
  exact k H locs ls hP hD hS hl
theorem g_ineg (X : gX p s m args meth c cc nL Ts own D tys A) {a : Int} (hd : decode cc pc = .ok (.ineg, 1)) (k : gW p l e R s m args below meth c D A nL cells slots Q ws (pc + 1) lv (.int (iZ (-a)) :: st)) : gW p l e R s m args below meth c D A nL cells slots Q ws pc lv (.int (iZ a) :: st) := by
  intro H locs ls hP hD hS hl
  refine lv_ineg X.1 X.2.1 hd ?_
  rw [iZ_neg]
  exact k H locs ls hP hD hS hl
theorem g_idiv (X : gX p s m args meth c cc nL Ts own D tys A) {a b : Int} (hd : decode cc pc = .ok (.idiv, 1)) (ha : 0 ≤ a ∧ a ≤ 2147483647) (hb : 0 < b ∧ b ≤ 2147483647) (k : gW p l e R s m args below meth c D A nL cells slots Q ws (pc + 1) lv (.int (iZ (a / b)) :: st)) : gW p l e R s m args below meth c D A nL cells slots Q ws pc lv (.int (iZ b) :: .int (iZ a) :: st) := by
  intro H locs ls hP hD hS hl
  refine lv_idiv X.1 X.2.1 hd (fun h => by have := (iZ_eq (a := b) (b := 0) (by omega) (by omega)).mp h; omega) ?_
  rw [iZ_div ha hb]
  exact k H locs ls hP hD hS hl
theorem g_irem (X : gX p s m args meth c cc nL Ts own D tys A) {a b : Int} (hd : decode cc pc = .ok (.irem, 1)) (ha : 0 ≤ a ∧ a ≤ 2147483647) (hb : 0 < b ∧ b ≤ 2147483647) (k : gW p l e R s m args below meth c D A nL cells slots Q ws (pc + 1) lv (.int (iZ (a % b)) :: st)) : gW p l e R s m args below meth c D A nL cells slots Q ws pc lv (.int (iZ b) :: .int (iZ a) :: st) := by
  intro H locs ls hP hD hS hl
  refine lv_irem X.1 X.2.1 hd (fun h => by have := (iZ_eq (a := b) (b := 0) (by omega) (by omega)).mp h; omega) ?_
  rw [iZ_rem ha hb]
  exact k H locs ls hP hD hS hl
theorem g_ldiv (X : gX p s m args meth c cc nL Ts own D tys A) {a b : Int} (hd : decode cc pc = .ok (.ldiv, 1)) (ha : 0 ≤ a ∧ a ≤ 9223372036854775807) (hb : 0 < b ∧ b ≤ 9223372036854775807) (k : gW p l e R s m args below meth c D A nL cells slots Q ws (pc + 1) lv (.long (lZ (a / b)) :: st)) : gW p l e R s m args below meth c D A nL cells slots Q ws pc lv (.long (lZ b) :: .long (lZ a) :: st) := by
  intro H locs ls hP hD hS hl
  refine lv_ldiv X.1 X.2.1 hd (fun h => by have := (lZ_eq (a := b) (b := 0) (by omega) (by omega)).mp h; omega) ?_
  rw [lZ_div ha hb]
  exact k H locs ls hP hD hS hl
theorem g_i2l (X : gX p s m args meth c cc nL Ts own D tys A) {a : Int} (hd : decode cc pc = .ok (.i2l, 1)) (ha : -2147483648 ≤ a ∧ a ≤ 2147483647) (k : gW p l e R s m args below meth c D A nL cells slots Q ws (pc + 1) lv (.long (lZ a) :: st)) : gW p l e R s m args below meth c D A nL cells slots Q ws pc lv (.int (iZ a) :: st) := by
  intro H locs ls hP hD hS hl
  refine lv_i2l X.1 X.2.1 hd (iZ_l ha) ?_
  exact k H locs ls hP hD hS hl
theorem g_l2i (X : gX p s m args meth c cc nL Ts own D tys A) {a : Int} (hd : decode cc pc = .ok (.l2i, 1)) (k : gW p l e R s m args below meth c D A nL cells slots Q ws (pc + 1) lv (.int (iZ a) :: st)) : gW p l e R s m args below meth c D A nL cells slots Q ws pc lv (.long (lZ a) :: st) := by
  intro H locs ls hP hD hS hl
  refine lv_l2i X.1 X.2.1 hd (lZ_i a) ?_
  exact k H locs ls hP hD hS hl
theorem g_lcmp (X : gX p s m args meth c cc nL Ts own D tys A) {a b : Int} (hd : decode cc pc = .ok (.lcmp, 1)) (ha : -9223372036854775808 ≤ a ∧ a ≤ 9223372036854775807) (hb : -9223372036854775808 ≤ b ∧ b ≤ 9223372036854775807) (k : gW p l e R s m args below meth c D A nL cells slots Q ws (pc + 1) lv (.int (iZ (cmpZ a b)) :: st)) : gW p l e R s m args below meth c D A nL cells slots Q ws pc lv (.long (lZ b) :: .long (lZ a) :: st) := by
  intro H locs ls hP hD hS hl
  refine W.lcmp X.1 X.2.1 hd ?_
  rw [lg_cmpZ ha hb]
  exact k H locs ls hP hD hS hl
theorem g_iand (X : gX p s m args meth c cc nL Ts own D tys A) {x y : Int32} {z : Int} (hd : decode cc pc = .ok (.iand, 1)) (hv : x &&& y = iZ z) (k : gW p l e R s m args below meth c D A nL cells slots Q ws (pc + 1) lv (.int (iZ z) :: st)) : gW p l e R s m args below meth c D A nL cells slots Q ws pc lv (.int y :: .int x :: st) := by
  intro H locs ls hP hD hS hl
  refine lv_iand X.1 X.2.1 hd ?_
  rw [hv]
  exact k H locs ls hP hD hS hl
theorem g_ior (X : gX p s m args meth c cc nL Ts own D tys A) {x y : Int32} {z : Int} (hd : decode cc pc = .ok (.ior, 1)) (hv : x ||| y = iZ z) (k : gW p l e R s m args below meth c D A nL cells slots Q ws (pc + 1) lv (.int (iZ z) :: st)) : gW p l e R s m args below meth c D A nL cells slots Q ws pc lv (.int y :: .int x :: st) := by
  intro H locs ls hP hD hS hl
  refine lv_ior X.1 X.2.1 hd ?_
  rw [hv]
  exact k H locs ls hP hD hS hl
theorem g_ishl (X : gX p s m args meth c cc nL Ts own D tys A) {x y : Int32} {z : Int} (hd : decode cc pc = .ok (.ishl, 1)) (hv : x <<< (y &&& 31) = iZ z) (k : gW p l e R s m args below meth c D A nL cells slots Q ws (pc + 1) lv (.int (iZ z) :: st)) : gW p l e R s m args below meth c D A nL cells slots Q ws pc lv (.int y :: .int x :: st) := by
  intro H locs ls hP hD hS hl
  refine lv_ishl X.1 X.2.1 hd ?_
  rw [hv]
  exact k H locs ls hP hD hS hl
theorem g_ishr (X : gX p s m args meth c cc nL Ts own D tys A) {x y : Int32} {z : Int} (hd : decode cc pc = .ok (.ishr, 1)) (hv : x >>> (y &&& 31) = iZ z) (k : gW p l e R s m args below meth c D A nL cells slots Q ws (pc + 1) lv (.int (iZ z) :: st)) : gW p l e R s m args below meth c D A nL cells slots Q ws pc lv (.int y :: .int x :: st) := by
  intro H locs ls hP hD hS hl
  refine lv_ishr X.1 X.2.1 hd ?_
  rw [hv]
  exact k H locs ls hP hD hS hl
theorem g_iushr (X : gX p s m args meth c cc nL Ts own D tys A) {x y : Int32} {z : Int} (hd : decode cc pc = .ok (.iushr, 1)) (hv : (x.toUInt32 >>> (y.toUInt32 &&& Int32.toUInt32 31)).toInt32 = iZ z) (k : gW p l e R s m args below meth c D A nL cells slots Q ws (pc + 1) lv (.int (iZ z) :: st)) : gW p l e R s m args below meth c D A nL cells slots Q ws pc lv (.int y :: .int x :: st) := by
  intro H locs ls hP hD hS hl
  refine lv_iushr X.1 X.2.1 hd hv ?_
  exact k H locs ls hP hD hS hl
theorem g_lushr (X : gX p s m args meth c cc nL Ts own D tys A) {x : Int64} {y : Int32} {z : Int} (hd : decode cc pc = .ok (.lushr, 1)) (hv : (x.toUInt64 >>> (y.toInt64.toUInt64 &&& Int64.toUInt64 63)).toInt64 = lZ z) (k : gW p l e R s m args below meth c D A nL cells slots Q ws (pc + 1) lv (.long (lZ z) :: st)) : gW p l e R s m args below meth c D A nL cells slots Q ws pc lv (.int y :: .long x :: st) := by
  intro H locs ls hP hD hS hl
  refine lv_lushr X.1 X.2.1 hd hv ?_
  exact k H locs ls hP hD hS hl
theorem g_lshl (X : gX p s m args meth c cc nL Ts own D tys A) {x : Int64} {y : Int32} {z : Int} (hd : decode cc pc = .ok (.lshl, 1)) (hv : x <<< (y.toInt64 &&& 63) = lZ z) (k : gW p l e R s m args below meth c D A nL cells slots Q ws (pc + 1) lv (.long (lZ z) :: st)) : gW p l e R s m args below meth c D A nL cells slots Q ws pc lv (.int y :: .long x :: st) := by
  intro H locs ls hP hD hS hl
  refine lv_lshl X.1 X.2.1 hd hv ?_
  exact k H locs ls hP hD hS hl
theorem g_lor (X : gX p s m args meth c cc nL Ts own D tys A) {x y : Int64} {z : Int} (hd : decode cc pc = .ok (.lor, 1)) (hv : x ||| y = lZ z) (k : gW p l e R s m args below meth c D A nL cells slots Q ws (pc + 1) lv (.long (lZ z) :: st)) : gW p l e R s m args below meth c D A nL cells slots Q ws pc lv (.long y :: .long x :: st) := by
  intro H locs ls hP hD hS hl
  refine lv_lor X.1 X.2.1 hd ?_
  rw [hv]
  exact k H locs ls hP hD hS hl
theorem g_i2b (X : gX p s m args meth c cc nL Ts own D tys A) {x : Int32} {z : Int} (hd : decode cc pc = .ok (.i2b, 1)) (hv : x.toInt8.toInt32 = iZ z) (k : gW p l e R s m args below meth c D A nL cells slots Q ws (pc + 1) lv (.int (iZ z) :: st)) : gW p l e R s m args below meth c D A nL cells slots Q ws pc lv (.int x :: st) := by
  intro H locs ls hP hD hS hl
  refine lv_i2b X.1 X.2.1 hd hv ?_
  exact k H locs ls hP hD hS hl
theorem g_dup (X : gX p s m args meth c cc nL Ts own D tys A) {va : Value} (hd : decode cc pc = .ok (.dup, 1)) (hva : va.category = 1) (k : gW p l e R s m args below meth c D A nL cells slots Q ws (pc + 1) lv (va :: va :: st)) : gW p l e R s m args below meth c D A nL cells slots Q ws pc lv (va :: st) := by
  intro H locs ls hP hD hS hl
  refine lv_dup X.1 X.2.1 hd hva ?_
  exact k H locs ls hP hD hS hl
theorem g_pop (X : gX p s m args meth c cc nL Ts own D tys A) {va : Value} (hd : decode cc pc = .ok (.pop, 1)) (hva : va.category = 1) (k : gW p l e R s m args below meth c D A nL cells slots Q ws (pc + 1) lv (st)) : gW p l e R s m args below meth c D A nL cells slots Q ws pc lv (va :: st) := by
  intro H locs ls hP hD hS hl
  refine lv_pop X.1 X.2.1 hd hva ?_
  exact k H locs ls hP hD hS hl
theorem g_dup_x1 (X : gX p s m args meth c cc nL Ts own D tys A) {va vb : Value} (hd : decode cc pc = .ok (.dup_x1, 1)) (hva : va.category = 1) (hvb : vb.category = 1) (k : gW p l e R s m args below meth c D A nL cells slots Q ws (pc + 1) lv (va :: vb :: va :: st)) : gW p l e R s m args below meth c D A nL cells slots Q ws pc lv (va :: vb :: st) := by
  intro H locs ls hP hD hS hl
  refine lv_dup_x1 X.1 X.2.1 hd hva hvb ?_
  exact k H locs ls hP hD hS hl
theorem g_dup_x2 (X : gX p s m args meth c cc nL Ts own D tys A) {va vb vd : Value} (hd : decode cc pc = .ok (.dup_x2, 1)) (hva : va.category = 1) (hvb : vb.category = 1) (hvd : vd.category = 1) (k : gW p l e R s m args below meth c D A nL cells slots Q ws (pc + 1) lv (va :: vb :: vd :: va :: st)) : gW p l e R s m args below meth c D A nL cells slots Q ws pc lv (va :: vb :: vd :: st) := by
  intro H locs ls hP hD hS hl
  refine lv_dup_x2 X.1 X.2.1 hd hva hvb hvd ?_
  exact k H locs ls hP hD hS hl
theorem g_dup2 (X : gX p s m args meth c cc nL Ts own D tys A) {va vb : Value} (hd : decode cc pc = .ok (.dup2, 1)) (hva : va.category = 1) (hvb : vb.category = 1) (k : gW p l e R s m args below meth c D A nL cells slots Q ws (pc + 1) lv (va :: vb :: va :: vb :: st)) : gW p l e R s m args below meth c D A nL cells slots Q ws pc lv (va :: vb :: st) := by
  intro H locs ls hP hD hS hl
  refine lv_dup2_11 X.1 X.2.1 hd hva hvb ?_
  exact k H locs ls hP hD hS hl
theorem g_goto (X : gX p s m args meth c cc nL Ts own D tys A) {off : Int} (tgt : Nat) (hd : decode cc pc = .ok (.goto off, 3)) (ht : (pc : Int) + off = (tgt : Int)) (k : gW p l e R s m args below meth c D A nL cells slots Q ws tgt lv (st)) : gW p l e R s m args below meth c D A nL cells slots Q ws pc lv (st) := by
  intro H locs ls hP hD hS hl
  refine lv_goto X.1 X.2.1 hd ht ?_
  exact k H locs ls hP hD hS hl
theorem g_icmp_eq (X : gX p s m args meth c cc nL Ts own D tys A) {a b off : Int} (tgt : Nat) (hd : decode cc pc = .ok (.if_icmp .eq off, 3)) (ht : (pc : Int) + off = (tgt : Int)) (ha : -2147483648 ≤ a ∧ a ≤ 2147483647) (hb : -2147483648 ≤ b ∧ b ≤ 2147483647) (kt : a = b → gW p l e R s m args below meth c D A nL cells slots Q ws tgt lv st) (kf : ¬ (a = b) → gW p l e R s m args below meth c D A nL cells slots Q ws (pc + 3) lv st) : gW p l e R s m args below meth c D A nL cells slots Q ws pc lv (.int (iZ b) :: .int (iZ a) :: st) := by
  intro H locs ls hP hD hS hl
  exact lv_icmp_eq X.1 X.2.1 hd ht (fun h => kt ((iZ_eq ha hb).mp h) H locs ls hP hD hS hl) (fun h => kf (fun q => h ((iZ_eq ha hb).mpr q)) H locs ls hP hD hS hl)
theorem g_if_eq (X : gX p s m args meth c cc nL Ts own D tys A) {a off : Int} (tgt : Nat) (hd : decode cc pc = .ok (.ifCond .eq off, 3)) (ht : (pc : Int) + off = (tgt : Int)) (ha : -2147483648 ≤ a ∧ a ≤ 2147483647) (kt : a = 0 → gW p l e R s m args below meth c D A nL cells slots Q ws tgt lv st) (kf : ¬ (a = 0) → gW p l e R s m args below meth c D A nL cells slots Q ws (pc + 3) lv st) : gW p l e R s m args below meth c D A nL cells slots Q ws pc lv (.int (iZ a) :: st) := by
  intro H locs ls hP hD hS hl
  have hb : -2147483648 ≤ (0 : Int) ∧ (0 : Int) ≤ 2147483647 := by omega
  exact lv_if_eq X.1 X.2.1 hd ht (fun h => kt ((iZ_eq ha hb).mp h) H locs ls hP hD hS hl) (fun h => kf (fun q => h ((iZ_eq ha hb).mpr q)) H locs ls hP hD hS hl)
theorem g_icmp_ne (X : gX p s m args meth c cc nL Ts own D tys A) {a b off : Int} (tgt : Nat) (hd : decode cc pc = .ok (.if_icmp .ne off, 3)) (ht : (pc : Int) + off = (tgt : Int)) (ha : -2147483648 ≤ a ∧ a ≤ 2147483647) (hb : -2147483648 ≤ b ∧ b ≤ 2147483647) (kt : ¬ a = b → gW p l e R s m args below meth c D A nL cells slots Q ws tgt lv st) (kf : a = b → gW p l e R s m args below meth c D A nL cells slots Q ws (pc + 3) lv st) : gW p l e R s m args below meth c D A nL cells slots Q ws pc lv (.int (iZ b) :: .int (iZ a) :: st) := by
  intro H locs ls hP hD hS hl
  exact lv_icmp_ne X.1 X.2.1 hd ht (fun h => kt (fun q => h ((iZ_eq ha hb).mpr q)) H locs ls hP hD hS hl) (fun h => kf ((iZ_eq ha hb).mp h) H locs ls hP hD hS hl)
theorem g_if_ne (X : gX p s m args meth c cc nL Ts own D tys A) {a off : Int} (tgt : Nat) (hd : decode cc pc = .ok (.ifCond .ne off, 3)) (ht : (pc : Int) + off = (tgt : Int)) (ha : -2147483648 ≤ a ∧ a ≤ 2147483647) (kt : ¬ a = 0 → gW p l e R s m args below meth c D A nL cells slots Q ws tgt lv st) (kf : a = 0 → gW p l e R s m args below meth c D A nL cells slots Q ws (pc + 3) lv st) : gW p l e R s m args below meth c D A nL cells slots Q ws pc lv (.int (iZ a) :: st) := by
  intro H locs ls hP hD hS hl
  have hb : -2147483648 ≤ (0 : Int) ∧ (0 : Int) ≤ 2147483647 := by omega
  exact lv_if_ne X.1 X.2.1 hd ht (fun h => kt (fun q => h ((iZ_eq ha hb).mpr q)) H locs ls hP hD hS hl) (fun h => kf ((iZ_eq ha hb).mp h) H locs ls hP hD hS hl)
theorem g_icmp_lt (X : gX p s m args meth c cc nL Ts own D tys A) {a b off : Int} (tgt : Nat) (hd : decode cc pc = .ok (.if_icmp .lt off, 3)) (ht : (pc : Int) + off = (tgt : Int)) (ha : -2147483648 ≤ a ∧ a ≤ 2147483647) (hb : -2147483648 ≤ b ∧ b ≤ 2147483647) (kt : a < b → gW p l e R s m args below meth c D A nL cells slots Q ws tgt lv st) (kf : ¬ (a < b) → gW p l e R s m args below meth c D A nL cells slots Q ws (pc + 3) lv st) : gW p l e R s m args below meth c D A nL cells slots Q ws pc lv (.int (iZ b) :: .int (iZ a) :: st) := by
  intro H locs ls hP hD hS hl
  exact lv_icmp_lt X.1 X.2.1 hd ht (fun h => kt ((iZ_lt ha hb).mp h) H locs ls hP hD hS hl) (fun h => kf (fun q => h ((iZ_lt ha hb).mpr q)) H locs ls hP hD hS hl)
theorem g_if_lt (X : gX p s m args meth c cc nL Ts own D tys A) {a off : Int} (tgt : Nat) (hd : decode cc pc = .ok (.ifCond .lt off, 3)) (ht : (pc : Int) + off = (tgt : Int)) (ha : -2147483648 ≤ a ∧ a ≤ 2147483647) (kt : a < 0 → gW p l e R s m args below meth c D A nL cells slots Q ws tgt lv st) (kf : ¬ (a < 0) → gW p l e R s m args below meth c D A nL cells slots Q ws (pc + 3) lv st) : gW p l e R s m args below meth c D A nL cells slots Q ws pc lv (.int (iZ a) :: st) := by
  intro H locs ls hP hD hS hl
  have hb : -2147483648 ≤ (0 : Int) ∧ (0 : Int) ≤ 2147483647 := by omega
  exact lv_if_lt X.1 X.2.1 hd ht (fun h => kt ((iZ_lt ha hb).mp h) H locs ls hP hD hS hl) (fun h => kf (fun q => h ((iZ_lt ha hb).mpr q)) H locs ls hP hD hS hl)
theorem g_icmp_ge (X : gX p s m args meth c cc nL Ts own D tys A) {a b off : Int} (tgt : Nat) (hd : decode cc pc = .ok (.if_icmp .ge off, 3)) (ht : (pc : Int) + off = (tgt : Int)) (ha : -2147483648 ≤ a ∧ a ≤ 2147483647) (hb : -2147483648 ≤ b ∧ b ≤ 2147483647) (kt : b ≤ a → gW p l e R s m args below meth c D A nL cells slots Q ws tgt lv st) (kf : ¬ (b ≤ a) → gW p l e R s m args below meth c D A nL cells slots Q ws (pc + 3) lv st) : gW p l e R s m args below meth c D A nL cells slots Q ws pc lv (.int (iZ b) :: .int (iZ a) :: st) := by
  intro H locs ls hP hD hS hl
  exact lv_icmp_ge X.1 X.2.1 hd ht (fun h => kt ((iZ_le hb ha).mp h) H locs ls hP hD hS hl) (fun h => kf (fun q => h ((iZ_le hb ha).mpr q)) H locs ls hP hD hS hl)
theorem g_if_ge (X : gX p s m args meth c cc nL Ts own D tys A) {a off : Int} (tgt : Nat) (hd : decode cc pc = .ok (.ifCond .ge off, 3)) (ht : (pc : Int) + off = (tgt : Int)) (ha : -2147483648 ≤ a ∧ a ≤ 2147483647) (kt : 0 ≤ a → gW p l e R s m args below meth c D A nL cells slots Q ws tgt lv st) (kf : ¬ (0 ≤ a) → gW p l e R s m args below meth c D A nL cells slots Q ws (pc + 3) lv st) : gW p l e R s m args below meth c D A nL cells slots Q ws pc lv (.int (iZ a) :: st) := by
  intro H locs ls hP hD hS hl
  have hb : -2147483648 ≤ (0 : Int) ∧ (0 : Int) ≤ 2147483647 := by omega
  exact lv_if_ge X.1 X.2.1 hd ht (fun h => kt ((iZ_le hb ha).mp h) H locs ls hP hD hS hl) (fun h => kf (fun q => h ((iZ_le hb ha).mpr q)) H locs ls hP hD hS hl)
theorem g_icmp_gt (X : gX p s m args meth c cc nL Ts own D tys A) {a b off : Int} (tgt : Nat) (hd : decode cc pc = .ok (.if_icmp .gt off, 3)) (ht : (pc : Int) + off = (tgt : Int)) (ha : -2147483648 ≤ a ∧ a ≤ 2147483647) (hb : -2147483648 ≤ b ∧ b ≤ 2147483647) (kt : b < a → gW p l e R s m args below meth c D A nL cells slots Q ws tgt lv st) (kf : ¬ (b < a) → gW p l e R s m args below meth c D A nL cells slots Q ws (pc + 3) lv st) : gW p l e R s m args below meth c D A nL cells slots Q ws pc lv (.int (iZ b) :: .int (iZ a) :: st) := by
  intro H locs ls hP hD hS hl
  exact lv_icmp_gt X.1 X.2.1 hd ht (fun h => kt ((iZ_lt hb ha).mp h) H locs ls hP hD hS hl) (fun h => kf (fun q => h ((iZ_lt hb ha).mpr q)) H locs ls hP hD hS hl)
theorem g_if_gt (X : gX p s m args meth c cc nL Ts own D tys A) {a off : Int} (tgt : Nat) (hd : decode cc pc = .ok (.ifCond .gt off, 3)) (ht : (pc : Int) + off = (tgt : Int)) (ha : -2147483648 ≤ a ∧ a ≤ 2147483647) (kt : 0 < a → gW p l e R s m args below meth c D A nL cells slots Q ws tgt lv st) (kf : ¬ (0 < a) → gW p l e R s m args below meth c D A nL cells slots Q ws (pc + 3) lv st) : gW p l e R s m args below meth c D A nL cells slots Q ws pc lv (.int (iZ a) :: st) := by
  intro H locs ls hP hD hS hl
  have hb : -2147483648 ≤ (0 : Int) ∧ (0 : Int) ≤ 2147483647 := by omega
  exact lv_if_gt X.1 X.2.1 hd ht (fun h => kt ((iZ_lt hb ha).mp h) H locs ls hP hD hS hl) (fun h => kf (fun q => h ((iZ_lt hb ha).mpr q)) H locs ls hP hD hS hl)
theorem g_icmp_le (X : gX p s m args meth c cc nL Ts own D tys A) {a b off : Int} (tgt : Nat) (hd : decode cc pc = .ok (.if_icmp .le off, 3)) (ht : (pc : Int) + off = (tgt : Int)) (ha : -2147483648 ≤ a ∧ a ≤ 2147483647) (hb : -2147483648 ≤ b ∧ b ≤ 2147483647) (kt : a ≤ b → gW p l e R s m args below meth c D A nL cells slots Q ws tgt lv st) (kf : ¬ (a ≤ b) → gW p l e R s m args below meth c D A nL cells slots Q ws (pc + 3) lv st) : gW p l e R s m args below meth c D A nL cells slots Q ws pc lv (.int (iZ b) :: .int (iZ a) :: st) := by
  intro H locs ls hP hD hS hl
  exact lv_icmp_le X.1 X.2.1 hd ht (fun h => kt ((iZ_le ha hb).mp h) H locs ls hP hD hS hl) (fun h => kf (fun q => h ((iZ_le ha hb).mpr q)) H locs ls hP hD hS hl)
theorem g_if_le (X : gX p s m args meth c cc nL Ts own D tys A) {a off : Int} (tgt : Nat) (hd : decode cc pc = .ok (.ifCond .le off, 3)) (ht : (pc : Int) + off = (tgt : Int)) (ha : -2147483648 ≤ a ∧ a ≤ 2147483647) (kt : a ≤ 0 → gW p l e R s m args below meth c D A nL cells slots Q ws tgt lv st) (kf : ¬ (a ≤ 0) → gW p l e R s m args below meth c D A nL cells slots Q ws (pc + 3) lv st) : gW p l e R s m args below meth c D A nL cells slots Q ws pc lv (.int (iZ a) :: st) := by
  intro H locs ls hP hD hS hl
  have hb : -2147483648 ≤ (0 : Int) ∧ (0 : Int) ≤ 2147483647 := by omega
  exact lv_if_le X.1 X.2.1 hd ht (fun h => kt ((iZ_le ha hb).mp h) H locs ls hP hD hS hl) (fun h => kf (fun q => h ((iZ_le ha hb).mpr q)) H locs ls hP hD hS hl)
theorem g_get (X : gX p s m args meth c cc nL Ts own D tys A) {C : String} {T : u_T} {N ci index : Nat} {ref : String} {fs : List Value} {a : Nat} (hin : ∀ w ∈ u_ws C T N, w ∈ Ts) (q0 : Nat) (he : ws[q0]? = some (a, .inr (ci, fs))) (hc : vwCl[ci]? = some (C, T, N)) (k0 : Nat) (hk : k0 < N) (href : (T k0).1 = ref) (hlink : .fieldLink own index ref (T k0).2.1 (T k0).2.2.1 ∈ Ts) {v : Value} (hv : fs[k0]? = some v) (hd : decode cc pc = .ok (.getfield index, 3)) (k : gW p l e R s m args below meth c D A nL cells slots Q ws (pc + 3) lv (v :: st)) : gW p l e R s m args below meth c D A nL cells slots Q ws pc lv (.ref a :: st) := by
  intro H locs ls hP hD hS hl
  refine va_get X.1 X.2.1 X.2.2.2.2.1 hin X.2.2.2.1 X.2.2.2.2.2.1 hP q0 he hc k0 hk (X.2.2.2.2.1 _ hlink) (fun _ h9 => href ▸ h9) hv hd ?_
  exact k H locs ls hP hD hS hl
theorem g_getN (X : gX p s m args meth c cc nL Ts own D tys A) {C : String} {T : u_T} {N ci index : Nat} {ref : String} {fs : List Value} {a : Nat} (hin : ∀ w ∈ u_ws C T N, w ∈ Ts) (q0 : Nat) (he : ws[q0]? = some (a, .inr (ci, fs))) (hc : vwCl[ci]? = some (C, T, N)) (k0 : Nat) (hk : k0 < N) (href : (T k0).1 = ref) {host : String} (hlink : .fieldLinkNest own index ref (T k0).2.1 (T k0).2.2.1 host ∈ gNest) {v : Value} (hv : fs[k0]? = some v) (hd : decode cc pc = .ok (.getfield index, 3)) (k : gW p l e R s m args below meth c D A nL cells slots Q ws (pc + 3) lv (v :: st)) : gW p l e R s m args below meth c D A nL cells slots Q ws pc lv (.ref a :: st) := by
  intro H locs ls hP hD hS hl
  refine va_getN X.1 X.2.1 X.2.2.2.2.1 hin X.2.2.2.1 X.2.2.2.2.2.1 hP q0 he hc k0 hk (va_Nw.use rfl (X.2.2.2.2.2.2.2.2 _ hlink)) (fun _ h9 => href ▸ h9) hv hd ?_
  exact k H locs ls hP hD hS hl
theorem g_put (X : gX p s m args meth c cc nL Ts own D tys A) {C : String} {T : u_T} {N ci index : Nat} {ref : String} {fs : List Value} {a : Nat} (hin : ∀ w ∈ u_ws C T N, w ∈ Ts) (q0 : Nat) (he : ws[q0]? = some (a, .inr (ci, fs))) (hc : vwCl[ci]? = some (C, T, N)) (k0 : Nat) (hk : k0 < N) (href : (T k0).1 = ref) (ty0 : Nat → FieldType) (hty : ∀ k, k < N → parseFieldDescriptor (T k).2.2.1 = some (ty0 k)) (hnm : ∀ a, a < N → ∀ b, b < N → a ≠ b → (T a).2.1 ≠ (T b).2.1) (hlink : .fieldLink own index ref (T k0).2.1 (T k0).2.2.1 ∈ Ts) (hfin : (T k0).2.2.2 = false) {ty : FieldType} {v : Value} (hdd : ty0 k0 = ty) (hnn : narrow ty v = v) (hfit : fits ty v = true) (hle : k0 < fs.length) {ws2 : va_W} (hws : ws.set q0 (a, .inr (ci, fs.set k0 v)) = ws2) (hd : decode cc pc = .ok (.putfield index, 3)) (k : gW p l e R s m args below meth c D A nL cells slots Q ws2 (pc + 3) lv st) : gW p l e R s m args below meth c D A nL cells slots Q ws pc lv (v :: .ref a :: st) := by
  intro H locs ls hP hD hS hl
  subst hws
  exact va_put X.1 X.2.1 X.2.2.2.2.1 hin ty0 hty hnm X.2.2.2.1 X.2.2.2.2.2.1 hP hD hS q0 he hc k0 hk (X.2.2.2.2.1 _ hlink) (fun _ h9 => href ▸ h9) hfin (by rw [hty k0 hk, hdd]) hnn hfit hle hd (fun H locs hP hD hS => k H locs ls hP hD hS hl)
theorem g_putN (X : gX p s m args meth c cc nL Ts own D tys A) {C : String} {T : u_T} {N ci index : Nat} {ref : String} {fs : List Value} {a : Nat} (hin : ∀ w ∈ u_ws C T N, w ∈ Ts) (q0 : Nat) (he : ws[q0]? = some (a, .inr (ci, fs))) (hc : vwCl[ci]? = some (C, T, N)) (k0 : Nat) (hk : k0 < N) (href : (T k0).1 = ref) (ty0 : Nat → FieldType) (hty : ∀ k, k < N → parseFieldDescriptor (T k).2.2.1 = some (ty0 k)) (hnm : ∀ a, a < N → ∀ b, b < N → a ≠ b → (T a).2.1 ≠ (T b).2.1) {host : String} (hlink : .fieldLinkNest own index ref (T k0).2.1 (T k0).2.2.1 host ∈ gNest) (hfin : (T k0).2.2.2 = false) {ty : FieldType} {v : Value} (hdd : ty0 k0 = ty) (hnn : narrow ty v = v) (hfit : fits ty v = true) (hle : k0 < fs.length) {ws2 : va_W} (hws : ws.set q0 (a, .inr (ci, fs.set k0 v)) = ws2) (hd : decode cc pc = .ok (.putfield index, 3)) (k : gW p l e R s m args below meth c D A nL cells slots Q ws2 (pc + 3) lv st) : gW p l e R s m args below meth c D A nL cells slots Q ws pc lv (v :: .ref a :: st) := by
  intro H locs ls hP hD hS hl
  subst hws
  exact va_putN X.1 X.2.1 X.2.2.2.2.1 hin ty0 hty hnm X.2.2.2.1 X.2.2.2.2.2.1 hP hD hS q0 he hc k0 hk (va_Nw.use rfl (X.2.2.2.2.2.2.2.2 _ hlink)) (fun _ h9 => href ▸ h9) hfin (by rw [hty k0 hk, hdd]) hnn hfit hle hd (fun H locs hP hD hS => k H locs ls hP hD hS hl)
theorem g_putF (X : gX p s m args meth c cc nL Ts own D tys A) {C : String} {T : u_T} {N ci index : Nat} {ref : String} {fs : List Value} {a : Nat} (hin : ∀ w ∈ u_ws C T N, w ∈ Ts) (q0 : Nat) (he : ws[q0]? = some (a, .inr (ci, fs))) (hc : vwCl[ci]? = some (C, T, N)) (k0 : Nat) (hk : k0 < N) (href : (T k0).1 = ref) (ty0 : Nat → FieldType) (hty : ∀ k, k < N → parseFieldDescriptor (T k).2.2.1 = some (ty0 k)) (hnm : ∀ a, a < N → ∀ b, b < N → a ≠ b → (T a).2.1 ≠ (T b).2.1) (hlink : .fieldLink own index ref (T k0).2.1 (T k0).2.2.1 ∈ Ts) (hfin : (T k0).2.2.2 = true) (hin2 : meth.name = "<init>") (hdecl : (T k0).1 = own) {ty : FieldType} {v : Value} (hdd : ty0 k0 = ty) (hnn : narrow ty v = v) (hfit : fits ty v = true) (hle : k0 < fs.length) {ws2 : va_W} (hws : ws.set q0 (a, .inr (ci, fs.set k0 v)) = ws2) (hd : decode cc pc = .ok (.putfield index, 3)) (k : gW p l e R s m args below meth c D A nL cells slots Q ws2 (pc + 3) lv st) : gW p l e R s m args below meth c D A nL cells slots Q ws pc lv (v :: .ref a :: st) := by
  intro H locs ls hP hD hS hl
  subst hws
  exact va_putF X.1 X.2.1 X.2.2.2.2.1 hin ty0 hty hnm X.2.2.2.1 X.2.2.2.2.2.1 hP hD hS q0 he hc k0 hk (X.2.2.2.2.1 _ hlink) (fun _ h9 => href ▸ h9) hfin hin2 hdecl (by rw [hty k0 hk, hdd]) hnn hfit hle hd (fun H locs hP hD hS => k H locs ls hP hD hS hl)
theorem g_iald (X : gX p s m args meth c cc nL Ts own D tys A) {cA : ClassId} {n : Nat} {f : Int → Int} {a : Nat} {z : Int} (q0 t0 : Nat) (ha : ws[q0]? = some (a, .inl (cA, n, .inl (zA f)))) (ht : tys[t0]? = some (cA, .int)) (hz : 0 ≤ z ∧ z < n) (hn : (n : Int) ≤ 2147483647) (hd : decode cc pc = .ok (.iaload, 1)) (k : gW p l e R s m args below meth c D A nL cells slots Q ws (pc + 1) lv (.int (iZ (f z)) :: st)) : gW p l e R s m args below meth c D A nL cells slots Q ws pc lv (.int (iZ z) :: .ref a :: st) := by
  intro H locs ls hP hD hS hl
  refine va_iald X.1 X.2.1 X.2.2.2.2.2.1 hP q0 t0 ha ht (vp_in_iZ hz hn) hd ?_
  rw [iZ_clamp (by omega), zA_at f hz.1]
  exact k H locs ls hP hD hS hl
theorem g_zald (X : gX p s m args meth c cc nL Ts own D tys A) {cA : ClassId} {n : Nat} {f : Int → Int} {a : Nat} {z : Int} (q0 t0 : Nat) (ha : ws[q0]? = some (a, .inl (cA, n, .inl (zA f)))) (ht : tys[t0]? = some (cA, .boolean)) (hz : 0 ≤ z ∧ z < n) (hn : (n : Int) ≤ 2147483647) (hd : decode cc pc = .ok (.baload, 1)) (k : gW p l e R s m args below meth c D A nL cells slots Q ws (pc + 1) lv (.int (iZ (f z)) :: st)) : gW p l e R s m args below meth c D A nL cells slots Q ws pc lv (.int (iZ z) :: .ref a :: st) := by
  intro H locs ls hP hD hS hl
  refine va_zald X.1 X.2.1 X.2.2.2.2.2.1 hP q0 t0 ha ht (vp_in_iZ hz hn) hd ?_
  rw [iZ_clamp (by omega), zA_at f hz.1]
  exact k H locs ls hP hD hS hl
theorem g_bald (X : gX p s m args meth c cc nL Ts own D tys A) {cA : ClassId} {n : Nat} {f : Int → Int} {a : Nat} {z : Int} (q0 t0 : Nat) (ha : ws[q0]? = some (a, .inl (cA, n, .inl (zA f)))) (ht : tys[t0]? = some (cA, .byte)) (hz : 0 ≤ z ∧ z < n) (hn : (n : Int) ≤ 2147483647) (hd : decode cc pc = .ok (.baload, 1)) (k : gW p l e R s m args below meth c D A nL cells slots Q ws (pc + 1) lv (.int (iZ (f z)) :: st)) : gW p l e R s m args below meth c D A nL cells slots Q ws pc lv (.int (iZ z) :: .ref a :: st) := by
  intro H locs ls hP hD hS hl
  refine va_bald X.1 X.2.1 X.2.2.2.2.2.1 hP q0 t0 ha ht (vp_in_iZ hz hn) hd ?_
  rw [iZ_clamp (by omega), zA_at f hz.1]
  exact k H locs ls hP hD hS hl
theorem g_lald (X : gX p s m args meth c cc nL Ts own D tys A) {cA : ClassId} {n : Nat} {f : Int → Int} {a : Nat} {z : Int} (q0 t0 : Nat) (ha : ws[q0]? = some (a, .inl (cA, n, .inr (.inl (lA f))))) (ht : tys[t0]? = some (cA, .long)) (hz : 0 ≤ z ∧ z < n) (hn : (n : Int) ≤ 2147483647) (hd : decode cc pc = .ok (.laload, 1)) (k : gW p l e R s m args below meth c D A nL cells slots Q ws (pc + 1) lv (.long (lZ (f z)) :: st)) : gW p l e R s m args below meth c D A nL cells slots Q ws pc lv (.int (iZ z) :: .ref a :: st) := by
  intro H locs ls hP hD hS hl
  refine va_lald X.1 X.2.1 X.2.2.2.2.2.1 hP q0 t0 ha ht (vp_in_iZ hz hn) hd ?_
  rw [iZ_clamp (by omega), lA_at f hz.1]
  exact k H locs ls hP hD hS hl
theorem g_iast (X : gX p s m args meth c cc nL Ts own D tys A) {cA : ClassId} {n : Nat} {f : Int → Int} {a : Nat} {z : Int} (q0 t0 : Nat) (ha : ws[q0]? = some (a, .inl (cA, n, .inl (zA f)))) (ht : tys[t0]? = some (cA, .int)) (hz : 0 ≤ z ∧ z < n) (hn : (n : Int) ≤ 2147483647) {v : Int} {ws2 : va_W} (hws : ws.set q0 (a, .inl (cA, n, .inl (zA (upZ f z v)))) = ws2) (hd : decode cc pc = .ok (.iastore, 1)) (k : gW p l e R s m args below meth c D A nL cells slots Q ws2 (pc + 1) lv st) : gW p l e R s m args below meth c D A nL cells slots Q ws pc lv (.int (iZ v) :: .int (iZ z) :: .ref a :: st) := by
  intro H locs ls hP hD hS hl
  subst hws
  refine va_iast X.1 X.2.1 X.2.2.2.2.2.1 hP hD hS q0 t0 ha ht (vp_in_iZ hz hn) hd (fun H locs hP hD hS => ?_)
  rw [iZ_clamp (by omega)] at hP hD
  rw [zA_up f hz.1] at hP hD
  exact k H locs ls hP hD hS hl
theorem g_zast (X : gX p s m args meth c cc nL Ts own D tys A) {cA : ClassId} {n : Nat} {f : Int → Int} {a : Nat} {z : Int} (q0 t0 : Nat) (ha : ws[q0]? = some (a, .inl (cA, n, .inl (zA f)))) (ht : tys[t0]? = some (cA, .boolean)) (hz : 0 ≤ z ∧ z < n) (hn : (n : Int) ≤ 2147483647) {v : Int} (hb1 : v = 0 ∨ v = 1) {ws2 : va_W} (hws : ws.set q0 (a, .inl (cA, n, .inl (zA (upZ f z v)))) = ws2) (hd : decode cc pc = .ok (.bastore, 1)) (k : gW p l e R s m args below meth c D A nL cells slots Q ws2 (pc + 1) lv st) : gW p l e R s m args below meth c D A nL cells slots Q ws pc lv (.int (iZ v) :: .int (iZ z) :: .ref a :: st) := by
  intro H locs ls hP hD hS hl
  subst hws
  refine va_zast X.1 X.2.1 X.2.2.2.2.2.1 hP hD hS q0 t0 ha ht (vp_in_iZ hz hn) hd (fun H locs hP hD hS => ?_)
  rw [iZ_clamp (by omega)] at hP hD
  rw [vp_nar_bool hb1] at hP hD
  rw [zA_up f hz.1] at hP hD
  exact k H locs ls hP hD hS hl
theorem g_bast (X : gX p s m args meth c cc nL Ts own D tys A) {cA : ClassId} {n : Nat} {f : Int → Int} {a : Nat} {z : Int} (q0 t0 : Nat) (ha : ws[q0]? = some (a, .inl (cA, n, .inl (zA f)))) (ht : tys[t0]? = some (cA, .byte)) (hz : 0 ≤ z ∧ z < n) (hn : (n : Int) ≤ 2147483647) {v : Int} (hb1 : vp_nar .byte (iZ v) = iZ v) {ws2 : va_W} (hws : ws.set q0 (a, .inl (cA, n, .inl (zA (upZ f z v)))) = ws2) (hd : decode cc pc = .ok (.bastore, 1)) (k : gW p l e R s m args below meth c D A nL cells slots Q ws2 (pc + 1) lv st) : gW p l e R s m args below meth c D A nL cells slots Q ws pc lv (.int (iZ v) :: .int (iZ z) :: .ref a :: st) := by
  intro H locs ls hP hD hS hl
  subst hws
  refine va_bast X.1 X.2.1 X.2.2.2.2.2.1 hP hD hS q0 t0 ha ht (vp_in_iZ hz hn) hd (fun H locs hP hD hS => ?_)
  rw [iZ_clamp (by omega)] at hP hD
  rw [hb1] at hP hD
  rw [zA_up f hz.1] at hP hD
  exact k H locs ls hP hD hS hl
theorem g_last (X : gX p s m args meth c cc nL Ts own D tys A) {cA : ClassId} {n : Nat} {f : Int → Int} {a : Nat} {z : Int} (q0 t0 : Nat) (ha : ws[q0]? = some (a, .inl (cA, n, .inr (.inl (lA f))))) (ht : tys[t0]? = some (cA, .long)) (hz : 0 ≤ z ∧ z < n) (hn : (n : Int) ≤ 2147483647) {v : Int} {ws2 : va_W} (hws : ws.set q0 (a, .inl (cA, n, .inr (.inl (lA (upZ f z v))))) = ws2) (hd : decode cc pc = .ok (.lastore, 1)) (k : gW p l e R s m args below meth c D A nL cells slots Q ws2 (pc + 1) lv st) : gW p l e R s m args below meth c D A nL cells slots Q ws pc lv (.long (lZ v) :: .int (iZ z) :: .ref a :: st) := by
  intro H locs ls hP hD hS hl
  subst hws
  refine va_last X.1 X.2.1 X.2.2.2.2.2.1 hP hD hS q0 t0 ha ht (vp_in_iZ hz hn) hd (fun H locs hP hD hS => ?_)
  rw [iZ_clamp (by omega)] at hP hD
  rw [lA_up f hz.1] at hP hD
  exact k H locs ls hP hD hS hl
theorem g_alen (X : gX p s m args meth c cc nL Ts own D tys A) {cA : ClassId} {x : vp_A} {a : Nat} {ty : FieldType} {z : Int} (q0 t0 : Nat) (ha : ws[q0]? = some (a, .inl (cA, x))) (ht : tys[t0]? = some (cA, ty)) (hz : (x.1 : Int) = z) (hd : decode cc pc = .ok (.arraylength, 1)) (k : gW p l e R s m args below meth c D A nL cells slots Q ws (pc + 1) lv (.int (iZ z) :: st)) : gW p l e R s m args below meth c D A nL cells slots Q ws pc lv (.ref a :: st) := by
  intro H locs ls hP hD hS hl
  subst hz
  refine va_alen X.1 X.2.1 X.2.2.2.2.2.1 hP q0 t0 ha ht (v := iZ (x.1 : Int)) (i32_ext (by rw [iZ_bv]; show (BitVec.ofNat 32 x.1).toNat = _; rw [BitVec.toNat_ofNat]; omega)) hd ?_
  exact k H locs ls hP hD hS hl
theorem g_iret (X : gX p s m args meth c cc nL Ts own D tys A) {Qp : Option Value → va_W → Prop} {mc ms : Nat} {v : Int32} (hr : meth.sig.returnType = some .int) (hc : cells ≤ mc) (hs : slots ≤ ms) (hd : decode cc pc = .ok (.ireturn, 1)) (hq : Qp (some (.int v)) ws) : gW p l e R s m args below meth c D A nL cells slots (MQ below (gQ D tys Qp A) args s mc ms A) ws pc lv [.int v] := by
  intro H locs ls hP hD hS hl
  have hlocks := X.2.2.2.2.2.2.2.1
  refine W.widen hc hs ?_
  exact W.iret X.1 X.2.1 hr (fun t ht hW => ⟨⟨_, ws, rfl, hq, by rw [ht]; exact hP, va_K.moved hW.alike X.2.2.2.2.2.1, hD⟩, hS.F ht⟩) hS.2.2 hd
theorem g_lret (X : gX p s m args meth c cc nL Ts own D tys A) {Qp : Option Value → va_W → Prop} {mc ms : Nat} {v : Int64} (hr : meth.sig.returnType = some .long) (hc : cells ≤ mc) (hs : slots ≤ ms) (hd : decode cc pc = .ok (.lreturn, 1)) (hq : Qp (some (.long v)) ws) : gW p l e R s m args below meth c D A nL cells slots (MQ below (gQ D tys Qp A) args s mc ms A) ws pc lv [.long v] := by
  intro H locs ls hP hD hS hl
  have hlocks := X.2.2.2.2.2.2.2.1
  refine W.widen hc hs ?_
  exact W.lret X.1 X.2.1 hr (fun t ht hW => ⟨⟨_, ws, rfl, hq, by rw [ht]; exact hP, va_K.moved hW.alike X.2.2.2.2.2.1, hD⟩, hS.F ht⟩) hS.2.2 hd
theorem g_vret (X : gX p s m args meth c cc nL Ts own D tys A) {Qp : Option Value → va_W → Prop} {mc ms : Nat}  (hr : meth.sig.returnType = none) (hc : cells ≤ mc) (hs : slots ≤ ms) (hd : decode cc pc = .ok (.return_, 1)) (hq : Qp (none) ws) : gW p l e R s m args below meth c D A nL cells slots (MQ below (gQ D tys Qp A) args s mc ms A) ws pc lv [] := by
  intro H locs ls hP hD hS hl
  have hlocks := X.2.2.2.2.2.2.2.1
  refine W.widen hc hs ?_
  exact W.vret X.1 X.2.1 hr (fun t ht hW => ⟨⟨_, ws, rfl, hq, by rw [ht]; exact hP, va_K.moved hW.alike X.2.2.2.2.2.1, hD⟩, hS.F ht⟩) hS.2.2 hd
theorem g_zret (X : gX p s m args meth c cc nL Ts own D tys A) {Qp : Option Value → va_W → Prop} {mc ms : Nat} {v : Int} (hv : v = 0 ∨ v = 1) (hr : meth.sig.returnType = some .boolean) (hc : cells ≤ mc) (hs : slots ≤ ms) (hd : decode cc pc = .ok (.ireturn, 1)) (hq : Qp (some (.int (iZ v))) ws) : gW p l e R s m args below meth c D A nL cells slots (MQ below (gQ D tys Qp A) args s mc ms A) ws pc lv [.int (iZ v)] := by
  intro H locs ls hP hD hS hl
  have hlocks := X.2.2.2.2.2.2.2.1
  refine W.widen hc hs ?_
  exact W.zret X.1 X.2.1 hr (by rcases hv with rfl | rfl <;> rfl) (fun t ht hW => ⟨⟨_, ws, rfl, hq, by rw [ht]; exact hP, va_K.moved hW.alike X.2.2.2.2.2.1, hD⟩, hS.F ht⟩) hS.2.2 hd
theorem g_go {H H0 : Heap} {locs : List Loc} {mc ms : Nat} {rest st0 : List Value} {a : Array Value} {A1 A0 : Nat → Prop} {ls : Array Slot} {Qp : Option Value → va_W → Prop}
    (hr : va_Run p l e R s m args below meth c H locs cells slots mc ms (F0 m pc ls st0) rest (gQ D tys Qp A1 a) A1) (hS : va_S A0 H0 H locs) (hA : ∀ q, A1 q → A0 q)
    (kk : ∀ (v : Option Value) (w1 : va_W) (t : State) (H1 : Heap) (locs1 : List Loc), t.heap = H1 → s.vm.Alike t.vm → Qp v w1 → va_P D vwCl w1 H1 → va_K D vwCl tys t → va_D A1 w1 → H.size ≤ H1.size → (∀ q : Nat, q < H.size → ¬ A1 q → H1[q]? = H[q]?) → va_S A0 H0 H1 locs1 → W p l e R s m args below meth c H1 locs1 (cells + mc) (slots + ms) Q (F0 m (pc + 3) ls (v.toList ++ rest))) : W p l e R s m args below meth c H locs cells slots Q (F0 m pc ls st0) := by
  intro T hT X
  obtain ⟨v, st₀, t, T', L, h0, X', hL, e1, e2, ⟨⟨v2, w1, hv, hq, hP1, hK1, hD1⟩, hz, hk⟩, st⟩ := hr T hT X
  cases hv
  rw [h0] at hz hk
  obtain ⟨t2, a1, b1⟩ := kk v w1 t T'.heap (locs ++ L) e1.symm (by rw [← e2]; exact X'.warmed.alike) hq (by rw [e1]; exact hP1) hK1 hD1 (by rw [e1]; exact hz) (fun q h1 h2 => by rw [e1]; exact hk q h1 h2)
    ⟨Nat.le_trans hS.1 (by rw [e1]; exact hz), fun q h1 h2 => by rw [e1, hk q (Nat.lt_of_lt_of_le h1 hS.1) (fun z => h2 (hA q z))]; exact hS.2.1 q h1 h2, fun q hq => by
      rcases List.mem_append.mp hq with h | h
      · exact hS.2.2 q h
      · exact hA _ (hL q h)⟩ T' rfl X'
  exact ⟨t2, st t2 a1, b1⟩
theorem g_callV (X : gX p s m args meth c cc nL Ts own D tys A) {y : MethodName} {wy : List Cond} {rm : Room} {C : String} {index maxL mc ms n : Nat} {bytes : ByteArray} {ret : Option FieldType} {As rest : List Value} {wc wr : va_W} {Qp : Option Value → va_W → Prop} {b ci : Nat} {fs : List Value} {T : u_T} {N : Nat} (hM : gM l y wy rm D tys (.ref b :: As) wc mc ms Qp) (cw : CallW R s args own C index y bytes maxL ret wy rm mc ms n) (q0 : Nat) (he : wc[q0]? = some (b, .inr (ci, fs))) (hc : vwCl[ci]? = some (C, T, N)) (isC isR : List Nat) (hC : isC.map (fun i => ws[i]?) = wc.map some) (hR : isR.map (fun i => ws[i]?) = wr.map some) (hnd : va_nd isC = true) (hn : va_nd isR = true) (hdis : ∀ i ∈ isR, i ∉ isC) (hlen : As.length = n) (hst : st = As.reverse ++ .ref b :: rest) (hW : (rest.map fun v => v.category).sum ≤ 8) (hroom : cells + mc ≤ R.cells ∧ slots + ms ≤ R.slots) (hd : decode cc pc = .ok (.invokevirtual index, 3)) (k : ∀ (v : Option Value) (w1 : va_W), Qp v w1 → gW p l e R s m args below meth c D A nL (cells + mc) (slots + ms) Q (wr ++ w1) (pc + 3) lv (v.toList ++ rest)) : gW p l e R s m args below meth c D A nL cells slots Q ws pc lv st := by
  intro H locs ls hP hD hS hl
  have hPc : va_P D vwCl wc H := hP.sub isC (by
    have h1 : isC.filterMap (fun i => ws[i]?) = (isC.map (fun i => ws[i]?)).filterMap id := by rw [List.filterMap_map]; rfl
    rw [h1, hC, List.filterMap_map]
    exact List.filterMap_some)
  have hDc := hD.sub isC hnd hC
  have hFc := va_free (wc := wc) hD hS X.2.2.2.2.2.2.1 isC hC
  obtain ⟨hx, hb, hml, hown, hts, hK, hA, hlk, hN⟩ := X
  have hbl : FrameBlind (gP D tys (.ref b :: As) wc H.size) := fun a U g mk q => by
    obtain ⟨q0, q1, qP, qK, qD, qN⟩ := q
    exact ⟨q0, q1, qP, va_K.moved (u := U) (U := U.calling g mk a) (Vm.Alike.refl U.vm) qK, qD, gN.same (s := U) (U := U.calling g mk a) rfl qN⟩
  have hpre : ∀ U : State, U.heap = H → s.WarmedH U.vm → gP D tys (.ref b :: As) wc H.size ((.ref b :: As)).toArray U := fun U hU hW => ⟨rfl, by rw [hU], by rw [hU]; exact hPc, va_K.moved hW.alike hK, hDc.weaken (fun _ _ _ _ => trivial), gN.warm hW hN⟩
  have hr := va_runV (g := F0 m pc ls st) (As := As) (rest := rest) ⟨hx, hb, hml, hown, hts⟩ (hM H.size) cw ⟨hbl, va_recv hK hPc hc he, hpre⟩ rfl hlen hl.1 hst (lv_room hW) hd hroom (below := below) (meth := meth) (locs := locs) (e := e)
  refine g_go hr hS hFc (fun v w1 t H1 locs1 ht hvm hq hP1 hK1 hD1 hz hk hS1 => ?_)
  obtain ⟨hP2, hD2⟩ := va_join (wr := wr) (w1 := w1) hP hD isC isR hC hR hn hdis hk hFc hP1 hD1
  exact k v w1 hq H1 locs1 ls hP2 hD2 hS1 hl
theorem g_callS (X : gX p s m args meth c cc nL Ts own D tys A) {y : MethodName} {wy : List Cond} {rm : Room} {index maxL mc ms n : Nat} {bytes : ByteArray} {ret : Option FieldType} {As rest : List Value} {wc wr : va_W} {Qp : Option Value → va_W → Prop} (hM : gM l y wy rm D tys As wc mc ms Qp) (cw : CallB R s args own index y bytes maxL ret wy rm mc ms n ∧ (Cond.static y).before args s = true) (isC isR : List Nat) (hC : isC.map (fun i => ws[i]?) = wc.map some) (hR : isR.map (fun i => ws[i]?) = wr.map some) (hnd : va_nd isC = true) (hn : va_nd isR = true) (hdis : ∀ i ∈ isR, i ∉ isC) (hlen : As.length = n) (hst : st = As.reverse ++ rest) (hW : (rest.map fun v => v.category).sum ≤ 8) (hroom : cells + mc ≤ R.cells ∧ slots + ms ≤ R.slots) (hd : decode cc pc = .ok (.invokestatic index, 3)) (k : ∀ (v : Option Value) (w1 : va_W), Qp v w1 → gW p l e R s m args below meth c D A nL (cells + mc) (slots + ms) Q (wr ++ w1) (pc + 3) lv (v.toList ++ rest)) : gW p l e R s m args below meth c D A nL cells slots Q ws pc lv st := by
  intro H locs ls hP hD hS hl
  have hPc : va_P D vwCl wc H := hP.sub isC (by
    have h1 : isC.filterMap (fun i => ws[i]?) = (isC.map (fun i => ws[i]?)).filterMap id := by rw [List.filterMap_map]; rfl
    rw [h1, hC, List.filterMap_map]
    exact List.filterMap_some)
  have hDc := hD.sub isC hnd hC
  have hFc := va_free (wc := wc) hD hS X.2.2.2.2.2.2.1 isC hC
  obtain ⟨hx, hb, hml, hown, hts, hK, hA, hlk, hN⟩ := X
  have hbl : FrameBlind (gP D tys As wc H.size) := fun a U g mk q => by
    obtain ⟨q0, q1, qP, qK, qD, qN⟩ := q
    exact ⟨q0, q1, qP, va_K.moved (u := U) (U := U.calling g mk a) (Vm.Alike.refl U.vm) qK, qD, gN.same (s := U) (U := U.calling g mk a) rfl qN⟩
  have hpre : ∀ U : State, U.heap = H → s.WarmedH U.vm → gP D tys As wc H.size (As).toArray U := fun U hU hW => ⟨rfl, by rw [hU], by rw [hU]; exact hPc, va_K.moved hW.alike hK, hDc.weaken (fun _ _ _ _ => trivial), gN.warm hW hN⟩
  have hr := va_runS (g := F0 m pc ls st) (As := As) (rest := rest) ⟨hx, hb, hml, hown, hts⟩ (hM H.size) cw ⟨hbl, hpre⟩ rfl hlen hl.1 hst (lv_room hW) hd hroom (below := below) (meth := meth) (locs := locs) (e := e)
  refine g_go hr hS hFc (fun v w1 t H1 locs1 ht hvm hq hP1 hK1 hD1 hz hk hS1 => ?_)
  obtain ⟨hP2, hD2⟩ := va_join (wr := wr) (w1 := w1) hP hD isC isR hC hR hn hdis hk hFc hP1 hD1
  exact k v w1 hq H1 locs1 ls hP2 hD2 hS1 hl
theorem g_callI (X : gX p s m args meth c cc nL Ts own D tys A) {y : MethodName} {wy : List Cond} {rm : Room} {index maxL mc ms n : Nat} {bytes : ByteArray} {ret : Option FieldType} {As rest : List Value} {wc wr : va_W} {Qp : Option Value → va_W → Prop} {b : Nat} (hM : gM l y wy rm D tys (.ref b :: As) wc mc ms Qp) (cw : CallB R s args own index y bytes maxL none wy rm mc ms n ∧ y.name = "<init>" ∧ (Cond.instanceMethod y).before args s = true) (isC isR : List Nat) (hC : isC.map (fun i => ws[i]?) = wc.map some) (hR : isR.map (fun i => ws[i]?) = wr.map some) (hnd : va_nd isC = true) (hn : va_nd isR = true) (hdis : ∀ i ∈ isR, i ∉ isC) (hlen : As.length = n) (hst : st = As.reverse ++ .ref b :: rest) (hW : (rest.map fun v => v.category).sum ≤ 8) (hroom : cells + mc ≤ R.cells ∧ slots + ms ≤ R.slots) (hd : decode cc pc = .ok (.invokespecial index, 3)) (k : ∀ (v : Option Value) (w1 : va_W), Qp v w1 → gW p l e R s m args below meth c D A nL (cells + mc) (slots + ms) Q (wr ++ w1) (pc + 3) lv (v.toList ++ rest)) : gW p l e R s m args below meth c D A nL cells slots Q ws pc lv st := by
  intro H locs ls hP hD hS hl
  have hPc : va_P D vwCl wc H := hP.sub isC (by
    have h1 : isC.filterMap (fun i => ws[i]?) = (isC.map (fun i => ws[i]?)).filterMap id := by rw [List.filterMap_map]; rfl
    rw [h1, hC, List.filterMap_map]
    exact List.filterMap_some)
  have hDc := hD.sub isC hnd hC
  have hFc := va_free (wc := wc) hD hS X.2.2.2.2.2.2.1 isC hC
  obtain ⟨hx, hb, hml, hown, hts, hK, hA, hlk, hN⟩ := X
  have hbl : FrameBlind (gP D tys (.ref b :: As) wc H.size) := fun a U g mk q => by
    obtain ⟨q0, q1, qP, qK, qD, qN⟩ := q
    exact ⟨q0, q1, qP, va_K.moved (u := U) (U := U.calling g mk a) (Vm.Alike.refl U.vm) qK, qD, gN.same (s := U) (U := U.calling g mk a) rfl qN⟩
  have hpre : ∀ U : State, U.heap = H → s.WarmedH U.vm → gP D tys (.ref b :: As) wc H.size ((.ref b :: As)).toArray U := fun U hU hW => ⟨rfl, by rw [hU], by rw [hU]; exact hPc, va_K.moved hW.alike hK, hDc.weaken (fun _ _ _ _ => trivial), gN.warm hW hN⟩
  have hr := va_runI (g := F0 m pc ls st) (As := As) (rest := rest) ⟨hx, hb, hml, hown, hts⟩ (hM H.size) cw ⟨hbl, hpre⟩ rfl hlen hl.1 hst (lv_room hW) hd hroom (below := below) (meth := meth) (locs := locs) (e := e)
  refine g_go hr hS hFc (fun v w1 t H1 locs1 ht hvm hq hP1 hK1 hD1 hz hk hS1 => ?_)
  obtain ⟨hP2, hD2⟩ := va_join (wr := wr) (w1 := w1) hP hD isC isR hC hR hn hdis hk hFc hP1 hD1
  exact k v w1 hq H1 locs1 ls hP2 hD2 hS1 hl
theorem g_objInit (X : gX p s m args meth c cc nL Ts own D tys A) {idx a : Nat} (hlink : .methodLink own idx objectInit ∈ Ts) (hinst : .instanceMethod objectInit ∈ Ts) (hcode : .code objectInit ⟨#[0xb1]⟩ 1 none ∈ Ts) (hd : decode cc pc = .ok (.invokespecial idx, 3)) (hframes : 1 ≤ R.frames) (hlocals : (st.map fun v => v.category).sum + 12 ≤ R.locals) (k : gW p l e R s m args below meth c D A nL cells slots Q ws (pc + 3) lv st) : gW p l e R s m args below meth c D A nL cells slots Q ws pc lv (.ref a :: st) := by
  intro H locs ls hP hD hS hl
  obtain ⟨hx, hb, hml, hown, hts, hK, hA, hlk, hN⟩ := X
  refine W.objInit hx hb hown (hts _ hlink) (hts _ hinst) (hts _ hcode) rfl (by rw [hml]; exact hl.1) rfl hd hframes (by show 2 * 0 + _ + 12 ≤ _; omega) ?_
  exact k H locs ls hP hD hS hl
theorem g_newarr (X : gX p s m args meth c cc nL Ts own D tys A) {atype : ArrayType} {ty : FieldType} {cA : ClassId} {z : Int} {N' : Nat} {a0 : vp_A} (t0 : Nat) (ht : tys[t0]? = some (cA, ty)) (harr : .arrayClass (newarray.typeOf atype) ∈ Ts) (hty : newarray.typeOf atype = ty) (hp : (∃ C, ty = .object C) → False) (ha : ∀ cA : ClassId, vp_cell cA a0 = arrV cA N' (fun _ => defaultValue ty)) (hz : z = N') (hbytes : N' * componentBytes ty ≤ 536870912) (hz2 : z ≤ 2147483647) (hcells : cells + 1 ≤ R.cells) (hslots : slots + N' ≤ R.slots) (hd : decode cc pc = .ok (.newarray atype, 2))
    (k : ∀ q : Nat, gW p l e R s m args below meth c D A nL (cells + 1) (slots + N') Q (ws ++ [(q, .inl (cA, a0))]) (pc + 2) lv (.ref q :: st)) : gW p l e R s m args below meth c D A nL cells slots Q ws pc lv (.int (iZ z) :: st) := by
  intro H locs ls hP hD hS hl
  obtain ⟨hx, hb, hml, hown, hts, hK, hA, hlk, hN⟩ := X
  refine va_newa hx hb (hts _ harr) hty hK hP hD hS hA ha (fun h => ?_) ?_ hbytes hcells hslots hd (fun q cA2 H1 hK2 hP2 hD2 hS2 => ?_)
  · have := (iZ_lt (a := z) (b := 0) (by omega) (by omega)).mp h
    omega
  · rw [iZ_clamp (by omega)]; omega
  · have h1 := (hK2.2 t0 (cA, ty) (by rw [List.getElem?_append_left (List.getElem?_eq_some_iff.mp ht).1]; exact ht)).2
    have h2 := (hK2.2 tys.length (cA2, ty) (by rw [List.getElem?_append_right (Nat.le_refl _)]; simp)).2
    have h3 : cA2 = cA := by
      cases ty with
      | object C => exact absurd ⟨C, rfl⟩ hp
      | _ => exact Option.some.inj (h2.symm.trans h1)
    subst h3
    exact k q H1 locs ls hP2 hD2 hS2 hl
theorem g_new (X : gX p s m args meth c cc nL Ts own D tys A) {C : String} {T : u_T} {N ci index : Nat} (hin : ∀ w ∈ u_ws C T N, w ∈ Ts) (ty0 : Nat → FieldType) (hty : ∀ k, k < N → parseFieldDescriptor (T k).2.2.1 = some (ty0 k)) (hcl : .classLink own index C ∈ Ts) (hinst : .instantiable C N ∈ Ts) (hini : .initialized C ∈ Ts) (hc : vwCl[ci]? = some (C, T, N)) {fs : List Value} (hfs : ∀ j, j < N → defaultValue (ty0 j) = vp_V fs j) (hcells : cells + 1 ≤ R.cells) (hslots : slots + N ≤ R.slots) (hd : decode cc pc = .ok (.new index, 3))
    (k : ∀ q : Nat, gW p l e R s m args below meth c D A nL (cells + 1) (slots + N) Q (ws ++ [(q, .inr (ci, fs))]) (pc + 3) lv (.ref q :: st)) : gW p l e R s m args below meth c D A nL cells slots Q ws pc lv st := by
  intro H locs ls hP hD hS hl
  obtain ⟨hx, hb, hml, hown, hts, hK, hA, hlk, hN⟩ := X
  exact va_new hx hb hts hin ty0 hty hown (hts _ hcl) (hts _ hinst) (hts _ hini) hK hP hD hS hA hc hfs hcells hslots hd (fun q H1 hP2 hD2 hS2 => k q H1 locs ls hP2 hD2 hS2 hl)
theorem g_mmax (X : gX p s m args meth c cc nL Ts own D tys A) {a b : Int} {index : Nat} (h1 : .methodLink own index Lib.Math.max.name ∈ Ts) (h2 : .static Lib.Math.max.name ∈ Ts) (h3 : .initialized "java/lang/Math" ∈ Ts) (h4 : .code Lib.Math.max.name Lib.Math.max.code 2 (some .int) ∈ Ts) (ha : -2147483648 ≤ a ∧ a ≤ 2147483647) (hb : -2147483648 ≤ b ∧ b ≤ 2147483647) (hfr : 1 ≤ R.frames) (hlo : (st.map fun v => v.category).sum + 13 ≤ R.locals) (hce : cells ≤ R.cells) (hsl : slots ≤ R.slots) (hd : decode cc pc = .ok (.invokestatic index, 3)) (k : gW p l e R s m args below meth c D A nL cells slots Q ws (pc + 3) lv (.int (iZ (maxZ a b)) :: st)) : gW p l e R s m args below meth c D A nL cells slots Q ws pc lv (.int (iZ b) :: .int (iZ a) :: st) := by
  intro H locs ls hP hD hS hl
  obtain ⟨hx, hbb, hml, hown, hts, hK, hA, hlk, hN⟩ := X
  have hv : (if iZ a < iZ b then iZ b else iZ a) = iZ (maxZ a b) := by
    have h0 := iZ_lt ha hb
    unfold maxZ
    by_cases h : a < b <;> simp [h0, h]
  refine va_mmax hx hbb (by rw [hml]; exact hl.1.symm) hown (hts _ h1) (hts _ h2) (hts _ h3) (hts _ h4) hfr (by omega) hce hsl hd ?_
  rw [hv]
  exact k H locs ls hP hD hS hl
theorem g_mmin (X : gX p s m args meth c cc nL Ts own D tys A) {a b : Int} {index : Nat} (h1 : .methodLink own index Lib.Math.min.name ∈ Ts) (h2 : .static Lib.Math.min.name ∈ Ts) (h3 : .initialized "java/lang/Math" ∈ Ts) (h4 : .code Lib.Math.min.name Lib.Math.min.code 2 (some .int) ∈ Ts) (ha : -2147483648 ≤ a ∧ a ≤ 2147483647) (hb : -2147483648 ≤ b ∧ b ≤ 2147483647) (hfr : 1 ≤ R.frames) (hlo : (st.map fun v => v.category).sum + 13 ≤ R.locals) (hce : cells ≤ R.cells) (hsl : slots ≤ R.slots) (hd : decode cc pc = .ok (.invokestatic index, 3)) (k : gW p l e R s m args below meth c D A nL cells slots Q ws (pc + 3) lv (.int (iZ (minZ a b)) :: st)) : gW p l e R s m args below meth c D A nL cells slots Q ws pc lv (.int (iZ b) :: .int (iZ a) :: st) := by
  intro H locs ls hP hD hS hl
  obtain ⟨hx, hbb, hml, hown, hts, hK, hA, hlk, hN⟩ := X
  have hv : (if iZ b < iZ a then iZ b else iZ a) = iZ (minZ a b) := by
    have h0 := iZ_lt hb ha
    unfold minZ
    by_cases h : b < a <;> simp [h0, h]
  refine va_mmin hx hbb (by rw [hml]; exact hl.1.symm) hown (hts _ h1) (hts _ h2) (hts _ h3) (hts _ h4) hfr (by omega) hce hsl hd ?_
  rw [hv]
  exact k H locs ls hP hD hS hl
theorem g_mabs (X : gX p s m args meth c cc nL Ts own D tys A) {a : Int} {index : Nat} (h1 : .methodLink own index Lib.Math.abs.name ∈ Ts) (h2 : .static Lib.Math.abs.name ∈ Ts) (h3 : .initialized "java/lang/Math" ∈ Ts) (h4 : .code Lib.Math.abs.name Lib.Math.abs.code 1 (some .int) ∈ Ts) (ha : -2147483648 ≤ a ∧ a ≤ 2147483647)  (hfr : 1 ≤ R.frames) (hlo : (st.map fun v => v.category).sum + 13 ≤ R.locals) (hce : cells ≤ R.cells) (hsl : slots ≤ R.slots) (hd : decode cc pc = .ok (.invokestatic index, 3)) (k : gW p l e R s m args below meth c D A nL cells slots Q ws (pc + 3) lv (.int (iZ (absZ a)) :: st)) : gW p l e R s m args below meth c D A nL cells slots Q ws pc lv (.int (iZ a) :: st) := by
  intro H locs ls hP hD hS hl
  obtain ⟨hx, hbb, hml, hown, hts, hK, hA, hlk, hN⟩ := X
  have hv : (if 0 ≤ iZ a then iZ a else 0 - iZ a) = iZ (absZ a) := by
    have h0 : 0 ≤ iZ a ↔ 0 ≤ a := iZ_le (a := 0) (by omega) ha
    have h1 : 0 - iZ a = iZ (-a) := by rw [show (0 : Int32) = iZ 0 from rfl, iZ_sub, Int.zero_sub]
    unfold absZ
    by_cases h : 0 ≤ a
    · rw [if_pos (h0.mpr h), if_neg (by omega)]
    · rw [if_neg (fun q => h (h0.mp q)), if_pos (by omega), h1]
  refine va_mabs hx hbb (by rw [hml]; exact hl.1.symm) hown (hts _ h1) (hts _ h2) (hts _ h3) (hts _ h4) hfr (by omega) hce hsl hd ?_
  rw [hv]
  exact k H locs ls hP hD hS hl
theorem g_topi {a b : Int} (h : a = b) (k : gW p l e R s m args below meth c D A nL cells slots Q ws pc lv (.int (iZ b) :: st)) : gW p l e R s m args below meth c D A nL cells slots Q ws pc lv (.int (iZ a) :: st) := by
  subst h; exact k
theorem g_topl {a b : Int} (h : a = b) (k : gW p l e R s m args below meth c D A nL cells slots Q ws pc lv (.long (lZ b) :: st)) : gW p l e R s m args below meth c D A nL cells slots Q ws pc lv (.long (lZ a) :: st) := by
  subst h; exact k
theorem g_callV0 (X : gX p s m args meth c cc nL Ts own D tys A) {y : MethodName} {wy : List Cond} {rm : Room} {C : String} {index maxL n : Nat} {bytes : ByteArray} {ret : Option FieldType} {As rest : List Value} {wc wr : va_W} {Qp : Option Value → va_W → Prop} {b ci : Nat} {fs : List Value} {T : u_T} {N : Nat} (hM : gM l y wy rm D tys (.ref b :: As) wc 0 0 Qp) (cw : CallW R s args own C index y bytes maxL ret wy rm 0 0 n) (q0 : Nat) (he : wc[q0]? = some (b, .inr (ci, fs))) (hc : vwCl[ci]? = some (C, T, N)) (isC isR : List Nat) (hC : isC.map (fun i => ws[i]?) = wc.map some) (hR : isR.map (fun i => ws[i]?) = wr.map some) (hnd : va_nd isC = true) (hn : va_nd isR = true) (hdis : ∀ i ∈ isR, i ∉ isC) (hlen : As.length = n) (hst : st = As.reverse ++ .ref b :: rest) (hW : (rest.map fun v => v.category).sum ≤ 8) (hroom : cells ≤ R.cells ∧ slots ≤ R.slots) (hd : decode cc pc = .ok (.invokevirtual index, 3)) (k : ∀ (v : Option Value) (w1 : va_W), Qp v w1 → gW p l e R s m args below meth c D A nL cells slots Q (wr ++ w1) (pc + 3) lv (v.toList ++ rest)) : gW p l e R s m args below meth c D A nL cells slots Q ws pc lv st :=
  g_callV X hM cw q0 he hc isC isR hC hR hnd hn hdis hlen hst hW hroom hd k
theorem g_callS0 (X : gX p s m args meth c cc nL Ts own D tys A) {y : MethodName} {wy : List Cond} {rm : Room} {index maxL n : Nat} {bytes : ByteArray} {ret : Option FieldType} {As rest : List Value} {wc wr : va_W} {Qp : Option Value → va_W → Prop} (hM : gM l y wy rm D tys As wc 0 0 Qp) (cw : CallB R s args own index y bytes maxL ret wy rm 0 0 n ∧ (Cond.static y).before args s = true)  (isC isR : List Nat) (hC : isC.map (fun i => ws[i]?) = wc.map some) (hR : isR.map (fun i => ws[i]?) = wr.map some) (hnd : va_nd isC = true) (hn : va_nd isR = true) (hdis : ∀ i ∈ isR, i ∉ isC) (hlen : As.length = n) (hst : st = As.reverse ++ rest) (hW : (rest.map fun v => v.category).sum ≤ 8) (hroom : cells ≤ R.cells ∧ slots ≤ R.slots) (hd : decode cc pc = .ok (.invokestatic index, 3)) (k : ∀ (v : Option Value) (w1 : va_W), Qp v w1 → gW p l e R s m args below meth c D A nL cells slots Q (wr ++ w1) (pc + 3) lv (v.toList ++ rest)) : gW p l e R s m args below meth c D A nL cells slots Q ws pc lv st :=
  g_callS X hM cw isC isR hC hR hnd hn hdis hlen hst hW hroom hd k
end GR
end
section
/-! bits: rows pasted from kit/laws/BITS.to-paste (wb_, g_or), then own ones -/
theorem wb_tb (n : Nat) : (lN n).toBitVec = BitVec.ofNat 64 n := rfl
theorem wb_inj {a b : Int64} (h : a.toBitVec = b.toBitVec) : a = b := Int64.toBitVec_inj.mp h
theorem wb_tn {n : Nat} (h : n < 2 ^ 64) : (lN n).toBitVec.toNat = n := by rw [wb_tb, BitVec.toNat_ofNat, Nat.mod_eq_of_lt h]
theorem wb_of (x : Int64) : ∃ n, n < 2 ^ 64 ∧ x = lN n := ⟨x.toBitVec.toNat, x.toBitVec.isLt, wb_inj (by rw [wb_tb]; simp)⟩
theorem wb_of32 (x : Int32) : ∃ n, n < 2 ^ 32 ∧ x = nI n := ⟨x.toBitVec.toNat, x.toBitVec.isLt, Int32.toBitVec_inj.mp (by show _ = BitVec.ofNat 32 _; simp)⟩
theorem wb_c : ∀ k, k < 64 → ((nI k).toInt64 &&& 63) = lN k := by decide +kernel
theorem wb_cu : ∀ k, k < 64 → ((nI k).toInt64.toUInt64 &&& Int64.toUInt64 63) = UInt64.ofNat k := by decide +kernel
theorem wb_sm : ∀ k, k < 64 → (BitVec.ofNat 64 k).smod 64 = BitVec.ofNat 64 k := by decide +kernel
theorem wb_pw {a b : Nat} (h : a ≤ b) : 2 ^ b = 2 ^ a * 2 ^ (b - a) := by rw [← Nat.pow_add]; congr 1; omega
theorem wb_lt2 {a b : Nat} (h : a < b) : 2 ^ a < 2 ^ b := Nat.pow_lt_pow_right (by decide) h
theorem wb_mod (n : Nat) : lN n = lN (n % 2 ^ 64) := wb_inj (by rw [wb_tb, wb_tb]; apply BitVec.eq_of_toNat_eq; rw [BitVec.toNat_ofNat, BitVec.toNat_ofNat, Nat.mod_mod])
theorem wb_shr {n k : Nat} (hn : n < 2 ^ 64) (hk : k < 64) : ((lN n).toUInt64 >>> ((nI k).toInt64.toUInt64 &&& Int64.toUInt64 63)).toInt64 = lN (n / 2 ^ k) := by
  rw [wb_cu k hk]
  apply wb_inj
  apply BitVec.eq_of_toNat_eq
  show ((lN n).toUInt64 >>> UInt64.ofNat k).toNat = (BitVec.ofNat 64 _).toNat
  have h1 : (UInt64.ofNat k).toNat = k := by
    show (BitVec.ofNat 64 k).toNat = k
    rw [BitVec.toNat_ofNat, Nat.mod_eq_of_lt (by omega)]
  have h2 : (lN n).toUInt64.toNat = n := wb_tn hn
  rw [UInt64.toNat_shiftRight, h1, h2, Nat.mod_eq_of_lt hk, Nat.shiftRight_eq_div_pow, BitVec.toNat_ofNat, Nat.mod_eq_of_lt (Nat.lt_of_le_of_lt (Nat.div_le_self _ _) hn)]
theorem wb_shl (n : Nat) {k : Nat} (hk : k < 64) : lN n <<< ((nI k).toInt64 &&& 63) = lN (n * 2 ^ k) := by
  rw [wb_c k hk]
  apply wb_inj
  rw [Int64.toBitVec_shiftLeft, wb_tb, wb_tb, wb_tb, wb_sm k hk]
  apply BitVec.eq_of_toNat_eq
  rw [BitVec.shiftLeft_eq', BitVec.toNat_shiftLeft, BitVec.toNat_ofNat, BitVec.toNat_ofNat, BitVec.toNat_ofNat, Nat.mod_eq_of_lt (show k < 2 ^ 64 by omega), Nat.shiftLeft_eq, Nat.mul_mod, Nat.mod_mod, ← Nat.mul_mod]
theorem wb_and {a b : Nat} (ha : a < 2 ^ 64) (hb : b < 2 ^ 64) : lN a &&& lN b = lN (a &&& b) := by
  apply wb_inj
  rw [Int64.toBitVec_and, wb_tb, wb_tb, wb_tb]
  apply BitVec.eq_of_toNat_eq
  rw [BitVec.toNat_and, BitVec.toNat_ofNat, BitVec.toNat_ofNat, BitVec.toNat_ofNat, Nat.mod_eq_of_lt ha, Nat.mod_eq_of_lt hb, Nat.mod_eq_of_lt (Nat.and_lt_two_pow _ hb)]
theorem wb_or {a b : Nat} (ha : a < 2 ^ 64) (hb : b < 2 ^ 64) : lN a ||| lN b = lN (a ||| b) := by
  apply wb_inj
  rw [Int64.toBitVec_or, wb_tb, wb_tb, wb_tb]
  apply BitVec.eq_of_toNat_eq
  rw [BitVec.toNat_or, BitVec.toNat_ofNat, BitVec.toNat_ofNat, BitVec.toNat_ofNat, Nat.mod_eq_of_lt ha, Nat.mod_eq_of_lt hb, Nat.mod_eq_of_lt (Nat.or_lt_two_pow ha hb)]
theorem u_tn {n : Nat} (h : n < 2 ^ 64) : (UInt64.ofNat n).toNat = n := Nat.mod_eq_of_lt h
theorem g_or {k p a b : Nat} (hp : 2 ^ k = p) (ha : a < p) (h : b * p + a < 2 ^ 64) : lN (b * p) ||| lN a = lN (b * p + a) := by
  subst hp
  have h1 : b * 2 ^ k ||| a = b * 2 ^ k + a := by rw [← Nat.shiftLeft_eq, Nat.shiftLeft_add_eq_or_of_lt ha]
  have h3 : UInt64.ofNat (b * 2 ^ k) ||| UInt64.ofNat a = UInt64.ofNat (b * 2 ^ k + a) := UInt64.toNat_inj.mp (by rw [UInt64.toNat_or, u_tn (by omega), u_tn (by omega), u_tn h, h1])
  have h2 := congrArg UInt64.toInt64 h3
  exact h2
theorem nI_iZ (n : Nat) : nI n = iZ n := i32_ext (by
  rw [iZ_bv]
  show (BitVec.ofNat 32 n).toNat = _
  rw [BitVec.toNat_ofNat]
  omega)
theorem iZ_mod (z : Int) : iZ (z % 4294967296) = iZ z := i32_ext (by rw [iZ_bv, iZ_bv]; omega)
theorem iZ_ushr {z : Int} {y : Int32} {k : Nat} (hk : ((y.toUInt32 &&& Int32.toUInt32 31).toBitVec % 32).toNat = k) : ((iZ z).toUInt32 >>> (y.toUInt32 &&& Int32.toUInt32 31)).toInt32 = iZ (((z % 4294967296).toNat / 2 ^ k : Nat) : Int) := i32_ext (by
  rw [pk_ushr _ _ k hk, iZ_bv, iZ_bv]
  have h : (z % 4294967296).toNat / 2 ^ k ≤ (z % 4294967296).toNat := Nat.div_le_self _ _
  have h2 : (z % 4294967296).toNat < 4294967296 := by omega
  generalize (z % 4294967296).toNat / 2 ^ k = q at h ⊢
  omega)
theorem iZ_and255 (z : Int) : iZ z &&& iZ 255 = iZ (z % 256) := by
  rw [pk_and (iZ z) (m := iZ 255) 8 (by decide), nI_iZ, iZ_bv]
  congr 1
  omega
theorem iZ_and15 (z : Int) : iZ z &&& iZ 15 = iZ (z % 16) := by
  rw [pk_and (iZ z) (m := iZ 15) 4 (by decide), nI_iZ, iZ_bv]
  congr 1
  omega
theorem lN_lZ (n : Nat) : lN n = lZ n := by
  apply wb_inj
  rw [wb_tb]
  show _ = BitVec.ofInt 64 (n : Int)
  exact (BitVec.ofInt_natCast 64 n).symm
/-- the head in k places from a on -/
def isHd (f : Int → Int) (a k : Int) : Prop := 1 ≤ k ∧ k ≤ 12 ∧ ∀ j, 0 ≤ j → j < k → 97 ≤ f (a + j) ∧ f (a + j) ≤ 122
def encZ (f : Int → Int) (a : Int) : Nat → Int
  | 0 => 0
  | n + 1 => encZ f a n + (f (a + n) - 96) * 2 ^ (55 - 5 * n)
def hdVal (f : Int → Int) (a k r : Int) : Prop := (isHd f a k ∧ r = encZ f a k.toNat) ∨ (¬ isHd f a k ∧ r = 0)
theorem encZ_q (f : Int → Int) (a : Int) : ∀ n : Nat, n ≤ 11 → (∀ j : Nat, j < n → 97 ≤ f (a + j) ∧ f (a + j) ≤ 122) → ∃ b : Nat, encZ f a n = (b : Int) * 2 ^ (60 - 5 * n) ∧ b < 2 ^ (5 * n)
  | 0, _, _ => ⟨0, by simp [encZ], by simp⟩
  | n + 1, hn, h => by
    obtain ⟨b, hb, hlt⟩ := encZ_q f a n (by omega) (fun j hj => h j (by omega))
    have h1 := h n (by omega)
    obtain ⟨d, hd⟩ : ∃ d : Nat, f (a + n) - 96 = (d : Int) := ⟨(f (a + n) - 96).toNat, by omega⟩
    refine ⟨b * 32 + d, ?_, ?_⟩
    · rw [encZ, hb, hd]
      have e : 60 - 5 * n = (55 - 5 * n) + 5 := by omega
      have e2 : 60 - 5 * (n + 1) = 55 - 5 * n := by omega
      rw [e, e2, Int.pow_add]
      simp only [Int.natCast_add, Int.natCast_mul, Int.add_mul, Int.mul_assoc]
      have : (2 : Int) ^ (55 - 5 * n) * 2 ^ 5 = 32 * 2 ^ (55 - 5 * n) := by rw [Int.mul_comm]; rfl
      rw [this]
      rfl
    · have e : 5 * (n + 1) = 5 * n + 5 := by omega
      rw [e, Nat.pow_add]
      have : d < 32 := by omega
      have h2 : (2 : Nat) ^ 5 = 32 := by decide
      rw [h2]
      omega
theorem encZ_lt (f : Int → Int) (a : Int) (n : Nat) (hn : n ≤ 12) (h : ∀ j : Nat, j < n → 97 ≤ f (a + j) ∧ f (a + j) ≤ 122) : 0 ≤ encZ f a n ∧ encZ f a n < 1152921504606846976 := by
  rcases Nat.lt_or_ge n 12 with hl | hl
  · obtain ⟨b, hb, hlt⟩ := encZ_q f a n (by omega) h
    rw [hb]
    have h1 : (b * 2 ^ (60 - 5 * n) : Nat) < 2 ^ (5 * n) * 2 ^ (60 - 5 * n) := Nat.mul_lt_mul_of_pos_right hlt (Nat.pow_pos (by decide))
    rw [← Nat.pow_add, show 5 * n + (60 - 5 * n) = 60 by omega] at h1
    have h2 : ((b * 2 ^ (60 - 5 * n) : Nat) : Int) = (b : Int) * 2 ^ (60 - 5 * n) := by simp
    rw [← h2]
    omega
  · obtain rfl : n = 12 := by omega
    obtain ⟨b, hb, hlt⟩ := encZ_q f a 11 (by omega) (fun j hj => h j (by omega))
    have h1 := h 11 (by omega)
    rw [encZ, hb]
    simp at hlt ⊢
    have e : a + (11 : Nat) = a + 11 := rfl
    simp at h1
    omega
theorem hd_shl {z : Int} {sh : Int} {n : Nat} (hn : n ≤ 11) (hs : sh = 55 - 5 * (n : Int)) (hz : 0 ≤ z ∧ z ≤ 31) : lZ z <<< ((iZ sh).toInt64 &&& 63) = lZ (z * 2 ^ (55 - 5 * n)) := by
  have e1 : iZ sh = nI (55 - 5 * n) := by rw [nI_iZ]; congr 1; omega
  have e2 : lZ z = lN z.toNat := lZ_lN (by omega)
  rw [e1, e2, wb_shl _ (by omega), lN_lZ]
  congr 1
  rw [Int.natCast_mul, Int.toNat_of_nonneg hz.1]
  simp
theorem hd_lor (f : Int → Int) (a : Int) (n : Nat) (hn : n ≤ 11) (h : ∀ j : Nat, j < n + 1 → 97 ≤ f (a + j) ∧ f (a + j) ≤ 122) : lZ (encZ f a n) ||| lZ ((f (a + n) - 96) * 2 ^ (55 - 5 * n)) = lZ (encZ f a (n + 1)) := by
  obtain ⟨b, hb, hlt⟩ := encZ_q f a n hn (fun j hj => h j (by omega))
  have h1 := h n (by omega)
  have hle := encZ_lt f a (n + 1) (by omega) h
  obtain ⟨d, hd⟩ : ∃ d : Nat, f (a + n) - 96 = (d : Int) := ⟨(f (a + n) - 96).toNat, by omega⟩
  have h2 : ((b * 2 ^ (60 - 5 * n) : Nat) : Int) = (b : Int) * 2 ^ (60 - 5 * n) := by simp
  have h3 : ((d * 2 ^ (55 - 5 * n) : Nat) : Int) = (d : Int) * 2 ^ (55 - 5 * n) := by simp
  have e : encZ f a (n + 1) = ((b * 2 ^ (60 - 5 * n) + d * 2 ^ (55 - 5 * n) : Nat) : Int) := by
    rw [encZ, hb, hd, Int.natCast_add, h2, h3]
  rw [e, hb, hd, ← h2, ← h3, ← lN_lZ, ← lN_lZ, ← lN_lZ]
  rw [e] at hle
  refine g_or (k := 60 - 5 * n) rfl ?_ (by omega)
  have e3 : 60 - 5 * n = 5 + (55 - 5 * n) := by omega
  rw [e3, Nat.pow_add]
  exact Nat.mul_lt_mul_of_pos_right (by omega) (Nat.pow_pos (by decide))
theorem hd_ushr {z : Int} (hz : 0 ≤ z ∧ z < 1152921504606846976) : ((lZ z).toUInt64 >>> ((iZ 55).toInt64.toUInt64 &&& Int64.toUInt64 63)).toInt64 = lZ (z / 36028797018963968) := by
  rw [lZ_lN (by omega), show iZ 55 = nI 55 from (nI_iZ 55).symm, wb_shr (by omega) (by decide), lN_lZ]
  congr 1
  omega
end
section
/-! EX: what a throw needs, statics, switches; contracts of methods that may throw -/
def gNm : List String := ["java/lang/RuntimeException", "java/lang/Exception"]
def gBad : List Cond := ((vx_atS RX4 56 "java/lang/IllegalArgumentException" gNm) ++ (vx_atS RX4 144 "java/lang/IndexOutOfBoundsException" gNm)).filter (fun w => !goodWord w)
theorem gBad_ok : ∀ w ∈ gBad, (w.keepsFace && w.onTables) = true := by decide +kernel
def gStr : List (Nat × String) := [(138, "no such number is told"), (142, "no such column"), (157, "no such number of a column"), (162, "no such page"), (164, "a page has a first and a last guide"), (172, "no such letter"), (174, "an edge is 1 to 10,000 long"), (191, "there was no such entry"), (54, "no such value"), (65, "out of the value's range"), (67, "a sense has 1 to 20 lines"), (85, "not so many bytes")]
theorem gNw_warmB {w : Cond} (hw : (w.keepsFace && w.onTables) = true) {s U : State} (hW : s.WarmedH U.vm) (h : va_Nw w s) : va_Nw w U := by
  simp only [Bool.and_eq_true] at hw
  have h1 : w.before #[] (s.setVm U.vm) = true := Cond.before_shiftedFace (State.Shifted.of_warmed hW) w hw.1 h
  exact va_tabs hw.2 (rfl : (s.setVm U.vm).vm = U.vm) h1
def loF (j : Int) : Int := if j = 0 then 4 else if j = 1 then 1 else 0
def hiF (j : Int) : Int := if j = 0 then 60 else if j = 1 then 4 else if j = 2 then 3 else 1000
def gE (tL tH tS : Nat) (A : Nat → Prop) (U : State) (H : Heap) : Prop :=
  (∀ w ∈ gBad, va_Nw w U) ∧ (∀ q ∈ gStr, ∃ a, vk_R RX4 q.1 q.2 a U) ∧ vx_Zq Bundle.tN "UNASSIGNED_STACK" Bundle.steD A U H ∧ vx_Zq Bundle.tN "SUPPRESSED_SENTINEL" Bundle.listD A U H ∧
  va_Z "GuideWords" "LOWEST" "[I" (.ref tL) A U H ∧ va_Z "GuideWords" "HIGHEST" "[I" (.ref tH) A U H ∧ va_Z "GuideWords" "LINES_OF_SEE" "[I" (.ref tS) A U H ∧
  va_T .int tL 5 (fun j => .int (zA loF j)) A U H ∧ va_T .int tH 5 (fun j => .int (zA hiF j)) A U H ∧ va_T .int tS 1 (fun j => .int (zA (fun _ => 1) j)) A U H
theorem gE.warm {tL tH tS : Nat} {A : Nat → Prop} {s U : State} {H : Heap} (hW : s.WarmedH U.vm) (h : gE tL tH tS A s H) : gE tL tH tS A U H := by
  obtain ⟨h1, h2, h3, h4, h5, h6, h7, h8, h9, h10⟩ := h
  exact ⟨fun w hw => gNw_warmB (gBad_ok w hw) hW (h1 w hw), fun q hq => (h2 q hq).imp (fun a ha => ha.warm hW), h3.moved hW.alike, h4.moved hW.alike, h5.moved hW.alike, h6.moved hW.alike, h7.moved hW.alike, h8.moved hW.alike, h9.moved hW.alike, h10.moved hW.alike⟩
theorem gE.same {tL tH tS : Nat} {A : Nat → Prop} {s U : State} {H : Heap} (hv : s.vm = U.vm) (h : gE tL tH tS A s H) : gE tL tH tS A U H := by
  obtain ⟨h1, h2, h3, h4, h5, h6, h7, h8, h9, h10⟩ := h
  have ha : s.vm.Alike U.vm := by rw [← hv]; exact Vm.Alike.refl _
  refine ⟨fun w hw => va_Nw.same ?_ hv (h1 w hw), fun q hq => (h2 q hq).imp (fun a h => h.same hv.symm), h3.moved ha, h4.moved ha, h5.moved ha, h6.moved ha, h7.moved ha, h8.moved ha, h9.moved ha, h10.moved ha⟩
  have := gBad_ok w hw
  simp only [Bool.and_eq_true] at this
  exact this.2
theorem gE.kept {tL tH tS : Nat} {A : Nat → Prop} {U : State} {H H1 : Heap} (h : gE tL tH tS A U H) (hq : ∀ a : Nat, a < H.size → ¬ A a → H1[a]? = H[a]?) : gE tL tH tS A U H1 := by
  obtain ⟨h1, h2, h3, h4, h5, h6, h7, h8, h9, h10⟩ := h
  exact ⟨h1, h2, h3.kept hq, h4.kept hq, h5.kept hq, h6.kept hq, h7.kept hq, h8.kept hq, h9.kept hq, h10.kept hq⟩
theorem gE.narrow {tL tH tS : Nat} {A B : Nat → Prop} {U : State} {H : Heap} (h : gE tL tH tS A U H) (hAB : ∀ q, B q → A q) : gE tL tH tS B U H := by
  obtain ⟨h1, h2, h3, h4, h5, h6, h7, h8, h9, h10⟩ := h
  exact ⟨h1, h2, h3.narrow hAB, h4.narrow hAB, h5.narrow hAB, h6.narrow hAB, h7.narrow hAB, h8.narrow hAB, h9.narrow hAB, h10.narrow hAB⟩
/-- where a method has thrown E: the world -/
def gXC (D : va_G) (tys : List (ClassId × FieldType)) (Xp : String → va_W → Prop) (A : Nat → Prop) : String → State → State → Prop := fun E st t => ∃ w1 : va_W, Xp E w1 ∧ va_P D vwCl w1 t.heap ∧ va_K D vwCl tys t ∧ va_D A w1 ∧ va_F A st t
def gPx (tL tH tS : Nat) (D : va_G) (tys : List (ClassId × FieldType)) (av : List Value) (ws : va_W) (sz : Nat) : Array Value → State → Prop := va_Pc av (fun U => U.heap.size = sz ∧ va_P D vwCl ws U.heap ∧ va_K D vwCl tys U ∧ va_D (fun _ => True) ws ∧ gN U ∧ gE tL tH tS (va_A ws sz) U U.heap)
def gMx (l : Launch) (y : MethodName) (wy : List Cond) (rm : Room) (tL tH tS : Nat) (D : va_G) (tys : List (ClassId × FieldType)) (av : List Value) (ws : va_W) (mc ms : Nat) (Qp : Option Value → va_W → Prop) (Xp : String → va_W → Prop) : Prop :=
  ∀ sz : Nat, vx_Met l y wy rm (gPx tL tH tS D tys av ws sz) (gQ D tys Qp (va_A ws sz)) (gXC D tys Xp (va_A ws sz)) mc ms (va_A ws sz)
theorem g_startX {l : Launch} {y : MethodName} {wy ws' : List Cond} {rm : Room} {tL tH tS : Nat} {D : va_G} {tys : List (ClassId × FieldType)} {av : List Value} {ws : va_W} {mc ms : Nat} {Qp : Option Value → va_W → Prop} {Xp : String → va_W → Prop} {cc : ByteArray} {maxL : Nat} {ret : Option FieldType} {lv : List (Nat × Value)}
    (hy : plainName y.cls = true) (hw : wy = Cond.code y cc maxL ret :: ws') (hl : (lg_sl av).length ≤ maxL) (hlv : lv_args 0 av = lv)
    (body : ∀ p e s m args below meth c A, gX p s m args meth c cc maxL wy y.cls D tys A → gE tL tH tS A s s.heap → (∀ x ∈ c.exceptionTable.toList, False) → meth.sig.returnType = ret → gW p l e rm s m args below meth c D A maxL 0 0 (vx_MQ below (gQ D tys Qp A) (gXC D tys Xp A) args s mc ms A) ws 0 lv []) : gMx l y wy rm tL tH tS D tys av ws mc ms Qp Xp := by
  intro sz
  refine vx_ofW (cc := cc) (maxL := maxL) (ret := ret) hy hw ?_
  intro p e s m args below meth c s₁ B hml htab hv
  obtain ⟨rfl, hsz, hP, hK, hD0, hN, hE⟩ := hv
  have hts := atoms_spec (ws := wy) B.pre
  have hown : s.vm.findClass y.cls = some m.cls := findClass_of_methodNamed (x := y) B.named
  subst hsz
  have hD := hD0.self (sz := s.heap.size)
  have hA : ∀ q : Nat, s.heap.size ≤ q → va_A ws s.heap.size q := fun q h => Or.inr h
  have hlv' := lv_entry av (n := maxL) hl
  rw [lg_entry_eq]
  rw [hlv] at hlv'
  exact body p e s m _ below meth c _ ⟨B.exec, B.bytes, hml, hown, hts, hK, hA, B.notSynchronized, hN⟩ hE htab B.returns s.heap [] _ hP hD va_S.rf hlv'
section GE
variable {p : Program} {l : Launch} {e : Env} {R : Room} {s : State} {m : MethodId} {args : Array Value} {below : List Frame} {meth : Method} {c : Code} {cells slots : Nat} {Q : State → Prop}
variable {cc : ByteArray} {nL : Nat} {Ts : List Cond} {own : String} {D : va_G} {tys : List (ClassId × FieldType)} {A : Nat → Prop} {ws : va_W} {pc : Nat} {lv : List (Nat × Value)} {st : List Value} {tL tH tS : Nat}
theorem g_getsL (X : gX p s m args meth c cc nL Ts own D tys A) (hE : gE tL tH tS A s s.heap) {index : Nat} (hlink : .fieldLink own index "GuideWords" "LOWEST" "[I" ∈ Ts) (hd : decode cc pc = .ok (.getstatic index, 3)) (k : gW p l e R s m args below meth c D A nL cells slots Q ws (pc + 3) lv (.ref tL :: st)) : gW p l e R s m args below meth c D A nL cells slots Q ws pc lv st := by
  intro H locs ls hP hD hS hl
  exact va_gets X.1 X.2.1 hE.2.2.2.2.1 hS X.2.2.2.1 (X.2.2.2.2.1 _ hlink) (fun _ h => h) hd (k H locs ls hP hD hS hl)
theorem g_getsH (X : gX p s m args meth c cc nL Ts own D tys A) (hE : gE tL tH tS A s s.heap) {index : Nat} (hlink : .fieldLink own index "GuideWords" "HIGHEST" "[I" ∈ Ts) (hd : decode cc pc = .ok (.getstatic index, 3)) (k : gW p l e R s m args below meth c D A nL cells slots Q ws (pc + 3) lv (.ref tH :: st)) : gW p l e R s m args below meth c D A nL cells slots Q ws pc lv st := by
  intro H locs ls hP hD hS hl
  exact va_gets X.1 X.2.1 hE.2.2.2.2.2.1 hS X.2.2.2.1 (X.2.2.2.2.1 _ hlink) (fun _ h => h) hd (k H locs ls hP hD hS hl)
theorem g_getsS (X : gX p s m args meth c cc nL Ts own D tys A) (hE : gE tL tH tS A s s.heap) {index : Nat} (hlink : .fieldLink own index "GuideWords" "LINES_OF_SEE" "[I" ∈ Ts) (hd : decode cc pc = .ok (.getstatic index, 3)) (k : gW p l e R s m args below meth c D A nL cells slots Q ws (pc + 3) lv (.ref tS :: st)) : gW p l e R s m args below meth c D A nL cells slots Q ws pc lv st := by
  intro H locs ls hP hD hS hl
  exact va_gets X.1 X.2.1 hE.2.2.2.2.2.2.1 hS X.2.2.2.1 (X.2.2.2.2.1 _ hlink) (fun _ h => h) hd (k H locs ls hP hD hS hl)
/-- an element of a static row -/
theorem g_ti (X : gX p s m args meth c cc nL Ts own D tys A) {t N : Nat} {f : Int → Int} {z : Int} (hT : va_T .int t N (fun j => .int (zA f j)) A s s.heap) (hz : 0 ≤ z ∧ z < N) (hn : (N : Int) ≤ 2147483647) (hd : decode cc pc = .ok (.iaload, 1)) (k : gW p l e R s m args below meth c D A nL cells slots Q ws (pc + 1) lv (.int (iZ (f z)) :: st)) : gW p l e R s m args below meth c D A nL cells slots Q ws pc lv (.int (iZ z) :: .ref t :: st) := by
  intro H locs ls hP hD hS hl
  refine va_ti X.1 X.2.1 hT hS (vp_in_iZ hz hn) (v := .int (iZ (f z))) ?_ hd (k H locs ls hP hD hS hl)
  show Value.int (zA f _) = _
  rw [iZ_clamp (by omega), zA_at f hz.1]
theorem g_tsw (X : gX p s m args meth c cc nL Ts own D tys A) {dflt lo hi : Int} {offs : Array Int} {len : Nat} {z off : Int} (v : Int) (tgt : Nat) (hd : decode cc pc = .ok (.tableswitch dflt lo hi offs, len)) (hz : z = v) (hr : -2147483648 ≤ v ∧ v ≤ 2147483647) (h1 : ¬ v < lo) (h2 : ¬ hi < v) (ho : offs[(v - lo).toNat]? = some off) (ht : (pc : Int) + off = (tgt : Int)) (k : gW p l e R s m args below meth c D A nL cells slots Q ws tgt lv st) : gW p l e R s m args below meth c D A nL cells slots Q ws pc lv (.int (iZ z) :: st) := by
  intro H locs ls hP hD hS hl
  subst hz
  exact lv_tableIn X.1 X.2.1 hd (by rw [iZ_toInt hr]; exact h1) (by rw [iZ_toInt hr]; exact h2) (by rw [iZ_toInt hr]; exact ho) ht (k H locs ls hP hD hS hl)
theorem g_tswO (X : gX p s m args meth c cc nL Ts own D tys A) {dflt lo hi : Int} {offs : Array Int} {len : Nat} {z : Int} (tgt : Nat) (hd : decode cc pc = .ok (.tableswitch dflt lo hi offs, len)) (hr : -2147483648 ≤ z ∧ z ≤ 2147483647) (h : z < lo ∨ hi < z) (ht : (pc : Int) + dflt = (tgt : Int)) (k : gW p l e R s m args below meth c D A nL cells slots Q ws tgt lv st) : gW p l e R s m args below meth c D A nL cells slots Q ws pc lv (.int (iZ z) :: st) := by
  intro H locs ls hP hD hS hl
  exact lv_tableOut X.1 X.2.1 hd (by rw [iZ_toInt hr]; exact h) ht (k H locs ls hP hD hS hl)
theorem g_iretX (X : gX p s m args meth c cc nL Ts own D tys A) {Qp : Option Value → va_W → Prop} {XC : String → State → State → Prop} {mc ms : Nat} {v : Int32} (hr : meth.sig.returnType = some .int) (hc : cells ≤ mc) (hs : slots ≤ ms) (hd : decode cc pc = .ok (.ireturn, 1)) (hq : Qp (some (.int v)) ws) : gW p l e R s m args below meth c D A nL cells slots (vx_MQ below (gQ D tys Qp A) XC args s mc ms A) ws pc lv [.int v] := by
  intro H locs ls hP hD hS hl
  exact vx_ret (g_iret X hr hc hs hd hq H locs ls hP hD hS hl)
theorem g_zretX (X : gX p s m args meth c cc nL Ts own D tys A) {Qp : Option Value → va_W → Prop} {XC : String → State → State → Prop} {mc ms : Nat} {v : Int} (hv : v = 0 ∨ v = 1) (hr : meth.sig.returnType = some .boolean) (hc : cells ≤ mc) (hs : slots ≤ ms) (hd : decode cc pc = .ok (.ireturn, 1)) (hq : Qp (some (.int (iZ v))) ws) : gW p l e R s m args below meth c D A nL cells slots (vx_MQ below (gQ D tys Qp A) XC args s mc ms A) ws pc lv [.int (iZ v)] := by
  intro H locs ls hP hD hS hl
  exact vx_ret (g_zret X hv hr hc hs hd hq H locs ls hP hD hS hl)
theorem g_vretX (X : gX p s m args meth c cc nL Ts own D tys A) {Qp : Option Value → va_W → Prop} {XC : String → State → State → Prop} {mc ms : Nat} (hr : meth.sig.returnType = none) (hc : cells ≤ mc) (hs : slots ≤ ms) (hd : decode cc pc = .ok (.return_, 1)) (hq : Qp none ws) : gW p l e R s m args below meth c D A nL cells slots (vx_MQ below (gQ D tys Qp A) XC args s mc ms A) ws pc lv [] := by
  intro H locs ls hP hD hS hl
  exact vx_ret (g_vret X hr hc hs hd hq H locs ls hP hD hS hl)
/-- throw new cls("text") -/
theorem g_throw (X : gX p s m args meth c cc nL Ts RX4 D tys A) (hE : gE tL tH tS A s s.heap) (hl : l.stackTraces = false) (htab : ∀ x ∈ c.exceptionTable.toList, False) {Qc : Array Value → State → Outcome → State → Prop} {Xp : String → va_W → Prop} {cls text : String} {ik is ic mc ms : Nat}
    (hcls : Bundle.fit cls = true) (hnames : ∀ n ∈ gNm, Bundle.fit n = true) (hk : .classLink RX4 ik cls ∈ Ts) (hini : .initialized cls ∈ Ts) (hstr : (is, text) ∈ gStr) (hgd : ∀ w ∈ (vx_atS RX4 ic cls gNm).filter goodWord, w ∈ Ts) (hbd : ∀ w ∈ (vx_atS RX4 ic cls gNm).filter (fun w => !goodWord w), w ∈ gBad)
    (hgood : ∀ w ∈ Cond.classLink RX4 ik cls :: Cond.initialized cls :: vx_atS RX4 ic cls gNm, vx_ot w = true)
    (d0 : decode cc pc = .ok (.new ik, 3)) (d3 : decode cc (pc + 3) = .ok (.dup, 1)) (d4 : decode cc (pc + 4) = .ok (.ldc is, 2)) (d6 : decode cc (pc + 6) = .ok (.invokespecial ic, 3)) (d9 : decode cc (pc + 9) = .ok (.athrow, 1))
    (hRf : 5 < R.frames) (hRl : (st.map fun v => v.category).sum + 82 ≤ R.locals) (hRc : cells + 1 ≤ R.cells) (hRs : slots + 6 ≤ R.slots) (hc : cells + 1 ≤ mc) (hs : slots + 6 ≤ ms) (hxp : Xp cls ws) :
    gW p l e R s m args below meth c D A nL cells slots (vx_MQ below Qc (gXC D tys Xp A) args s mc ms A) ws pc lv st := by
  intro H locs ls hP hD hS hlv
  obtain ⟨sa, hsa⟩ := hE.2.1 _ hstr
  have hat : ∀ w ∈ vx_atS RX4 ic cls gNm, w.before args s = true := vx_hat (B := gBad) (fun w hw => X.2.2.2.2.1 w (hgd w hw)) hbd (fun w hw => by
    have h9 := gBad_ok w hw
    simp only [Bool.and_eq_true] at h9
    exact (hE.1 w hw).use h9.2)
  refine vx_throwS (A := A) X.1 X.2.1 hl X.2.2.2.1 hcls hnames (X.2.2.2.2.1 _ hk) (X.2.2.2.2.1 _ hini) hsa hat hgood hE.2.2.1 hE.2.2.2.1 hS (by rw [X.2.2.1]; exact hlv.1) d0 d3 d4 d6 d9 (fun x hx => (htab x hx).elim) hRf (by show _ + 82 ≤ _; exact hRl) hRc hRs X.2.2.2.2.2.2.2.1 (fun t hvm hsz hk => ?_) hS.2.2 hc hs
  refine ⟨ws, hxp, hP.kept (fun k q hq => hk q.1 ((hP k q hq).lt)), va_K.moved hvm X.2.2.2.2.2.1, hD, Nat.le_trans hS.1 hsz, fun q h1 h2 => ?_⟩
  rw [hk q (Nat.lt_of_lt_of_le h1 hS.1)]
  exact hS.2.1 q h1 h2
/-- behind a call of a method that may throw -/
theorem g_goX {H H0 : Heap} {locs : List Loc} {mc ms : Nat} {rest st0 : List Value} {a : Array Value} {A1 A0 : Nat → Prop} {ls : Array Slot} {Qp : Option Value → va_W → Prop} {Xp : String → va_W → Prop}
    (hr : vx_Run p l e R s m args below meth c H locs cells slots mc ms (F0 m pc ls st0) rest (gQ D tys Qp A1 a) (gXC D tys Xp A1) A1) (hS : va_S A0 H0 H locs) (hA : ∀ q, A1 q → A0 q)
    (kx : ∀ (E : String) (w1 : va_W) (ce : Cell) (q9 : Addr) (t : State) (H1 : Heap) (locs1 : List Loc), t.heap = H1 → s.vm.Alike t.vm → Xp E w1 → va_P D vwCl w1 H1 → va_D A1 w1 → H.size ≤ H1.size → (∀ q : Nat, q < H.size → ¬ A1 q → H1[q]? = H[q]?) → va_S A0 H0 H1 locs1 → H1[q9]? = some ce → ce.vm = .none → s.vm.findClass E = some ce.cls → vx_W p l e R s m args below meth c H1 locs1 (cells + mc) (slots + ms) Q (F0 m pc ls rest) q9)
    (kk : ∀ (v : Option Value) (w1 : va_W) (t : State) (H1 : Heap) (locs1 : List Loc), t.heap = H1 → s.vm.Alike t.vm → Qp v w1 → va_P D vwCl w1 H1 → va_D A1 w1 → H.size ≤ H1.size → (∀ q : Nat, q < H.size → ¬ A1 q → H1[q]? = H[q]?) → va_S A0 H0 H1 locs1 → W p l e R s m args below meth c H1 locs1 (cells + mc) (slots + ms) Q (F0 m (pc + 3) ls (v.toList ++ rest))) : W p l e R s m args below meth c H locs cells slots Q (F0 m pc ls st0) := by
  intro T hT X
  rcases hr T hT X with ⟨v, st₀, t, T', L, h0, X', hL, e1, e2, ⟨⟨v2, w1, hv, hq, hP1, hK1, hD1⟩, hF⟩, st⟩ | ⟨q, st₀, t, T', L, E, ce, h0, X', hL, e1, e2, ⟨w1, hx, hP1, hK1, hD1, hF⟩, hce, hcv, hcl, st⟩
  · cases hv
    obtain ⟨k1, k2, k3⟩ := vx_keep h0 e1 hS (fun q _ z => hA q z) hA hL hF
    obtain ⟨t2, a1, b1⟩ := kk v w1 t T'.heap (locs ++ L) e1.symm (by rw [← e2]; exact X'.warmed.alike) hq (by rw [e1]; exact hP1) hD1 k1 k2 k3 T' rfl X'
    exact ⟨t2, st t2 a1, b1⟩
  · obtain ⟨k1, k2, k3⟩ := vx_keep h0 e1 hS (fun q _ z => hA q z) hA hL hF
    obtain ⟨t2, a1, b1⟩ := kx E w1 ce q t T'.heap (locs ++ L) e1.symm (by rw [← e2]; exact X'.warmed.alike) hx (by rw [e1]; exact hP1) hD1 k1 k2 k3 (by rw [e1]; exact hce) hcv hcl T' rfl X'
    exact ⟨t2, st.trans a1, b1⟩
/-- a call of a method that may throw, by one without a handler -/
theorem g_callX (X : gX p s m args meth c cc nL Ts own D tys A) (hE : gE tL tH tS A s s.heap) (htab : ∀ x ∈ c.exceptionTable.toList, False) {Qc : Array Value → State → Outcome → State → Prop} {XpM : String → va_W → Prop} {mcM msM : Nat} {y : MethodName} {wy : List Cond} {rm : Room} {C : String} {index maxL mc ms n : Nat} {bytes : ByteArray} {ret : Option FieldType} {As rest : List Value} {wc wr : va_W} {Qp : Option Value → va_W → Prop} {Xp : String → va_W → Prop} {b ci : Nat} {fs : List Value} {T : u_T} {N : Nat}
    (hM : gMx l y wy rm tL tH tS D tys (.ref b :: As) wc mc ms Qp Xp) (cw : CallW R s args own C index y bytes maxL ret wy rm mc ms n) (q0 : Nat) (he : wc[q0]? = some (b, .inr (ci, fs))) (hc : vwCl[ci]? = some (C, T, N)) (isC isR : List Nat) (hC : isC.map (fun i => ws[i]?) = wc.map some) (hR : isR.map (fun i => ws[i]?) = wr.map some) (hnd : va_nd isC = true) (hn : va_nd isR = true) (hdis : ∀ i ∈ isR, i ∉ isC) (hlen : As.length = n) (hst : st = As.reverse ++ .ref b :: rest) (hW : (rest.map fun v => v.category).sum ≤ 8) (hroom : cells + mc ≤ R.cells ∧ slots + ms ≤ R.slots) (hd : decode cc pc = .ok (.invokevirtual index, 3))
    (hmc : cells + mc ≤ mcM) (hms : slots + ms ≤ msM) (kx : ∀ (E : String) (w1 : va_W), Xp E w1 → XpM E (wr ++ w1))
    (k : ∀ (v : Option Value) (w1 : va_W), Qp v w1 → gW p l e R s m args below meth c D A nL (cells + mc) (slots + ms) (vx_MQ below Qc (gXC D tys XpM A) args s mcM msM A) (wr ++ w1) (pc + 3) lv (v.toList ++ rest)) : gW p l e R s m args below meth c D A nL cells slots (vx_MQ below Qc (gXC D tys XpM A) args s mcM msM A) ws pc lv st := by
  intro H locs ls hP hD hS hl
  have hPc : va_P D vwCl wc H := hP.sub isC (by
    have h1 : isC.filterMap (fun i => ws[i]?) = (isC.map (fun i => ws[i]?)).filterMap id := by rw [List.filterMap_map]; rfl
    rw [h1, hC, List.filterMap_map]
    exact List.filterMap_some)
  have hDc := hD.sub isC hnd hC
  have hFc := va_free (wc := wc) hD hS X.2.2.2.2.2.2.1 isC hC
  obtain ⟨hx, hb, hml, hown, hts, hK, hA, hlk, hN⟩ := X
  have hbl : FrameBlind (gPx tL tH tS D tys (.ref b :: As) wc H.size) := fun a U g mk q => by
    obtain ⟨q0, q1, qP, qK, qD, qN, qE⟩ := q
    exact ⟨q0, q1, qP, va_K.moved (u := U) (U := U.calling g mk a) (Vm.Alike.refl U.vm) qK, qD, gN.same (s := U) (U := U.calling g mk a) rfl qN, gE.same (s := U) (U := U.calling g mk a) rfl qE⟩
  have hE2 : gE tL tH tS (va_A wc H.size) s H := (hE.kept (fun a h1 h2 => hS.2.1 a h1 h2)).narrow hFc
  have hpre : ∀ U : State, U.heap = H → s.WarmedH U.vm → gPx tL tH tS D tys (.ref b :: As) wc H.size ((.ref b :: As)).toArray U := fun U hU hW => ⟨rfl, by rw [hU], by rw [hU]; exact hPc, va_K.moved hW.alike hK, hDc.weaken (fun _ _ _ _ => trivial), gN.warm hW hN, by rw [hU]; exact hE2.warm hW⟩
  have hr := vx_runV (g := F0 m pc ls st) (As := As) (rest := rest) ⟨hx, hb, hml, hown, hts⟩ (hM H.size) cw ⟨hbl, va_recv hK hPc hc he, hpre⟩ rfl hlen hl.1 hst (lv_room hW) hd hroom (below := below) (meth := meth) (locs := locs) (e := e)
  refine g_goX hr hS hFc (fun E w1 ce q9 t H1 locs1 ht hvm hxx hP1 hD1 hz hk hS1 hce hcv hcl => ?_) (fun v w1 t H1 locs1 ht hvm hq hP1 hD1 hz hk hS1 => ?_)
  · obtain ⟨hP2, hD2⟩ := va_join (wr := wr) (w1 := w1) hP hD isC isR hC hR hn hdis hk hFc hP1 hD1
    refine vx_out (fun x hx => (htab x hx).elim) hlk hce hcv hcl (fun t2 ht2 hvm2 => ⟨wr ++ w1, kx E w1 hxx, by rw [ht2]; exact hP2, va_K.moved hvm2 hK, hD2, hS1.F ht2⟩) hS1.2.2 hmc hms
  · obtain ⟨hP2, hD2⟩ := va_join (wr := wr) (w1 := w1) hP hD isC isR hC hR hn hdis hk hFc hP1 hD1
    exact k v w1 hq H1 locs1 ls hP2 hD2 hS1 hl
end GE
end
