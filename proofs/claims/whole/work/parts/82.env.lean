/-! ENV: what holds at the law's entry -/
theorem lw_arr {s : State} {args : Array Value} {ty : FieldType} (hp : (∃ C, ty = .object C) → False) (h : (Cond.arrayClass ty).before args s = true) : ∃ cA : ClassId, ArrOfT s cA ty ∧ va_RA s cA ty := by
  obtain ⟨cA, kA, comp, h1, h2, h3⟩ := Cond.arrayClass_spec h
  refine ⟨cA, fun n z => ⟨fun k h => (by cases h), kA, h2, comp, h3⟩, ?_⟩
  cases ty with
  | object C => exact absurd ⟨C, rfl⟩ hp
  | _ => exact h1
theorem lw_gN {s : State} {args : Array Value} (hts : ∀ w ∈ lw_tbl, w.before args s = true) : gN s := by
  intro w hw
  have h1 := (List.mem_filter.mp hw).1
  have h2 := (List.mem_filter.mp hw).2
  have h3 := hts w (List.mem_append_right _ h1)
  cases w <;> simp at h2
  exact va_Nw.of rfl h3
theorem lw_gBadIn : ∀ w ∈ gBad, w ∈ lw_tbl := by decide +kernel
theorem lw_gStrIn : ∀ q ∈ gStr, Cond.stringRef RX4 q.1 q.2 ∈ lw_tbl := by decide +kernel
theorem lw_gStrEx : ∀ q ∈ gStr, Cond.exactly (.string RX4 q.1) "java/lang/String" ∈ flatC (Jvm.Cond.and given_1 narrow_1) := by decide +kernel
def lwIx (nm : String) (j z : Int32) : Cond := .eq (.elem (.static "GuideWords" nm "[I") (.int j)) (.int z)
theorem lw_lo : ∀ q ∈ ([(0, 4), (1, 1), (2, 0), (3, 0), (4, 0)] : List (Int32 × Int32)), lwIx "LOWEST" q.1 q.2 ∈ flatC (Jvm.Cond.and given_1 narrow_1) := by decide +kernel
theorem lw_hi : ∀ q ∈ ([(0, 60), (1, 4), (2, 3), (3, 1000), (4, 1000)] : List (Int32 × Int32)), lwIx "HIGHEST" q.1 q.2 ∈ flatC (Jvm.Cond.and given_1 narrow_1) := by decide +kernel
theorem lw_se : ∀ q ∈ ([(0, 1)] : List (Int32 × Int32)), lwIx "LINES_OF_SEE" q.1 q.2 ∈ flatC (Jvm.Cond.and given_1 narrow_1) := by decide +kernel
theorem lw_at {s : State} {args : Array Value} {tm : Term} {j z y x : Int32} (h : (Cond.eq (.elem tm (.int j)) (.int z)).before args s = true) (hj : x = j) (hz : y = z) : (Term.elem tm (.int x)).eval args s none [] s = some (.int y) := by
  rw [hj, hz]; exact va_eqt h
theorem lw_env {s : State} {b : Nat} (hts : ∀ w ∈ lw_tbl, w.before #[Value.ref b] s = true) (hgv : (Jvm.Cond.and given_1 narrow_1).before #[Value.ref b] s = true) : ∃ tL tH tS : Nat, gE tL tH tS (fun q : Nat => s.heap.size ≤ q) s s.heap ∧ gC s := by
  have hs := flat_of_before _ hgv
  have hA : ∀ a : Nat, a < s.heap.size → ¬ (fun q : Nat => s.heap.size ≤ q) a := fun a h => Nat.not_le.mpr h
  obtain ⟨tL, hL1, hL2⟩ := va_Tof (args := #[Value.ref b]) (s := s) (tm := .static "GuideWords" "LOWEST" "[I") (ty := .int) (N := 5) (f := fun j => .int (zA loF j)) (A := fun q : Nat => s.heap.size ≤ q) (by decide) (hs _ (by decide +kernel)) (va_eqt (hs _ (by decide +kernel))) (fun j hj => by
    rcases (show j = 0 ∨ j = 1 ∨ j = 2 ∨ j = 3 ∨ j = 4 by omega) with rfl | rfl | rfl | rfl | rfl
    · exact lw_at (hs _ (lw_lo (0, 4) (by decide))) (by decide) (by decide)
    · exact lw_at (hs _ (lw_lo (1, 1) (by decide))) (by decide) (by decide)
    · exact lw_at (hs _ (lw_lo (2, 0) (by decide))) (by decide) (by decide)
    · exact lw_at (hs _ (lw_lo (3, 0) (by decide))) (by decide) (by decide)
    · exact lw_at (hs _ (lw_lo (4, 0) (by decide))) (by decide) (by decide)) hA
  obtain ⟨tH, hH1, hH2⟩ := va_Tof (args := #[Value.ref b]) (s := s) (tm := .static "GuideWords" "HIGHEST" "[I") (ty := .int) (N := 5) (f := fun j => .int (zA hiF j)) (A := fun q : Nat => s.heap.size ≤ q) (by decide) (hs _ (by decide +kernel)) (va_eqt (hs _ (by decide +kernel))) (fun j hj => by
    rcases (show j = 0 ∨ j = 1 ∨ j = 2 ∨ j = 3 ∨ j = 4 by omega) with rfl | rfl | rfl | rfl | rfl
    · exact lw_at (hs _ (lw_hi (0, 60) (by decide))) (by decide) (by decide)
    · exact lw_at (hs _ (lw_hi (1, 4) (by decide))) (by decide) (by decide)
    · exact lw_at (hs _ (lw_hi (2, 3) (by decide))) (by decide) (by decide)
    · exact lw_at (hs _ (lw_hi (3, 1000) (by decide))) (by decide) (by decide)
    · exact lw_at (hs _ (lw_hi (4, 1000) (by decide))) (by decide) (by decide)) hA
  obtain ⟨tS, hS1, hS2⟩ := va_Tof (args := #[Value.ref b]) (s := s) (tm := .static "GuideWords" "LINES_OF_SEE" "[I") (ty := .int) (N := 1) (f := fun j => .int (zA (fun _ => 1) j)) (A := fun q : Nat => s.heap.size ≤ q) (by decide) (hs _ (by decide +kernel)) (va_eqt (hs _ (by decide +kernel))) (fun j hj => by
    rcases (show j = 0 by omega) with rfl
    exact lw_at (hs _ (lw_se (0, 1) (by decide))) (by decide) (by decide)) hA
  refine ⟨tL, tH, tS, ⟨fun w hw => ?_, fun q hq => ?_, ?_, ?_, ?_, ?_, ?_, hL2, hH2, hS2⟩, ?_, ?_, ?_⟩
  · have h9 := gBad_ok w hw
    simp only [Bool.and_eq_true] at h9
    exact va_Nw.of h9.2 (hts w (lw_gBadIn w hw))
  · obtain ⟨a, c, cA, kA, q1, -⟩ := Cond.exactly_spec (args := #[Value.ref b]) (first := s) (o := none) (s := s) (idx := []) (t := .string RX4 q.1) (cls := "java/lang/String") (hs _ (lw_gStrEx q hq))
    exact ⟨a, vk_R.of (hts _ (lw_gStrIn q hq)) q1⟩
  · exact vx_Zqof (hts (.laysStatic Bundle.tN "UNASSIGNED_STACK" Bundle.steD) (by decide +kernel)) (hts (.initialized Bundle.tN) (by decide +kernel)) (hs (.isRef (.static Bundle.tN "UNASSIGNED_STACK" Bundle.steD)) (by decide +kernel)) hA
  · exact vx_Zqof (hts (.laysStatic Bundle.tN "SUPPRESSED_SENTINEL" Bundle.listD) (by decide +kernel)) (hts (.initialized Bundle.tN) (by decide +kernel)) (hs (.isRef (.static Bundle.tN "SUPPRESSED_SENTINEL" Bundle.listD)) (by decide +kernel)) hA
  · exact va_Zref (hts (.laysStatic "GuideWords" "LOWEST" "[I") (by decide +kernel)) (hts (.initialized "GuideWords") (by decide +kernel)) hL1 hA
  · exact va_Zref (hts (.laysStatic "GuideWords" "HIGHEST" "[I") (by decide +kernel)) (hts (.initialized "GuideWords") (by decide +kernel)) hH1 hA
  · exact va_Zref (hts (.laysStatic "GuideWords" "LINES_OF_SEE" "[I") (by decide +kernel)) (hts (.initialized "GuideWords") (by decide +kernel)) hS1 hA
  · exact va_Nw.of rfl (hts (.castable xIA xIA) (by decide +kernel))
  · exact va_Nw.of rfl (hts (.castable xIO xIO) (by decide +kernel))
  · exact va_Nc.of (hs (.not (.castable xIA xIO)) (by decide +kernel))
theorem lw_K {s : State} {args : Array Value} (hts : ∀ w ∈ lw_tbl, w.before args s = true) : ∃ (D : va_G) (cB cI cJ cY : ClassId), va_K D vwCl (gT cB cI cJ cY) s := by
  obtain ⟨c0, iS0, h0⟩ := u_known (C := RX0) (T := TX0) (N := 9) (n := 9) hts inX0 (hts (.instantiable RX0 9) (by decide +kernel))
  obtain ⟨c1, iS1, h1⟩ := u_known (C := RX1) (T := TX1) (N := 8) (n := 8) hts inX1 (hts (.instantiable RX1 8) (by decide +kernel))
  obtain ⟨c2, iS2, h2⟩ := u_known (C := RX2) (T := TX2) (N := 2) (n := 2) hts inX2 (hts (.instantiable RX2 2) (by decide +kernel))
  obtain ⟨c3, iS3, h3⟩ := u_known (C := RX3) (T := TX3) (N := 5) (n := 5) hts inX3 (hts (.instantiable RX3 5) (by decide +kernel))
  obtain ⟨c4, iS4, h4⟩ := u_known (C := RX4) (T := TX4) (N := 10) (n := 10) hts inX4 (hts (.instantiable RX4 10) (by decide +kernel))
  obtain ⟨c5, iS5, h5⟩ := u_known (C := RX5) (T := TX5) (N := 46) (n := 46) hts inX5 (hts (.instantiable RX5 46) (by decide +kernel))
  obtain ⟨cB, b1, b2⟩ := lw_arr (ty := .byte) (fun h => by obtain ⟨C, h⟩ := h; cases h) (hts (.arrayClass .byte) (by decide +kernel))
  obtain ⟨cI, i1, i2⟩ := lw_arr (ty := .int) (fun h => by obtain ⟨C, h⟩ := h; cases h) (hts (.arrayClass .int) (by decide +kernel))
  obtain ⟨cJ, j1, j2⟩ := lw_arr (ty := .long) (fun h => by obtain ⟨C, h⟩ := h; cases h) (hts (.arrayClass .long) (by decide +kernel))
  obtain ⟨cY, y1, y2⟩ := lw_arr (ty := .boolean) (fun h => by obtain ⟨C, h⟩ := h; cases h) (hts (.arrayClass .boolean) (by decide +kernel))
  refine ⟨(fun k => if k = 0 then c0 else if k = 1 then c1 else if k = 2 then c2 else if k = 3 then c3 else if k = 4 then c4 else c5, fun k => if k = 0 then iS0 else if k = 1 then iS1 else if k = 2 then iS2 else if k = 3 then iS3 else if k = 4 then iS4 else iS5), cB, cI, cJ, cY, ?_, ?_⟩
  · intro k q hq
    match k, hq with
    | 0, hq => cases hq; exact h0
    | 1, hq => cases hq; exact h1
    | 2, hq => cases hq; exact h2
    | 3, hq => cases hq; exact h3
    | 4, hq => cases hq; exact h4
    | 5, hq => cases hq; exact h5
    | k + 6, hq => simp [vwCl] at hq
  · intro k q hq
    match k, hq with
    | 0, hq => cases hq; exact ⟨b1, b2⟩
    | 1, hq => cases hq; exact ⟨i1, i2⟩
    | 2, hq => cases hq; exact ⟨j1, j2⟩
    | 3, hq => cases hq; exact ⟨y1, y2⟩
    | k + 4, hq => simp [gT] at hq
