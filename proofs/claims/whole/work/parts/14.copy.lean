/-! COPY: System.arraycopy of a whole row of ints into another of the same length -/
theorem arrV_cg {cI : ClassId} {N : Nat} {f g : Nat → Value} (h : ∀ j : Nat, j < N → f j = g j) : arrV cI N f = arrV cI N g := by
  unfold arrV
  congr 1
  congr 1
  funext j
  exact h j.val j.isLt
section GC
variable {p : Program} {l : Launch} {e : Env} {R : Room} {s : State} {m : MethodId} {args : Array Value} {below : List Frame} {meth : Method} {c : Code} {cells slots : Nat} {Q : State → Prop}
variable {cc : ByteArray} {nL : Nat} {Ts : List Cond} {own : String} {D : va_G} {tys : List (ClassId × FieldType)} {A : Nat → Prop} {ws : va_W} {pc : Nat} {lv : List (Nat × Value)} {st : List Value}
theorem g_copyAll (X : gX p s m args meth c cc nL Ts own D tys A) {cA : ClassId} {n : Nat} {f g : Int → Int} {a0 a index : Nat} {z : Int} (q0 q1 t0 : Nat) (h1 : .methodLink own index arraycopyName ∈ Ts) (h2 : .native arraycopyName ∈ Ts) (h3 : .static arraycopyName ∈ Ts) (h4 : .initialized "java/lang/System" ∈ Ts)
    (ha0 : ws[q0]? = some (a0, .inl (cA, n, .inl (zA f)))) (ha1 : ws[q1]? = some (a, .inl (cA, n, .inl (zA g)))) (ht : tys[t0]? = some (cA, .int)) (hn : (n : Int) ≤ 2147483647) (hz : z = (n : Int))
    (hfr : 1 ≤ R.frames) (hlo : (st.map fun v => v.category).sum + 18 ≤ R.locals) {ws2 : va_W} (hws : ws.set q1 (a, .inl (cA, n, .inl (zA f))) = ws2) (hd : decode cc pc = .ok (.invokestatic index, 3))
    (k : gW p l e R s m args below meth c D A nL cells slots Q ws2 (pc + 3) lv st) : gW p l e R s m args below meth c D A nL cells slots Q ws pc lv (.int (iZ z) :: .int (iZ 0) :: .ref a :: .int (iZ 0) :: .ref a0 :: st) := by
  intro H locs ls hP hD hS hl
  subst hws
  subst hz
  have e0 : (iZ 0).toNatClampNeg = 0 := iZ_clamp (by omega)
  have en : (iZ (n : Int)).toNatClampNeg = n := by rw [iZ_clamp (by omega)]; omega
  have z0 : ¬ iZ 0 < 0 := fun h => by
    have := (iZ_lt (a := 0) (b := 0) (by omega) (by omega)).mp h
    omega
  have zn : ¬ iZ (n : Int) < 0 := fun h => by
    have := (iZ_lt (a := (n : Int)) (b := 0) (by omega) (by omega)).mp h
    omega
  refine va_copyi X.1 X.2.1 (by rw [X.2.2.1]; exact hl.1.symm) X.2.2.2.1 (X.2.2.2.2.1 _ h1) (X.2.2.2.2.1 _ h2) (X.2.2.2.2.1 _ h3) (X.2.2.2.2.1 _ h4) X.2.2.2.2.2.1 hP hD hS q0 q1 t0 t0 ha0 ha1 ht ht rfl z0 z0 zn (by omega) (by omega) (fun i _ => rfl) hfr (by show _ + (7 + 11) ≤ _; omega) hd (fun H1 locs1 hP1 hD1 hS1 => ?_)
  rw [e0, en] at hP1
  have hl1 : q1 < ws.length := (List.getElem?_eq_some_iff.mp ha1).1
  have hcell : vp_cell cA (n, .inl (va_cpy (zA f) (zA g) 0 0 n)) = vp_cell cA (n, .inl (zA f)) := by
    rw [vp_cell_i, vp_cell_i]
    refine arrV_cg (fun j hj => ?_)
    have h9 : va_cpy (zA f) (zA g) 0 0 n j = zA f j := by
      unfold va_cpy
      rw [if_pos ⟨Nat.zero_le j, by omega⟩]
      simp
    rw [h9]
  refine k H1 locs1 ls (fun k9 q hk => ?_) (hD.set ha1) hS1 hl
  by_cases hkp : k9 = q1
  · subst hkp
    rw [List.getElem?_set_self hl1] at hk
    cases hk
    have h9 : H1[a]? = some (vp_cell cA (n, .inl (va_cpy (zA f) (zA g) 0 0 n))) := hP1 k9 _ (List.getElem?_set_self hl1)
    rw [hcell] at h9
    exact h9
  · rw [List.getElem?_set_ne (Ne.symm hkp)] at hk
    exact hP1 k9 q (by rw [List.getElem?_set_ne (Ne.symm hkp)]; exact hk)
end GC
