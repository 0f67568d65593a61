def qX5_isHead (cB cI cJ cY : ClassId) (m0 : Nat) (a6 : Nat) (a8 : Nat) (a10 : Nat) (a11 : Nat) (a12 : Nat) (a13 : Nat) (a14 : Nat) (a15 : Nat) (a17 : Nat) (a19 : Nat) (a20 : Nat) (a21 : Nat) (a22 : Nat) (a23 : Nat) (a24 : Nat) (a26 : Nat) (a27 : Nat) (a28 : Nat) (a35 : Nat) (a36 : Nat) (a37 : Nat) (a38 : Nat) (a39 : Nat) (a40 : Nat) (a41 : Nat) (a44 : Nat) (a45 : Nat) (z0 : Int) (z1 : Int) (z2 : Int) (z3 : Int) (z4 : Int) (z5 : Int) (z7 : Int) (z9 : Int) (z16 : Int) (z18 : Int) (z25 : Int) (z29 : Int) (z30 : Int) (z31 : Int) (z32 : Int) (z33 : Int) (z34 : Int) (z42 : Int) (z43 : Int) (g8 : Int → Int) (fr : Int) (n : Int) : Option Value → va_W → Prop := fun rv w1 => ∃ (r : Int), rv = some (.int (iZ r)) ∧ ((r = 1 ∧ isHd g8 fr n) ∨ (r = 0 ∧ ¬ isHd g8 fr n)) ∧ w1 = [(m0, .inr (5, [.int (iZ z0), .int (iZ z1), .int (iZ z2), .int (iZ z3), .int (iZ z4), .int (iZ z5), .ref a6, .int (iZ z7), .ref a8, .int (iZ z9), .ref a10, .ref a11, .ref a12, .ref a13, .ref a14, .ref a15, .int (iZ z16), .ref a17, .int (iZ z18), .ref a19, .ref a20, .ref a21, .ref a22, .ref a23, .ref a24, .int (iZ z25), .ref a26, .ref a27, .ref a28, .int (iZ z29), .int (iZ z30), .int (iZ z31), .int (iZ z32), .int (iZ z33), .int (iZ z34), .ref a35, .ref a36, .ref a37, .ref a38, .ref a39, .ref a40, .ref a41, .int (iZ z42), .int (iZ z43), .ref a44, .ref a45])), (a8, .inl (cB, 60, .inl (zA g8)))]
set_option maxHeartbeats 4000000 in
set_option maxRecDepth 100000 in
theorem ctX5_isHead (l : Launch) (D : va_G) (cB cI cJ cY : ClassId) (m0 : Nat) (a6 : Nat) (a8 : Nat) (a10 : Nat) (a11 : Nat) (a12 : Nat) (a13 : Nat) (a14 : Nat) (a15 : Nat) (a17 : Nat) (a19 : Nat) (a20 : Nat) (a21 : Nat) (a22 : Nat) (a23 : Nat) (a24 : Nat) (a26 : Nat) (a27 : Nat) (a28 : Nat) (a35 : Nat) (a36 : Nat) (a37 : Nat) (a38 : Nat) (a39 : Nat) (a40 : Nat) (a41 : Nat) (a44 : Nat) (a45 : Nat) (z0 : Int) (z1 : Int) (z2 : Int) (z3 : Int) (z4 : Int) (z5 : Int) (z7 : Int) (z9 : Int) (z16 : Int) (z18 : Int) (z25 : Int) (z29 : Int) (z30 : Int) (z31 : Int) (z32 : Int) (z33 : Int) (z34 : Int) (z42 : Int) (z43 : Int) (g8 : Int → Int) (fr : Int) (n : Int) (h8r : ∀ j : Int, 0 ≤ j ∧ j < 60 → -128 ≤ g8 j ∧ g8 j ≤ 127) (hfn : 0 ≤ fr ∧ 0 ≤ n ∧ fr + n ≤ 60) : gM l yX5_isHead wsX5_isHead { frames := 0, cells := 0, slots := 0, locals := 0 } D (gT cB cI cJ cY) [.ref m0, .int (iZ fr), .int (iZ n)] [(m0, .inr (5, [.int (iZ z0), .int (iZ z1), .int (iZ z2), .int (iZ z3), .int (iZ z4), .int (iZ z5), .ref a6, .int (iZ z7), .ref a8, .int (iZ z9), .ref a10, .ref a11, .ref a12, .ref a13, .ref a14, .ref a15, .int (iZ z16), .ref a17, .int (iZ z18), .ref a19, .ref a20, .ref a21, .ref a22, .ref a23, .ref a24, .int (iZ z25), .ref a26, .ref a27, .ref a28, .int (iZ z29), .int (iZ z30), .int (iZ z31), .int (iZ z32), .int (iZ z33), .int (iZ z34), .ref a35, .ref a36, .ref a37, .ref a38, .ref a39, .ref a40, .ref a41, .int (iZ z42), .int (iZ z43), .ref a44, .ref a45])), (a8, .inl (cB, 60, .inl (zA g8)))] 0 0 (qX5_isHead cB cI cJ cY m0 a6 a8 a10 a11 a12 a13 a14 a15 a17 a19 a20 a21 a22 a23 a24 a26 a27 a28 a35 a36 a37 a38 a39 a40 a41 a44 a45 z0 z1 z2 z3 z4 z5 z7 z9 z16 z18 z25 z29 z30 z31 z32 z33 z34 z42 z43 g8 fr n) := by
  refine g_start (cc := cX5_isHead) (maxL := 5) (ret := some .boolean) (lv := [(0, .ref m0), (1, .int (iZ fr)), (2, .int (iZ n))]) (by decide) rfl (Nat.le_of_ble_eq_true rfl) rfl ?_
  intro p e s m args below meth c A X hr hnm
  have hin5 : ∀ w ∈ u_ws RX5 TX5 46, w ∈ wsX5_isHead := by decide +kernel
  refine g_iload_n X 2 dX5_isHead_0 rfl rfl ?_
  refine g_iconst X dX5_isHead_1 ?_
  refine g_icmp_lt X 15 dX5_isHead_2 (by decide) (by omega) (by omega) (fun c_2 => ?_) (fun c_2 => ?_)
  · skip
    refine g_iconst X dX5_isHead_15 ?_
    refine g_istore_n (lv2 := [(3, .int (iZ 0)), (0, .ref m0), (1, .int (iZ fr)), (2, .int (iZ n))]) X dX5_isHead_16 rfl (by decide) rfl ?_
    refine g_iconst X dX5_isHead_17 ?_
    refine g_istore (lv2 := [(4, .int (iZ 0)), (3, .int (iZ 0)), (0, .ref m0), (1, .int (iZ fr)), (2, .int (iZ n))]) X dX5_isHead_18 (by decide) rfl ?_
    refine g_lv (lv' := [(0, .ref m0), (1, .int (iZ fr)), (2, .int (iZ n)), (3, .int (iZ 0)), (4, .int (iZ 0))]) [2, 3, 4, 1, 0] rfl ?_
    have loop_20 : ∀ (kf : Nat) (is : Int) (k : Int), (hk : 0 ≤ k ∧ k ≤ n) → (his : (is = 0 ∧ ¬ isHd g8 fr n) ∨ (is = 1 ∧ 1 ≤ n ∧ n ≤ 12 ∧ ∀ j : Int, 0 ≤ j → j < k → 97 ≤ g8 (fr + j) ∧ g8 (fr + j) ≤ 122)) → (n - k).toNat < kf → gW p l e { frames := 0, cells := 0, slots := 0, locals := 0 } s m args below meth c D A 5 0 0 (MQ below (gQ D (gT cB cI cJ cY) (qX5_isHead cB cI cJ cY m0 a6 a8 a10 a11 a12 a13 a14 a15 a17 a19 a20 a21 a22 a23 a24 a26 a27 a28 a35 a36 a37 a38 a39 a40 a41 a44 a45 z0 z1 z2 z3 z4 z5 z7 z9 z16 z18 z25 z29 z30 z31 z32 z33 z34 z42 z43 g8 fr n) A) args s 0 0 A) [(m0, .inr (5, [.int (iZ z0), .int (iZ z1), .int (iZ z2), .int (iZ z3), .int (iZ z4), .int (iZ z5), .ref a6, .int (iZ z7), .ref a8, .int (iZ z9), .ref a10, .ref a11, .ref a12, .ref a13, .ref a14, .ref a15, .int (iZ z16), .ref a17, .int (iZ z18), .ref a19, .ref a20, .ref a21, .ref a22, .ref a23, .ref a24, .int (iZ z25), .ref a26, .ref a27, .ref a28, .int (iZ z29), .int (iZ z30), .int (iZ z31), .int (iZ z32), .int (iZ z33), .int (iZ z34), .ref a35, .ref a36, .ref a37, .ref a38, .ref a39, .ref a40, .ref a41, .int (iZ z42), .int (iZ z43), .ref a44, .ref a45])), (a8, .inl (cB, 60, .inl (zA g8)))] 20 [(0, .ref m0), (1, .int (iZ fr)), (2, .int (iZ n)), (3, .int (iZ is)), (4, .int (iZ k))] [] := by
      intro kf
      induction kf with
      | zero => intro is k hk his hm; exact absurd hm (Nat.not_lt_zero _)
      | succ kf ih_20 =>
        intro is k hk his hm
        refine g_iload X 4 dX5_isHead_20 rfl ?_
        refine g_iload_n X 2 dX5_isHead_22 rfl rfl ?_
        refine g_icmp_ge X 70 dX5_isHead_23 (by decide) (by omega) (by omega) (fun c_23 => ?_) (fun c_23 => ?_)
        · skip
          have hfin : (is = 1 ∧ isHd g8 fr n) ∨ (is = 0 ∧ ¬ isHd g8 fr n) := by
            rcases his with h | ⟨h0, h1, h2, h3⟩
            · exact Or.inr h
            · exact Or.inl ⟨h0, h1, h2, fun j q1 q2 => h3 j q1 (by omega)⟩
          refine g_iload_n X 3 dX5_isHead_70 rfl rfl ?_
          exact g_zret X (by rcases his with h | h <;> omega) hr (by decide) (by decide) dX5_isHead_71 ⟨_, rfl, hfin, rfl⟩
        · skip
          refine g_iload_n X 3 dX5_isHead_26 rfl rfl ?_
          refine g_if_eq X 70 dX5_isHead_27 (by decide) (by rcases his with h | h <;> omega) (fun c_27 => ?_) (fun c_27 => ?_)
          · skip
            have hfin : (is = 1 ∧ isHd g8 fr n) ∨ (is = 0 ∧ ¬ isHd g8 fr n) := by
              rcases his with h | h
              · exact Or.inr h
              · omega
            refine g_iload_n X 3 dX5_isHead_70 rfl rfl ?_
            exact g_zret X (by rcases his with h | h <;> omega) hr (by decide) (by decide) dX5_isHead_71 ⟨_, rfl, hfin, rfl⟩
          · skip
            refine g_aload_n X 0 dX5_isHead_30 rfl rfl ?_
            refine g_get X (index := 29) (ref := "GuideWordsModel") hin5 0 rfl rfl 8 (by decide) rfl (by decide +kernel) (v := .ref a8) rfl dX5_isHead_31 ?_
            refine g_iload_n X 1 dX5_isHead_34 rfl rfl ?_
            refine g_iload X 4 dX5_isHead_35 rfl ?_
            refine g_iadd X dX5_isHead_37 ?_
            refine g_bald X 1 0 rfl rfl (by omega) (by decide) dX5_isHead_38 ?_
            have r_38 := h8r (fr + k) (by omega)
            refine g_bipush X dX5_isHead_39 (by decide) ?_
            refine g_icmp_lt X 62 dX5_isHead_41 (by decide) (by omega) (by omega) (fun c_41 => ?_) (fun c_41 => ?_)
            · skip
              refine g_iconst X dX5_isHead_62 ?_
              refine g_istore_n (lv2 := [(3, .int (iZ 0)), (0, .ref m0), (1, .int (iZ fr)), (2, .int (iZ n)), (4, .int (iZ k))]) X dX5_isHead_63 rfl (by decide) rfl ?_
              refine g_iinc (q := 4) (lv2 := [(4, .int (iZ (k + 1))), (3, .int (iZ 0)), (0, .ref m0), (1, .int (iZ fr)), (2, .int (iZ n))]) X dX5_isHead_64 rfl (by decide) rfl ?_
              refine g_goto X 20 dX5_isHead_67 (by decide) ?_
              have G1 : ((0 : Int) = 0 ∧ ¬ isHd g8 fr n) ∨ ((0 : Int) = 1 ∧ 1 ≤ n ∧ n ≤ 12 ∧ ∀ j : Int, 0 ≤ j → j < k + 1 → 97 ≤ g8 (fr + j) ∧ g8 (fr + j) ≤ 122) := by
                rcases his with h | ⟨h0, h1, h2, h3⟩
                · omega
                · first
                  | exact Or.inr ⟨rfl, h1, h2, fun j q1 q2 => by
                      rcases (show j = k ∨ j < k by omega) with h | h
                      · rw [h]; omega
                      · exact h3 j q1 h⟩
                  | exact Or.inl ⟨rfl, fun h => by have q := h.2.2 k (by omega) (by omega); omega⟩
              refine g_lv (lv' := [(0, .ref m0), (1, .int (iZ fr)), (2, .int (iZ n)), (3, .int (iZ 0)), (4, .int (iZ (k + 1)))]) [2, 3, 4, 1, 0] rfl ?_
              exact ih_20 0 (k + 1) (by omega) G1 (by omega)
            · skip
              refine g_aload_n X 0 dX5_isHead_44 rfl rfl ?_
              refine g_get X (index := 29) (ref := "GuideWordsModel") hin5 0 rfl rfl 8 (by decide) rfl (by decide +kernel) (v := .ref a8) rfl dX5_isHead_45 ?_
              refine g_iload_n X 1 dX5_isHead_48 rfl rfl ?_
              refine g_iload X 4 dX5_isHead_49 rfl ?_
              refine g_iadd X dX5_isHead_51 ?_
              refine g_bald X 1 0 rfl rfl (by omega) (by decide) dX5_isHead_52 ?_
              have r_52 := h8r (fr + k) (by omega)
              refine g_bipush X dX5_isHead_53 (by decide) ?_
              refine g_icmp_gt X 62 dX5_isHead_55 (by decide) (by omega) (by omega) (fun c_55 => ?_) (fun c_55 => ?_)
              · skip
                refine g_iconst X dX5_isHead_62 ?_
                refine g_istore_n (lv2 := [(3, .int (iZ 0)), (0, .ref m0), (1, .int (iZ fr)), (2, .int (iZ n)), (4, .int (iZ k))]) X dX5_isHead_63 rfl (by decide) rfl ?_
                refine g_iinc (q := 4) (lv2 := [(4, .int (iZ (k + 1))), (3, .int (iZ 0)), (0, .ref m0), (1, .int (iZ fr)), (2, .int (iZ n))]) X dX5_isHead_64 rfl (by decide) rfl ?_
                refine g_goto X 20 dX5_isHead_67 (by decide) ?_
                have G1 : ((0 : Int) = 0 ∧ ¬ isHd g8 fr n) ∨ ((0 : Int) = 1 ∧ 1 ≤ n ∧ n ≤ 12 ∧ ∀ j : Int, 0 ≤ j → j < k + 1 → 97 ≤ g8 (fr + j) ∧ g8 (fr + j) ≤ 122) := by
                  rcases his with h | ⟨h0, h1, h2, h3⟩
                  · omega
                  · first
                    | exact Or.inr ⟨rfl, h1, h2, fun j q1 q2 => by
                        rcases (show j = k ∨ j < k by omega) with h | h
                        · rw [h]; omega
                        · exact h3 j q1 h⟩
                    | exact Or.inl ⟨rfl, fun h => by have q := h.2.2 k (by omega) (by omega); omega⟩
                refine g_lv (lv' := [(0, .ref m0), (1, .int (iZ fr)), (2, .int (iZ n)), (3, .int (iZ 0)), (4, .int (iZ (k + 1)))]) [2, 3, 4, 1, 0] rfl ?_
                exact ih_20 0 (k + 1) (by omega) G1 (by omega)
              · skip
                refine g_iconst X dX5_isHead_58 ?_
                refine g_goto X 63 dX5_isHead_59 (by decide) ?_
                refine g_istore_n (lv2 := [(3, .int (iZ 1)), (0, .ref m0), (1, .int (iZ fr)), (2, .int (iZ n)), (4, .int (iZ k))]) X dX5_isHead_63 rfl (by decide) rfl ?_
                refine g_iinc (q := 4) (lv2 := [(4, .int (iZ (k + 1))), (3, .int (iZ 1)), (0, .ref m0), (1, .int (iZ fr)), (2, .int (iZ n))]) X dX5_isHead_64 rfl (by decide) rfl ?_
                refine g_goto X 20 dX5_isHead_67 (by decide) ?_
                have G1 : ((1 : Int) = 0 ∧ ¬ isHd g8 fr n) ∨ ((1 : Int) = 1 ∧ 1 ≤ n ∧ n ≤ 12 ∧ ∀ j : Int, 0 ≤ j → j < k + 1 → 97 ≤ g8 (fr + j) ∧ g8 (fr + j) ≤ 122) := by
                  rcases his with h | ⟨h0, h1, h2, h3⟩
                  · omega
                  · first
                    | exact Or.inr ⟨rfl, h1, h2, fun j q1 q2 => by
                        rcases (show j = k ∨ j < k by omega) with h | h
                        · rw [h]; omega
                        · exact h3 j q1 h⟩
                    | exact Or.inl ⟨rfl, fun h => by have q := h.2.2 k (by omega) (by omega); omega⟩
                refine g_lv (lv' := [(0, .ref m0), (1, .int (iZ fr)), (2, .int (iZ n)), (3, .int (iZ 1)), (4, .int (iZ (k + 1)))]) [2, 3, 4, 1, 0] rfl ?_
                exact ih_20 1 (k + 1) (by omega) G1 (by omega)
    exact loop_20 _ 0 0 (by omega) (Or.inl ⟨rfl, fun h => by have q1 := h.1; have q2 := h.2.1; omega⟩) (Nat.lt_succ_self _)
  · skip
    refine g_iload_n X 2 dX5_isHead_5 rfl rfl ?_
    refine g_bipush X dX5_isHead_6 (by decide) ?_
    refine g_icmp_gt X 15 dX5_isHead_8 (by decide) (by omega) (by omega) (fun c_8 => ?_) (fun c_8 => ?_)
    · skip
      refine g_iconst X dX5_isHead_15 ?_
      refine g_istore_n (lv2 := [(3, .int (iZ 0)), (0, .ref m0), (1, .int (iZ fr)), (2, .int (iZ n))]) X dX5_isHead_16 rfl (by decide) rfl ?_
      refine g_iconst X dX5_isHead_17 ?_
      refine g_istore (lv2 := [(4, .int (iZ 0)), (3, .int (iZ 0)), (0, .ref m0), (1, .int (iZ fr)), (2, .int (iZ n))]) X dX5_isHead_18 (by decide) rfl ?_
      refine g_lv (lv' := [(0, .ref m0), (1, .int (iZ fr)), (2, .int (iZ n)), (3, .int (iZ 0)), (4, .int (iZ 0))]) [2, 3, 4, 1, 0] rfl ?_
      have loop_20 : ∀ (kf : Nat) (is : Int) (k : Int), (hk : 0 ≤ k ∧ k ≤ n) → (his : (is = 0 ∧ ¬ isHd g8 fr n) ∨ (is = 1 ∧ 1 ≤ n ∧ n ≤ 12 ∧ ∀ j : Int, 0 ≤ j → j < k → 97 ≤ g8 (fr + j) ∧ g8 (fr + j) ≤ 122)) → (n - k).toNat < kf → gW p l e { frames := 0, cells := 0, slots := 0, locals := 0 } s m args below meth c D A 5 0 0 (MQ below (gQ D (gT cB cI cJ cY) (qX5_isHead cB cI cJ cY m0 a6 a8 a10 a11 a12 a13 a14 a15 a17 a19 a20 a21 a22 a23 a24 a26 a27 a28 a35 a36 a37 a38 a39 a40 a41 a44 a45 z0 z1 z2 z3 z4 z5 z7 z9 z16 z18 z25 z29 z30 z31 z32 z33 z34 z42 z43 g8 fr n) A) args s 0 0 A) [(m0, .inr (5, [.int (iZ z0), .int (iZ z1), .int (iZ z2), .int (iZ z3), .int (iZ z4), .int (iZ z5), .ref a6, .int (iZ z7), .ref a8, .int (iZ z9), .ref a10, .ref a11, .ref a12, .ref a13, .ref a14, .ref a15, .int (iZ z16), .ref a17, .int (iZ z18), .ref a19, .ref a20, .ref a21, .ref a22, .ref a23, .ref a24, .int (iZ z25), .ref a26, .ref a27, .ref a28, .int (iZ z29), .int (iZ z30), .int (iZ z31), .int (iZ z32), .int (iZ z33), .int (iZ z34), .ref a35, .ref a36, .ref a37, .ref a38, .ref a39, .ref a40, .ref a41, .int (iZ z42), .int (iZ z43), .ref a44, .ref a45])), (a8, .inl (cB, 60, .inl (zA g8)))] 20 [(0, .ref m0), (1, .int (iZ fr)), (2, .int (iZ n)), (3, .int (iZ is)), (4, .int (iZ k))] [] := by
        intro kf
        induction kf with
        | zero => intro is k hk his hm; exact absurd hm (Nat.not_lt_zero _)
        | succ kf ih_20 =>
          intro is k hk his hm
          refine g_iload X 4 dX5_isHead_20 rfl ?_
          refine g_iload_n X 2 dX5_isHead_22 rfl rfl ?_
          refine g_icmp_ge X 70 dX5_isHead_23 (by decide) (by omega) (by omega) (fun c_23 => ?_) (fun c_23 => ?_)
          · skip
            have hfin : (is = 1 ∧ isHd g8 fr n) ∨ (is = 0 ∧ ¬ isHd g8 fr n) := by
              rcases his with h | ⟨h0, h1, h2, h3⟩
              · exact Or.inr h
              · exact Or.inl ⟨h0, h1, h2, fun j q1 q2 => h3 j q1 (by omega)⟩
            refine g_iload_n X 3 dX5_isHead_70 rfl rfl ?_
            exact g_zret X (by rcases his with h | h <;> omega) hr (by decide) (by decide) dX5_isHead_71 ⟨_, rfl, hfin, rfl⟩
          · skip
            refine g_iload_n X 3 dX5_isHead_26 rfl rfl ?_
            refine g_if_eq X 70 dX5_isHead_27 (by decide) (by rcases his with h | h <;> omega) (fun c_27 => ?_) (fun c_27 => ?_)
            · skip
              have hfin : (is = 1 ∧ isHd g8 fr n) ∨ (is = 0 ∧ ¬ isHd g8 fr n) := by
                rcases his with h | h
                · exact Or.inr h
                · omega
              refine g_iload_n X 3 dX5_isHead_70 rfl rfl ?_
              exact g_zret X (by rcases his with h | h <;> omega) hr (by decide) (by decide) dX5_isHead_71 ⟨_, rfl, hfin, rfl⟩
            · skip
              refine g_aload_n X 0 dX5_isHead_30 rfl rfl ?_
              refine g_get X (index := 29) (ref := "GuideWordsModel") hin5 0 rfl rfl 8 (by decide) rfl (by decide +kernel) (v := .ref a8) rfl dX5_isHead_31 ?_
              refine g_iload_n X 1 dX5_isHead_34 rfl rfl ?_
              refine g_iload X 4 dX5_isHead_35 rfl ?_
              refine g_iadd X dX5_isHead_37 ?_
              refine g_bald X 1 0 rfl rfl (by omega) (by decide) dX5_isHead_38 ?_
              have r_38 := h8r (fr + k) (by omega)
              refine g_bipush X dX5_isHead_39 (by decide) ?_
              refine g_icmp_lt X 62 dX5_isHead_41 (by decide) (by omega) (by omega) (fun c_41 => ?_) (fun c_41 => ?_)
              · skip
                refine g_iconst X dX5_isHead_62 ?_
                refine g_istore_n (lv2 := [(3, .int (iZ 0)), (0, .ref m0), (1, .int (iZ fr)), (2, .int (iZ n)), (4, .int (iZ k))]) X dX5_isHead_63 rfl (by decide) rfl ?_
                refine g_iinc (q := 4) (lv2 := [(4, .int (iZ (k + 1))), (3, .int (iZ 0)), (0, .ref m0), (1, .int (iZ fr)), (2, .int (iZ n))]) X dX5_isHead_64 rfl (by decide) rfl ?_
                refine g_goto X 20 dX5_isHead_67 (by decide) ?_
                have G1 : ((0 : Int) = 0 ∧ ¬ isHd g8 fr n) ∨ ((0 : Int) = 1 ∧ 1 ≤ n ∧ n ≤ 12 ∧ ∀ j : Int, 0 ≤ j → j < k + 1 → 97 ≤ g8 (fr + j) ∧ g8 (fr + j) ≤ 122) := by
                  rcases his with h | ⟨h0, h1, h2, h3⟩
                  · omega
                  · first
                    | exact Or.inr ⟨rfl, h1, h2, fun j q1 q2 => by
                        rcases (show j = k ∨ j < k by omega) with h | h
                        · rw [h]; omega
                        · exact h3 j q1 h⟩
                    | exact Or.inl ⟨rfl, fun h => by have q := h.2.2 k (by omega) (by omega); omega⟩
                refine g_lv (lv' := [(0, .ref m0), (1, .int (iZ fr)), (2, .int (iZ n)), (3, .int (iZ 0)), (4, .int (iZ (k + 1)))]) [2, 3, 4, 1, 0] rfl ?_
                exact ih_20 0 (k + 1) (by omega) G1 (by omega)
              · skip
                refine g_aload_n X 0 dX5_isHead_44 rfl rfl ?_
                refine g_get X (index := 29) (ref := "GuideWordsModel") hin5 0 rfl rfl 8 (by decide) rfl (by decide +kernel) (v := .ref a8) rfl dX5_isHead_45 ?_
                refine g_iload_n X 1 dX5_isHead_48 rfl rfl ?_
                refine g_iload X 4 dX5_isHead_49 rfl ?_
                refine g_iadd X dX5_isHead_51 ?_
                refine g_bald X 1 0 rfl rfl (by omega) (by decide) dX5_isHead_52 ?_
                have r_52 := h8r (fr + k) (by omega)
                refine g_bipush X dX5_isHead_53 (by decide) ?_
                refine g_icmp_gt X 62 dX5_isHead_55 (by decide) (by omega) (by omega) (fun c_55 => ?_) (fun c_55 => ?_)
                · skip
                  refine g_iconst X dX5_isHead_62 ?_
                  refine g_istore_n (lv2 := [(3, .int (iZ 0)), (0, .ref m0), (1, .int (iZ fr)), (2, .int (iZ n)), (4, .int (iZ k))]) X dX5_isHead_63 rfl (by decide) rfl ?_
                  refine g_iinc (q := 4) (lv2 := [(4, .int (iZ (k + 1))), (3, .int (iZ 0)), (0, .ref m0), (1, .int (iZ fr)), (2, .int (iZ n))]) X dX5_isHead_64 rfl (by decide) rfl ?_
                  refine g_goto X 20 dX5_isHead_67 (by decide) ?_
                  have G1 : ((0 : Int) = 0 ∧ ¬ isHd g8 fr n) ∨ ((0 : Int) = 1 ∧ 1 ≤ n ∧ n ≤ 12 ∧ ∀ j : Int, 0 ≤ j → j < k + 1 → 97 ≤ g8 (fr + j) ∧ g8 (fr + j) ≤ 122) := by
                    rcases his with h | ⟨h0, h1, h2, h3⟩
                    · omega
                    · first
                      | exact Or.inr ⟨rfl, h1, h2, fun j q1 q2 => by
                          rcases (show j = k ∨ j < k by omega) with h | h
                          · rw [h]; omega
                          · exact h3 j q1 h⟩
                      | exact Or.inl ⟨rfl, fun h => by have q := h.2.2 k (by omega) (by omega); omega⟩
                  refine g_lv (lv' := [(0, .ref m0), (1, .int (iZ fr)), (2, .int (iZ n)), (3, .int (iZ 0)), (4, .int (iZ (k + 1)))]) [2, 3, 4, 1, 0] rfl ?_
                  exact ih_20 0 (k + 1) (by omega) G1 (by omega)
                · skip
                  refine g_iconst X dX5_isHead_58 ?_
                  refine g_goto X 63 dX5_isHead_59 (by decide) ?_
                  refine g_istore_n (lv2 := [(3, .int (iZ 1)), (0, .ref m0), (1, .int (iZ fr)), (2, .int (iZ n)), (4, .int (iZ k))]) X dX5_isHead_63 rfl (by decide) rfl ?_
                  refine g_iinc (q := 4) (lv2 := [(4, .int (iZ (k + 1))), (3, .int (iZ 1)), (0, .ref m0), (1, .int (iZ fr)), (2, .int (iZ n))]) X dX5_isHead_64 rfl (by decide) rfl ?_
                  refine g_goto X 20 dX5_isHead_67 (by decide) ?_
                  have G1 : ((1 : Int) = 0 ∧ ¬ isHd g8 fr n) ∨ ((1 : Int) = 1 ∧ 1 ≤ n ∧ n ≤ 12 ∧ ∀ j : Int, 0 ≤ j → j < k + 1 → 97 ≤ g8 (fr + j) ∧ g8 (fr + j) ≤ 122) := by
                    rcases his with h | ⟨h0, h1, h2, h3⟩
                    · omega
                    · first
                      | exact Or.inr ⟨rfl, h1, h2, fun j q1 q2 => by
                          rcases (show j = k ∨ j < k by omega) with h | h
                          · rw [h]; omega
                          · exact h3 j q1 h⟩
                      | exact Or.inl ⟨rfl, fun h => by have q := h.2.2 k (by omega) (by omega); omega⟩
                  refine g_lv (lv' := [(0, .ref m0), (1, .int (iZ fr)), (2, .int (iZ n)), (3, .int (iZ 1)), (4, .int (iZ (k + 1)))]) [2, 3, 4, 1, 0] rfl ?_
                  exact ih_20 1 (k + 1) (by omega) G1 (by omega)
      exact loop_20 _ 0 0 (by omega) (Or.inl ⟨rfl, fun h => by have q1 := h.1; have q2 := h.2.1; omega⟩) (Nat.lt_succ_self _)
    · skip
      refine g_iconst X dX5_isHead_11 ?_
      refine g_goto X 16 dX5_isHead_12 (by decide) ?_
      refine g_istore_n (lv2 := [(3, .int (iZ 1)), (0, .ref m0), (1, .int (iZ fr)), (2, .int (iZ n))]) X dX5_isHead_16 rfl (by decide) rfl ?_
      refine g_iconst X dX5_isHead_17 ?_
      refine g_istore (lv2 := [(4, .int (iZ 0)), (3, .int (iZ 1)), (0, .ref m0), (1, .int (iZ fr)), (2, .int (iZ n))]) X dX5_isHead_18 (by decide) rfl ?_
      refine g_lv (lv' := [(0, .ref m0), (1, .int (iZ fr)), (2, .int (iZ n)), (3, .int (iZ 1)), (4, .int (iZ 0))]) [2, 3, 4, 1, 0] rfl ?_
      have loop_20 : ∀ (kf : Nat) (is : Int) (k : Int), (hk : 0 ≤ k ∧ k ≤ n) → (his : (is = 0 ∧ ¬ isHd g8 fr n) ∨ (is = 1 ∧ 1 ≤ n ∧ n ≤ 12 ∧ ∀ j : Int, 0 ≤ j → j < k → 97 ≤ g8 (fr + j) ∧ g8 (fr + j) ≤ 122)) → (n - k).toNat < kf → gW p l e { frames := 0, cells := 0, slots := 0, locals := 0 } s m args below meth c D A 5 0 0 (MQ below (gQ D (gT cB cI cJ cY) (qX5_isHead cB cI cJ cY m0 a6 a8 a10 a11 a12 a13 a14 a15 a17 a19 a20 a21 a22 a23 a24 a26 a27 a28 a35 a36 a37 a38 a39 a40 a41 a44 a45 z0 z1 z2 z3 z4 z5 z7 z9 z16 z18 z25 z29 z30 z31 z32 z33 z34 z42 z43 g8 fr n) A) args s 0 0 A) [(m0, .inr (5, [.int (iZ z0), .int (iZ z1), .int (iZ z2), .int (iZ z3), .int (iZ z4), .int (iZ z5), .ref a6, .int (iZ z7), .ref a8, .int (iZ z9), .ref a10, .ref a11, .ref a12, .ref a13, .ref a14, .ref a15, .int (iZ z16), .ref a17, .int (iZ z18), .ref a19, .ref a20, .ref a21, .ref a22, .ref a23, .ref a24, .int (iZ z25), .ref a26, .ref a27, .ref a28, .int (iZ z29), .int (iZ z30), .int (iZ z31), .int (iZ z32), .int (iZ z33), .int (iZ z34), .ref a35, .ref a36, .ref a37, .ref a38, .ref a39, .ref a40, .ref a41, .int (iZ z42), .int (iZ z43), .ref a44, .ref a45])), (a8, .inl (cB, 60, .inl (zA g8)))] 20 [(0, .ref m0), (1, .int (iZ fr)), (2, .int (iZ n)), (3, .int (iZ is)), (4, .int (iZ k))] [] := by
        intro kf
        induction kf with
        | zero => intro is k hk his hm; exact absurd hm (Nat.not_lt_zero _)
        | succ kf ih_20 =>
          intro is k hk his hm
          refine g_iload X 4 dX5_isHead_20 rfl ?_
          refine g_iload_n X 2 dX5_isHead_22 rfl rfl ?_
          refine g_icmp_ge X 70 dX5_isHead_23 (by decide) (by omega) (by omega) (fun c_23 => ?_) (fun c_23 => ?_)
          · skip
            have hfin : (is = 1 ∧ isHd g8 fr n) ∨ (is = 0 ∧ ¬ isHd g8 fr n) := by
              rcases his with h | ⟨h0, h1, h2, h3⟩
              · exact Or.inr h
              · exact Or.inl ⟨h0, h1, h2, fun j q1 q2 => h3 j q1 (by omega)⟩
            refine g_iload_n X 3 dX5_isHead_70 rfl rfl ?_
            exact g_zret X (by rcases his with h | h <;> omega) hr (by decide) (by decide) dX5_isHead_71 ⟨_, rfl, hfin, rfl⟩
          · skip
            refine g_iload_n X 3 dX5_isHead_26 rfl rfl ?_
            refine g_if_eq X 70 dX5_isHead_27 (by decide) (by rcases his with h | h <;> omega) (fun c_27 => ?_) (fun c_27 => ?_)
            · skip
              have hfin : (is = 1 ∧ isHd g8 fr n) ∨ (is = 0 ∧ ¬ isHd g8 fr n) := by
                rcases his with h | h
                · exact Or.inr h
                · omega
              refine g_iload_n X 3 dX5_isHead_70 rfl rfl ?_
              exact g_zret X (by rcases his with h | h <;> omega) hr (by decide) (by decide) dX5_isHead_71 ⟨_, rfl, hfin, rfl⟩
            · skip
              refine g_aload_n X 0 dX5_isHead_30 rfl rfl ?_
              refine g_get X (index := 29) (ref := "GuideWordsModel") hin5 0 rfl rfl 8 (by decide) rfl (by decide +kernel) (v := .ref a8) rfl dX5_isHead_31 ?_
              refine g_iload_n X 1 dX5_isHead_34 rfl rfl ?_
              refine g_iload X 4 dX5_isHead_35 rfl ?_
              refine g_iadd X dX5_isHead_37 ?_
              refine g_bald X 1 0 rfl rfl (by omega) (by decide) dX5_isHead_38 ?_
              have r_38 := h8r (fr + k) (by omega)
              refine g_bipush X dX5_isHead_39 (by decide) ?_
              refine g_icmp_lt X 62 dX5_isHead_41 (by decide) (by omega) (by omega) (fun c_41 => ?_) (fun c_41 => ?_)
              · skip
                refine g_iconst X dX5_isHead_62 ?_
                refine g_istore_n (lv2 := [(3, .int (iZ 0)), (0, .ref m0), (1, .int (iZ fr)), (2, .int (iZ n)), (4, .int (iZ k))]) X dX5_isHead_63 rfl (by decide) rfl ?_
                refine g_iinc (q := 4) (lv2 := [(4, .int (iZ (k + 1))), (3, .int (iZ 0)), (0, .ref m0), (1, .int (iZ fr)), (2, .int (iZ n))]) X dX5_isHead_64 rfl (by decide) rfl ?_
                refine g_goto X 20 dX5_isHead_67 (by decide) ?_
                have G1 : ((0 : Int) = 0 ∧ ¬ isHd g8 fr n) ∨ ((0 : Int) = 1 ∧ 1 ≤ n ∧ n ≤ 12 ∧ ∀ j : Int, 0 ≤ j → j < k + 1 → 97 ≤ g8 (fr + j) ∧ g8 (fr + j) ≤ 122) := by
                  rcases his with h | ⟨h0, h1, h2, h3⟩
                  · omega
                  · first
                    | exact Or.inr ⟨rfl, h1, h2, fun j q1 q2 => by
                        rcases (show j = k ∨ j < k by omega) with h | h
                        · rw [h]; omega
                        · exact h3 j q1 h⟩
                    | exact Or.inl ⟨rfl, fun h => by have q := h.2.2 k (by omega) (by omega); omega⟩
                refine g_lv (lv' := [(0, .ref m0), (1, .int (iZ fr)), (2, .int (iZ n)), (3, .int (iZ 0)), (4, .int (iZ (k + 1)))]) [2, 3, 4, 1, 0] rfl ?_
                exact ih_20 0 (k + 1) (by omega) G1 (by omega)
              · skip
                refine g_aload_n X 0 dX5_isHead_44 rfl rfl ?_
                refine g_get X (index := 29) (ref := "GuideWordsModel") hin5 0 rfl rfl 8 (by decide) rfl (by decide +kernel) (v := .ref a8) rfl dX5_isHead_45 ?_
                refine g_iload_n X 1 dX5_isHead_48 rfl rfl ?_
                refine g_iload X 4 dX5_isHead_49 rfl ?_
                refine g_iadd X dX5_isHead_51 ?_
                refine g_bald X 1 0 rfl rfl (by omega) (by decide) dX5_isHead_52 ?_
                have r_52 := h8r (fr + k) (by omega)
                refine g_bipush X dX5_isHead_53 (by decide) ?_
                refine g_icmp_gt X 62 dX5_isHead_55 (by decide) (by omega) (by omega) (fun c_55 => ?_) (fun c_55 => ?_)
                · skip
                  refine g_iconst X dX5_isHead_62 ?_
                  refine g_istore_n (lv2 := [(3, .int (iZ 0)), (0, .ref m0), (1, .int (iZ fr)), (2, .int (iZ n)), (4, .int (iZ k))]) X dX5_isHead_63 rfl (by decide) rfl ?_
                  refine g_iinc (q := 4) (lv2 := [(4, .int (iZ (k + 1))), (3, .int (iZ 0)), (0, .ref m0), (1, .int (iZ fr)), (2, .int (iZ n))]) X dX5_isHead_64 rfl (by decide) rfl ?_
                  refine g_goto X 20 dX5_isHead_67 (by decide) ?_
                  have G1 : ((0 : Int) = 0 ∧ ¬ isHd g8 fr n) ∨ ((0 : Int) = 1 ∧ 1 ≤ n ∧ n ≤ 12 ∧ ∀ j : Int, 0 ≤ j → j < k + 1 → 97 ≤ g8 (fr + j) ∧ g8 (fr + j) ≤ 122) := by
                    rcases his with h | ⟨h0, h1, h2, h3⟩
                    · omega
                    · first
                      | exact Or.inr ⟨rfl, h1, h2, fun j q1 q2 => by
                          rcases (show j = k ∨ j < k by omega) with h | h
                          · rw [h]; omega
                          · exact h3 j q1 h⟩
                      | exact Or.inl ⟨rfl, fun h => by have q := h.2.2 k (by omega) (by omega); omega⟩
                  refine g_lv (lv' := [(0, .ref m0), (1, .int (iZ fr)), (2, .int (iZ n)), (3, .int (iZ 0)), (4, .int (iZ (k + 1)))]) [2, 3, 4, 1, 0] rfl ?_
                  exact ih_20 0 (k + 1) (by omega) G1 (by omega)
                · skip
                  refine g_iconst X dX5_isHead_58 ?_
                  refine g_goto X 63 dX5_isHead_59 (by decide) ?_
                  refine g_istore_n (lv2 := [(3, .int (iZ 1)), (0, .ref m0), (1, .int (iZ fr)), (2, .int (iZ n)), (4, .int (iZ k))]) X dX5_isHead_63 rfl (by decide) rfl ?_
                  refine g_iinc (q := 4) (lv2 := [(4, .int (iZ (k + 1))), (3, .int (iZ 1)), (0, .ref m0), (1, .int (iZ fr)), (2, .int (iZ n))]) X dX5_isHead_64 rfl (by decide) rfl ?_
                  refine g_goto X 20 dX5_isHead_67 (by decide) ?_
                  have G1 : ((1 : Int) = 0 ∧ ¬ isHd g8 fr n) ∨ ((1 : Int) = 1 ∧ 1 ≤ n ∧ n ≤ 12 ∧ ∀ j : Int, 0 ≤ j → j < k + 1 → 97 ≤ g8 (fr + j) ∧ g8 (fr + j) ≤ 122) := by
                    rcases his with h | ⟨h0, h1, h2, h3⟩
                    · omega
                    · first
                      | exact Or.inr ⟨rfl, h1, h2, fun j q1 q2 => by
                          rcases (show j = k ∨ j < k by omega) with h | h
                          · rw [h]; omega
                          · exact h3 j q1 h⟩
                      | exact Or.inl ⟨rfl, fun h => by have q := h.2.2 k (by omega) (by omega); omega⟩
                  refine g_lv (lv' := [(0, .ref m0), (1, .int (iZ fr)), (2, .int (iZ n)), (3, .int (iZ 1)), (4, .int (iZ (k + 1)))]) [2, 3, 4, 1, 0] rfl ?_
                  exact ih_20 1 (k + 1) (by omega) G1 (by omega)
      exact loop_20 _ 1 0 (by omega) (Or.inr ⟨rfl, by omega, by omega, fun j h1 h2 => by omega⟩) (Nat.lt_succ_self _)
def qX5_head_h (cB cI cJ cY : ClassId) (m0 : Nat) (a6 : Nat) (a8 : Nat) (a10 : Nat) (a11 : Nat) (a12 : Nat) (a13 : Nat) (a14 : Nat) (a15 : Nat) (a17 : Nat) (a19 : Nat) (a20 : Nat) (a21 : Nat) (a22 : Nat) (a23 : Nat) (a24 : Nat) (a26 : Nat) (a27 : Nat) (a28 : Nat) (a35 : Nat) (a36 : Nat) (a37 : Nat) (a38 : Nat) (a39 : Nat) (a40 : Nat) (a41 : Nat) (a44 : Nat) (a45 : Nat) (z0 : Int) (z1 : Int) (z2 : Int) (z3 : Int) (z4 : Int) (z5 : Int) (z7 : Int) (z9 : Int) (z16 : Int) (z18 : Int) (z25 : Int) (z29 : Int) (z30 : Int) (z31 : Int) (z32 : Int) (z33 : Int) (z34 : Int) (z42 : Int) (z43 : Int) (g8 : Int → Int) (g10 : Int → Int) (at9 : Int) (fr : Int) (n : Int) : Option Value → va_W → Prop := fun rv w1 => ∃ (h : Int → Int), rv = none ∧ ((∀ k : Int, 0 ≤ k → k < 12 → h (at9 + k) = if k < n then g8 (fr + k) else 0) ∧ (∀ j : Int, (j < at9 ∨ at9 + 12 ≤ j) → h j = g10 j)) ∧ w1 = [(m0, .inr (5, [.int (iZ z0), .int (iZ z1), .int (iZ z2), .int (iZ z3), .int (iZ z4), .int (iZ z5), .ref a6, .int (iZ z7), .ref a8, .int (iZ z9), .ref a10, .ref a11, .ref a12, .ref a13, .ref a14, .ref a15, .int (iZ z16), .ref a17, .int (iZ z18), .ref a19, .ref a20, .ref a21, .ref a22, .ref a23, .ref a24, .int (iZ z25), .ref a26, .ref a27, .ref a28, .int (iZ z29), .int (iZ z30), .int (iZ z31), .int (iZ z32), .int (iZ z33), .int (iZ z34), .ref a35, .ref a36, .ref a37, .ref a38, .ref a39, .ref a40, .ref a41, .int (iZ z42), .int (iZ z43), .ref a44, .ref a45])), (a8, .inl (cB, 60, .inl (zA g8))), (a10, .inl (cI, 1800, .inl (zA h)))]
set_option maxHeartbeats 4000000 in
set_option maxRecDepth 100000 in
theorem ctX5_head_h (l : Launch) (D : va_G) (cB cI cJ cY : ClassId) (m0 : Nat) (a6 : Nat) (a8 : Nat) (a10 : Nat) (a11 : Nat) (a12 : Nat) (a13 : Nat) (a14 : Nat) (a15 : Nat) (a17 : Nat) (a19 : Nat) (a20 : Nat) (a21 : Nat) (a22 : Nat) (a23 : Nat) (a24 : Nat) (a26 : Nat) (a27 : Nat) (a28 : Nat) (a35 : Nat) (a36 : Nat) (a37 : Nat) (a38 : Nat) (a39 : Nat) (a40 : Nat) (a41 : Nat) (a44 : Nat) (a45 : Nat) (z0 : Int) (z1 : Int) (z2 : Int) (z3 : Int) (z4 : Int) (z5 : Int) (z7 : Int) (z9 : Int) (z16 : Int) (z18 : Int) (z25 : Int) (z29 : Int) (z30 : Int) (z31 : Int) (z32 : Int) (z33 : Int) (z34 : Int) (z42 : Int) (z43 : Int) (g8 : Int → Int) (g10 : Int → Int) (at9 : Int) (fr : Int) (n : Int) (hat : 0 ≤ at9 ∧ at9 + 12 ≤ 1800) (hfn : 0 ≤ fr ∧ 1 ≤ n ∧ n ≤ 12 ∧ fr + n ≤ 60) : gM l yX5_head wsX5_head { frames := 0, cells := 0, slots := 0, locals := 0 } D (gT cB cI cJ cY) [.ref m0, .ref a10, .int (iZ at9), .int (iZ fr), .int (iZ n)] [(m0, .inr (5, [.int (iZ z0), .int (iZ z1), .int (iZ z2), .int (iZ z3), .int (iZ z4), .int (iZ z5), .ref a6, .int (iZ z7), .ref a8, .int (iZ z9), .ref a10, .ref a11, .ref a12, .ref a13, .ref a14, .ref a15, .int (iZ z16), .ref a17, .int (iZ z18), .ref a19, .ref a20, .ref a21, .ref a22, .ref a23, .ref a24, .int (iZ z25), .ref a26, .ref a27, .ref a28, .int (iZ z29), .int (iZ z30), .int (iZ z31), .int (iZ z32), .int (iZ z33), .int (iZ z34), .ref a35, .ref a36, .ref a37, .ref a38, .ref a39, .ref a40, .ref a41, .int (iZ z42), .int (iZ z43), .ref a44, .ref a45])), (a8, .inl (cB, 60, .inl (zA g8))), (a10, .inl (cI, 1800, .inl (zA g10)))] 0 0 (qX5_head_h cB cI cJ cY m0 a6 a8 a10 a11 a12 a13 a14 a15 a17 a19 a20 a21 a22 a23 a24 a26 a27 a28 a35 a36 a37 a38 a39 a40 a41 a44 a45 z0 z1 z2 z3 z4 z5 z7 z9 z16 z18 z25 z29 z30 z31 z32 z33 z34 z42 z43 g8 g10 at9 fr n) := by
  refine g_start (cc := cX5_head) (maxL := 6) (ret := none) (lv := [(0, .ref m0), (1, .ref a10), (2, .int (iZ at9)), (3, .int (iZ fr)), (4, .int (iZ n))]) (by decide) rfl (Nat.le_of_ble_eq_true rfl) rfl ?_
  intro p e s m args below meth c A X hr hnm
  have hin5 : ∀ w ∈ u_ws RX5 TX5 46, w ∈ wsX5_head := by decide +kernel
  refine g_iconst X dX5_head_0 ?_
  refine g_istore (lv2 := [(5, .int (iZ 0)), (0, .ref m0), (1, .ref a10), (2, .int (iZ at9)), (3, .int (iZ fr)), (4, .int (iZ n))]) X dX5_head_1 (by decide) rfl ?_
  refine g_lv (lv' := [(0, .ref m0), (1, .ref a10), (2, .int (iZ at9)), (3, .int (iZ fr)), (4, .int (iZ n)), (5, .int (iZ 0))]) [1, 2, 3, 4, 5, 0] rfl ?_
  have loop_3 : ∀ (kf : Nat) (k : Int) (h : Int → Int), (hk : 0 ≤ k ∧ k ≤ 12) → (hh1 : ∀ q : Int, 0 ≤ q → q < k → h (at9 + q) = if q < n then g8 (fr + q) else 0) → (hh2 : ∀ j : Int, (j < at9 ∨ at9 + k ≤ j) → h j = g10 j) → (12 - k).toNat < kf → gW p l e { frames := 0, cells := 0, slots := 0, locals := 0 } s m args below meth c D A 6 0 0 (MQ below (gQ D (gT cB cI cJ cY) (qX5_head_h cB cI cJ cY m0 a6 a8 a10 a11 a12 a13 a14 a15 a17 a19 a20 a21 a22 a23 a24 a26 a27 a28 a35 a36 a37 a38 a39 a40 a41 a44 a45 z0 z1 z2 z3 z4 z5 z7 z9 z16 z18 z25 z29 z30 z31 z32 z33 z34 z42 z43 g8 g10 at9 fr n) A) args s 0 0 A) [(m0, .inr (5, [.int (iZ z0), .int (iZ z1), .int (iZ z2), .int (iZ z3), .int (iZ z4), .int (iZ z5), .ref a6, .int (iZ z7), .ref a8, .int (iZ z9), .ref a10, .ref a11, .ref a12, .ref a13, .ref a14, .ref a15, .int (iZ z16), .ref a17, .int (iZ z18), .ref a19, .ref a20, .ref a21, .ref a22, .ref a23, .ref a24, .int (iZ z25), .ref a26, .ref a27, .ref a28, .int (iZ z29), .int (iZ z30), .int (iZ z31), .int (iZ z32), .int (iZ z33), .int (iZ z34), .ref a35, .ref a36, .ref a37, .ref a38, .ref a39, .ref a40, .ref a41, .int (iZ z42), .int (iZ z43), .ref a44, .ref a45])), (a8, .inl (cB, 60, .inl (zA g8))), (a10, .inl (cI, 1800, .inl (zA h)))] 3 [(0, .ref m0), (1, .ref a10), (2, .int (iZ at9)), (3, .int (iZ fr)), (4, .int (iZ n)), (5, .int (iZ k))] [] := by
    intro kf
    induction kf with
    | zero => intro k h hk hh1 hh2 hm; exact absurd hm (Nat.not_lt_zero _)
    | succ kf ih_3 =>
      intro k h hk hh1 hh2 hm
      refine g_iload X 5 dX5_head_3 rfl ?_
      refine g_bipush X dX5_head_5 (by decide) ?_
      refine g_icmp_ge X 42 dX5_head_7 (by decide) (by omega) (by omega) (fun c_7 => ?_) (fun c_7 => ?_)
      · skip
        exact g_vret X hr (by decide) (by decide) dX5_head_42 ⟨h, rfl, ⟨fun q h1 h2 => hh1 q h1 (by omega), fun j hj => hh2 j (by omega)⟩, rfl⟩
      · skip
        refine g_aload_n X 1 dX5_head_10 rfl rfl ?_
        refine g_iload_n X 2 dX5_head_11 rfl rfl ?_
        refine g_iload X 5 dX5_head_12 rfl ?_
        refine g_iadd X dX5_head_14 ?_
        refine g_iload X 5 dX5_head_15 rfl ?_
        refine g_iload X 4 dX5_head_17 rfl ?_
        refine g_icmp_ge X 34 dX5_head_19 (by decide) (by omega) (by omega) (fun c_19 => ?_) (fun c_19 => ?_)
        · skip
          refine g_iconst X dX5_head_34 ?_
          refine g_iast X 2 1 rfl rfl (by omega) (by decide) (ws2 := [(m0, .inr (5, [.int (iZ z0), .int (iZ z1), .int (iZ z2), .int (iZ z3), .int (iZ z4), .int (iZ z5), .ref a6, .int (iZ z7), .ref a8, .int (iZ z9), .ref a10, .ref a11, .ref a12, .ref a13, .ref a14, .ref a15, .int (iZ z16), .ref a17, .int (iZ z18), .ref a19, .ref a20, .ref a21, .ref a22, .ref a23, .ref a24, .int (iZ z25), .ref a26, .ref a27, .ref a28, .int (iZ z29), .int (iZ z30), .int (iZ z31), .int (iZ z32), .int (iZ z33), .int (iZ z34), .ref a35, .ref a36, .ref a37, .ref a38, .ref a39, .ref a40, .ref a41, .int (iZ z42), .int (iZ z43), .ref a44, .ref a45])), (a8, .inl (cB, 60, .inl (zA g8))), (a10, .inl (cI, 1800, .inl (zA (upZ h (at9 + k) 0))))]) rfl dX5_head_35 ?_
          refine g_iinc (q := 5) (lv2 := [(5, .int (iZ (k + 1))), (0, .ref m0), (1, .ref a10), (2, .int (iZ at9)), (3, .int (iZ fr)), (4, .int (iZ n))]) X dX5_head_36 rfl (by decide) rfl ?_
          refine g_goto X 3 dX5_head_39 (by decide) ?_
          refine g_lv (lv' := [(0, .ref m0), (1, .ref a10), (2, .int (iZ at9)), (3, .int (iZ fr)), (4, .int (iZ n)), (5, .int (iZ (k + 1)))]) [1, 2, 3, 4, 5, 0] rfl ?_
          exact ih_3 (k + 1) (upZ h (at9 + k) 0) (by omega) (fun q h1 h2 => by
              rcases (show q = k ∨ q < k by omega) with e | e
              · rw [e, upZ_s]; first | rw [if_neg (by omega)] | rw [if_pos (by omega)]
              · rw [upZ_n (by omega)]; exact hh1 q h1 e) (fun j hj => by rw [upZ_n (by omega)]; exact hh2 j (by omega)) (by omega)
        · skip
          refine g_aload_n X 0 dX5_head_22 rfl rfl ?_
          refine g_get X (index := 29) (ref := "GuideWordsModel") hin5 0 rfl rfl 8 (by decide) rfl (by decide +kernel) (v := .ref a8) rfl dX5_head_23 ?_
          refine g_iload_n X 3 dX5_head_26 rfl rfl ?_
          refine g_iload X 5 dX5_head_27 rfl ?_
          refine g_iadd X dX5_head_29 ?_
          refine g_bald X 1 0 rfl rfl (by omega) (by decide) dX5_head_30 ?_
          refine g_goto X 35 dX5_head_31 (by decide) ?_
          refine g_iast X 2 1 rfl rfl (by omega) (by decide) (ws2 := [(m0, .inr (5, [.int (iZ z0), .int (iZ z1), .int (iZ z2), .int (iZ z3), .int (iZ z4), .int (iZ z5), .ref a6, .int (iZ z7), .ref a8, .int (iZ z9), .ref a10, .ref a11, .ref a12, .ref a13, .ref a14, .ref a15, .int (iZ z16), .ref a17, .int (iZ z18), .ref a19, .ref a20, .ref a21, .ref a22, .ref a23, .ref a24, .int (iZ z25), .ref a26, .ref a27, .ref a28, .int (iZ z29), .int (iZ z30), .int (iZ z31), .int (iZ z32), .int (iZ z33), .int (iZ z34), .ref a35, .ref a36, .ref a37, .ref a38, .ref a39, .ref a40, .ref a41, .int (iZ z42), .int (iZ z43), .ref a44, .ref a45])), (a8, .inl (cB, 60, .inl (zA g8))), (a10, .inl (cI, 1800, .inl (zA (upZ h (at9 + k) (g8 (fr + k))))))]) rfl dX5_head_35 ?_
          refine g_iinc (q := 5) (lv2 := [(5, .int (iZ (k + 1))), (0, .ref m0), (1, .ref a10), (2, .int (iZ at9)), (3, .int (iZ fr)), (4, .int (iZ n))]) X dX5_head_36 rfl (by decide) rfl ?_
          refine g_goto X 3 dX5_head_39 (by decide) ?_
          refine g_lv (lv' := [(0, .ref m0), (1, .ref a10), (2, .int (iZ at9)), (3, .int (iZ fr)), (4, .int (iZ n)), (5, .int (iZ (k + 1)))]) [1, 2, 3, 4, 5, 0] rfl ?_
          exact ih_3 (k + 1) (upZ h (at9 + k) (g8 (fr + k))) (by omega) (fun q h1 h2 => by
              rcases (show q = k ∨ q < k by omega) with e | e
              · rw [e, upZ_s]; first | rw [if_neg (by omega)] | rw [if_pos (by omega)]
              · rw [upZ_n (by omega)]; exact hh1 q h1 e) (fun j hj => by rw [upZ_n (by omega)]; exact hh2 j (by omega)) (by omega)
  exact loop_3 _ 0 g10 (by omega) (fun q h1 h2 => by omega) (fun j _ => rfl) (Nat.lt_succ_self _)
def qX5_head_m (cB cI cJ cY : ClassId) (m0 : Nat) (a6 : Nat) (a8 : Nat) (a10 : Nat) (a11 : Nat) (a12 : Nat) (a13 : Nat) (a14 : Nat) (a15 : Nat) (a17 : Nat) (a19 : Nat) (a20 : Nat) (a21 : Nat) (a22 : Nat) (a23 : Nat) (a24 : Nat) (a26 : Nat) (a27 : Nat) (a28 : Nat) (a35 : Nat) (a36 : Nat) (a37 : Nat) (a38 : Nat) (a39 : Nat) (a40 : Nat) (a41 : Nat) (a44 : Nat) (a45 : Nat) (z0 : Int) (z1 : Int) (z2 : Int) (z3 : Int) (z4 : Int) (z5 : Int) (z7 : Int) (z9 : Int) (z16 : Int) (z18 : Int) (z25 : Int) (z29 : Int) (z30 : Int) (z31 : Int) (z32 : Int) (z33 : Int) (z34 : Int) (z42 : Int) (z43 : Int) (g8 : Int → Int) (g11 : Int → Int) (at9 : Int) (fr : Int) (n : Int) : Option Value → va_W → Prop := fun rv w1 => ∃ (h : Int → Int), rv = none ∧ ((∀ k : Int, 0 ≤ k → k < 12 → h (at9 + k) = if k < n then g8 (fr + k) else 0) ∧ (∀ j : Int, (j < at9 ∨ at9 + 12 ≤ j) → h j = g11 j)) ∧ w1 = [(m0, .inr (5, [.int (iZ z0), .int (iZ z1), .int (iZ z2), .int (iZ z3), .int (iZ z4), .int (iZ z5), .ref a6, .int (iZ z7), .ref a8, .int (iZ z9), .ref a10, .ref a11, .ref a12, .ref a13, .ref a14, .ref a15, .int (iZ z16), .ref a17, .int (iZ z18), .ref a19, .ref a20, .ref a21, .ref a22, .ref a23, .ref a24, .int (iZ z25), .ref a26, .ref a27, .ref a28, .int (iZ z29), .int (iZ z30), .int (iZ z31), .int (iZ z32), .int (iZ z33), .int (iZ z34), .ref a35, .ref a36, .ref a37, .ref a38, .ref a39, .ref a40, .ref a41, .int (iZ z42), .int (iZ z43), .ref a44, .ref a45])), (a8, .inl (cB, 60, .inl (zA g8))), (a11, .inl (cI, 1800, .inl (zA h)))]
set_option maxHeartbeats 4000000 in
set_option maxRecDepth 100000 in
theorem ctX5_head_m (l : Launch) (D : va_G) (cB cI cJ cY : ClassId) (m0 : Nat) (a6 : Nat) (a8 : Nat) (a10 : Nat) (a11 : Nat) (a12 : Nat) (a13 : Nat) (a14 : Nat) (a15 : Nat) (a17 : Nat) (a19 : Nat) (a20 : Nat) (a21 : Nat) (a22 : Nat) (a23 : Nat) (a24 : Nat) (a26 : Nat) (a27 : Nat) (a28 : Nat) (a35 : Nat) (a36 : Nat) (a37 : Nat) (a38 : Nat) (a39 : Nat) (a40 : Nat) (a41 : Nat) (a44 : Nat) (a45 : Nat) (z0 : Int) (z1 : Int) (z2 : Int) (z3 : Int) (z4 : Int) (z5 : Int) (z7 : Int) (z9 : Int) (z16 : Int) (z18 : Int) (z25 : Int) (z29 : Int) (z30 : Int) (z31 : Int) (z32 : Int) (z33 : Int) (z34 : Int) (z42 : Int) (z43 : Int) (g8 : Int → Int) (g11 : Int → Int) (at9 : Int) (fr : Int) (n : Int) (hat : 0 ≤ at9 ∧ at9 + 12 ≤ 1800) (hfn : 0 ≤ fr ∧ 1 ≤ n ∧ n ≤ 12 ∧ fr + n ≤ 60) : gM l yX5_head wsX5_head { frames := 0, cells := 0, slots := 0, locals := 0 } D (gT cB cI cJ cY) [.ref m0, .ref a11, .int (iZ at9), .int (iZ fr), .int (iZ n)] [(m0, .inr (5, [.int (iZ z0), .int (iZ z1), .int (iZ z2), .int (iZ z3), .int (iZ z4), .int (iZ z5), .ref a6, .int (iZ z7), .ref a8, .int (iZ z9), .ref a10, .ref a11, .ref a12, .ref a13, .ref a14, .ref a15, .int (iZ z16), .ref a17, .int (iZ z18), .ref a19, .ref a20, .ref a21, .ref a22, .ref a23, .ref a24, .int (iZ z25), .ref a26, .ref a27, .ref a28, .int (iZ z29), .int (iZ z30), .int (iZ z31), .int (iZ z32), .int (iZ z33), .int (iZ z34), .ref a35, .ref a36, .ref a37, .ref a38, .ref a39, .ref a40, .ref a41, .int (iZ z42), .int (iZ z43), .ref a44, .ref a45])), (a8, .inl (cB, 60, .inl (zA g8))), (a11, .inl (cI, 1800, .inl (zA g11)))] 0 0 (qX5_head_m cB cI cJ cY m0 a6 a8 a10 a11 a12 a13 a14 a15 a17 a19 a20 a21 a22 a23 a24 a26 a27 a28 a35 a36 a37 a38 a39 a40 a41 a44 a45 z0 z1 z2 z3 z4 z5 z7 z9 z16 z18 z25 z29 z30 z31 z32 z33 z34 z42 z43 g8 g11 at9 fr n) := by
  refine g_start (cc := cX5_head) (maxL := 6) (ret := none) (lv := [(0, .ref m0), (1, .ref a11), (2, .int (iZ at9)), (3, .int (iZ fr)), (4, .int (iZ n))]) (by decide) rfl (Nat.le_of_ble_eq_true rfl) rfl ?_
  intro p e s m args below meth c A X hr hnm
  have hin5 : ∀ w ∈ u_ws RX5 TX5 46, w ∈ wsX5_head := by decide +kernel
  refine g_iconst X dX5_head_0 ?_
  refine g_istore (lv2 := [(5, .int (iZ 0)), (0, .ref m0), (1, .ref a11), (2, .int (iZ at9)), (3, .int (iZ fr)), (4, .int (iZ n))]) X dX5_head_1 (by decide) rfl ?_
  refine g_lv (lv' := [(0, .ref m0), (1, .ref a11), (2, .int (iZ at9)), (3, .int (iZ fr)), (4, .int (iZ n)), (5, .int (iZ 0))]) [1, 2, 3, 4, 5, 0] rfl ?_
  have loop_3 : ∀ (kf : Nat) (k : Int) (h : Int → Int), (hk : 0 ≤ k ∧ k ≤ 12) → (hh1 : ∀ q : Int, 0 ≤ q → q < k → h (at9 + q) = if q < n then g8 (fr + q) else 0) → (hh2 : ∀ j : Int, (j < at9 ∨ at9 + k ≤ j) → h j = g11 j) → (12 - k).toNat < kf → gW p l e { frames := 0, cells := 0, slots := 0, locals := 0 } s m args below meth c D A 6 0 0 (MQ below (gQ D (gT cB cI cJ cY) (qX5_head_m cB cI cJ cY m0 a6 a8 a10 a11 a12 a13 a14 a15 a17 a19 a20 a21 a22 a23 a24 a26 a27 a28 a35 a36 a37 a38 a39 a40 a41 a44 a45 z0 z1 z2 z3 z4 z5 z7 z9 z16 z18 z25 z29 z30 z31 z32 z33 z34 z42 z43 g8 g11 at9 fr n) A) args s 0 0 A) [(m0, .inr (5, [.int (iZ z0), .int (iZ z1), .int (iZ z2), .int (iZ z3), .int (iZ z4), .int (iZ z5), .ref a6, .int (iZ z7), .ref a8, .int (iZ z9), .ref a10, .ref a11, .ref a12, .ref a13, .ref a14, .ref a15, .int (iZ z16), .ref a17, .int (iZ z18), .ref a19, .ref a20, .ref a21, .ref a22, .ref a23, .ref a24, .int (iZ z25), .ref a26, .ref a27, .ref a28, .int (iZ z29), .int (iZ z30), .int (iZ z31), .int (iZ z32), .int (iZ z33), .int (iZ z34), .ref a35, .ref a36, .ref a37, .ref a38, .ref a39, .ref a40, .ref a41, .int (iZ z42), .int (iZ z43), .ref a44, .ref a45])), (a8, .inl (cB, 60, .inl (zA g8))), (a11, .inl (cI, 1800, .inl (zA h)))] 3 [(0, .ref m0), (1, .ref a11), (2, .int (iZ at9)), (3, .int (iZ fr)), (4, .int (iZ n)), (5, .int (iZ k))] [] := by
    intro kf
    induction kf with
    | zero => intro k h hk hh1 hh2 hm; exact absurd hm (Nat.not_lt_zero _)
    | succ kf ih_3 =>
      intro k h hk hh1 hh2 hm
      refine g_iload X 5 dX5_head_3 rfl ?_
      refine g_bipush X dX5_head_5 (by decide) ?_
      refine g_icmp_ge X 42 dX5_head_7 (by decide) (by omega) (by omega) (fun c_7 => ?_) (fun c_7 => ?_)
      · skip
        exact g_vret X hr (by decide) (by decide) dX5_head_42 ⟨h, rfl, ⟨fun q h1 h2 => hh1 q h1 (by omega), fun j hj => hh2 j (by omega)⟩, rfl⟩
      · skip
        refine g_aload_n X 1 dX5_head_10 rfl rfl ?_
        refine g_iload_n X 2 dX5_head_11 rfl rfl ?_
        refine g_iload X 5 dX5_head_12 rfl ?_
        refine g_iadd X dX5_head_14 ?_
        refine g_iload X 5 dX5_head_15 rfl ?_
        refine g_iload X 4 dX5_head_17 rfl ?_
        refine g_icmp_ge X 34 dX5_head_19 (by decide) (by omega) (by omega) (fun c_19 => ?_) (fun c_19 => ?_)
        · skip
          refine g_iconst X dX5_head_34 ?_
          refine g_iast X 2 1 rfl rfl (by omega) (by decide) (ws2 := [(m0, .inr (5, [.int (iZ z0), .int (iZ z1), .int (iZ z2), .int (iZ z3), .int (iZ z4), .int (iZ z5), .ref a6, .int (iZ z7), .ref a8, .int (iZ z9), .ref a10, .ref a11, .ref a12, .ref a13, .ref a14, .ref a15, .int (iZ z16), .ref a17, .int (iZ z18), .ref a19, .ref a20, .ref a21, .ref a22, .ref a23, .ref a24, .int (iZ z25), .ref a26, .ref a27, .ref a28, .int (iZ z29), .int (iZ z30), .int (iZ z31), .int (iZ z32), .int (iZ z33), .int (iZ z34), .ref a35, .ref a36, .ref a37, .ref a38, .ref a39, .ref a40, .ref a41, .int (iZ z42), .int (iZ z43), .ref a44, .ref a45])), (a8, .inl (cB, 60, .inl (zA g8))), (a11, .inl (cI, 1800, .inl (zA (upZ h (at9 + k) 0))))]) rfl dX5_head_35 ?_
          refine g_iinc (q := 5) (lv2 := [(5, .int (iZ (k + 1))), (0, .ref m0), (1, .ref a11), (2, .int (iZ at9)), (3, .int (iZ fr)), (4, .int (iZ n))]) X dX5_head_36 rfl (by decide) rfl ?_
          refine g_goto X 3 dX5_head_39 (by decide) ?_
          refine g_lv (lv' := [(0, .ref m0), (1, .ref a11), (2, .int (iZ at9)), (3, .int (iZ fr)), (4, .int (iZ n)), (5, .int (iZ (k + 1)))]) [1, 2, 3, 4, 5, 0] rfl ?_
          exact ih_3 (k + 1) (upZ h (at9 + k) 0) (by omega) (fun q h1 h2 => by
              rcases (show q = k ∨ q < k by omega) with e | e
              · rw [e, upZ_s]; first | rw [if_neg (by omega)] | rw [if_pos (by omega)]
              · rw [upZ_n (by omega)]; exact hh1 q h1 e) (fun j hj => by rw [upZ_n (by omega)]; exact hh2 j (by omega)) (by omega)
        · skip
          refine g_aload_n X 0 dX5_head_22 rfl rfl ?_
          refine g_get X (index := 29) (ref := "GuideWordsModel") hin5 0 rfl rfl 8 (by decide) rfl (by decide +kernel) (v := .ref a8) rfl dX5_head_23 ?_
          refine g_iload_n X 3 dX5_head_26 rfl rfl ?_
          refine g_iload X 5 dX5_head_27 rfl ?_
          refine g_iadd X dX5_head_29 ?_
          refine g_bald X 1 0 rfl rfl (by omega) (by decide) dX5_head_30 ?_
          refine g_goto X 35 dX5_head_31 (by decide) ?_
          refine g_iast X 2 1 rfl rfl (by omega) (by decide) (ws2 := [(m0, .inr (5, [.int (iZ z0), .int (iZ z1), .int (iZ z2), .int (iZ z3), .int (iZ z4), .int (iZ z5), .ref a6, .int (iZ z7), .ref a8, .int (iZ z9), .ref a10, .ref a11, .ref a12, .ref a13, .ref a14, .ref a15, .int (iZ z16), .ref a17, .int (iZ z18), .ref a19, .ref a20, .ref a21, .ref a22, .ref a23, .ref a24, .int (iZ z25), .ref a26, .ref a27, .ref a28, .int (iZ z29), .int (iZ z30), .int (iZ z31), .int (iZ z32), .int (iZ z33), .int (iZ z34), .ref a35, .ref a36, .ref a37, .ref a38, .ref a39, .ref a40, .ref a41, .int (iZ z42), .int (iZ z43), .ref a44, .ref a45])), (a8, .inl (cB, 60, .inl (zA g8))), (a11, .inl (cI, 1800, .inl (zA (upZ h (at9 + k) (g8 (fr + k))))))]) rfl dX5_head_35 ?_
          refine g_iinc (q := 5) (lv2 := [(5, .int (iZ (k + 1))), (0, .ref m0), (1, .ref a11), (2, .int (iZ at9)), (3, .int (iZ fr)), (4, .int (iZ n))]) X dX5_head_36 rfl (by decide) rfl ?_
          refine g_goto X 3 dX5_head_39 (by decide) ?_
          refine g_lv (lv' := [(0, .ref m0), (1, .ref a11), (2, .int (iZ at9)), (3, .int (iZ fr)), (4, .int (iZ n)), (5, .int (iZ (k + 1)))]) [1, 2, 3, 4, 5, 0] rfl ?_
          exact ih_3 (k + 1) (upZ h (at9 + k) (g8 (fr + k))) (by omega) (fun q h1 h2 => by
              rcases (show q = k ∨ q < k by omega) with e | e
              · rw [e, upZ_s]; first | rw [if_neg (by omega)] | rw [if_pos (by omega)]
              · rw [upZ_n (by omega)]; exact hh1 q h1 e) (fun j hj => by rw [upZ_n (by omega)]; exact hh2 j (by omega)) (by omega)
  exact loop_3 _ 0 g11 (by omega) (fun q h1 h2 => by omega) (fun j _ => rfl) (Nat.lt_succ_self _)
def qX5_comes (cB cI cJ cY : ClassId) (m0 : Nat) (a6 : Nat) (a8 : Nat) (a10 : Nat) (a11 : Nat) (a12 : Nat) (a13 : Nat) (a14 : Nat) (a15 : Nat) (a17 : Nat) (a19 : Nat) (a20 : Nat) (a21 : Nat) (a22 : Nat) (a23 : Nat) (a24 : Nat) (a26 : Nat) (a27 : Nat) (a28 : Nat) (a35 : Nat) (a36 : Nat) (a37 : Nat) (a38 : Nat) (a39 : Nat) (a40 : Nat) (a41 : Nat) (a44 : Nat) (a45 : Nat) (z0 : Int) (z1 : Int) (z2 : Int) (z3 : Int) (z4 : Int) (z5 : Int) (z7 : Int) (z9 : Int) (z16 : Int) (z18 : Int) (z25 : Int) (z29 : Int) (z30 : Int) (z31 : Int) (z32 : Int) (z33 : Int) (z34 : Int) (z42 : Int) (z43 : Int) (g14 : Int → Int) (g15 : Int → Int) (sb : Int) : Option Value → va_W → Prop := fun rv w1 => rv = some (.int (iZ (z16 + 1 - 1))) ∧ w1 = [(m0, .inr (5, [.int (iZ z0), .int (iZ z1), .int (iZ z2), .int (iZ z3), .int (iZ z4), .int (iZ z5), .ref a6, .int (iZ z7), .ref a8, .int (iZ z9), .ref a10, .ref a11, .ref a12, .ref a13, .ref a14, .ref a15, .int (iZ (z16 + 1)), .ref a17, .int (iZ z18), .ref a19, .ref a20, .ref a21, .ref a22, .ref a23, .ref a24, .int (iZ z25), .ref a26, .ref a27, .ref a28, .int (iZ z29), .int (iZ z30), .int (iZ z31), .int (iZ z32), .int (iZ z33), .int (iZ z34), .ref a35, .ref a36, .ref a37, .ref a38, .ref a39, .ref a40, .ref a41, .int (iZ z42), .int (iZ z43), .ref a44, .ref a45])), (a14, .inl (cY, 150, .inl (zA (upZ g14 z16 sb)))), (a15, .inl (cY, 150, .inl (zA (upZ g15 z16 1))))]
set_option maxHeartbeats 4000000 in
set_option maxRecDepth 100000 in
theorem ctX5_comes (l : Launch) (D : va_G) (cB cI cJ cY : ClassId) (m0 : Nat) (a6 : Nat) (a8 : Nat) (a10 : Nat) (a11 : Nat) (a12 : Nat) (a13 : Nat) (a14 : Nat) (a15 : Nat) (a17 : Nat) (a19 : Nat) (a20 : Nat) (a21 : Nat) (a22 : Nat) (a23 : Nat) (a24 : Nat) (a26 : Nat) (a27 : Nat) (a28 : Nat) (a35 : Nat) (a36 : Nat) (a37 : Nat) (a38 : Nat) (a39 : Nat) (a40 : Nat) (a41 : Nat) (a44 : Nat) (a45 : Nat) (z0 : Int) (z1 : Int) (z2 : Int) (z3 : Int) (z4 : Int) (z5 : Int) (z7 : Int) (z9 : Int) (z16 : Int) (z18 : Int) (z25 : Int) (z29 : Int) (z30 : Int) (z31 : Int) (z32 : Int) (z33 : Int) (z34 : Int) (z42 : Int) (z43 : Int) (g14 : Int → Int) (g15 : Int → Int) (sb : Int) (h16 : 0 ≤ z16 ∧ z16 < 150) (hsb : sb = 0 ∨ sb = 1) : gM l yX5_comes wsX5_comes { frames := 0, cells := 0, slots := 0, locals := 0 } D (gT cB cI cJ cY) [.ref m0, .int (iZ sb)] [(m0, .inr (5, [.int (iZ z0), .int (iZ z1), .int (iZ z2), .int (iZ z3), .int (iZ z4), .int (iZ z5), .ref a6, .int (iZ z7), .ref a8, .int (iZ z9), .ref a10, .ref a11, .ref a12, .ref a13, .ref a14, .ref a15, .int (iZ z16), .ref a17, .int (iZ z18), .ref a19, .ref a20, .ref a21, .ref a22, .ref a23, .ref a24, .int (iZ z25), .ref a26, .ref a27, .ref a28, .int (iZ z29), .int (iZ z30), .int (iZ z31), .int (iZ z32), .int (iZ z33), .int (iZ z34), .ref a35, .ref a36, .ref a37, .ref a38, .ref a39, .ref a40, .ref a41, .int (iZ z42), .int (iZ z43), .ref a44, .ref a45])), (a14, .inl (cY, 150, .inl (zA g14))), (a15, .inl (cY, 150, .inl (zA g15)))] 0 0 (qX5_comes cB cI cJ cY m0 a6 a8 a10 a11 a12 a13 a14 a15 a17 a19 a20 a21 a22 a23 a24 a26 a27 a28 a35 a36 a37 a38 a39 a40 a41 a44 a45 z0 z1 z2 z3 z4 z5 z7 z9 z16 z18 z25 z29 z30 z31 z32 z33 z34 z42 z43 g14 g15 sb) := by
  refine g_start (cc := cX5_comes) (maxL := 2) (ret := some .int) (lv := [(0, .ref m0), (1, .int (iZ sb))]) (by decide) rfl (Nat.le_of_ble_eq_true rfl) rfl ?_
  intro p e s m args below meth c A X hr hnm
  have hin5 : ∀ w ∈ u_ws RX5 TX5 46, w ∈ wsX5_comes := by decide +kernel
  refine g_aload_n X 0 dX5_comes_0 rfl rfl ?_
  refine g_get X (index := 45) (ref := "GuideWordsModel") hin5 0 rfl rfl 14 (by decide) rfl (by decide +kernel) (v := .ref a14) rfl dX5_comes_1 ?_
  refine g_aload_n X 0 dX5_comes_4 rfl rfl ?_
  refine g_get X (index := 133) (ref := "GuideWordsModel") hin5 0 rfl rfl 16 (by decide) rfl (by decide +kernel) (v := .int (iZ z16)) rfl dX5_comes_5 ?_
  refine g_iload_n X 1 dX5_comes_8 rfl rfl ?_
  refine g_zast X 1 3 rfl rfl (by omega) (by decide) hsb (ws2 := [(m0, .inr (5, [.int (iZ z0), .int (iZ z1), .int (iZ z2), .int (iZ z3), .int (iZ z4), .int (iZ z5), .ref a6, .int (iZ z7), .ref a8, .int (iZ z9), .ref a10, .ref a11, .ref a12, .ref a13, .ref a14, .ref a15, .int (iZ z16), .ref a17, .int (iZ z18), .ref a19, .ref a20, .ref a21, .ref a22, .ref a23, .ref a24, .int (iZ z25), .ref a26, .ref a27, .ref a28, .int (iZ z29), .int (iZ z30), .int (iZ z31), .int (iZ z32), .int (iZ z33), .int (iZ z34), .ref a35, .ref a36, .ref a37, .ref a38, .ref a39, .ref a40, .ref a41, .int (iZ z42), .int (iZ z43), .ref a44, .ref a45])), (a14, .inl (cY, 150, .inl (zA (upZ g14 z16 sb)))), (a15, .inl (cY, 150, .inl (zA g15)))]) rfl dX5_comes_9 ?_
  refine g_aload_n X 0 dX5_comes_10 rfl rfl ?_
  refine g_get X (index := 49) (ref := "GuideWordsModel") hin5 0 rfl rfl 15 (by decide) rfl (by decide +kernel) (v := .ref a15) rfl dX5_comes_11 ?_
  refine g_aload_n X 0 dX5_comes_14 rfl rfl ?_
  refine g_get X (index := 133) (ref := "GuideWordsModel") hin5 0 rfl rfl 16 (by decide) rfl (by decide +kernel) (v := .int (iZ z16)) rfl dX5_comes_15 ?_
  refine g_iconst X dX5_comes_18 ?_
  refine g_zast X 2 3 rfl rfl (by omega) (by decide) (Or.inr rfl) (ws2 := [(m0, .inr (5, [.int (iZ z0), .int (iZ z1), .int (iZ z2), .int (iZ z3), .int (iZ z4), .int (iZ z5), .ref a6, .int (iZ z7), .ref a8, .int (iZ z9), .ref a10, .ref a11, .ref a12, .ref a13, .ref a14, .ref a15, .int (iZ z16), .ref a17, .int (iZ z18), .ref a19, .ref a20, .ref a21, .ref a22, .ref a23, .ref a24, .int (iZ z25), .ref a26, .ref a27, .ref a28, .int (iZ z29), .int (iZ z30), .int (iZ z31), .int (iZ z32), .int (iZ z33), .int (iZ z34), .ref a35, .ref a36, .ref a37, .ref a38, .ref a39, .ref a40, .ref a41, .int (iZ z42), .int (iZ z43), .ref a44, .ref a45])), (a14, .inl (cY, 150, .inl (zA (upZ g14 z16 sb)))), (a15, .inl (cY, 150, .inl (zA (upZ g15 z16 1))))]) rfl dX5_comes_19 ?_
  refine g_aload_n X 0 dX5_comes_20 rfl rfl ?_
  refine g_dup X dX5_comes_21 rfl ?_
  refine g_get X (index := 133) (ref := "GuideWordsModel") hin5 0 rfl rfl 16 (by decide) rfl (by decide +kernel) (v := .int (iZ z16)) rfl dX5_comes_22 ?_
  refine g_iconst X dX5_comes_25 ?_
  refine g_iadd X dX5_comes_26 ?_
  refine g_put X (index := 133) (ref := "GuideWordsModel") hin5 0 rfl rfl 16 (by decide) rfl tyX5 tyX5_ok nmX5 (by decide +kernel) rfl rfl rfl rfl (Nat.le_of_ble_eq_true rfl) (ws2 := [(m0, .inr (5, [.int (iZ z0), .int (iZ z1), .int (iZ z2), .int (iZ z3), .int (iZ z4), .int (iZ z5), .ref a6, .int (iZ z7), .ref a8, .int (iZ z9), .ref a10, .ref a11, .ref a12, .ref a13, .ref a14, .ref a15, .int (iZ (z16 + 1)), .ref a17, .int (iZ z18), .ref a19, .ref a20, .ref a21, .ref a22, .ref a23, .ref a24, .int (iZ z25), .ref a26, .ref a27, .ref a28, .int (iZ z29), .int (iZ z30), .int (iZ z31), .int (iZ z32), .int (iZ z33), .int (iZ z34), .ref a35, .ref a36, .ref a37, .ref a38, .ref a39, .ref a40, .ref a41, .int (iZ z42), .int (iZ z43), .ref a44, .ref a45])), (a14, .inl (cY, 150, .inl (zA (upZ g14 z16 sb)))), (a15, .inl (cY, 150, .inl (zA (upZ g15 z16 1))))]) rfl dX5_comes_27 ?_
  refine g_aload_n X 0 dX5_comes_30 rfl rfl ?_
  refine g_get X (index := 133) (ref := "GuideWordsModel") hin5 0 rfl rfl 16 (by decide) rfl (by decide +kernel) (v := .int (iZ (z16 + 1))) rfl dX5_comes_31 ?_
  refine g_iconst X dX5_comes_34 ?_
  refine g_isub X dX5_comes_35 ?_
  exact g_iret X hr (by decide) (by decide) dX5_comes_36 ⟨rfl, rfl⟩
def qX5_isEntry (cB cI cJ cY : ClassId) (m0 : Nat) (a6 : Nat) (a8 : Nat) (a10 : Nat) (a11 : Nat) (a12 : Nat) (a13 : Nat) (a14 : Nat) (a15 : Nat) (a17 : Nat) (a19 : Nat) (a20 : Nat) (a21 : Nat) (a22 : Nat) (a23 : Nat) (a24 : Nat) (a26 : Nat) (a27 : Nat) (a28 : Nat) (a35 : Nat) (a36 : Nat) (a37 : Nat) (a38 : Nat) (a39 : Nat) (a40 : Nat) (a41 : Nat) (a44 : Nat) (a45 : Nat) (z0 : Int) (z1 : Int) (z2 : Int) (z3 : Int) (z4 : Int) (z5 : Int) (z7 : Int) (z9 : Int) (z16 : Int) (z18 : Int) (z25 : Int) (z29 : Int) (z30 : Int) (z31 : Int) (z32 : Int) (z33 : Int) (z34 : Int) (z42 : Int) (z43 : Int) (e9 : Int) : Option Value → va_W → Prop := fun rv w1 => ∃ (r : Int) (t : Int), rv = some (.int (iZ r)) ∧ ((r = 1 ∧ t = 0 ∧ 0 ≤ e9 ∧ e9 < z16) ∨ (r = 0 ∧ t = 1 ∧ ¬ (0 ≤ e9 ∧ e9 < z16))) ∧ w1 = [(m0, .inr (5, [.int (iZ t), .int (iZ z1), .int (iZ z2), .int (iZ z3), .int (iZ z4), .int (iZ z5), .ref a6, .int (iZ z7), .ref a8, .int (iZ z9), .ref a10, .ref a11, .ref a12, .ref a13, .ref a14, .ref a15, .int (iZ z16), .ref a17, .int (iZ z18), .ref a19, .ref a20, .ref a21, .ref a22, .ref a23, .ref a24, .int (iZ z25), .ref a26, .ref a27, .ref a28, .int (iZ z29), .int (iZ z30), .int (iZ z31), .int (iZ z32), .int (iZ z33), .int (iZ z34), .ref a35, .ref a36, .ref a37, .ref a38, .ref a39, .ref a40, .ref a41, .int (iZ z42), .int (iZ z43), .ref a44, .ref a45]))]
set_option maxHeartbeats 4000000 in
set_option maxRecDepth 100000 in
theorem ctX5_isEntry (l : Launch) (D : va_G) (cB cI cJ cY : ClassId) (m0 : Nat) (a6 : Nat) (a8 : Nat) (a10 : Nat) (a11 : Nat) (a12 : Nat) (a13 : Nat) (a14 : Nat) (a15 : Nat) (a17 : Nat) (a19 : Nat) (a20 : Nat) (a21 : Nat) (a22 : Nat) (a23 : Nat) (a24 : Nat) (a26 : Nat) (a27 : Nat) (a28 : Nat) (a35 : Nat) (a36 : Nat) (a37 : Nat) (a38 : Nat) (a39 : Nat) (a40 : Nat) (a41 : Nat) (a44 : Nat) (a45 : Nat) (z0 : Int) (z1 : Int) (z2 : Int) (z3 : Int) (z4 : Int) (z5 : Int) (z7 : Int) (z9 : Int) (z16 : Int) (z18 : Int) (z25 : Int) (z29 : Int) (z30 : Int) (z31 : Int) (z32 : Int) (z33 : Int) (z34 : Int) (z42 : Int) (z43 : Int) (e9 : Int) (h16 : 0 ≤ z16 ∧ z16 ≤ 150) (h_e9 : -2147483648 ≤ e9 ∧ e9 ≤ 2147483647) : gM l yX5_isEntry wsX5_isEntry { frames := 0, cells := 0, slots := 0, locals := 0 } D (gT cB cI cJ cY) [.ref m0, .int (iZ e9)] [(m0, .inr (5, [.int (iZ z0), .int (iZ z1), .int (iZ z2), .int (iZ z3), .int (iZ z4), .int (iZ z5), .ref a6, .int (iZ z7), .ref a8, .int (iZ z9), .ref a10, .ref a11, .ref a12, .ref a13, .ref a14, .ref a15, .int (iZ z16), .ref a17, .int (iZ z18), .ref a19, .ref a20, .ref a21, .ref a22, .ref a23, .ref a24, .int (iZ z25), .ref a26, .ref a27, .ref a28, .int (iZ z29), .int (iZ z30), .int (iZ z31), .int (iZ z32), .int (iZ z33), .int (iZ z34), .ref a35, .ref a36, .ref a37, .ref a38, .ref a39, .ref a40, .ref a41, .int (iZ z42), .int (iZ z43), .ref a44, .ref a45]))] 0 0 (qX5_isEntry cB cI cJ cY m0 a6 a8 a10 a11 a12 a13 a14 a15 a17 a19 a20 a21 a22 a23 a24 a26 a27 a28 a35 a36 a37 a38 a39 a40 a41 a44 a45 z0 z1 z2 z3 z4 z5 z7 z9 z16 z18 z25 z29 z30 z31 z32 z33 z34 z42 z43 e9) := by
  refine g_start (cc := cX5_isEntry) (maxL := 2) (ret := some .boolean) (lv := [(0, .ref m0), (1, .int (iZ e9))]) (by decide) rfl (Nat.le_of_ble_eq_true rfl) rfl ?_
  intro p e s m args below meth c A X hr hnm
  have hin5 : ∀ w ∈ u_ws RX5 TX5 46, w ∈ wsX5_isEntry := by decide +kernel
  refine g_aload_n X 0 dX5_isEntry_0 rfl rfl ?_
  refine g_iload_n X 1 dX5_isEntry_1 rfl rfl ?_
  refine g_if_lt X 13 dX5_isEntry_2 (by decide) (by omega) (fun c_2 => ?_) (fun c_2 => ?_)
  · skip
    refine g_iconst X dX5_isEntry_13 ?_
    refine g_goto X 18 dX5_isEntry_14 (by decide) ?_
    refine g_put X (index := 116) (ref := "GuideWordsModel") hin5 0 rfl rfl 0 (by decide) rfl tyX5 tyX5_ok nmX5 (by decide +kernel) rfl rfl rfl rfl (Nat.le_of_ble_eq_true rfl) (ws2 := [(m0, .inr (5, [.int (iZ 1), .int (iZ z1), .int (iZ z2), .int (iZ z3), .int (iZ z4), .int (iZ z5), .ref a6, .int (iZ z7), .ref a8, .int (iZ z9), .ref a10, .ref a11, .ref a12, .ref a13, .ref a14, .ref a15, .int (iZ z16), .ref a17, .int (iZ z18), .ref a19, .ref a20, .ref a21, .ref a22, .ref a23, .ref a24, .int (iZ z25), .ref a26, .ref a27, .ref a28, .int (iZ z29), .int (iZ z30), .int (iZ z31), .int (iZ z32), .int (iZ z33), .int (iZ z34), .ref a35, .ref a36, .ref a37, .ref a38, .ref a39, .ref a40, .ref a41, .int (iZ z42), .int (iZ z43), .ref a44, .ref a45]))]) rfl dX5_isEntry_18 ?_
    refine g_aload_n X 0 dX5_isEntry_21 rfl rfl ?_
    refine g_get X (index := 116) (ref := "GuideWordsModel") hin5 0 rfl rfl 0 (by decide) rfl (by decide +kernel) (v := .int (iZ 1)) rfl dX5_isEntry_22 ?_
    refine g_if_ne X 32 dX5_isEntry_25 (by decide) (by omega) (fun c_25 => ?_) (fun c_25 => ?_)
    · skip
      refine g_iconst X dX5_isEntry_32 ?_
      exact g_zret X (by omega) hr (by decide) (by decide) dX5_isEntry_33 ⟨_, _, rfl, by omega, rfl⟩
    · omega
  · skip
    refine g_iload_n X 1 dX5_isEntry_5 rfl rfl ?_
    refine g_aload_n X 0 dX5_isEntry_6 rfl rfl ?_
    refine g_get X (index := 133) (ref := "GuideWordsModel") hin5 0 rfl rfl 16 (by decide) rfl (by decide +kernel) (v := .int (iZ z16)) rfl dX5_isEntry_7 ?_
    refine g_icmp_lt X 17 dX5_isEntry_10 (by decide) (by omega) (by omega) (fun c_10 => ?_) (fun c_10 => ?_)
    · skip
      refine g_iconst X dX5_isEntry_17 ?_
      refine g_put X (index := 116) (ref := "GuideWordsModel") hin5 0 rfl rfl 0 (by decide) rfl tyX5 tyX5_ok nmX5 (by decide +kernel) rfl rfl rfl rfl (Nat.le_of_ble_eq_true rfl) (ws2 := [(m0, .inr (5, [.int (iZ 0), .int (iZ z1), .int (iZ z2), .int (iZ z3), .int (iZ z4), .int (iZ z5), .ref a6, .int (iZ z7), .ref a8, .int (iZ z9), .ref a10, .ref a11, .ref a12, .ref a13, .ref a14, .ref a15, .int (iZ z16), .ref a17, .int (iZ z18), .ref a19, .ref a20, .ref a21, .ref a22, .ref a23, .ref a24, .int (iZ z25), .ref a26, .ref a27, .ref a28, .int (iZ z29), .int (iZ z30), .int (iZ z31), .int (iZ z32), .int (iZ z33), .int (iZ z34), .ref a35, .ref a36, .ref a37, .ref a38, .ref a39, .ref a40, .ref a41, .int (iZ z42), .int (iZ z43), .ref a44, .ref a45]))]) rfl dX5_isEntry_18 ?_
      refine g_aload_n X 0 dX5_isEntry_21 rfl rfl ?_
      refine g_get X (index := 116) (ref := "GuideWordsModel") hin5 0 rfl rfl 0 (by decide) rfl (by decide +kernel) (v := .int (iZ 0)) rfl dX5_isEntry_22 ?_
      refine g_if_ne X 32 dX5_isEntry_25 (by decide) (by omega) (fun c_25 => ?_) (fun c_25 => ?_)
      · omega
      · skip
        refine g_iconst X dX5_isEntry_28 ?_
        refine g_goto X 33 dX5_isEntry_29 (by decide) ?_
        exact g_zret X (by omega) hr (by decide) (by decide) dX5_isEntry_33 ⟨_, _, rfl, by omega, rfl⟩
    · skip
      refine g_iconst X dX5_isEntry_13 ?_
      refine g_goto X 18 dX5_isEntry_14 (by decide) ?_
      refine g_put X (index := 116) (ref := "GuideWordsModel") hin5 0 rfl rfl 0 (by decide) rfl tyX5 tyX5_ok nmX5 (by decide +kernel) rfl rfl rfl rfl (Nat.le_of_ble_eq_true rfl) (ws2 := [(m0, .inr (5, [.int (iZ 1), .int (iZ z1), .int (iZ z2), .int (iZ z3), .int (iZ z4), .int (iZ z5), .ref a6, .int (iZ z7), .ref a8, .int (iZ z9), .ref a10, .ref a11, .ref a12, .ref a13, .ref a14, .ref a15, .int (iZ z16), .ref a17, .int (iZ z18), .ref a19, .ref a20, .ref a21, .ref a22, .ref a23, .ref a24, .int (iZ z25), .ref a26, .ref a27, .ref a28, .int (iZ z29), .int (iZ z30), .int (iZ z31), .int (iZ z32), .int (iZ z33), .int (iZ z34), .ref a35, .ref a36, .ref a37, .ref a38, .ref a39, .ref a40, .ref a41, .int (iZ z42), .int (iZ z43), .ref a44, .ref a45]))]) rfl dX5_isEntry_18 ?_
      refine g_aload_n X 0 dX5_isEntry_21 rfl rfl ?_
      refine g_get X (index := 116) (ref := "GuideWordsModel") hin5 0 rfl rfl 0 (by decide) rfl (by decide +kernel) (v := .int (iZ 1)) rfl dX5_isEntry_22 ?_
      refine g_if_ne X 32 dX5_isEntry_25 (by decide) (by omega) (fun c_25 => ?_) (fun c_25 => ?_)
      · skip
        refine g_iconst X dX5_isEntry_32 ?_
        exact g_zret X (by omega) hr (by decide) (by decide) dX5_isEntry_33 ⟨_, _, rfl, by omega, rfl⟩
      · omega
def qX5_drop (cB cI cJ cY : ClassId) (m0 : Nat) (a6 : Nat) (a8 : Nat) (a10 : Nat) (a11 : Nat) (a12 : Nat) (a13 : Nat) (a14 : Nat) (a15 : Nat) (a17 : Nat) (a19 : Nat) (a20 : Nat) (a21 : Nat) (a22 : Nat) (a23 : Nat) (a24 : Nat) (a26 : Nat) (a27 : Nat) (a28 : Nat) (a35 : Nat) (a36 : Nat) (a37 : Nat) (a38 : Nat) (a39 : Nat) (a40 : Nat) (a41 : Nat) (a44 : Nat) (a45 : Nat) (z0 : Int) (z1 : Int) (z2 : Int) (z3 : Int) (z4 : Int) (z5 : Int) (z7 : Int) (z9 : Int) (z16 : Int) (z18 : Int) (z25 : Int) (z29 : Int) (z30 : Int) (z31 : Int) (z32 : Int) (z33 : Int) (z34 : Int) (z42 : Int) (z43 : Int) (g15 : Int → Int) (e9 : Int) : Option Value → va_W → Prop := fun rv w1 => ∃ (r : Int) (t : Int) (h : Int → Int), rv = some (.int (iZ r)) ∧ (((0 ≤ e9 ∧ e9 < z16) ∧ t = 0 ∧ r = g15 e9 ∧ h = upZ g15 e9 0) ∨ (¬ (0 ≤ e9 ∧ e9 < z16) ∧ t = 1 ∧ r = 0 ∧ h = g15)) ∧ w1 = [(m0, .inr (5, [.int (iZ t), .int (iZ z1), .int (iZ z2), .int (iZ z3), .int (iZ z4), .int (iZ z5), .ref a6, .int (iZ z7), .ref a8, .int (iZ z9), .ref a10, .ref a11, .ref a12, .ref a13, .ref a14, .ref a15, .int (iZ z16), .ref a17, .int (iZ z18), .ref a19, .ref a20, .ref a21, .ref a22, .ref a23, .ref a24, .int (iZ z25), .ref a26, .ref a27, .ref a28, .int (iZ z29), .int (iZ z30), .int (iZ z31), .int (iZ z32), .int (iZ z33), .int (iZ z34), .ref a35, .ref a36, .ref a37, .ref a38, .ref a39, .ref a40, .ref a41, .int (iZ z42), .int (iZ z43), .ref a44, .ref a45])), (a15, .inl (cY, 150, .inl (zA h)))]
set_option maxHeartbeats 4000000 in
set_option maxRecDepth 100000 in
theorem ctX5_drop (l : Launch) (D : va_G) (cB cI cJ cY : ClassId) (m0 : Nat) (a6 : Nat) (a8 : Nat) (a10 : Nat) (a11 : Nat) (a12 : Nat) (a13 : Nat) (a14 : Nat) (a15 : Nat) (a17 : Nat) (a19 : Nat) (a20 : Nat) (a21 : Nat) (a22 : Nat) (a23 : Nat) (a24 : Nat) (a26 : Nat) (a27 : Nat) (a28 : Nat) (a35 : Nat) (a36 : Nat) (a37 : Nat) (a38 : Nat) (a39 : Nat) (a40 : Nat) (a41 : Nat) (a44 : Nat) (a45 : Nat) (z0 : Int) (z1 : Int) (z2 : Int) (z3 : Int) (z4 : Int) (z5 : Int) (z7 : Int) (z9 : Int) (z16 : Int) (z18 : Int) (z25 : Int) (z29 : Int) (z30 : Int) (z31 : Int) (z32 : Int) (z33 : Int) (z34 : Int) (z42 : Int) (z43 : Int) (g15 : Int → Int) (e9 : Int) (h16 : 0 ≤ z16 ∧ z16 ≤ 150) (h15 : ∀ j : Int, 0 ≤ j ∧ j < 150 → g15 j = 0 ∨ g15 j = 1) (h_e9 : -2147483648 ≤ e9 ∧ e9 ≤ 2147483647) : gM l yX5_drop wsX5_drop { frames := 1, cells := 0, slots := 0, locals := 21 } D (gT cB cI cJ cY) [.ref m0, .int (iZ e9)] [(m0, .inr (5, [.int (iZ z0), .int (iZ z1), .int (iZ z2), .int (iZ z3), .int (iZ z4), .int (iZ z5), .ref a6, .int (iZ z7), .ref a8, .int (iZ z9), .ref a10, .ref a11, .ref a12, .ref a13, .ref a14, .ref a15, .int (iZ z16), .ref a17, .int (iZ z18), .ref a19, .ref a20, .ref a21, .ref a22, .ref a23, .ref a24, .int (iZ z25), .ref a26, .ref a27, .ref a28, .int (iZ z29), .int (iZ z30), .int (iZ z31), .int (iZ z32), .int (iZ z33), .int (iZ z34), .ref a35, .ref a36, .ref a37, .ref a38, .ref a39, .ref a40, .ref a41, .int (iZ z42), .int (iZ z43), .ref a44, .ref a45])), (a15, .inl (cY, 150, .inl (zA g15)))] 0 0 (qX5_drop cB cI cJ cY m0 a6 a8 a10 a11 a12 a13 a14 a15 a17 a19 a20 a21 a22 a23 a24 a26 a27 a28 a35 a36 a37 a38 a39 a40 a41 a44 a45 z0 z1 z2 z3 z4 z5 z7 z9 z16 z18 z25 z29 z30 z31 z32 z33 z34 z42 z43 g15 e9) := by
  refine g_start (cc := cX5_drop) (maxL := 3) (ret := some .boolean) (lv := [(0, .ref m0), (1, .int (iZ e9))]) (by decide) rfl (Nat.le_of_ble_eq_true rfl) rfl ?_
  intro p e s m args below meth c A X hr hnm
  have hin5 : ∀ w ∈ u_ws RX5 TX5 46, w ∈ wsX5_drop := by decide +kernel
  refine g_aload_n X 0 dX5_drop_0 rfl rfl ?_
  refine g_iload_n X 1 dX5_drop_1 rfl rfl ?_
  refine g_callV0 X (As := [.int (iZ e9)]) (rest := []) (ctX5_isEntry l D cB cI cJ cY m0 a6 a8 a10 a11 a12 a13 a14 a15 a17 a19 a20 a21 a22 a23 a24 a26 a27 a28 a35 a36 a37 a38 a39 a40 a41 a44 a45 z0 z1 z2 z3 z4 z5 z7 z9 z16 z18 z25 z29 z30 z31 z32 z33 z34 z42 z43 e9 (by first | assumption | omega) (by first | assumption | omega)) (cwV 1 X.2.2.2.2.1 gX5_drop_X5_isEntry rfl rfl rfl (by decide +kernel) ⟨by decide, by decide⟩) 0 rfl rfl (wc := [(m0, .inr (5, [.int (iZ z0), .int (iZ z1), .int (iZ z2), .int (iZ z3), .int (iZ z4), .int (iZ z5), .ref a6, .int (iZ z7), .ref a8, .int (iZ z9), .ref a10, .ref a11, .ref a12, .ref a13, .ref a14, .ref a15, .int (iZ z16), .ref a17, .int (iZ z18), .ref a19, .ref a20, .ref a21, .ref a22, .ref a23, .ref a24, .int (iZ z25), .ref a26, .ref a27, .ref a28, .int (iZ z29), .int (iZ z30), .int (iZ z31), .int (iZ z32), .int (iZ z33), .int (iZ z34), .ref a35, .ref a36, .ref a37, .ref a38, .ref a39, .ref a40, .ref a41, .int (iZ z42), .int (iZ z43), .ref a44, .ref a45]))]) (wr := [(a15, .inl (cY, 150, .inl (zA g15)))]) [0] [1] rfl rfl (by decide) (by decide) (by decide) rfl rfl (Nat.le_of_ble_eq_true rfl) ⟨by decide, by decide⟩ dX5_drop_2 (fun v w1 hq => ?_)
  obtain ⟨r, t, rfl, hrt, rfl⟩ := hq
  refine g_eq (ws' := [(a15, .inl (cY, 150, .inl (zA g15))), (m0, .inr (5, [.int (iZ t), .int (iZ z1), .int (iZ z2), .int (iZ z3), .int (iZ z4), .int (iZ z5), .ref a6, .int (iZ z7), .ref a8, .int (iZ z9), .ref a10, .ref a11, .ref a12, .ref a13, .ref a14, .ref a15, .int (iZ z16), .ref a17, .int (iZ z18), .ref a19, .ref a20, .ref a21, .ref a22, .ref a23, .ref a24, .int (iZ z25), .ref a26, .ref a27, .ref a28, .int (iZ z29), .int (iZ z30), .int (iZ z31), .int (iZ z32), .int (iZ z33), .int (iZ z34), .ref a35, .ref a36, .ref a37, .ref a38, .ref a39, .ref a40, .ref a41, .int (iZ z42), .int (iZ z43), .ref a44, .ref a45]))]) (pc' := 5) (st' := [.int (iZ r)]) rfl rfl rfl rfl ?_
  refine g_perm (ws' := [(m0, .inr (5, [.int (iZ t), .int (iZ z1), .int (iZ z2), .int (iZ z3), .int (iZ z4), .int (iZ z5), .ref a6, .int (iZ z7), .ref a8, .int (iZ z9), .ref a10, .ref a11, .ref a12, .ref a13, .ref a14, .ref a15, .int (iZ z16), .ref a17, .int (iZ z18), .ref a19, .ref a20, .ref a21, .ref a22, .ref a23, .ref a24, .int (iZ z25), .ref a26, .ref a27, .ref a28, .int (iZ z29), .int (iZ z30), .int (iZ z31), .int (iZ z32), .int (iZ z33), .int (iZ z34), .ref a35, .ref a36, .ref a37, .ref a38, .ref a39, .ref a40, .ref a41, .int (iZ z42), .int (iZ z43), .ref a44, .ref a45])), (a15, .inl (cY, 150, .inl (zA g15)))]) [1, 0] (by decide) rfl ?_
  have hr01 : r = 0 ∨ r = 1 := by omega
  refine g_if_ne X 10 dX5_drop_5 (by decide) (by omega) (fun c_5 => ?_) (fun c_5 => ?_)
  · skip
    refine g_aload_n X 0 dX5_drop_10 rfl rfl ?_
    refine g_get X (index := 49) (ref := "GuideWordsModel") hin5 0 rfl rfl 15 (by decide) rfl (by decide +kernel) (v := .ref a15) rfl dX5_drop_11 ?_
    refine g_iload_n X 1 dX5_drop_14 rfl rfl ?_
    refine g_zald X 1 3 rfl rfl (by omega) (by decide) dX5_drop_15 ?_
    have r_15 := h15 e9 (by omega)
    refine g_istore_n (lv2 := [(2, .int (iZ (g15 e9))), (0, .ref m0), (1, .int (iZ e9))]) X dX5_drop_16 rfl (by decide) rfl ?_
    refine g_aload_n X 1 dX5_drop_17 rfl rfl ?_
    refine g_get X (index := 49) (ref := "GuideWordsModel") hin5 0 rfl rfl 15 (by decide) rfl (by decide +kernel) (v := .ref a15) rfl dX5_drop_18 ?_
    refine g_iload_n X 2 dX5_drop_21 rfl rfl ?_
    refine g_iconst X dX5_drop_22 ?_
    refine g_zast X 1 3 rfl rfl (by omega) (by decide) (Or.inl rfl) (ws2 := [(m0, .inr (5, [.int (iZ t), .int (iZ z1), .int (iZ z2), .int (iZ z3), .int (iZ z4), .int (iZ z5), .ref a6, .int (iZ z7), .ref a8, .int (iZ z9), .ref a10, .ref a11, .ref a12, .ref a13, .ref a14, .ref a15, .int (iZ z16), .ref a17, .int (iZ z18), .ref a19, .ref a20, .ref a21, .ref a22, .ref a23, .ref a24, .int (iZ z25), .ref a26, .ref a27, .ref a28, .int (iZ z29), .int (iZ z30), .int (iZ z31), .int (iZ z32), .int (iZ z33), .int (iZ z34), .ref a35, .ref a36, .ref a37, .ref a38, .ref a39, .ref a40, .ref a41, .int (iZ z42), .int (iZ z43), .ref a44, .ref a45])), (a15, .inl (cY, 150, .inl (zA (upZ g15 e9 0))))]) rfl dX5_drop_23 ?_
    refine g_iload_n X 0 dX5_drop_24 rfl rfl ?_
    exact g_zret X (h15 e9 (by omega)) hr (by decide) (by decide) dX5_drop_25 ⟨_, t, _, rfl, Or.inl ⟨by omega, by omega, rfl, rfl⟩, rfl⟩
  · skip
    refine g_iconst X dX5_drop_8 ?_
    exact g_zret X (by omega) hr (by decide) (by decide) dX5_drop_9 ⟨_, t, g15, rfl, Or.inr ⟨by omega, by omega, rfl, rfl⟩, rfl⟩
def cmpP (g : Int → Int) (i : Int) (h : Int → Int) (j r : Int) : Prop := (r = 0 ∧ ∀ k : Int, 0 ≤ k → k < 12 → g (i + k) = h (j + k)) ∨ (∃ k : Int, 0 ≤ k ∧ k < 12 ∧ (∀ q : Int, 0 ≤ q → q < k → g (i + q) = h (j + q)) ∧ ¬ g (i + k) = h (j + k) ∧ r = g (i + k) - h (j + k))
def qX5_compare_hh (cB cI cJ cY : ClassId) (a10 : Nat) (g10 : Int → Int) (i : Int) (j : Int) : Option Value → va_W → Prop := fun rv w1 => ∃ (r : Int), rv = some (.int (iZ r)) ∧ cmpP g10 i g10 j r ∧ (-122 ≤ r ∧ r ≤ 122) ∧ w1 = [(a10, .inl (cI, 1800, .inl (zA g10)))]
set_option maxHeartbeats 4000000 in
set_option maxRecDepth 100000 in
theorem ctX5_compare_hh (l : Launch) (D : va_G) (cB cI cJ cY : ClassId) (a10 : Nat) (g10 : Int → Int) (i : Int) (j : Int) (h10r : ∀ j : Int, 0 ≤ j ∧ j < 1800 → 0 ≤ g10 j ∧ g10 j ≤ 122) (hij : 0 ≤ i ∧ i + 12 ≤ 1800 ∧ 0 ≤ j ∧ j + 12 ≤ 1800) : gM l yX5_compare wsX5_compare { frames := 0, cells := 0, slots := 0, locals := 0 } D (gT cB cI cJ cY) [.ref a10, .int (iZ i), .ref a10, .int (iZ j)] [(a10, .inl (cI, 1800, .inl (zA g10)))] 0 0 (qX5_compare_hh cB cI cJ cY a10 g10 i j) := by
  refine g_start (cc := cX5_compare) (maxL := 5) (ret := some .int) (lv := [(0, .ref a10), (1, .int (iZ i)), (2, .ref a10), (3, .int (iZ j))]) (by decide) rfl (Nat.le_of_ble_eq_true rfl) rfl ?_
  intro p e s m args below meth c A X hr hnm
  refine g_iconst X dX5_compare_0 ?_
  refine g_istore (lv2 := [(4, .int (iZ 0)), (0, .ref a10), (1, .int (iZ i)), (2, .ref a10), (3, .int (iZ j))]) X dX5_compare_1 (by decide) rfl ?_
  refine g_lv (lv' := [(0, .ref a10), (1, .int (iZ i)), (2, .ref a10), (3, .int (iZ j)), (4, .int (iZ 0))]) [1, 2, 3, 4, 0] rfl ?_
  have loop_3 : ∀ (kf : Nat) (k : Int), (hk : 0 ≤ k ∧ k ≤ 12) → (he : ∀ q : Int, 0 ≤ q → q < k → g10 (i + q) = g10 (j + q)) → (12 - k).toNat < kf → gW p l e { frames := 0, cells := 0, slots := 0, locals := 0 } s m args below meth c D A 5 0 0 (MQ below (gQ D (gT cB cI cJ cY) (qX5_compare_hh cB cI cJ cY a10 g10 i j) A) args s 0 0 A) [(a10, .inl (cI, 1800, .inl (zA g10)))] 3 [(0, .ref a10), (1, .int (iZ i)), (2, .ref a10), (3, .int (iZ j)), (4, .int (iZ k))] [] := by
    intro kf
    induction kf with
    | zero => intro k hk he hm; exact absurd hm (Nat.not_lt_zero _)
    | succ kf ih_3 =>
      intro k hk he hm
      refine g_iload X 4 dX5_compare_3 rfl ?_
      refine g_bipush X dX5_compare_5 (by decide) ?_
      refine g_icmp_ge X 45 dX5_compare_7 (by decide) (by omega) (by omega) (fun c_7 => ?_) (fun c_7 => ?_)
      · skip
        refine g_iconst X dX5_compare_45 ?_
        exact g_iret X hr (by decide) (by decide) dX5_compare_46 ⟨_, rfl, Or.inl ⟨rfl, fun q h1 h2 => he q h1 (by omega)⟩, by omega, rfl⟩
      · skip
        refine g_aload_n X 0 dX5_compare_10 rfl rfl ?_
        refine g_iload_n X 1 dX5_compare_11 rfl rfl ?_
        refine g_iload X 4 dX5_compare_12 rfl ?_
        refine g_iadd X dX5_compare_14 ?_
        refine g_iald X 0 1 rfl rfl (by omega) (by decide) dX5_compare_15 ?_
        have r_15 := h10r (i + k) (by omega)
        refine g_aload_n X 2 dX5_compare_16 rfl rfl ?_
        refine g_iload_n X 3 dX5_compare_17 rfl rfl ?_
        refine g_iload X 4 dX5_compare_18 rfl ?_
        refine g_iadd X dX5_compare_20 ?_
        refine g_iald X 0 1 rfl rfl (by omega) (by decide) dX5_compare_21 ?_
        have r_21 := h10r (j + k) (by omega)
        refine g_icmp_eq X 39 dX5_compare_22 (by decide) (by omega) (by omega) (fun c_22 => ?_) (fun c_22 => ?_)
        · skip
          refine g_iinc (q := 4) (lv2 := [(4, .int (iZ (k + 1))), (0, .ref a10), (1, .int (iZ i)), (2, .ref a10), (3, .int (iZ j))]) X dX5_compare_39 rfl (by decide) rfl ?_
          refine g_goto X 3 dX5_compare_42 (by decide) ?_
          refine g_lv (lv' := [(0, .ref a10), (1, .int (iZ i)), (2, .ref a10), (3, .int (iZ j)), (4, .int (iZ (k + 1)))]) [1, 2, 3, 4, 0] rfl ?_
          exact ih_3 (k + 1) (by omega) (fun q h1 h2 => by
              rcases (show q = k ∨ q < k by omega) with e | e
              · rw [e]; exact c_22
              · exact he q h1 e) (by omega)
        · skip
          refine g_aload_n X 0 dX5_compare_25 rfl rfl ?_
          refine g_iload_n X 1 dX5_compare_26 rfl rfl ?_
          refine g_iload X 4 dX5_compare_27 rfl ?_
          refine g_iadd X dX5_compare_29 ?_
          refine g_iald X 0 1 rfl rfl (by omega) (by decide) dX5_compare_30 ?_
          have r_30 := h10r (i + k) (by omega)
          refine g_aload_n X 2 dX5_compare_31 rfl rfl ?_
          refine g_iload_n X 3 dX5_compare_32 rfl rfl ?_
          refine g_iload X 4 dX5_compare_33 rfl ?_
          refine g_iadd X dX5_compare_35 ?_
          refine g_iald X 0 1 rfl rfl (by omega) (by decide) dX5_compare_36 ?_
          have r_36 := h10r (j + k) (by omega)
          refine g_isub X dX5_compare_37 ?_
          exact g_iret X hr (by decide) (by decide) dX5_compare_38 ⟨_, rfl, Or.inr ⟨k, by omega, by omega, he, c_22, rfl⟩, by omega, rfl⟩
  exact loop_3 _ 0 (by omega) (fun q h1 h2 => by omega) (Nat.lt_succ_self _)
def qX5_compare_mh (cB cI cJ cY : ClassId) (a11 : Nat) (a10 : Nat) (g11 : Int → Int) (g10 : Int → Int) (i : Int) (j : Int) : Option Value → va_W → Prop := fun rv w1 => ∃ (r : Int), rv = some (.int (iZ r)) ∧ cmpP g11 i g10 j r ∧ (-122 ≤ r ∧ r ≤ 122) ∧ w1 = [(a11, .inl (cI, 1800, .inl (zA g11))), (a10, .inl (cI, 1800, .inl (zA g10)))]
set_option maxHeartbeats 4000000 in
set_option maxRecDepth 100000 in
theorem ctX5_compare_mh (l : Launch) (D : va_G) (cB cI cJ cY : ClassId) (a11 : Nat) (a10 : Nat) (g11 : Int → Int) (g10 : Int → Int) (i : Int) (j : Int) (h10r : ∀ j : Int, 0 ≤ j ∧ j < 1800 → 0 ≤ g10 j ∧ g10 j ≤ 122) (h11r : ∀ j : Int, 0 ≤ j ∧ j < 1800 → 0 ≤ g11 j ∧ g11 j ≤ 122) (hij : 0 ≤ i ∧ i + 12 ≤ 1800 ∧ 0 ≤ j ∧ j + 12 ≤ 1800) : gM l yX5_compare wsX5_compare { frames := 0, cells := 0, slots := 0, locals := 0 } D (gT cB cI cJ cY) [.ref a11, .int (iZ i), .ref a10, .int (iZ j)] [(a11, .inl (cI, 1800, .inl (zA g11))), (a10, .inl (cI, 1800, .inl (zA g10)))] 0 0 (qX5_compare_mh cB cI cJ cY a11 a10 g11 g10 i j) := by
  refine g_start (cc := cX5_compare) (maxL := 5) (ret := some .int) (lv := [(0, .ref a11), (1, .int (iZ i)), (2, .ref a10), (3, .int (iZ j))]) (by decide) rfl (Nat.le_of_ble_eq_true rfl) rfl ?_
  intro p e s m args below meth c A X hr hnm
  refine g_iconst X dX5_compare_0 ?_
  refine g_istore (lv2 := [(4, .int (iZ 0)), (0, .ref a11), (1, .int (iZ i)), (2, .ref a10), (3, .int (iZ j))]) X dX5_compare_1 (by decide) rfl ?_
  refine g_lv (lv' := [(0, .ref a11), (1, .int (iZ i)), (2, .ref a10), (3, .int (iZ j)), (4, .int (iZ 0))]) [1, 2, 3, 4, 0] rfl ?_
  have loop_3 : ∀ (kf : Nat) (k : Int), (hk : 0 ≤ k ∧ k ≤ 12) → (he : ∀ q : Int, 0 ≤ q → q < k → g11 (i + q) = g10 (j + q)) → (12 - k).toNat < kf → gW p l e { frames := 0, cells := 0, slots := 0, locals := 0 } s m args below meth c D A 5 0 0 (MQ below (gQ D (gT cB cI cJ cY) (qX5_compare_mh cB cI cJ cY a11 a10 g11 g10 i j) A) args s 0 0 A) [(a11, .inl (cI, 1800, .inl (zA g11))), (a10, .inl (cI, 1800, .inl (zA g10)))] 3 [(0, .ref a11), (1, .int (iZ i)), (2, .ref a10), (3, .int (iZ j)), (4, .int (iZ k))] [] := by
    intro kf
    induction kf with
    | zero => intro k hk he hm; exact absurd hm (Nat.not_lt_zero _)
    | succ kf ih_3 =>
      intro k hk he hm
      refine g_iload X 4 dX5_compare_3 rfl ?_
      refine g_bipush X dX5_compare_5 (by decide) ?_
      refine g_icmp_ge X 45 dX5_compare_7 (by decide) (by omega) (by omega) (fun c_7 => ?_) (fun c_7 => ?_)
      · skip
        refine g_iconst X dX5_compare_45 ?_
        exact g_iret X hr (by decide) (by decide) dX5_compare_46 ⟨_, rfl, Or.inl ⟨rfl, fun q h1 h2 => he q h1 (by omega)⟩, by omega, rfl⟩
      · skip
        refine g_aload_n X 0 dX5_compare_10 rfl rfl ?_
        refine g_iload_n X 1 dX5_compare_11 rfl rfl ?_
        refine g_iload X 4 dX5_compare_12 rfl ?_
        refine g_iadd X dX5_compare_14 ?_
        refine g_iald X 0 1 rfl rfl (by omega) (by decide) dX5_compare_15 ?_
        have r_15 := h11r (i + k) (by omega)
        refine g_aload_n X 2 dX5_compare_16 rfl rfl ?_
        refine g_iload_n X 3 dX5_compare_17 rfl rfl ?_
        refine g_iload X 4 dX5_compare_18 rfl ?_
        refine g_iadd X dX5_compare_20 ?_
        refine g_iald X 1 1 rfl rfl (by omega) (by decide) dX5_compare_21 ?_
        have r_21 := h10r (j + k) (by omega)
        refine g_icmp_eq X 39 dX5_compare_22 (by decide) (by omega) (by omega) (fun c_22 => ?_) (fun c_22 => ?_)
        · skip
          refine g_iinc (q := 4) (lv2 := [(4, .int (iZ (k + 1))), (0, .ref a11), (1, .int (iZ i)), (2, .ref a10), (3, .int (iZ j))]) X dX5_compare_39 rfl (by decide) rfl ?_
          refine g_goto X 3 dX5_compare_42 (by decide) ?_
          refine g_lv (lv' := [(0, .ref a11), (1, .int (iZ i)), (2, .ref a10), (3, .int (iZ j)), (4, .int (iZ (k + 1)))]) [1, 2, 3, 4, 0] rfl ?_
          exact ih_3 (k + 1) (by omega) (fun q h1 h2 => by
              rcases (show q = k ∨ q < k by omega) with e | e
              · rw [e]; exact c_22
              · exact he q h1 e) (by omega)
        · skip
          refine g_aload_n X 0 dX5_compare_25 rfl rfl ?_
          refine g_iload_n X 1 dX5_compare_26 rfl rfl ?_
          refine g_iload X 4 dX5_compare_27 rfl ?_
          refine g_iadd X dX5_compare_29 ?_
          refine g_iald X 0 1 rfl rfl (by omega) (by decide) dX5_compare_30 ?_
          have r_30 := h11r (i + k) (by omega)
          refine g_aload_n X 2 dX5_compare_31 rfl rfl ?_
          refine g_iload_n X 3 dX5_compare_32 rfl rfl ?_
          refine g_iload X 4 dX5_compare_33 rfl ?_
          refine g_iadd X dX5_compare_35 ?_
          refine g_iald X 1 1 rfl rfl (by omega) (by decide) dX5_compare_36 ?_
          have r_36 := h10r (j + k) (by omega)
          refine g_isub X dX5_compare_37 ?_
          exact g_iret X hr (by decide) (by decide) dX5_compare_38 ⟨_, rfl, Or.inr ⟨k, by omega, by omega, he, c_22, rfl⟩, by omega, rfl⟩
  exact loop_3 _ 0 (by omega) (fun q h1 h2 => by omega) (Nat.lt_succ_self _)
