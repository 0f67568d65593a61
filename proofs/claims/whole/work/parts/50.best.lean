theorem upZ_uu (f : Int → Int) (k a b : Int) : upZ (upZ f k a) k b = upZ f k b := by
  funext j; unfold upZ; split <;> rfl
def vvM (H W SP TU : Int) (il le : Int → Int) (nb c9 j ln : Int) : Int := if j < nb then (H - ln) * (H - ln) + (if ¬ il (j - 1) = 0 then 0 else SP + (if c9 = W - 1 then TU else 0)) + le (4 * j + (c9 + 1) % W) else 0
def nnM (W : Int) (fe : Int → Int) (nb c9 j : Int) : Int := if j < nb then 1 + fe (4 * j + (c9 + 1) % W) else 1
def btR (H W SP TU : Int) (li mb il le fe : Int → Int) (nb c9 : Int) : Nat → Int → Int → Int → Int → Int → Int × Int × Int
  | 0, _, _, v, n, e9 => (v, n, e9)
  | m + 1, j, ln, v, n, e9 => if H < ln + li (j - 1) then (v, n, e9) else if j < nb ∧ mb (j - 1) = 0 then btR H W SP TU li mb il le fe nb c9 m (j + 1) (ln + li (j - 1)) v n e9 else if 1152921504606846976 ≤ vvM H W SP TU il le nb c9 j (ln + li (j - 1)) ∨ v < vvM H W SP TU il le nb c9 j (ln + li (j - 1)) ∨ (vvM H W SP TU il le nb c9 j (ln + li (j - 1)) = v ∧ n < nnM W fe nb c9 j) then btR H W SP TU li mb il le fe nb c9 m (j + 1) (ln + li (j - 1)) v n e9 else btR H W SP TU li mb il le fe nb c9 m (j + 1) (ln + li (j - 1)) (vvM H W SP TU il le nb c9 j (ln + li (j - 1))) (nnM W fe nb c9 j) j
theorem btR_s (H W SP TU : Int) (li mb il le fe : Int → Int) (nb c9 : Int) (m : Nat) (j ln v n e9 : Int) : btR H W SP TU li mb il le fe nb c9 (m + 1) j ln v n e9 = if H < ln + li (j - 1) then (v, n, e9) else if j < nb ∧ mb (j - 1) = 0 then btR H W SP TU li mb il le fe nb c9 m (j + 1) (ln + li (j - 1)) v n e9 else if 1152921504606846976 ≤ vvM H W SP TU il le nb c9 j (ln + li (j - 1)) ∨ v < vvM H W SP TU il le nb c9 j (ln + li (j - 1)) ∨ (vvM H W SP TU il le nb c9 j (ln + li (j - 1)) = v ∧ n < nnM W fe nb c9 j) then btR H W SP TU li mb il le fe nb c9 m (j + 1) (ln + li (j - 1)) v n e9 else btR H W SP TU li mb il le fe nb c9 m (j + 1) (ln + li (j - 1)) (vvM H W SP TU il le nb c9 j (ln + li (j - 1))) (nnM W fe nb c9 j) j := rfl
def btF (H W SP TU : Int) (li mb il le fe en : Int → Int) (nb i c9 : Int) : Int × Int × Int := btR H W SP TU li mb il le fe nb c9 (nb - i).toNat (i + 1) 0 1152921504606846976 (fe (4 * i + c9)) (en (4 * i + c9))
def qX5_best (cB cI cJ cY : ClassId) (m0 : Nat) (a6 : Nat) (a8 : Nat) (a10 : Nat) (a11 : Nat) (a12 : Nat) (a13 : Nat) (a14 : Nat) (a15 : Nat) (a17 : Nat) (a19 : Nat) (a20 : Nat) (a21 : Nat) (a22 : Nat) (a23 : Nat) (a24 : Nat) (a26 : Nat) (a27 : Nat) (a28 : Nat) (a35 : Nat) (a36 : Nat) (a37 : Nat) (a38 : Nat) (a39 : Nat) (a40 : Nat) (a41 : Nat) (a44 : Nat) (a45 : Nat) (z0 : Int) (z1 : Int) (z2 : Int) (z3 : Int) (z4 : Int) (z5 : Int) (z7 : Int) (z9 : Int) (z16 : Int) (z18 : Int) (z25 : Int) (z29 : Int) (z30 : Int) (z31 : Int) (z32 : Int) (z33 : Int) (z34 : Int) (z42 : Int) (z43 : Int) (g22 : Int → Int) (g23 : Int → Int) (g24 : Int → Int) (g26 : Int → Int) (g27 : Int → Int) (g28 : Int → Int) (i : Int) (c9 : Int) : Option Value → va_W → Prop := fun rv w1 => ∃ (h26 : Int → Int) (h27 : Int → Int) (h28 : Int → Int), rv = none ∧ h26 = upZ g26 (4 * i + c9) (btF z1 z2 z4 z5 g22 g23 g24 g26 g27 g28 z25 i c9).1 ∧ h27 = upZ g27 (4 * i + c9) (btF z1 z2 z4 z5 g22 g23 g24 g26 g27 g28 z25 i c9).2.1 ∧ h28 = upZ g28 (4 * i + c9) (btF z1 z2 z4 z5 g22 g23 g24 g26 g27 g28 z25 i c9).2.2 ∧ (0 ≤ (btF z1 z2 z4 z5 g22 g23 g24 g26 g27 g28 z25 i c9).1 ∧ (btF z1 z2 z4 z5 g22 g23 g24 g26 g27 g28 z25 i c9).1 ≤ 1152921504606846976) ∧ ((btF z1 z2 z4 z5 g22 g23 g24 g26 g27 g28 z25 i c9).1 < 1152921504606846976 → (1 ≤ (btF z1 z2 z4 z5 g22 g23 g24 g26 g27 g28 z25 i c9).2.1 ∧ (btF z1 z2 z4 z5 g22 g23 g24 g26 g27 g28 z25 i c9).2.1 ≤ z25 - i) ∧ (i < (btF z1 z2 z4 z5 g22 g23 g24 g26 g27 g28 z25 i c9).2.2 ∧ (btF z1 z2 z4 z5 g22 g23 g24 g26 g27 g28 z25 i c9).2.2 ≤ z25)) ∧ w1 = [(m0, .inr (5, [.int (iZ z0), .int (iZ z1), .int (iZ z2), .int (iZ z3), .int (iZ z4), .int (iZ z5), .ref a6, .int (iZ z7), .ref a8, .int (iZ z9), .ref a10, .ref a11, .ref a12, .ref a13, .ref a14, .ref a15, .int (iZ z16), .ref a17, .int (iZ z18), .ref a19, .ref a20, .ref a21, .ref a22, .ref a23, .ref a24, .int (iZ z25), .ref a26, .ref a27, .ref a28, .int (iZ z29), .int (iZ z30), .int (iZ z31), .int (iZ z32), .int (iZ z33), .int (iZ z34), .ref a35, .ref a36, .ref a37, .ref a38, .ref a39, .ref a40, .ref a41, .int (iZ z42), .int (iZ z43), .ref a44, .ref a45])), (a22, .inl (cI, 900, .inl (zA g22))), (a23, .inl (cY, 900, .inl (zA g23))), (a24, .inl (cY, 900, .inl (zA g24))), (a26, .inl (cJ, 3604, .inr (.inl (lA h26)))), (a27, .inl (cI, 3604, .inl (zA h27))), (a28, .inl (cI, 3604, .inl (zA h28)))]
set_option maxHeartbeats 4000000 in
set_option maxRecDepth 100000 in
theorem ctX5_best (l : Launch) (D : va_G) (cB cI cJ cY : ClassId) (m0 : Nat) (a6 : Nat) (a8 : Nat) (a10 : Nat) (a11 : Nat) (a12 : Nat) (a13 : Nat) (a14 : Nat) (a15 : Nat) (a17 : Nat) (a19 : Nat) (a20 : Nat) (a21 : Nat) (a22 : Nat) (a23 : Nat) (a24 : Nat) (a26 : Nat) (a27 : Nat) (a28 : Nat) (a35 : Nat) (a36 : Nat) (a37 : Nat) (a38 : Nat) (a39 : Nat) (a40 : Nat) (a41 : Nat) (a44 : Nat) (a45 : Nat) (z0 : Int) (z1 : Int) (z2 : Int) (z3 : Int) (z4 : Int) (z5 : Int) (z7 : Int) (z9 : Int) (z16 : Int) (z18 : Int) (z25 : Int) (z29 : Int) (z30 : Int) (z31 : Int) (z32 : Int) (z33 : Int) (z34 : Int) (z42 : Int) (z43 : Int) (g22 : Int → Int) (g23 : Int → Int) (g24 : Int → Int) (g26 : Int → Int) (g27 : Int → Int) (g28 : Int → Int) (i : Int) (c9 : Int) (hst : (4 ≤ z1 ∧ z1 ≤ 60) ∧ (1 ≤ z2 ∧ z2 ≤ 4) ∧ (0 ≤ z3 ∧ z3 ≤ 3) ∧ (0 ≤ z4 ∧ z4 ≤ 1000) ∧ (0 ≤ z5 ∧ z5 ≤ 1000)) (h22 : ∀ j : Int, 0 ≤ j ∧ j < 900 → 0 ≤ g22 j ∧ g22 j ≤ 23) (h23 : ∀ j : Int, 0 ≤ j ∧ j < 900 → g23 j = 0 ∨ g23 j = 1) (h24 : ∀ j : Int, 0 ≤ j ∧ j < 900 → g24 j = 0 ∨ g24 j = 1) (h26 : ∀ j : Int, 0 ≤ j ∧ j < 3604 → 0 ≤ g26 j ∧ g26 j ≤ 1152921504606846976) (h25 : 0 ≤ z25 ∧ z25 ≤ 900) (hi : 0 ≤ i ∧ i < z25) (hc9 : 0 ≤ c9 ∧ c9 < z2) (hfe : ∀ j c1 : Int, i < j → j < z25 → 0 ≤ c1 → c1 < z2 → g26 (4 * j + c1) < 1152921504606846976 → 1 ≤ g27 (4 * j + c1) ∧ g27 (4 * j + c1) ≤ z25 - j) : gM l yX5_best wsX5_best { frames := 0, cells := 0, slots := 0, locals := 0 } D (gT cB cI cJ cY) [.ref m0, .int (iZ i), .int (iZ c9)] [(m0, .inr (5, [.int (iZ z0), .int (iZ z1), .int (iZ z2), .int (iZ z3), .int (iZ z4), .int (iZ z5), .ref a6, .int (iZ z7), .ref a8, .int (iZ z9), .ref a10, .ref a11, .ref a12, .ref a13, .ref a14, .ref a15, .int (iZ z16), .ref a17, .int (iZ z18), .ref a19, .ref a20, .ref a21, .ref a22, .ref a23, .ref a24, .int (iZ z25), .ref a26, .ref a27, .ref a28, .int (iZ z29), .int (iZ z30), .int (iZ z31), .int (iZ z32), .int (iZ z33), .int (iZ z34), .ref a35, .ref a36, .ref a37, .ref a38, .ref a39, .ref a40, .ref a41, .int (iZ z42), .int (iZ z43), .ref a44, .ref a45])), (a22, .inl (cI, 900, .inl (zA g22))), (a23, .inl (cY, 900, .inl (zA g23))), (a24, .inl (cY, 900, .inl (zA g24))), (a26, .inl (cJ, 3604, .inr (.inl (lA g26)))), (a27, .inl (cI, 3604, .inl (zA g27))), (a28, .inl (cI, 3604, .inl (zA g28)))] 0 0 (qX5_best cB cI cJ cY m0 a6 a8 a10 a11 a12 a13 a14 a15 a17 a19 a20 a21 a22 a23 a24 a26 a27 a28 a35 a36 a37 a38 a39 a40 a41 a44 a45 z0 z1 z2 z3 z4 z5 z7 z9 z16 z18 z25 z29 z30 z31 z32 z33 z34 z42 z43 g22 g23 g24 g26 g27 g28 i c9) := by
  refine g_start (cc := cX5_best) (maxL := 11) (ret := none) (lv := [(0, .ref m0), (1, .int (iZ i)), (2, .int (iZ c9))]) (by decide) rfl (Nat.le_of_ble_eq_true rfl) rfl ?_
  intro p e s m args below meth c A X hr hnm
  have hin5 : ∀ w ∈ u_ws RX5 TX5 46, w ∈ wsX5_best := by decide +kernel
  refine g_iconst X dX5_best_0 ?_
  refine g_iload_n X 1 dX5_best_1 rfl rfl ?_
  refine g_imul X dX5_best_2 ?_
  refine g_iload_n X 2 dX5_best_3 rfl rfl ?_
  refine g_iadd X dX5_best_4 ?_
  refine g_istore_n (lv2 := [(3, .int (iZ ((4 * i) + c9))), (0, .ref m0), (1, .int (iZ i)), (2, .int (iZ c9))]) X dX5_best_5 rfl (by decide) rfl ?_
  refine g_aload_n X 1 dX5_best_6 rfl rfl ?_
  refine g_get X (index := 73) (ref := "GuideWordsModel") hin5 0 rfl rfl 26 (by decide) rfl (by decide +kernel) (v := .ref a26) rfl dX5_best_7 ?_
  refine g_iload_n X 0 dX5_best_10 rfl rfl ?_
  refine g_ldc2 (v := 1152921504606846976) (z := 1152921504606846976) X dX5_best_11 (by decide +kernel) rfl ?_
  refine g_last X 4 2 rfl rfl (by omega) (by decide) (ws2 := [(m0, .inr (5, [.int (iZ z0), .int (iZ z1), .int (iZ z2), .int (iZ z3), .int (iZ z4), .int (iZ z5), .ref a6, .int (iZ z7), .ref a8, .int (iZ z9), .ref a10, .ref a11, .ref a12, .ref a13, .ref a14, .ref a15, .int (iZ z16), .ref a17, .int (iZ z18), .ref a19, .ref a20, .ref a21, .ref a22, .ref a23, .ref a24, .int (iZ z25), .ref a26, .ref a27, .ref a28, .int (iZ z29), .int (iZ z30), .int (iZ z31), .int (iZ z32), .int (iZ z33), .int (iZ z34), .ref a35, .ref a36, .ref a37, .ref a38, .ref a39, .ref a40, .ref a41, .int (iZ z42), .int (iZ z43), .ref a44, .ref a45])), (a22, .inl (cI, 900, .inl (zA g22))), (a23, .inl (cY, 900, .inl (zA g23))), (a24, .inl (cY, 900, .inl (zA g24))), (a26, .inl (cJ, 3604, .inr (.inl (lA (upZ g26 ((4 * i) + c9) 1152921504606846976))))), (a27, .inl (cI, 3604, .inl (zA g27))), (a28, .inl (cI, 3604, .inl (zA g28)))]) rfl dX5_best_14 ?_
  refine g_iconst X dX5_best_15 ?_
  refine g_istore (lv2 := [(4, .int (iZ 0)), (3, .int (iZ ((4 * i) + c9))), (0, .ref m0), (1, .int (iZ i)), (2, .int (iZ c9))]) X dX5_best_16 (by decide) rfl ?_
  refine g_iload_n X 3 dX5_best_18 rfl rfl ?_
  refine g_iconst X dX5_best_19 ?_
  refine g_iadd X dX5_best_20 ?_
  refine g_istore (lv2 := [(5, .int (iZ (i + 1))), (4, .int (iZ 0)), (3, .int (iZ ((4 * i) + c9))), (0, .ref m0), (1, .int (iZ i)), (2, .int (iZ c9))]) X dX5_best_21 (by decide) rfl ?_
  refine g_eq (ws' := [(m0, .inr (5, [.int (iZ z0), .int (iZ z1), .int (iZ z2), .int (iZ z3), .int (iZ z4), .int (iZ z5), .ref a6, .int (iZ z7), .ref a8, .int (iZ z9), .ref a10, .ref a11, .ref a12, .ref a13, .ref a14, .ref a15, .int (iZ z16), .ref a17, .int (iZ z18), .ref a19, .ref a20, .ref a21, .ref a22, .ref a23, .ref a24, .int (iZ z25), .ref a26, .ref a27, .ref a28, .int (iZ z29), .int (iZ z30), .int (iZ z31), .int (iZ z32), .int (iZ z33), .int (iZ z34), .ref a35, .ref a36, .ref a37, .ref a38, .ref a39, .ref a40, .ref a41, .int (iZ z42), .int (iZ z43), .ref a44, .ref a45])), (a22, .inl (cI, 900, .inl (zA g22))), (a23, .inl (cY, 900, .inl (zA g23))), (a24, .inl (cY, 900, .inl (zA g24))), (a26, .inl (cJ, 3604, .inr (.inl (lA (upZ g26 (4 * i + c9) 1152921504606846976))))), (a27, .inl (cI, 3604, .inl (zA (upZ g27 (4 * i + c9) (g27 (4 * i + c9)))))), (a28, .inl (cI, 3604, .inl (zA (upZ g28 (4 * i + c9) (g28 (4 * i + c9))))))]) (by rw [upZ_same (f := g27) (k := (4 * i + c9)) rfl, upZ_same (f := g28) (k := (4 * i + c9)) rfl]) rfl rfl rfl ?_
  refine g_lv (lv' := [(0, .ref m0), (1, .int (iZ i)), (2, .int (iZ c9)), (3, .int (iZ ((4 * i) + c9))), (4, .int (iZ 0)), (5, .int (iZ (i + 1)))]) [3, 4, 5, 2, 1, 0] rfl ?_
  have loop_23 : ∀ (kf : Nat) (v : Int) (n0 : Int) (e0 : Int) (ln : Int) (j : Int), (hj : i + 1 ≤ j ∧ j ≤ z25 + 1) → (hln : 0 ≤ ln ∧ ln ≤ z1) → (hv : 0 ≤ v ∧ v ≤ 1152921504606846976) → (hne : v < 1152921504606846976 → (1 ≤ n0 ∧ n0 ≤ z25 - i) ∧ (i < e0 ∧ e0 ≤ z25)) → (hb : btR z1 z2 z4 z5 g22 g23 g24 g26 g27 z25 c9 (z25 + 1 - j).toNat j ln v n0 e0 = btF z1 z2 z4 z5 g22 g23 g24 g26 g27 g28 z25 i c9) → (z25 + 1 - j).toNat < kf → gW p l e { frames := 0, cells := 0, slots := 0, locals := 0 } s m args below meth c D A 11 0 0 (MQ below (gQ D (gT cB cI cJ cY) (qX5_best cB cI cJ cY m0 a6 a8 a10 a11 a12 a13 a14 a15 a17 a19 a20 a21 a22 a23 a24 a26 a27 a28 a35 a36 a37 a38 a39 a40 a41 a44 a45 z0 z1 z2 z3 z4 z5 z7 z9 z16 z18 z25 z29 z30 z31 z32 z33 z34 z42 z43 g22 g23 g24 g26 g27 g28 i c9) A) args s 0 0 A) [(m0, .inr (5, [.int (iZ z0), .int (iZ z1), .int (iZ z2), .int (iZ z3), .int (iZ z4), .int (iZ z5), .ref a6, .int (iZ z7), .ref a8, .int (iZ z9), .ref a10, .ref a11, .ref a12, .ref a13, .ref a14, .ref a15, .int (iZ z16), .ref a17, .int (iZ z18), .ref a19, .ref a20, .ref a21, .ref a22, .ref a23, .ref a24, .int (iZ z25), .ref a26, .ref a27, .ref a28, .int (iZ z29), .int (iZ z30), .int (iZ z31), .int (iZ z32), .int (iZ z33), .int (iZ z34), .ref a35, .ref a36, .ref a37, .ref a38, .ref a39, .ref a40, .ref a41, .int (iZ z42), .int (iZ z43), .ref a44, .ref a45])), (a22, .inl (cI, 900, .inl (zA g22))), (a23, .inl (cY, 900, .inl (zA g23))), (a24, .inl (cY, 900, .inl (zA g24))), (a26, .inl (cJ, 3604, .inr (.inl (lA (upZ g26 (4 * i + c9) v))))), (a27, .inl (cI, 3604, .inl (zA (upZ g27 (4 * i + c9) n0)))), (a28, .inl (cI, 3604, .inl (zA (upZ g28 (4 * i + c9) e0))))] 23 [(0, .ref m0), (1, .int (iZ i)), (2, .int (iZ c9)), (3, .int (iZ ((4 * i) + c9))), (4, .int (iZ ln)), (5, .int (iZ j))] [] := by
    intro kf
    induction kf with
    | zero => intro v n0 e0 ln j hj hln hv hne hb hm; exact absurd hm (Nat.not_lt_zero _)
    | succ kf ih_23 =>
      intro v n0 e0 ln j hj hln hv hne hb hm
      refine g_iload X 5 dX5_best_23 rfl ?_
      refine g_aload_n X 0 dX5_best_25 rfl rfl ?_
      refine g_get X (index := 158) (ref := "GuideWordsModel") hin5 0 rfl rfl 25 (by decide) rfl (by decide +kernel) (v := .int (iZ z25)) rfl dX5_best_26 ?_
      refine g_icmp_gt X 263 dX5_best_29 (by decide) (by omega) (by omega) (fun c_29 => ?_) (fun c_29 => ?_)
      · skip
        have hres : btF z1 z2 z4 z5 g22 g23 g24 g26 g27 g28 z25 i c9 = (v, n0, e0) := by rw [← hb, show (z25 + 1 - j).toNat = 0 by omega]; rfl
        exact g_vret X hr (by decide) (by decide) dX5_best_263 ⟨_, _, _, rfl, by rw [hres], by rw [hres], by rw [hres], by rw [hres]; exact hv, by rw [hres]; exact hne, rfl⟩
      · skip
        have hk1 : (z25 + 1 - j).toNat = (z25 + 1 - (j + 1)).toNat + 1 := by omega
        rw [hk1, btR_s z1 z2 z4 z5 g22 g23 g24 g26 g27 z25 c9 (z25 + 1 - (j + 1)).toNat j ln v n0 e0] at hb
        refine g_iload X 4 dX5_best_32 rfl ?_
        refine g_aload_n X 0 dX5_best_34 rfl rfl ?_
        refine g_get X (index := 64) (ref := "GuideWordsModel") hin5 0 rfl rfl 22 (by decide) rfl (by decide +kernel) (v := .ref a22) rfl dX5_best_35 ?_
        refine g_iload X 5 dX5_best_38 rfl ?_
        refine g_iconst X dX5_best_40 ?_
        refine g_isub X dX5_best_41 ?_
        refine g_iald X 1 1 rfl rfl (by omega) (by decide) dX5_best_42 ?_
        have r_42 := h22 (j - 1) (by omega)
        refine g_iadd X dX5_best_43 ?_
        refine g_istore (lv2 := [(4, .int (iZ (ln + (g22 (j - 1))))), (0, .ref m0), (1, .int (iZ i)), (2, .int (iZ c9)), (3, .int (iZ ((4 * i) + c9))), (5, .int (iZ j))]) X dX5_best_44 (by decide) rfl ?_
        refine g_iload X 0 dX5_best_46 rfl ?_
        refine g_aload_n X 1 dX5_best_48 rfl rfl ?_
        refine g_get X (index := 7) (ref := "GuideWordsModel") hin5 0 rfl rfl 1 (by decide) rfl (by decide +kernel) (v := .int (iZ z1)) rfl dX5_best_49 ?_
        refine g_icmp_le X 56 dX5_best_52 (by decide) (by omega) (by omega) (fun c_52 => ?_) (fun c_52 => ?_)
        · skip
          rw [if_neg (by omega)] at hb
          refine g_iload X 5 dX5_best_56 rfl ?_
          refine g_aload_n X 1 dX5_best_58 rfl rfl ?_
          refine g_get X (index := 158) (ref := "GuideWordsModel") hin5 0 rfl rfl 25 (by decide) rfl (by decide +kernel) (v := .int (iZ z25)) rfl dX5_best_59 ?_
          refine g_icmp_ge X 80 dX5_best_62 (by decide) (by omega) (by omega) (fun c_62 => ?_) (fun c_62 => ?_)
          · skip
            refine g_lconst (z := 0) X dX5_best_80 rfl ?_
            refine g_lstore (lv2 := [(6, .long (lZ 0)), (4, .int (iZ (ln + (g22 (j - 1))))), (0, .ref m0), (1, .int (iZ i)), (2, .int (iZ c9)), (3, .int (iZ ((4 * i) + c9))), (5, .int (iZ j))]) X dX5_best_81 (by decide) rfl ?_
            refine g_iconst X dX5_best_83 ?_
            refine g_istore (lv2 := [(8, .int (iZ 1)), (6, .long (lZ 0)), (4, .int (iZ (ln + (g22 (j - 1))))), (0, .ref m0), (1, .int (iZ i)), (2, .int (iZ c9)), (3, .int (iZ ((4 * i) + c9))), (5, .int (iZ j))]) X dX5_best_84 (by decide) rfl ?_
            refine g_iload X 7 dX5_best_86 rfl ?_
            refine g_aload_n X 3 dX5_best_88 rfl rfl ?_
            refine g_get X (index := 158) (ref := "GuideWordsModel") hin5 0 rfl rfl 25 (by decide) rfl (by decide +kernel) (v := .int (iZ z25)) rfl dX5_best_89 ?_
            refine g_icmp_ge X 186 dX5_best_92 (by decide) (by omega) (by omega) (fun c_92 => ?_) (fun c_92 => ?_)
            · skip
              have hV : 0 = vvM z1 z2 z4 z5 g24 g26 z25 c9 j (ln + g22 (j - 1)) := by
                unfold vvM
                first
                | (rw [if_neg (by omega)]; done)
                | (rw [if_pos (by omega), if_pos c_133]; done)
                | (rw [if_pos (by omega), if_neg (by omega), if_pos c_151]; done)
                | (rw [if_pos (by omega), if_neg (by omega), if_neg c_151]; done)
              have hN : 1 = nnM z2 g27 z25 c9 j := by
                unfold nnM; first | (rw [if_neg (by omega)]; done) | (rw [if_pos (by omega)]; done)
              rw [if_neg (fun q => by have q2 := q.2; omega)] at hb
              have hnr : 0 < 1152921504606846976 → 1 ≤ 1 ∧ 1 ≤ z25 - i := fun h => by
                first
                | omega
                | (have q := hfe j ((c9 + 1) % z2) (by omega) (by omega) hmr hmr2 (by omega); omega)
              refine g_lload X 1 dX5_best_186 rfl ?_
              refine g_ldc2 (v := 1152921504606846976) (z := 1152921504606846976) X dX5_best_188 (by decide +kernel) rfl ?_
              refine g_lcmp X dX5_best_191 (by omega) (by omega) ?_
              refine g_if_ge X 257 dX5_best_192 (by decide) (by have := cmpZ_rng (0) (1152921504606846976); omega) (fun c_192 => ?_) (fun c_192 => ?_)
              · skip
                have c_192 : 1152921504606846976 ≤ 0 := by have h9 := @cmpZ_lt (0) (1152921504606846976); omega
                have hb2 := hb
                rw [if_pos (Or.inl (by omega))] at hb2
                refine g_iinc (q := 7) (lv2 := [(5, .int (iZ (j + 1))), (8, .int (iZ 1)), (6, .long (lZ 0)), (4, .int (iZ (ln + (g22 (j - 1))))), (0, .ref m0), (1, .int (iZ i)), (2, .int (iZ c9)), (3, .int (iZ ((4 * i) + c9)))]) X dX5_best_257 rfl (by decide) rfl ?_
                refine g_goto X 23 dX5_best_260 (by decide) ?_
                refine g_lv (lv' := [(0, .ref m0), (1, .int (iZ i)), (2, .int (iZ c9)), (3, .int (iZ ((4 * i) + c9))), (4, .int (iZ (ln + (g22 (j - 1))))), (5, .int (iZ (j + 1)))]) [4, 5, 6, 7, 3, 0] rfl ?_
                exact ih_23 v n0 e0 (ln + (g22 (j - 1))) (j + 1) (by omega) (by omega) (by omega) (fun h => by first | exact hne h | omega) hb2 (by omega)
              · skip
                have c_192 : 0 < 1152921504606846976 := by have h9 := @cmpZ_lt (0) (1152921504606846976); omega
                have hnr2 := hnr (by omega)
                refine g_lload X 1 dX5_best_195 rfl ?_
                refine g_aload_n X 3 dX5_best_197 rfl rfl ?_
                refine g_get X (index := 73) (ref := "GuideWordsModel") hin5 0 rfl rfl 26 (by decide) rfl (by decide +kernel) (v := .ref a26) rfl dX5_best_198 ?_
                refine g_iload_n X 6 dX5_best_201 rfl rfl ?_
                refine g_lald X 4 2 rfl rfl (by omega) (by decide) dX5_best_202 ?_
                refine g_topl (b := v) upZ_s ?_
                refine g_lcmp X dX5_best_203 (by omega) (by omega) ?_
                refine g_if_gt X 257 dX5_best_204 (by decide) (by have := cmpZ_rng (0) (v); omega) (fun c_204 => ?_) (fun c_204 => ?_)
                · skip
                  have c_204 : v < 0 := by have h9 := @cmpZ_le (0) (v); omega
                  have hb2 := hb
                  rw [if_pos (Or.inr (Or.inl (by omega)))] at hb2
                  refine g_iinc (q := 7) (lv2 := [(5, .int (iZ (j + 1))), (8, .int (iZ 1)), (6, .long (lZ 0)), (4, .int (iZ (ln + (g22 (j - 1))))), (0, .ref m0), (1, .int (iZ i)), (2, .int (iZ c9)), (3, .int (iZ ((4 * i) + c9)))]) X dX5_best_257 rfl (by decide) rfl ?_
                  refine g_goto X 23 dX5_best_260 (by decide) ?_
                  refine g_lv (lv' := [(0, .ref m0), (1, .int (iZ i)), (2, .int (iZ c9)), (3, .int (iZ ((4 * i) + c9))), (4, .int (iZ (ln + (g22 (j - 1))))), (5, .int (iZ (j + 1)))]) [4, 5, 6, 7, 3, 0] rfl ?_
                  exact ih_23 v n0 e0 (ln + (g22 (j - 1))) (j + 1) (by omega) (by omega) (by omega) (fun h => by first | exact hne h | omega) hb2 (by omega)
                · skip
                  have c_204 : 0 ≤ v := by have h9 := @cmpZ_le (0) (v); omega
                  refine g_lload X 1 dX5_best_207 rfl ?_
                  refine g_aload_n X 3 dX5_best_209 rfl rfl ?_
                  refine g_get X (index := 73) (ref := "GuideWordsModel") hin5 0 rfl rfl 26 (by decide) rfl (by decide +kernel) (v := .ref a26) rfl dX5_best_210 ?_
                  refine g_iload_n X 6 dX5_best_213 rfl rfl ?_
                  refine g_lald X 4 2 rfl rfl (by omega) (by decide) dX5_best_214 ?_
                  refine g_topl (b := v) upZ_s ?_
                  refine g_lcmp X dX5_best_215 (by omega) (by omega) ?_
                  refine g_if_ne X 233 dX5_best_216 (by decide) (by have := cmpZ_rng (0) (v); omega) (fun c_216 => ?_) (fun c_216 => ?_)
                  · skip
                    have c_216 : ¬ 0 = v := by have h9 := @cmpZ_eq (0) (v); omega
                    have hb2 := hb
                    rw [if_neg (by omega), ← hV, ← hN] at hb2
                    refine g_aload_n X 3 dX5_best_233 rfl rfl ?_
                    refine g_get X (index := 73) (ref := "GuideWordsModel") hin5 0 rfl rfl 26 (by decide) rfl (by decide +kernel) (v := .ref a26) rfl dX5_best_234 ?_
                    refine g_iload_n X 6 dX5_best_237 rfl rfl ?_
                    refine g_lload X 1 dX5_best_238 rfl ?_
                    refine g_last X 4 2 rfl rfl (by omega) (by decide) (ws2 := [(m0, .inr (5, [.int (iZ z0), .int (iZ z1), .int (iZ z2), .int (iZ z3), .int (iZ z4), .int (iZ z5), .ref a6, .int (iZ z7), .ref a8, .int (iZ z9), .ref a10, .ref a11, .ref a12, .ref a13, .ref a14, .ref a15, .int (iZ z16), .ref a17, .int (iZ z18), .ref a19, .ref a20, .ref a21, .ref a22, .ref a23, .ref a24, .int (iZ z25), .ref a26, .ref a27, .ref a28, .int (iZ z29), .int (iZ z30), .int (iZ z31), .int (iZ z32), .int (iZ z33), .int (iZ z34), .ref a35, .ref a36, .ref a37, .ref a38, .ref a39, .ref a40, .ref a41, .int (iZ z42), .int (iZ z43), .ref a44, .ref a45])), (a22, .inl (cI, 900, .inl (zA g22))), (a23, .inl (cY, 900, .inl (zA g23))), (a24, .inl (cY, 900, .inl (zA g24))), (a26, .inl (cJ, 3604, .inr (.inl (lA (upZ (upZ g26 (4 * i + c9) v) ((4 * i) + c9) 0))))), (a27, .inl (cI, 3604, .inl (zA (upZ g27 (4 * i + c9) n0)))), (a28, .inl (cI, 3604, .inl (zA (upZ g28 (4 * i + c9) e0))))]) rfl dX5_best_240 ?_
                    refine g_aload_n X 3 dX5_best_241 rfl rfl ?_
                    refine g_get X (index := 77) (ref := "GuideWordsModel") hin5 0 rfl rfl 27 (by decide) rfl (by decide +kernel) (v := .ref a27) rfl dX5_best_242 ?_
                    refine g_iload_n X 6 dX5_best_245 rfl rfl ?_
                    refine g_iload X 0 dX5_best_246 rfl ?_
                    refine g_iast X 5 1 rfl rfl (by omega) (by decide) (ws2 := [(m0, .inr (5, [.int (iZ z0), .int (iZ z1), .int (iZ z2), .int (iZ z3), .int (iZ z4), .int (iZ z5), .ref a6, .int (iZ z7), .ref a8, .int (iZ z9), .ref a10, .ref a11, .ref a12, .ref a13, .ref a14, .ref a15, .int (iZ z16), .ref a17, .int (iZ z18), .ref a19, .ref a20, .ref a21, .ref a22, .ref a23, .ref a24, .int (iZ z25), .ref a26, .ref a27, .ref a28, .int (iZ z29), .int (iZ z30), .int (iZ z31), .int (iZ z32), .int (iZ z33), .int (iZ z34), .ref a35, .ref a36, .ref a37, .ref a38, .ref a39, .ref a40, .ref a41, .int (iZ z42), .int (iZ z43), .ref a44, .ref a45])), (a22, .inl (cI, 900, .inl (zA g22))), (a23, .inl (cY, 900, .inl (zA g23))), (a24, .inl (cY, 900, .inl (zA g24))), (a26, .inl (cJ, 3604, .inr (.inl (lA (upZ (upZ g26 (4 * i + c9) v) ((4 * i) + c9) 0))))), (a27, .inl (cI, 3604, .inl (zA (upZ (upZ g27 (4 * i + c9) n0) ((4 * i) + c9) 1)))), (a28, .inl (cI, 3604, .inl (zA (upZ g28 (4 * i + c9) e0))))]) rfl dX5_best_248 ?_
                    refine g_aload_n X 3 dX5_best_249 rfl rfl ?_
                    refine g_get X (index := 80) (ref := "GuideWordsModel") hin5 0 rfl rfl 28 (by decide) rfl (by decide +kernel) (v := .ref a28) rfl dX5_best_250 ?_
                    refine g_iload_n X 6 dX5_best_253 rfl rfl ?_
                    refine g_iload X 7 dX5_best_254 rfl ?_
                    refine g_iast X 6 1 rfl rfl (by omega) (by decide) (ws2 := [(m0, .inr (5, [.int (iZ z0), .int (iZ z1), .int (iZ z2), .int (iZ z3), .int (iZ z4), .int (iZ z5), .ref a6, .int (iZ z7), .ref a8, .int (iZ z9), .ref a10, .ref a11, .ref a12, .ref a13, .ref a14, .ref a15, .int (iZ z16), .ref a17, .int (iZ z18), .ref a19, .ref a20, .ref a21, .ref a22, .ref a23, .ref a24, .int (iZ z25), .ref a26, .ref a27, .ref a28, .int (iZ z29), .int (iZ z30), .int (iZ z31), .int (iZ z32), .int (iZ z33), .int (iZ z34), .ref a35, .ref a36, .ref a37, .ref a38, .ref a39, .ref a40, .ref a41, .int (iZ z42), .int (iZ z43), .ref a44, .ref a45])), (a22, .inl (cI, 900, .inl (zA g22))), (a23, .inl (cY, 900, .inl (zA g23))), (a24, .inl (cY, 900, .inl (zA g24))), (a26, .inl (cJ, 3604, .inr (.inl (lA (upZ (upZ g26 (4 * i + c9) v) ((4 * i) + c9) 0))))), (a27, .inl (cI, 3604, .inl (zA (upZ (upZ g27 (4 * i + c9) n0) ((4 * i) + c9) 1)))), (a28, .inl (cI, 3604, .inl (zA (upZ (upZ g28 (4 * i + c9) e0) ((4 * i) + c9) j))))]) rfl dX5_best_256 ?_
                    refine g_iinc (q := 7) (lv2 := [(5, .int (iZ (j + 1))), (8, .int (iZ 1)), (6, .long (lZ 0)), (4, .int (iZ (ln + (g22 (j - 1))))), (0, .ref m0), (1, .int (iZ i)), (2, .int (iZ c9)), (3, .int (iZ ((4 * i) + c9)))]) X dX5_best_257 rfl (by decide) rfl ?_
                    refine g_goto X 23 dX5_best_260 (by decide) ?_
                    refine g_eq (ws' := [(m0, .inr (5, [.int (iZ z0), .int (iZ z1), .int (iZ z2), .int (iZ z3), .int (iZ z4), .int (iZ z5), .ref a6, .int (iZ z7), .ref a8, .int (iZ z9), .ref a10, .ref a11, .ref a12, .ref a13, .ref a14, .ref a15, .int (iZ z16), .ref a17, .int (iZ z18), .ref a19, .ref a20, .ref a21, .ref a22, .ref a23, .ref a24, .int (iZ z25), .ref a26, .ref a27, .ref a28, .int (iZ z29), .int (iZ z30), .int (iZ z31), .int (iZ z32), .int (iZ z33), .int (iZ z34), .ref a35, .ref a36, .ref a37, .ref a38, .ref a39, .ref a40, .ref a41, .int (iZ z42), .int (iZ z43), .ref a44, .ref a45])), (a22, .inl (cI, 900, .inl (zA g22))), (a23, .inl (cY, 900, .inl (zA g23))), (a24, .inl (cY, 900, .inl (zA g24))), (a26, .inl (cJ, 3604, .inr (.inl (lA (upZ g26 (4 * i + c9) 0))))), (a27, .inl (cI, 3604, .inl (zA (upZ g27 (4 * i + c9) 1)))), (a28, .inl (cI, 3604, .inl (zA (upZ g28 (4 * i + c9) j))))]) (by rw [upZ_uu, upZ_uu, upZ_uu]) rfl rfl rfl ?_
                    refine g_lv (lv' := [(0, .ref m0), (1, .int (iZ i)), (2, .int (iZ c9)), (3, .int (iZ ((4 * i) + c9))), (4, .int (iZ (ln + (g22 (j - 1))))), (5, .int (iZ (j + 1)))]) [4, 5, 6, 7, 3, 0] rfl ?_
                    exact ih_23 0 1 j (ln + (g22 (j - 1))) (j + 1) (by omega) (by omega) (by omega) (fun h => by first | exact hne h | omega) hb2 (by omega)
                  · skip
                    have c_216 : 0 = v := by have h9 := @cmpZ_eq (0) (v); omega
                    refine g_iload X 0 dX5_best_219 rfl ?_
                    refine g_aload_n X 3 dX5_best_221 rfl rfl ?_
                    refine g_get X (index := 77) (ref := "GuideWordsModel") hin5 0 rfl rfl 27 (by decide) rfl (by decide +kernel) (v := .ref a27) rfl dX5_best_222 ?_
                    refine g_iload_n X 6 dX5_best_225 rfl rfl ?_
                    refine g_iald X 5 1 rfl rfl (by omega) (by decide) dX5_best_226 ?_
                    refine g_topi (b := n0) upZ_s ?_
                    refine g_icmp_le X 233 dX5_best_227 (by decide) (by omega) (by have := hne (by omega); omega) (fun c_227 => ?_) (fun c_227 => ?_)
                    · skip
                      have hb2 := hb
                      rw [if_neg (by omega), ← hV, ← hN] at hb2
                      refine g_aload_n X 3 dX5_best_233 rfl rfl ?_
                      refine g_get X (index := 73) (ref := "GuideWordsModel") hin5 0 rfl rfl 26 (by decide) rfl (by decide +kernel) (v := .ref a26) rfl dX5_best_234 ?_
                      refine g_iload_n X 6 dX5_best_237 rfl rfl ?_
                      refine g_lload X 1 dX5_best_238 rfl ?_
                      refine g_last X 4 2 rfl rfl (by omega) (by decide) (ws2 := [(m0, .inr (5, [.int (iZ z0), .int (iZ z1), .int (iZ z2), .int (iZ z3), .int (iZ z4), .int (iZ z5), .ref a6, .int (iZ z7), .ref a8, .int (iZ z9), .ref a10, .ref a11, .ref a12, .ref a13, .ref a14, .ref a15, .int (iZ z16), .ref a17, .int (iZ z18), .ref a19, .ref a20, .ref a21, .ref a22, .ref a23, .ref a24, .int (iZ z25), .ref a26, .ref a27, .ref a28, .int (iZ z29), .int (iZ z30), .int (iZ z31), .int (iZ z32), .int (iZ z33), .int (iZ z34), .ref a35, .ref a36, .ref a37, .ref a38, .ref a39, .ref a40, .ref a41, .int (iZ z42), .int (iZ z43), .ref a44, .ref a45])), (a22, .inl (cI, 900, .inl (zA g22))), (a23, .inl (cY, 900, .inl (zA g23))), (a24, .inl (cY, 900, .inl (zA g24))), (a26, .inl (cJ, 3604, .inr (.inl (lA (upZ (upZ g26 (4 * i + c9) v) ((4 * i) + c9) 0))))), (a27, .inl (cI, 3604, .inl (zA (upZ g27 (4 * i + c9) n0)))), (a28, .inl (cI, 3604, .inl (zA (upZ g28 (4 * i + c9) e0))))]) rfl dX5_best_240 ?_
                      refine g_aload_n X 3 dX5_best_241 rfl rfl ?_
                      refine g_get X (index := 77) (ref := "GuideWordsModel") hin5 0 rfl rfl 27 (by decide) rfl (by decide +kernel) (v := .ref a27) rfl dX5_best_242 ?_
                      refine g_iload_n X 6 dX5_best_245 rfl rfl ?_
                      refine g_iload X 0 dX5_best_246 rfl ?_
                      refine g_iast X 5 1 rfl rfl (by omega) (by decide) (ws2 := [(m0, .inr (5, [.int (iZ z0), .int (iZ z1), .int (iZ z2), .int (iZ z3), .int (iZ z4), .int (iZ z5), .ref a6, .int (iZ z7), .ref a8, .int (iZ z9), .ref a10, .ref a11, .ref a12, .ref a13, .ref a14, .ref a15, .int (iZ z16), .ref a17, .int (iZ z18), .ref a19, .ref a20, .ref a21, .ref a22, .ref a23, .ref a24, .int (iZ z25), .ref a26, .ref a27, .ref a28, .int (iZ z29), .int (iZ z30), .int (iZ z31), .int (iZ z32), .int (iZ z33), .int (iZ z34), .ref a35, .ref a36, .ref a37, .ref a38, .ref a39, .ref a40, .ref a41, .int (iZ z42), .int (iZ z43), .ref a44, .ref a45])), (a22, .inl (cI, 900, .inl (zA g22))), (a23, .inl (cY, 900, .inl (zA g23))), (a24, .inl (cY, 900, .inl (zA g24))), (a26, .inl (cJ, 3604, .inr (.inl (lA (upZ (upZ g26 (4 * i + c9) v) ((4 * i) + c9) 0))))), (a27, .inl (cI, 3604, .inl (zA (upZ (upZ g27 (4 * i + c9) n0) ((4 * i) + c9) 1)))), (a28, .inl (cI, 3604, .inl (zA (upZ g28 (4 * i + c9) e0))))]) rfl dX5_best_248 ?_
                      refine g_aload_n X 3 dX5_best_249 rfl rfl ?_
                      refine g_get X (index := 80) (ref := "GuideWordsModel") hin5 0 rfl rfl 28 (by decide) rfl (by decide +kernel) (v := .ref a28) rfl dX5_best_250 ?_
                      refine g_iload_n X 6 dX5_best_253 rfl rfl ?_
                      refine g_iload X 7 dX5_best_254 rfl ?_
                      refine g_iast X 6 1 rfl rfl (by omega) (by decide) (ws2 := [(m0, .inr (5, [.int (iZ z0), .int (iZ z1), .int (iZ z2), .int (iZ z3), .int (iZ z4), .int (iZ z5), .ref a6, .int (iZ z7), .ref a8, .int (iZ z9), .ref a10, .ref a11, .ref a12, .ref a13, .ref a14, .ref a15, .int (iZ z16), .ref a17, .int (iZ z18), .ref a19, .ref a20, .ref a21, .ref a22, .ref a23, .ref a24, .int (iZ z25), .ref a26, .ref a27, .ref a28, .int (iZ z29), .int (iZ z30), .int (iZ z31), .int (iZ z32), .int (iZ z33), .int (iZ z34), .ref a35, .ref a36, .ref a37, .ref a38, .ref a39, .ref a40, .ref a41, .int (iZ z42), .int (iZ z43), .ref a44, .ref a45])), (a22, .inl (cI, 900, .inl (zA g22))), (a23, .inl (cY, 900, .inl (zA g23))), (a24, .inl (cY, 900, .inl (zA g24))), (a26, .inl (cJ, 3604, .inr (.inl (lA (upZ (upZ g26 (4 * i + c9) v) ((4 * i) + c9) 0))))), (a27, .inl (cI, 3604, .inl (zA (upZ (upZ g27 (4 * i + c9) n0) ((4 * i) + c9) 1)))), (a28, .inl (cI, 3604, .inl (zA (upZ (upZ g28 (4 * i + c9) e0) ((4 * i) + c9) j))))]) rfl dX5_best_256 ?_
                      refine g_iinc (q := 7) (lv2 := [(5, .int (iZ (j + 1))), (8, .int (iZ 1)), (6, .long (lZ 0)), (4, .int (iZ (ln + (g22 (j - 1))))), (0, .ref m0), (1, .int (iZ i)), (2, .int (iZ c9)), (3, .int (iZ ((4 * i) + c9)))]) X dX5_best_257 rfl (by decide) rfl ?_
                      refine g_goto X 23 dX5_best_260 (by decide) ?_
                      refine g_eq (ws' := [(m0, .inr (5, [.int (iZ z0), .int (iZ z1), .int (iZ z2), .int (iZ z3), .int (iZ z4), .int (iZ z5), .ref a6, .int (iZ z7), .ref a8, .int (iZ z9), .ref a10, .ref a11, .ref a12, .ref a13, .ref a14, .ref a15, .int (iZ z16), .ref a17, .int (iZ z18), .ref a19, .ref a20, .ref a21, .ref a22, .ref a23, .ref a24, .int (iZ z25), .ref a26, .ref a27, .ref a28, .int (iZ z29), .int (iZ z30), .int (iZ z31), .int (iZ z32), .int (iZ z33), .int (iZ z34), .ref a35, .ref a36, .ref a37, .ref a38, .ref a39, .ref a40, .ref a41, .int (iZ z42), .int (iZ z43), .ref a44, .ref a45])), (a22, .inl (cI, 900, .inl (zA g22))), (a23, .inl (cY, 900, .inl (zA g23))), (a24, .inl (cY, 900, .inl (zA g24))), (a26, .inl (cJ, 3604, .inr (.inl (lA (upZ g26 (4 * i + c9) 0))))), (a27, .inl (cI, 3604, .inl (zA (upZ g27 (4 * i + c9) 1)))), (a28, .inl (cI, 3604, .inl (zA (upZ g28 (4 * i + c9) j))))]) (by rw [upZ_uu, upZ_uu, upZ_uu]) rfl rfl rfl ?_
                      refine g_lv (lv' := [(0, .ref m0), (1, .int (iZ i)), (2, .int (iZ c9)), (3, .int (iZ ((4 * i) + c9))), (4, .int (iZ (ln + (g22 (j - 1))))), (5, .int (iZ (j + 1)))]) [4, 5, 6, 7, 3, 0] rfl ?_
                      exact ih_23 0 1 j (ln + (g22 (j - 1))) (j + 1) (by omega) (by omega) (by omega) (fun h => by first | exact hne h | omega) hb2 (by omega)
                    · skip
                      have hb2 := hb
                      rw [if_pos (Or.inr (Or.inr ⟨by omega, by omega⟩))] at hb2
                      refine g_goto X 257 dX5_best_230 (by decide) ?_
                      refine g_iinc (q := 7) (lv2 := [(5, .int (iZ (j + 1))), (8, .int (iZ 1)), (6, .long (lZ 0)), (4, .int (iZ (ln + (g22 (j - 1))))), (0, .ref m0), (1, .int (iZ i)), (2, .int (iZ c9)), (3, .int (iZ ((4 * i) + c9)))]) X dX5_best_257 rfl (by decide) rfl ?_
                      refine g_goto X 23 dX5_best_260 (by decide) ?_
                      refine g_lv (lv' := [(0, .ref m0), (1, .int (iZ i)), (2, .int (iZ c9)), (3, .int (iZ ((4 * i) + c9))), (4, .int (iZ (ln + (g22 (j - 1))))), (5, .int (iZ (j + 1)))]) [4, 5, 6, 7, 3, 0] rfl ?_
                      exact ih_23 v n0 e0 (ln + (g22 (j - 1))) (j + 1) (by omega) (by omega) (by omega) (fun h => by first | exact hne h | omega) hb2 (by omega)
            · skip
              have hmr := Int.emod_nonneg (c9 + 1) (show z2 ≠ 0 by omega)
              have hmr2 := Int.emod_lt_of_pos (c9 + 1) (show 0 < z2 by omega)
              refine g_iconst X dX5_best_95 ?_
              refine g_iload X 7 dX5_best_96 rfl ?_
              refine g_imul X dX5_best_98 ?_
              refine g_iload_n X 5 dX5_best_99 rfl rfl ?_
              refine g_iconst X dX5_best_100 ?_
              refine g_iadd X dX5_best_101 ?_
              refine g_aload_n X 3 dX5_best_102 rfl rfl ?_
              refine g_get X (index := 13) (ref := "GuideWordsModel") hin5 0 rfl rfl 2 (by decide) rfl (by decide +kernel) (v := .int (iZ z2)) rfl dX5_best_103 ?_
              refine g_irem X dX5_best_106 (by omega) (by omega) ?_
              refine g_iadd X dX5_best_107 ?_
              refine g_istore (lv2 := [(9, .int (iZ ((4 * j) + ((c9 + 1) % z2)))), (8, .int (iZ 1)), (6, .long (lZ 0)), (4, .int (iZ (ln + (g22 (j - 1))))), (0, .ref m0), (1, .int (iZ i)), (2, .int (iZ c9)), (3, .int (iZ ((4 * i) + c9))), (5, .int (iZ j))]) X dX5_best_108 (by decide) rfl ?_
              refine g_aload_n X 4 dX5_best_110 rfl rfl ?_
              refine g_get X (index := 7) (ref := "GuideWordsModel") hin5 0 rfl rfl 1 (by decide) rfl (by decide +kernel) (v := .int (iZ z1)) rfl dX5_best_111 ?_
              refine g_iload X 3 dX5_best_114 rfl ?_
              refine g_isub X dX5_best_116 ?_
              refine g_istore (lv2 := [(10, .int (iZ (z1 - (ln + (g22 (j - 1)))))), (9, .int (iZ ((4 * j) + ((c9 + 1) % z2)))), (8, .int (iZ 1)), (6, .long (lZ 0)), (4, .int (iZ (ln + (g22 (j - 1))))), (0, .ref m0), (1, .int (iZ i)), (2, .int (iZ c9)), (3, .int (iZ ((4 * i) + c9))), (5, .int (iZ j))]) X dX5_best_117 (by decide) rfl ?_
              have hsq := sq_rng (a := z1 - (ln + g22 (j - 1))) (by omega)
              refine g_iload X 0 dX5_best_119 rfl ?_
              refine g_iload X 0 dX5_best_121 rfl ?_
              refine g_imul X dX5_best_123 ?_
              refine g_aload_n X 5 dX5_best_124 rfl rfl ?_
              refine g_get X (index := 70) (ref := "GuideWordsModel") hin5 0 rfl rfl 24 (by decide) rfl (by decide +kernel) (v := .ref a24) rfl dX5_best_125 ?_
              refine g_iload X 9 dX5_best_128 rfl ?_
              refine g_iconst X dX5_best_130 ?_
              refine g_isub X dX5_best_131 ?_
              refine g_zald X 3 3 rfl rfl (by omega) (by decide) dX5_best_132 ?_
              have r_132 := h24 (j - 1) (by omega)
              refine g_if_eq X 140 dX5_best_133 (by decide) (by have := h24 (j - 1) (by omega); omega) (fun c_133 => ?_) (fun c_133 => ?_)
              · skip
                refine g_aload_n X 5 dX5_best_140 rfl rfl ?_
                refine g_get X (index := 19) (ref := "GuideWordsModel") hin5 0 rfl rfl 4 (by decide) rfl (by decide +kernel) (v := .int (iZ z4)) rfl dX5_best_141 ?_
                refine g_iload_n X 7 dX5_best_144 rfl rfl ?_
                refine g_aload_n X 5 dX5_best_145 rfl rfl ?_
                refine g_get X (index := 13) (ref := "GuideWordsModel") hin5 0 rfl rfl 2 (by decide) rfl (by decide +kernel) (v := .int (iZ z2)) rfl dX5_best_146 ?_
                refine g_iconst X dX5_best_149 ?_
                refine g_isub X dX5_best_150 ?_
                refine g_icmp_ne X 161 dX5_best_151 (by decide) (by omega) (by omega) (fun c_151 => ?_) (fun c_151 => ?_)
                · skip
                  refine g_iconst X dX5_best_161 ?_
                  refine g_iadd X dX5_best_162 ?_
                  refine g_iadd X dX5_best_163 ?_
                  refine g_i2l X dX5_best_164 (by omega) ?_
                  refine g_aload_n X 5 dX5_best_165 rfl rfl ?_
                  refine g_get X (index := 73) (ref := "GuideWordsModel") hin5 0 rfl rfl 26 (by decide) rfl (by decide +kernel) (v := .ref a26) rfl dX5_best_166 ?_
                  refine g_iload X 1 dX5_best_169 rfl ?_
                  refine g_lald X 4 2 rfl rfl (by omega) (by decide) dX5_best_171 ?_
                  refine g_topl (b := g26 (4 * j + (c9 + 1) % z2)) (upZ_n (by omega)) ?_
                  have r_171 := h26 (4 * j + (c9 + 1) % z2) (by omega)
                  refine g_ladd X dX5_best_172 ?_
                  refine g_lstore (lv2 := [(6, .long (lZ ((((z1 - (ln + (g22 (j - 1)))) * (z1 - (ln + (g22 (j - 1))))) + (z4 + 0)) + (g26 (4 * j + (c9 + 1) % z2))))), (10, .int (iZ (z1 - (ln + (g22 (j - 1)))))), (9, .int (iZ ((4 * j) + ((c9 + 1) % z2)))), (8, .int (iZ 1)), (4, .int (iZ (ln + (g22 (j - 1))))), (0, .ref m0), (1, .int (iZ i)), (2, .int (iZ c9)), (3, .int (iZ ((4 * i) + c9))), (5, .int (iZ j))]) X dX5_best_173 (by decide) rfl ?_
                  refine g_iconst X dX5_best_175 ?_
                  refine g_aload_n X 5 dX5_best_176 rfl rfl ?_
                  refine g_get X (index := 77) (ref := "GuideWordsModel") hin5 0 rfl rfl 27 (by decide) rfl (by decide +kernel) (v := .ref a27) rfl dX5_best_177 ?_
                  refine g_iload X 2 dX5_best_180 rfl ?_
                  refine g_iald X 5 1 rfl rfl (by omega) (by decide) dX5_best_182 ?_
                  refine g_topi (b := g27 (4 * j + (c9 + 1) % z2)) (upZ_n (by omega)) ?_
                  refine g_iadd X dX5_best_183 ?_
                  refine g_istore (lv2 := [(8, .int (iZ (1 + (g27 (4 * j + (c9 + 1) % z2))))), (6, .long (lZ ((((z1 - (ln + (g22 (j - 1)))) * (z1 - (ln + (g22 (j - 1))))) + (z4 + 0)) + (g26 (4 * j + (c9 + 1) % z2))))), (10, .int (iZ (z1 - (ln + (g22 (j - 1)))))), (9, .int (iZ ((4 * j) + ((c9 + 1) % z2)))), (4, .int (iZ (ln + (g22 (j - 1))))), (0, .ref m0), (1, .int (iZ i)), (2, .int (iZ c9)), (3, .int (iZ ((4 * i) + c9))), (5, .int (iZ j))]) X dX5_best_184 (by decide) rfl ?_
                  have hV : (((z1 - (ln + (g22 (j - 1)))) * (z1 - (ln + (g22 (j - 1))))) + (z4 + 0)) + (g26 (4 * j + (c9 + 1) % z2)) = vvM z1 z2 z4 z5 g24 g26 z25 c9 j (ln + g22 (j - 1)) := by
                    unfold vvM
                    first
                    | (rw [if_neg (by omega)]; done)
                    | (rw [if_pos (by omega), if_pos c_133]; done)
                    | (rw [if_pos (by omega), if_neg (by omega), if_pos c_151]; done)
                    | (rw [if_pos (by omega), if_neg (by omega), if_neg c_151]; done)
                  have hN : 1 + (g27 (4 * j + (c9 + 1) % z2)) = nnM z2 g27 z25 c9 j := by
                    unfold nnM; first | (rw [if_neg (by omega)]; done) | (rw [if_pos (by omega)]; done)
                  rw [if_neg (fun q => by have q2 := q.2; omega)] at hb
                  have hnr : (((z1 - (ln + (g22 (j - 1)))) * (z1 - (ln + (g22 (j - 1))))) + (z4 + 0)) + (g26 (4 * j + (c9 + 1) % z2)) < 1152921504606846976 → 1 ≤ 1 + (g27 (4 * j + (c9 + 1) % z2)) ∧ 1 + (g27 (4 * j + (c9 + 1) % z2)) ≤ z25 - i := fun h => by
                    first
                    | omega
                    | (have q := hfe j ((c9 + 1) % z2) (by omega) (by omega) hmr hmr2 (by omega); omega)
                  refine g_lload X 1 dX5_best_186 rfl ?_
                  refine g_ldc2 (v := 1152921504606846976) (z := 1152921504606846976) X dX5_best_188 (by decide +kernel) rfl ?_
                  refine g_lcmp X dX5_best_191 (by omega) (by omega) ?_
                  refine g_if_ge X 257 dX5_best_192 (by decide) (by have := cmpZ_rng ((((z1 - (ln + (g22 (j - 1)))) * (z1 - (ln + (g22 (j - 1))))) + (z4 + 0)) + (g26 (4 * j + (c9 + 1) % z2))) (1152921504606846976); omega) (fun c_192 => ?_) (fun c_192 => ?_)
                  · skip
                    have c_192 : 1152921504606846976 ≤ (((z1 - (ln + (g22 (j - 1)))) * (z1 - (ln + (g22 (j - 1))))) + (z4 + 0)) + (g26 (4 * j + (c9 + 1) % z2)) := by have h9 := @cmpZ_lt ((((z1 - (ln + (g22 (j - 1)))) * (z1 - (ln + (g22 (j - 1))))) + (z4 + 0)) + (g26 (4 * j + (c9 + 1) % z2))) (1152921504606846976); omega
                    have hb2 := hb
                    rw [if_pos (Or.inl (by omega))] at hb2
                    refine g_iinc (q := 9) (lv2 := [(5, .int (iZ (j + 1))), (8, .int (iZ (1 + (g27 (4 * j + (c9 + 1) % z2))))), (6, .long (lZ ((((z1 - (ln + (g22 (j - 1)))) * (z1 - (ln + (g22 (j - 1))))) + (z4 + 0)) + (g26 (4 * j + (c9 + 1) % z2))))), (10, .int (iZ (z1 - (ln + (g22 (j - 1)))))), (9, .int (iZ ((4 * j) + ((c9 + 1) % z2)))), (4, .int (iZ (ln + (g22 (j - 1))))), (0, .ref m0), (1, .int (iZ i)), (2, .int (iZ c9)), (3, .int (iZ ((4 * i) + c9)))]) X dX5_best_257 rfl (by decide) rfl ?_
                    refine g_goto X 23 dX5_best_260 (by decide) ?_
                    refine g_lv (lv' := [(0, .ref m0), (1, .int (iZ i)), (2, .int (iZ c9)), (3, .int (iZ ((4 * i) + c9))), (4, .int (iZ (ln + (g22 (j - 1))))), (5, .int (iZ (j + 1)))]) [6, 7, 8, 9, 5, 0] rfl ?_
                    exact ih_23 v n0 e0 (ln + (g22 (j - 1))) (j + 1) (by omega) (by omega) (by omega) (fun h => by first | exact hne h | omega) hb2 (by omega)
                  · skip
                    have c_192 : (((z1 - (ln + (g22 (j - 1)))) * (z1 - (ln + (g22 (j - 1))))) + (z4 + 0)) + (g26 (4 * j + (c9 + 1) % z2)) < 1152921504606846976 := by have h9 := @cmpZ_lt ((((z1 - (ln + (g22 (j - 1)))) * (z1 - (ln + (g22 (j - 1))))) + (z4 + 0)) + (g26 (4 * j + (c9 + 1) % z2))) (1152921504606846976); omega
                    have hnr2 := hnr (by omega)
                    refine g_lload X 1 dX5_best_195 rfl ?_
                    refine g_aload_n X 5 dX5_best_197 rfl rfl ?_
                    refine g_get X (index := 73) (ref := "GuideWordsModel") hin5 0 rfl rfl 26 (by decide) rfl (by decide +kernel) (v := .ref a26) rfl dX5_best_198 ?_
                    refine g_iload_n X 8 dX5_best_201 rfl rfl ?_
                    refine g_lald X 4 2 rfl rfl (by omega) (by decide) dX5_best_202 ?_
                    refine g_topl (b := v) upZ_s ?_
                    refine g_lcmp X dX5_best_203 (by omega) (by omega) ?_
                    refine g_if_gt X 257 dX5_best_204 (by decide) (by have := cmpZ_rng ((((z1 - (ln + (g22 (j - 1)))) * (z1 - (ln + (g22 (j - 1))))) + (z4 + 0)) + (g26 (4 * j + (c9 + 1) % z2))) (v); omega) (fun c_204 => ?_) (fun c_204 => ?_)
                    · skip
                      have c_204 : v < (((z1 - (ln + (g22 (j - 1)))) * (z1 - (ln + (g22 (j - 1))))) + (z4 + 0)) + (g26 (4 * j + (c9 + 1) % z2)) := by have h9 := @cmpZ_le ((((z1 - (ln + (g22 (j - 1)))) * (z1 - (ln + (g22 (j - 1))))) + (z4 + 0)) + (g26 (4 * j + (c9 + 1) % z2))) (v); omega
                      have hb2 := hb
                      rw [if_pos (Or.inr (Or.inl (by omega)))] at hb2
                      refine g_iinc (q := 9) (lv2 := [(5, .int (iZ (j + 1))), (8, .int (iZ (1 + (g27 (4 * j + (c9 + 1) % z2))))), (6, .long (lZ ((((z1 - (ln + (g22 (j - 1)))) * (z1 - (ln + (g22 (j - 1))))) + (z4 + 0)) + (g26 (4 * j + (c9 + 1) % z2))))), (10, .int (iZ (z1 - (ln + (g22 (j - 1)))))), (9, .int (iZ ((4 * j) + ((c9 + 1) % z2)))), (4, .int (iZ (ln + (g22 (j - 1))))), (0, .ref m0), (1, .int (iZ i)), (2, .int (iZ c9)), (3, .int (iZ ((4 * i) + c9)))]) X dX5_best_257 rfl (by decide) rfl ?_
                      refine g_goto X 23 dX5_best_260 (by decide) ?_
                      refine g_lv (lv' := [(0, .ref m0), (1, .int (iZ i)), (2, .int (iZ c9)), (3, .int (iZ ((4 * i) + c9))), (4, .int (iZ (ln + (g22 (j - 1))))), (5, .int (iZ (j + 1)))]) [6, 7, 8, 9, 5, 0] rfl ?_
                      exact ih_23 v n0 e0 (ln + (g22 (j - 1))) (j + 1) (by omega) (by omega) (by omega) (fun h => by first | exact hne h | omega) hb2 (by omega)
                    · skip
                      have c_204 : (((z1 - (ln + (g22 (j - 1)))) * (z1 - (ln + (g22 (j - 1))))) + (z4 + 0)) + (g26 (4 * j + (c9 + 1) % z2)) ≤ v := by have h9 := @cmpZ_le ((((z1 - (ln + (g22 (j - 1)))) * (z1 - (ln + (g22 (j - 1))))) + (z4 + 0)) + (g26 (4 * j + (c9 + 1) % z2))) (v); omega
                      refine g_lload X 1 dX5_best_207 rfl ?_
                      refine g_aload_n X 5 dX5_best_209 rfl rfl ?_
                      refine g_get X (index := 73) (ref := "GuideWordsModel") hin5 0 rfl rfl 26 (by decide) rfl (by decide +kernel) (v := .ref a26) rfl dX5_best_210 ?_
                      refine g_iload_n X 8 dX5_best_213 rfl rfl ?_
                      refine g_lald X 4 2 rfl rfl (by omega) (by decide) dX5_best_214 ?_
                      refine g_topl (b := v) upZ_s ?_
                      refine g_lcmp X dX5_best_215 (by omega) (by omega) ?_
                      refine g_if_ne X 233 dX5_best_216 (by decide) (by have := cmpZ_rng ((((z1 - (ln + (g22 (j - 1)))) * (z1 - (ln + (g22 (j - 1))))) + (z4 + 0)) + (g26 (4 * j + (c9 + 1) % z2))) (v); omega) (fun c_216 => ?_) (fun c_216 => ?_)
                      · skip
                        have c_216 : ¬ (((z1 - (ln + (g22 (j - 1)))) * (z1 - (ln + (g22 (j - 1))))) + (z4 + 0)) + (g26 (4 * j + (c9 + 1) % z2)) = v := by have h9 := @cmpZ_eq ((((z1 - (ln + (g22 (j - 1)))) * (z1 - (ln + (g22 (j - 1))))) + (z4 + 0)) + (g26 (4 * j + (c9 + 1) % z2))) (v); omega
                        have hb2 := hb
                        rw [if_neg (by omega), ← hV, ← hN] at hb2
                        refine g_aload_n X 5 dX5_best_233 rfl rfl ?_
                        refine g_get X (index := 73) (ref := "GuideWordsModel") hin5 0 rfl rfl 26 (by decide) rfl (by decide +kernel) (v := .ref a26) rfl dX5_best_234 ?_
                        refine g_iload_n X 8 dX5_best_237 rfl rfl ?_
                        refine g_lload X 1 dX5_best_238 rfl ?_
                        refine g_last X 4 2 rfl rfl (by omega) (by decide) (ws2 := [(m0, .inr (5, [.int (iZ z0), .int (iZ z1), .int (iZ z2), .int (iZ z3), .int (iZ z4), .int (iZ z5), .ref a6, .int (iZ z7), .ref a8, .int (iZ z9), .ref a10, .ref a11, .ref a12, .ref a13, .ref a14, .ref a15, .int (iZ z16), .ref a17, .int (iZ z18), .ref a19, .ref a20, .ref a21, .ref a22, .ref a23, .ref a24, .int (iZ z25), .ref a26, .ref a27, .ref a28, .int (iZ z29), .int (iZ z30), .int (iZ z31), .int (iZ z32), .int (iZ z33), .int (iZ z34), .ref a35, .ref a36, .ref a37, .ref a38, .ref a39, .ref a40, .ref a41, .int (iZ z42), .int (iZ z43), .ref a44, .ref a45])), (a22, .inl (cI, 900, .inl (zA g22))), (a23, .inl (cY, 900, .inl (zA g23))), (a24, .inl (cY, 900, .inl (zA g24))), (a26, .inl (cJ, 3604, .inr (.inl (lA (upZ (upZ g26 (4 * i + c9) v) ((4 * i) + c9) ((((z1 - (ln + (g22 (j - 1)))) * (z1 - (ln + (g22 (j - 1))))) + (z4 + 0)) + (g26 (4 * j + (c9 + 1) % z2)))))))), (a27, .inl (cI, 3604, .inl (zA (upZ g27 (4 * i + c9) n0)))), (a28, .inl (cI, 3604, .inl (zA (upZ g28 (4 * i + c9) e0))))]) rfl dX5_best_240 ?_
                        refine g_aload_n X 5 dX5_best_241 rfl rfl ?_
                        refine g_get X (index := 77) (ref := "GuideWordsModel") hin5 0 rfl rfl 27 (by decide) rfl (by decide +kernel) (v := .ref a27) rfl dX5_best_242 ?_
                        refine g_iload_n X 8 dX5_best_245 rfl rfl ?_
                        refine g_iload X 0 dX5_best_246 rfl ?_
                        refine g_iast X 5 1 rfl rfl (by omega) (by decide) (ws2 := [(m0, .inr (5, [.int (iZ z0), .int (iZ z1), .int (iZ z2), .int (iZ z3), .int (iZ z4), .int (iZ z5), .ref a6, .int (iZ z7), .ref a8, .int (iZ z9), .ref a10, .ref a11, .ref a12, .ref a13, .ref a14, .ref a15, .int (iZ z16), .ref a17, .int (iZ z18), .ref a19, .ref a20, .ref a21, .ref a22, .ref a23, .ref a24, .int (iZ z25), .ref a26, .ref a27, .ref a28, .int (iZ z29), .int (iZ z30), .int (iZ z31), .int (iZ z32), .int (iZ z33), .int (iZ z34), .ref a35, .ref a36, .ref a37, .ref a38, .ref a39, .ref a40, .ref a41, .int (iZ z42), .int (iZ z43), .ref a44, .ref a45])), (a22, .inl (cI, 900, .inl (zA g22))), (a23, .inl (cY, 900, .inl (zA g23))), (a24, .inl (cY, 900, .inl (zA g24))), (a26, .inl (cJ, 3604, .inr (.inl (lA (upZ (upZ g26 (4 * i + c9) v) ((4 * i) + c9) ((((z1 - (ln + (g22 (j - 1)))) * (z1 - (ln + (g22 (j - 1))))) + (z4 + 0)) + (g26 (4 * j + (c9 + 1) % z2)))))))), (a27, .inl (cI, 3604, .inl (zA (upZ (upZ g27 (4 * i + c9) n0) ((4 * i) + c9) (1 + (g27 (4 * j + (c9 + 1) % z2))))))), (a28, .inl (cI, 3604, .inl (zA (upZ g28 (4 * i + c9) e0))))]) rfl dX5_best_248 ?_
                        refine g_aload_n X 5 dX5_best_249 rfl rfl ?_
                        refine g_get X (index := 80) (ref := "GuideWordsModel") hin5 0 rfl rfl 28 (by decide) rfl (by decide +kernel) (v := .ref a28) rfl dX5_best_250 ?_
                        refine g_iload_n X 8 dX5_best_253 rfl rfl ?_
                        refine g_iload X 9 dX5_best_254 rfl ?_
                        refine g_iast X 6 1 rfl rfl (by omega) (by decide) (ws2 := [(m0, .inr (5, [.int (iZ z0), .int (iZ z1), .int (iZ z2), .int (iZ z3), .int (iZ z4), .int (iZ z5), .ref a6, .int (iZ z7), .ref a8, .int (iZ z9), .ref a10, .ref a11, .ref a12, .ref a13, .ref a14, .ref a15, .int (iZ z16), .ref a17, .int (iZ z18), .ref a19, .ref a20, .ref a21, .ref a22, .ref a23, .ref a24, .int (iZ z25), .ref a26, .ref a27, .ref a28, .int (iZ z29), .int (iZ z30), .int (iZ z31), .int (iZ z32), .int (iZ z33), .int (iZ z34), .ref a35, .ref a36, .ref a37, .ref a38, .ref a39, .ref a40, .ref a41, .int (iZ z42), .int (iZ z43), .ref a44, .ref a45])), (a22, .inl (cI, 900, .inl (zA g22))), (a23, .inl (cY, 900, .inl (zA g23))), (a24, .inl (cY, 900, .inl (zA g24))), (a26, .inl (cJ, 3604, .inr (.inl (lA (upZ (upZ g26 (4 * i + c9) v) ((4 * i) + c9) ((((z1 - (ln + (g22 (j - 1)))) * (z1 - (ln + (g22 (j - 1))))) + (z4 + 0)) + (g26 (4 * j + (c9 + 1) % z2)))))))), (a27, .inl (cI, 3604, .inl (zA (upZ (upZ g27 (4 * i + c9) n0) ((4 * i) + c9) (1 + (g27 (4 * j + (c9 + 1) % z2))))))), (a28, .inl (cI, 3604, .inl (zA (upZ (upZ g28 (4 * i + c9) e0) ((4 * i) + c9) j))))]) rfl dX5_best_256 ?_
                        refine g_iinc (q := 9) (lv2 := [(5, .int (iZ (j + 1))), (8, .int (iZ (1 + (g27 (4 * j + (c9 + 1) % z2))))), (6, .long (lZ ((((z1 - (ln + (g22 (j - 1)))) * (z1 - (ln + (g22 (j - 1))))) + (z4 + 0)) + (g26 (4 * j + (c9 + 1) % z2))))), (10, .int (iZ (z1 - (ln + (g22 (j - 1)))))), (9, .int (iZ ((4 * j) + ((c9 + 1) % z2)))), (4, .int (iZ (ln + (g22 (j - 1))))), (0, .ref m0), (1, .int (iZ i)), (2, .int (iZ c9)), (3, .int (iZ ((4 * i) + c9)))]) X dX5_best_257 rfl (by decide) rfl ?_
                        refine g_goto X 23 dX5_best_260 (by decide) ?_
                        refine g_eq (ws' := [(m0, .inr (5, [.int (iZ z0), .int (iZ z1), .int (iZ z2), .int (iZ z3), .int (iZ z4), .int (iZ z5), .ref a6, .int (iZ z7), .ref a8, .int (iZ z9), .ref a10, .ref a11, .ref a12, .ref a13, .ref a14, .ref a15, .int (iZ z16), .ref a17, .int (iZ z18), .ref a19, .ref a20, .ref a21, .ref a22, .ref a23, .ref a24, .int (iZ z25), .ref a26, .ref a27, .ref a28, .int (iZ z29), .int (iZ z30), .int (iZ z31), .int (iZ z32), .int (iZ z33), .int (iZ z34), .ref a35, .ref a36, .ref a37, .ref a38, .ref a39, .ref a40, .ref a41, .int (iZ z42), .int (iZ z43), .ref a44, .ref a45])), (a22, .inl (cI, 900, .inl (zA g22))), (a23, .inl (cY, 900, .inl (zA g23))), (a24, .inl (cY, 900, .inl (zA g24))), (a26, .inl (cJ, 3604, .inr (.inl (lA (upZ g26 (4 * i + c9) ((((z1 - (ln + (g22 (j - 1)))) * (z1 - (ln + (g22 (j - 1))))) + (z4 + 0)) + (g26 (4 * j + (c9 + 1) % z2)))))))), (a27, .inl (cI, 3604, .inl (zA (upZ g27 (4 * i + c9) (1 + (g27 (4 * j + (c9 + 1) % z2))))))), (a28, .inl (cI, 3604, .inl (zA (upZ g28 (4 * i + c9) j))))]) (by rw [upZ_uu, upZ_uu, upZ_uu]) rfl rfl rfl ?_
                        refine g_lv (lv' := [(0, .ref m0), (1, .int (iZ i)), (2, .int (iZ c9)), (3, .int (iZ ((4 * i) + c9))), (4, .int (iZ (ln + (g22 (j - 1))))), (5, .int (iZ (j + 1)))]) [6, 7, 8, 9, 5, 0] rfl ?_
                        exact ih_23 (((((z1 - (ln + (g22 (j - 1)))) * (z1 - (ln + (g22 (j - 1))))) + (z4 + 0)) + (g26 (4 * j + (c9 + 1) % z2)))) ((1 + (g27 (4 * j + (c9 + 1) % z2)))) j (ln + (g22 (j - 1))) (j + 1) (by omega) (by omega) (by omega) (fun h => by first | exact hne h | omega) hb2 (by omega)
                      · skip
                        have c_216 : (((z1 - (ln + (g22 (j - 1)))) * (z1 - (ln + (g22 (j - 1))))) + (z4 + 0)) + (g26 (4 * j + (c9 + 1) % z2)) = v := by have h9 := @cmpZ_eq ((((z1 - (ln + (g22 (j - 1)))) * (z1 - (ln + (g22 (j - 1))))) + (z4 + 0)) + (g26 (4 * j + (c9 + 1) % z2))) (v); omega
                        refine g_iload X 0 dX5_best_219 rfl ?_
                        refine g_aload_n X 5 dX5_best_221 rfl rfl ?_
                        refine g_get X (index := 77) (ref := "GuideWordsModel") hin5 0 rfl rfl 27 (by decide) rfl (by decide +kernel) (v := .ref a27) rfl dX5_best_222 ?_
                        refine g_iload_n X 8 dX5_best_225 rfl rfl ?_
                        refine g_iald X 5 1 rfl rfl (by omega) (by decide) dX5_best_226 ?_
                        refine g_topi (b := n0) upZ_s ?_
                        refine g_icmp_le X 233 dX5_best_227 (by decide) (by omega) (by have := hne (by omega); omega) (fun c_227 => ?_) (fun c_227 => ?_)
                        · skip
                          have hb2 := hb
                          rw [if_neg (by omega), ← hV, ← hN] at hb2
                          refine g_aload_n X 5 dX5_best_233 rfl rfl ?_
                          refine g_get X (index := 73) (ref := "GuideWordsModel") hin5 0 rfl rfl 26 (by decide) rfl (by decide +kernel) (v := .ref a26) rfl dX5_best_234 ?_
                          refine g_iload_n X 8 dX5_best_237 rfl rfl ?_
                          refine g_lload X 1 dX5_best_238 rfl ?_
                          refine g_last X 4 2 rfl rfl (by omega) (by decide) (ws2 := [(m0, .inr (5, [.int (iZ z0), .int (iZ z1), .int (iZ z2), .int (iZ z3), .int (iZ z4), .int (iZ z5), .ref a6, .int (iZ z7), .ref a8, .int (iZ z9), .ref a10, .ref a11, .ref a12, .ref a13, .ref a14, .ref a15, .int (iZ z16), .ref a17, .int (iZ z18), .ref a19, .ref a20, .ref a21, .ref a22, .ref a23, .ref a24, .int (iZ z25), .ref a26, .ref a27, .ref a28, .int (iZ z29), .int (iZ z30), .int (iZ z31), .int (iZ z32), .int (iZ z33), .int (iZ z34), .ref a35, .ref a36, .ref a37, .ref a38, .ref a39, .ref a40, .ref a41, .int (iZ z42), .int (iZ z43), .ref a44, .ref a45])), (a22, .inl (cI, 900, .inl (zA g22))), (a23, .inl (cY, 900, .inl (zA g23))), (a24, .inl (cY, 900, .inl (zA g24))), (a26, .inl (cJ, 3604, .inr (.inl (lA (upZ (upZ g26 (4 * i + c9) v) ((4 * i) + c9) ((((z1 - (ln + (g22 (j - 1)))) * (z1 - (ln + (g22 (j - 1))))) + (z4 + 0)) + (g26 (4 * j + (c9 + 1) % z2)))))))), (a27, .inl (cI, 3604, .inl (zA (upZ g27 (4 * i + c9) n0)))), (a28, .inl (cI, 3604, .inl (zA (upZ g28 (4 * i + c9) e0))))]) rfl dX5_best_240 ?_
                          refine g_aload_n X 5 dX5_best_241 rfl rfl ?_
                          refine g_get X (index := 77) (ref := "GuideWordsModel") hin5 0 rfl rfl 27 (by decide) rfl (by decide +kernel) (v := .ref a27) rfl dX5_best_242 ?_
                          refine g_iload_n X 8 dX5_best_245 rfl rfl ?_
                          refine g_iload X 0 dX5_best_246 rfl ?_
                          refine g_iast X 5 1 rfl rfl (by omega) (by decide) (ws2 := [(m0, .inr (5, [.int (iZ z0), .int (iZ z1), .int (iZ z2), .int (iZ z3), .int (iZ z4), .int (iZ z5), .ref a6, .int (iZ z7), .ref a8, .int (iZ z9), .ref a10, .ref a11, .ref a12, .ref a13, .ref a14, .ref a15, .int (iZ z16), .ref a17, .int (iZ z18), .ref a19, .ref a20, .ref a21, .ref a22, .ref a23, .ref a24, .int (iZ z25), .ref a26, .ref a27, .ref a28, .int (iZ z29), .int (iZ z30), .int (iZ z31), .int (iZ z32), .int (iZ z33), .int (iZ z34), .ref a35, .ref a36, .ref a37, .ref a38, .ref a39, .ref a40, .ref a41, .int (iZ z42), .int (iZ z43), .ref a44, .ref a45])), (a22, .inl (cI, 900, .inl (zA g22))), (a23, .inl (cY, 900, .inl (zA g23))), (a24, .inl (cY, 900, .inl (zA g24))), (a26, .inl (cJ, 3604, .inr (.inl (lA (upZ (upZ g26 (4 * i + c9) v) ((4 * i) + c9) ((((z1 - (ln + (g22 (j - 1)))) * (z1 - (ln + (g22 (j - 1))))) + (z4 + 0)) + (g26 (4 * j + (c9 + 1) % z2)))))))), (a27, .inl (cI, 3604, .inl (zA (upZ (upZ g27 (4 * i + c9) n0) ((4 * i) + c9) (1 + (g27 (4 * j + (c9 + 1) % z2))))))), (a28, .inl (cI, 3604, .inl (zA (upZ g28 (4 * i + c9) e0))))]) rfl dX5_best_248 ?_
                          refine g_aload_n X 5 dX5_best_249 rfl rfl ?_
                          refine g_get X (index := 80) (ref := "GuideWordsModel") hin5 0 rfl rfl 28 (by decide) rfl (by decide +kernel) (v := .ref a28) rfl dX5_best_250 ?_
                          refine g_iload_n X 8 dX5_best_253 rfl rfl ?_
                          refine g_iload X 9 dX5_best_254 rfl ?_
                          refine g_iast X 6 1 rfl rfl (by omega) (by decide) (ws2 := [(m0, .inr (5, [.int (iZ z0), .int (iZ z1), .int (iZ z2), .int (iZ z3), .int (iZ z4), .int (iZ z5), .ref a6, .int (iZ z7), .ref a8, .int (iZ z9), .ref a10, .ref a11, .ref a12, .ref a13, .ref a14, .ref a15, .int (iZ z16), .ref a17, .int (iZ z18), .ref a19, .ref a20, .ref a21, .ref a22, .ref a23, .ref a24, .int (iZ z25), .ref a26, .ref a27, .ref a28, .int (iZ z29), .int (iZ z30), .int (iZ z31), .int (iZ z32), .int (iZ z33), .int (iZ z34), .ref a35, .ref a36, .ref a37, .ref a38, .ref a39, .ref a40, .ref a41, .int (iZ z42), .int (iZ z43), .ref a44, .ref a45])), (a22, .inl (cI, 900, .inl (zA g22))), (a23, .inl (cY, 900, .inl (zA g23))), (a24, .inl (cY, 900, .inl (zA g24))), (a26, .inl (cJ, 3604, .inr (.inl (lA (upZ (upZ g26 (4 * i + c9) v) ((4 * i) + c9) ((((z1 - (ln + (g22 (j - 1)))) * (z1 - (ln + (g22 (j - 1))))) + (z4 + 0)) + (g26 (4 * j + (c9 + 1) % z2)))))))), (a27, .inl (cI, 3604, .inl (zA (upZ (upZ g27 (4 * i + c9) n0) ((4 * i) + c9) (1 + (g27 (4 * j + (c9 + 1) % z2))))))), (a28, .inl (cI, 3604, .inl (zA (upZ (upZ g28 (4 * i + c9) e0) ((4 * i) + c9) j))))]) rfl dX5_best_256 ?_
                          refine g_iinc (q := 9) (lv2 := [(5, .int (iZ (j + 1))), (8, .int (iZ (1 + (g27 (4 * j + (c9 + 1) % z2))))), (6, .long (lZ ((((z1 - (ln + (g22 (j - 1)))) * (z1 - (ln + (g22 (j - 1))))) + (z4 + 0)) + (g26 (4 * j + (c9 + 1) % z2))))), (10, .int (iZ (z1 - (ln + (g22 (j - 1)))))), (9, .int (iZ ((4 * j) + ((c9 + 1) % z2)))), (4, .int (iZ (ln + (g22 (j - 1))))), (0, .ref m0), (1, .int (iZ i)), (2, .int (iZ c9)), (3, .int (iZ ((4 * i) + c9)))]) X dX5_best_257 rfl (by decide) rfl ?_
                          refine g_goto X 23 dX5_best_260 (by decide) ?_
                          refine g_eq (ws' := [(m0, .inr (5, [.int (iZ z0), .int (iZ z1), .int (iZ z2), .int (iZ z3), .int (iZ z4), .int (iZ z5), .ref a6, .int (iZ z7), .ref a8, .int (iZ z9), .ref a10, .ref a11, .ref a12, .ref a13, .ref a14, .ref a15, .int (iZ z16), .ref a17, .int (iZ z18), .ref a19, .ref a20, .ref a21, .ref a22, .ref a23, .ref a24, .int (iZ z25), .ref a26, .ref a27, .ref a28, .int (iZ z29), .int (iZ z30), .int (iZ z31), .int (iZ z32), .int (iZ z33), .int (iZ z34), .ref a35, .ref a36, .ref a37, .ref a38, .ref a39, .ref a40, .ref a41, .int (iZ z42), .int (iZ z43), .ref a44, .ref a45])), (a22, .inl (cI, 900, .inl (zA g22))), (a23, .inl (cY, 900, .inl (zA g23))), (a24, .inl (cY, 900, .inl (zA g24))), (a26, .inl (cJ, 3604, .inr (.inl (lA (upZ g26 (4 * i + c9) ((((z1 - (ln + (g22 (j - 1)))) * (z1 - (ln + (g22 (j - 1))))) + (z4 + 0)) + (g26 (4 * j + (c9 + 1) % z2)))))))), (a27, .inl (cI, 3604, .inl (zA (upZ g27 (4 * i + c9) (1 + (g27 (4 * j + (c9 + 1) % z2))))))), (a28, .inl (cI, 3604, .inl (zA (upZ g28 (4 * i + c9) j))))]) (by rw [upZ_uu, upZ_uu, upZ_uu]) rfl rfl rfl ?_
                          refine g_lv (lv' := [(0, .ref m0), (1, .int (iZ i)), (2, .int (iZ c9)), (3, .int (iZ ((4 * i) + c9))), (4, .int (iZ (ln + (g22 (j - 1))))), (5, .int (iZ (j + 1)))]) [6, 7, 8, 9, 5, 0] rfl ?_
                          exact ih_23 (((((z1 - (ln + (g22 (j - 1)))) * (z1 - (ln + (g22 (j - 1))))) + (z4 + 0)) + (g26 (4 * j + (c9 + 1) % z2)))) ((1 + (g27 (4 * j + (c9 + 1) % z2)))) j (ln + (g22 (j - 1))) (j + 1) (by omega) (by omega) (by omega) (fun h => by first | exact hne h | omega) hb2 (by omega)
                        · skip
                          have hb2 := hb
                          rw [if_pos (Or.inr (Or.inr ⟨by omega, by omega⟩))] at hb2
                          refine g_goto X 257 dX5_best_230 (by decide) ?_
                          refine g_iinc (q := 9) (lv2 := [(5, .int (iZ (j + 1))), (8, .int (iZ (1 + (g27 (4 * j + (c9 + 1) % z2))))), (6, .long (lZ ((((z1 - (ln + (g22 (j - 1)))) * (z1 - (ln + (g22 (j - 1))))) + (z4 + 0)) + (g26 (4 * j + (c9 + 1) % z2))))), (10, .int (iZ (z1 - (ln + (g22 (j - 1)))))), (9, .int (iZ ((4 * j) + ((c9 + 1) % z2)))), (4, .int (iZ (ln + (g22 (j - 1))))), (0, .ref m0), (1, .int (iZ i)), (2, .int (iZ c9)), (3, .int (iZ ((4 * i) + c9)))]) X dX5_best_257 rfl (by decide) rfl ?_
                          refine g_goto X 23 dX5_best_260 (by decide) ?_
                          refine g_lv (lv' := [(0, .ref m0), (1, .int (iZ i)), (2, .int (iZ c9)), (3, .int (iZ ((4 * i) + c9))), (4, .int (iZ (ln + (g22 (j - 1))))), (5, .int (iZ (j + 1)))]) [6, 7, 8, 9, 5, 0] rfl ?_
                          exact ih_23 v n0 e0 (ln + (g22 (j - 1))) (j + 1) (by omega) (by omega) (by omega) (fun h => by first | exact hne h | omega) hb2 (by omega)
                · skip
                  refine g_aload_n X 5 dX5_best_154 rfl rfl ?_
                  refine g_get X (index := 22) (ref := "GuideWordsModel") hin5 0 rfl rfl 5 (by decide) rfl (by decide +kernel) (v := .int (iZ z5)) rfl dX5_best_155 ?_
                  refine g_goto X 162 dX5_best_158 (by decide) ?_
                  refine g_iadd X dX5_best_162 ?_
                  refine g_iadd X dX5_best_163 ?_
                  refine g_i2l X dX5_best_164 (by omega) ?_
                  refine g_aload_n X 5 dX5_best_165 rfl rfl ?_
                  refine g_get X (index := 73) (ref := "GuideWordsModel") hin5 0 rfl rfl 26 (by decide) rfl (by decide +kernel) (v := .ref a26) rfl dX5_best_166 ?_
                  refine g_iload X 1 dX5_best_169 rfl ?_
                  refine g_lald X 4 2 rfl rfl (by omega) (by decide) dX5_best_171 ?_
                  refine g_topl (b := g26 (4 * j + (c9 + 1) % z2)) (upZ_n (by omega)) ?_
                  have r_171 := h26 (4 * j + (c9 + 1) % z2) (by omega)
                  refine g_ladd X dX5_best_172 ?_
                  refine g_lstore (lv2 := [(6, .long (lZ ((((z1 - (ln + (g22 (j - 1)))) * (z1 - (ln + (g22 (j - 1))))) + (z4 + z5)) + (g26 (4 * j + (c9 + 1) % z2))))), (10, .int (iZ (z1 - (ln + (g22 (j - 1)))))), (9, .int (iZ ((4 * j) + ((c9 + 1) % z2)))), (8, .int (iZ 1)), (4, .int (iZ (ln + (g22 (j - 1))))), (0, .ref m0), (1, .int (iZ i)), (2, .int (iZ c9)), (3, .int (iZ ((4 * i) + c9))), (5, .int (iZ j))]) X dX5_best_173 (by decide) rfl ?_
                  refine g_iconst X dX5_best_175 ?_
                  refine g_aload_n X 5 dX5_best_176 rfl rfl ?_
                  refine g_get X (index := 77) (ref := "GuideWordsModel") hin5 0 rfl rfl 27 (by decide) rfl (by decide +kernel) (v := .ref a27) rfl dX5_best_177 ?_
                  refine g_iload X 2 dX5_best_180 rfl ?_
                  refine g_iald X 5 1 rfl rfl (by omega) (by decide) dX5_best_182 ?_
                  refine g_topi (b := g27 (4 * j + (c9 + 1) % z2)) (upZ_n (by omega)) ?_
                  refine g_iadd X dX5_best_183 ?_
                  refine g_istore (lv2 := [(8, .int (iZ (1 + (g27 (4 * j + (c9 + 1) % z2))))), (6, .long (lZ ((((z1 - (ln + (g22 (j - 1)))) * (z1 - (ln + (g22 (j - 1))))) + (z4 + z5)) + (g26 (4 * j + (c9 + 1) % z2))))), (10, .int (iZ (z1 - (ln + (g22 (j - 1)))))), (9, .int (iZ ((4 * j) + ((c9 + 1) % z2)))), (4, .int (iZ (ln + (g22 (j - 1))))), (0, .ref m0), (1, .int (iZ i)), (2, .int (iZ c9)), (3, .int (iZ ((4 * i) + c9))), (5, .int (iZ j))]) X dX5_best_184 (by decide) rfl ?_
                  have hV : (((z1 - (ln + (g22 (j - 1)))) * (z1 - (ln + (g22 (j - 1))))) + (z4 + z5)) + (g26 (4 * j + (c9 + 1) % z2)) = vvM z1 z2 z4 z5 g24 g26 z25 c9 j (ln + g22 (j - 1)) := by
                    unfold vvM
                    first
                    | (rw [if_neg (by omega)]; done)
                    | (rw [if_pos (by omega), if_pos c_133]; done)
                    | (rw [if_pos (by omega), if_neg (by omega), if_pos c_151]; done)
                    | (rw [if_pos (by omega), if_neg (by omega), if_neg c_151]; done)
                  have hN : 1 + (g27 (4 * j + (c9 + 1) % z2)) = nnM z2 g27 z25 c9 j := by
                    unfold nnM; first | (rw [if_neg (by omega)]; done) | (rw [if_pos (by omega)]; done)
                  rw [if_neg (fun q => by have q2 := q.2; omega)] at hb
                  have hnr : (((z1 - (ln + (g22 (j - 1)))) * (z1 - (ln + (g22 (j - 1))))) + (z4 + z5)) + (g26 (4 * j + (c9 + 1) % z2)) < 1152921504606846976 → 1 ≤ 1 + (g27 (4 * j + (c9 + 1) % z2)) ∧ 1 + (g27 (4 * j + (c9 + 1) % z2)) ≤ z25 - i := fun h => by
                    first
                    | omega
                    | (have q := hfe j ((c9 + 1) % z2) (by omega) (by omega) hmr hmr2 (by omega); omega)
                  refine g_lload X 1 dX5_best_186 rfl ?_
                  refine g_ldc2 (v := 1152921504606846976) (z := 1152921504606846976) X dX5_best_188 (by decide +kernel) rfl ?_
                  refine g_lcmp X dX5_best_191 (by omega) (by omega) ?_
                  refine g_if_ge X 257 dX5_best_192 (by decide) (by have := cmpZ_rng ((((z1 - (ln + (g22 (j - 1)))) * (z1 - (ln + (g22 (j - 1))))) + (z4 + z5)) + (g26 (4 * j + (c9 + 1) % z2))) (1152921504606846976); omega) (fun c_192 => ?_) (fun c_192 => ?_)
                  · skip
                    have c_192 : 1152921504606846976 ≤ (((z1 - (ln + (g22 (j - 1)))) * (z1 - (ln + (g22 (j - 1))))) + (z4 + z5)) + (g26 (4 * j + (c9 + 1) % z2)) := by have h9 := @cmpZ_lt ((((z1 - (ln + (g22 (j - 1)))) * (z1 - (ln + (g22 (j - 1))))) + (z4 + z5)) + (g26 (4 * j + (c9 + 1) % z2))) (1152921504606846976); omega
                    have hb2 := hb
                    rw [if_pos (Or.inl (by omega))] at hb2
                    refine g_iinc (q := 9) (lv2 := [(5, .int (iZ (j + 1))), (8, .int (iZ (1 + (g27 (4 * j + (c9 + 1) % z2))))), (6, .long (lZ ((((z1 - (ln + (g22 (j - 1)))) * (z1 - (ln + (g22 (j - 1))))) + (z4 + z5)) + (g26 (4 * j + (c9 + 1) % z2))))), (10, .int (iZ (z1 - (ln + (g22 (j - 1)))))), (9, .int (iZ ((4 * j) + ((c9 + 1) % z2)))), (4, .int (iZ (ln + (g22 (j - 1))))), (0, .ref m0), (1, .int (iZ i)), (2, .int (iZ c9)), (3, .int (iZ ((4 * i) + c9)))]) X dX5_best_257 rfl (by decide) rfl ?_
                    refine g_goto X 23 dX5_best_260 (by decide) ?_
                    refine g_lv (lv' := [(0, .ref m0), (1, .int (iZ i)), (2, .int (iZ c9)), (3, .int (iZ ((4 * i) + c9))), (4, .int (iZ (ln + (g22 (j - 1))))), (5, .int (iZ (j + 1)))]) [6, 7, 8, 9, 5, 0] rfl ?_
                    exact ih_23 v n0 e0 (ln + (g22 (j - 1))) (j + 1) (by omega) (by omega) (by omega) (fun h => by first | exact hne h | omega) hb2 (by omega)
                  · skip
                    have c_192 : (((z1 - (ln + (g22 (j - 1)))) * (z1 - (ln + (g22 (j - 1))))) + (z4 + z5)) + (g26 (4 * j + (c9 + 1) % z2)) < 1152921504606846976 := by have h9 := @cmpZ_lt ((((z1 - (ln + (g22 (j - 1)))) * (z1 - (ln + (g22 (j - 1))))) + (z4 + z5)) + (g26 (4 * j + (c9 + 1) % z2))) (1152921504606846976); omega
                    have hnr2 := hnr (by omega)
                    refine g_lload X 1 dX5_best_195 rfl ?_
                    refine g_aload_n X 5 dX5_best_197 rfl rfl ?_
                    refine g_get X (index := 73) (ref := "GuideWordsModel") hin5 0 rfl rfl 26 (by decide) rfl (by decide +kernel) (v := .ref a26) rfl dX5_best_198 ?_
                    refine g_iload_n X 8 dX5_best_201 rfl rfl ?_
                    refine g_lald X 4 2 rfl rfl (by omega) (by decide) dX5_best_202 ?_
                    refine g_topl (b := v) upZ_s ?_
                    refine g_lcmp X dX5_best_203 (by omega) (by omega) ?_
                    refine g_if_gt X 257 dX5_best_204 (by decide) (by have := cmpZ_rng ((((z1 - (ln + (g22 (j - 1)))) * (z1 - (ln + (g22 (j - 1))))) + (z4 + z5)) + (g26 (4 * j + (c9 + 1) % z2))) (v); omega) (fun c_204 => ?_) (fun c_204 => ?_)
                    · skip
                      have c_204 : v < (((z1 - (ln + (g22 (j - 1)))) * (z1 - (ln + (g22 (j - 1))))) + (z4 + z5)) + (g26 (4 * j + (c9 + 1) % z2)) := by have h9 := @cmpZ_le ((((z1 - (ln + (g22 (j - 1)))) * (z1 - (ln + (g22 (j - 1))))) + (z4 + z5)) + (g26 (4 * j + (c9 + 1) % z2))) (v); omega
                      have hb2 := hb
                      rw [if_pos (Or.inr (Or.inl (by omega)))] at hb2
                      refine g_iinc (q := 9) (lv2 := [(5, .int (iZ (j + 1))), (8, .int (iZ (1 + (g27 (4 * j + (c9 + 1) % z2))))), (6, .long (lZ ((((z1 - (ln + (g22 (j - 1)))) * (z1 - (ln + (g22 (j - 1))))) + (z4 + z5)) + (g26 (4 * j + (c9 + 1) % z2))))), (10, .int (iZ (z1 - (ln + (g22 (j - 1)))))), (9, .int (iZ ((4 * j) + ((c9 + 1) % z2)))), (4, .int (iZ (ln + (g22 (j - 1))))), (0, .ref m0), (1, .int (iZ i)), (2, .int (iZ c9)), (3, .int (iZ ((4 * i) + c9)))]) X dX5_best_257 rfl (by decide) rfl ?_
                      refine g_goto X 23 dX5_best_260 (by decide) ?_
                      refine g_lv (lv' := [(0, .ref m0), (1, .int (iZ i)), (2, .int (iZ c9)), (3, .int (iZ ((4 * i) + c9))), (4, .int (iZ (ln + (g22 (j - 1))))), (5, .int (iZ (j + 1)))]) [6, 7, 8, 9, 5, 0] rfl ?_
                      exact ih_23 v n0 e0 (ln + (g22 (j - 1))) (j + 1) (by omega) (by omega) (by omega) (fun h => by first | exact hne h | omega) hb2 (by omega)
                    · skip
                      have c_204 : (((z1 - (ln + (g22 (j - 1)))) * (z1 - (ln + (g22 (j - 1))))) + (z4 + z5)) + (g26 (4 * j + (c9 + 1) % z2)) ≤ v := by have h9 := @cmpZ_le ((((z1 - (ln + (g22 (j - 1)))) * (z1 - (ln + (g22 (j - 1))))) + (z4 + z5)) + (g26 (4 * j + (c9 + 1) % z2))) (v); omega
                      refine g_lload X 1 dX5_best_207 rfl ?_
                      refine g_aload_n X 5 dX5_best_209 rfl rfl ?_
                      refine g_get X (index := 73) (ref := "GuideWordsModel") hin5 0 rfl rfl 26 (by decide) rfl (by decide +kernel) (v := .ref a26) rfl dX5_best_210 ?_
                      refine g_iload_n X 8 dX5_best_213 rfl rfl ?_
                      refine g_lald X 4 2 rfl rfl (by omega) (by decide) dX5_best_214 ?_
                      refine g_topl (b := v) upZ_s ?_
                      refine g_lcmp X dX5_best_215 (by omega) (by omega) ?_
                      refine g_if_ne X 233 dX5_best_216 (by decide) (by have := cmpZ_rng ((((z1 - (ln + (g22 (j - 1)))) * (z1 - (ln + (g22 (j - 1))))) + (z4 + z5)) + (g26 (4 * j + (c9 + 1) % z2))) (v); omega) (fun c_216 => ?_) (fun c_216 => ?_)
                      · skip
                        have c_216 : ¬ (((z1 - (ln + (g22 (j - 1)))) * (z1 - (ln + (g22 (j - 1))))) + (z4 + z5)) + (g26 (4 * j + (c9 + 1) % z2)) = v := by have h9 := @cmpZ_eq ((((z1 - (ln + (g22 (j - 1)))) * (z1 - (ln + (g22 (j - 1))))) + (z4 + z5)) + (g26 (4 * j + (c9 + 1) % z2))) (v); omega
                        have hb2 := hb
                        rw [if_neg (by omega), ← hV, ← hN] at hb2
                        refine g_aload_n X 5 dX5_best_233 rfl rfl ?_
                        refine g_get X (index := 73) (ref := "GuideWordsModel") hin5 0 rfl rfl 26 (by decide) rfl (by decide +kernel) (v := .ref a26) rfl dX5_best_234 ?_
                        refine g_iload_n X 8 dX5_best_237 rfl rfl ?_
                        refine g_lload X 1 dX5_best_238 rfl ?_
                        refine g_last X 4 2 rfl rfl (by omega) (by decide) (ws2 := [(m0, .inr (5, [.int (iZ z0), .int (iZ z1), .int (iZ z2), .int (iZ z3), .int (iZ z4), .int (iZ z5), .ref a6, .int (iZ z7), .ref a8, .int (iZ z9), .ref a10, .ref a11, .ref a12, .ref a13, .ref a14, .ref a15, .int (iZ z16), .ref a17, .int (iZ z18), .ref a19, .ref a20, .ref a21, .ref a22, .ref a23, .ref a24, .int (iZ z25), .ref a26, .ref a27, .ref a28, .int (iZ z29), .int (iZ z30), .int (iZ z31), .int (iZ z32), .int (iZ z33), .int (iZ z34), .ref a35, .ref a36, .ref a37, .ref a38, .ref a39, .ref a40, .ref a41, .int (iZ z42), .int (iZ z43), .ref a44, .ref a45])), (a22, .inl (cI, 900, .inl (zA g22))), (a23, .inl (cY, 900, .inl (zA g23))), (a24, .inl (cY, 900, .inl (zA g24))), (a26, .inl (cJ, 3604, .inr (.inl (lA (upZ (upZ g26 (4 * i + c9) v) ((4 * i) + c9) ((((z1 - (ln + (g22 (j - 1)))) * (z1 - (ln + (g22 (j - 1))))) + (z4 + z5)) + (g26 (4 * j + (c9 + 1) % z2)))))))), (a27, .inl (cI, 3604, .inl (zA (upZ g27 (4 * i + c9) n0)))), (a28, .inl (cI, 3604, .inl (zA (upZ g28 (4 * i + c9) e0))))]) rfl dX5_best_240 ?_
                        refine g_aload_n X 5 dX5_best_241 rfl rfl ?_
                        refine g_get X (index := 77) (ref := "GuideWordsModel") hin5 0 rfl rfl 27 (by decide) rfl (by decide +kernel) (v := .ref a27) rfl dX5_best_242 ?_
                        refine g_iload_n X 8 dX5_best_245 rfl rfl ?_
                        refine g_iload X 0 dX5_best_246 rfl ?_
                        refine g_iast X 5 1 rfl rfl (by omega) (by decide) (ws2 := [(m0, .inr (5, [.int (iZ z0), .int (iZ z1), .int (iZ z2), .int (iZ z3), .int (iZ z4), .int (iZ z5), .ref a6, .int (iZ z7), .ref a8, .int (iZ z9), .ref a10, .ref a11, .ref a12, .ref a13, .ref a14, .ref a15, .int (iZ z16), .ref a17, .int (iZ z18), .ref a19, .ref a20, .ref a21, .ref a22, .ref a23, .ref a24, .int (iZ z25), .ref a26, .ref a27, .ref a28, .int (iZ z29), .int (iZ z30), .int (iZ z31), .int (iZ z32), .int (iZ z33), .int (iZ z34), .ref a35, .ref a36, .ref a37, .ref a38, .ref a39, .ref a40, .ref a41, .int (iZ z42), .int (iZ z43), .ref a44, .ref a45])), (a22, .inl (cI, 900, .inl (zA g22))), (a23, .inl (cY, 900, .inl (zA g23))), (a24, .inl (cY, 900, .inl (zA g24))), (a26, .inl (cJ, 3604, .inr (.inl (lA (upZ (upZ g26 (4 * i + c9) v) ((4 * i) + c9) ((((z1 - (ln + (g22 (j - 1)))) * (z1 - (ln + (g22 (j - 1))))) + (z4 + z5)) + (g26 (4 * j + (c9 + 1) % z2)))))))), (a27, .inl (cI, 3604, .inl (zA (upZ (upZ g27 (4 * i + c9) n0) ((4 * i) + c9) (1 + (g27 (4 * j + (c9 + 1) % z2))))))), (a28, .inl (cI, 3604, .inl (zA (upZ g28 (4 * i + c9) e0))))]) rfl dX5_best_248 ?_
                        refine g_aload_n X 5 dX5_best_249 rfl rfl ?_
                        refine g_get X (index := 80) (ref := "GuideWordsModel") hin5 0 rfl rfl 28 (by decide) rfl (by decide +kernel) (v := .ref a28) rfl dX5_best_250 ?_
                        refine g_iload_n X 8 dX5_best_253 rfl rfl ?_
                        refine g_iload X 9 dX5_best_254 rfl ?_
                        refine g_iast X 6 1 rfl rfl (by omega) (by decide) (ws2 := [(m0, .inr (5, [.int (iZ z0), .int (iZ z1), .int (iZ z2), .int (iZ z3), .int (iZ z4), .int (iZ z5), .ref a6, .int (iZ z7), .ref a8, .int (iZ z9), .ref a10, .ref a11, .ref a12, .ref a13, .ref a14, .ref a15, .int (iZ z16), .ref a17, .int (iZ z18), .ref a19, .ref a20, .ref a21, .ref a22, .ref a23, .ref a24, .int (iZ z25), .ref a26, .ref a27, .ref a28, .int (iZ z29), .int (iZ z30), .int (iZ z31), .int (iZ z32), .int (iZ z33), .int (iZ z34), .ref a35, .ref a36, .ref a37, .ref a38, .ref a39, .ref a40, .ref a41, .int (iZ z42), .int (iZ z43), .ref a44, .ref a45])), (a22, .inl (cI, 900, .inl (zA g22))), (a23, .inl (cY, 900, .inl (zA g23))), (a24, .inl (cY, 900, .inl (zA g24))), (a26, .inl (cJ, 3604, .inr (.inl (lA (upZ (upZ g26 (4 * i + c9) v) ((4 * i) + c9) ((((z1 - (ln + (g22 (j - 1)))) * (z1 - (ln + (g22 (j - 1))))) + (z4 + z5)) + (g26 (4 * j + (c9 + 1) % z2)))))))), (a27, .inl (cI, 3604, .inl (zA (upZ (upZ g27 (4 * i + c9) n0) ((4 * i) + c9) (1 + (g27 (4 * j + (c9 + 1) % z2))))))), (a28, .inl (cI, 3604, .inl (zA (upZ (upZ g28 (4 * i + c9) e0) ((4 * i) + c9) j))))]) rfl dX5_best_256 ?_
                        refine g_iinc (q := 9) (lv2 := [(5, .int (iZ (j + 1))), (8, .int (iZ (1 + (g27 (4 * j + (c9 + 1) % z2))))), (6, .long (lZ ((((z1 - (ln + (g22 (j - 1)))) * (z1 - (ln + (g22 (j - 1))))) + (z4 + z5)) + (g26 (4 * j + (c9 + 1) % z2))))), (10, .int (iZ (z1 - (ln + (g22 (j - 1)))))), (9, .int (iZ ((4 * j) + ((c9 + 1) % z2)))), (4, .int (iZ (ln + (g22 (j - 1))))), (0, .ref m0), (1, .int (iZ i)), (2, .int (iZ c9)), (3, .int (iZ ((4 * i) + c9)))]) X dX5_best_257 rfl (by decide) rfl ?_
                        refine g_goto X 23 dX5_best_260 (by decide) ?_
                        refine g_eq (ws' := [(m0, .inr (5, [.int (iZ z0), .int (iZ z1), .int (iZ z2), .int (iZ z3), .int (iZ z4), .int (iZ z5), .ref a6, .int (iZ z7), .ref a8, .int (iZ z9), .ref a10, .ref a11, .ref a12, .ref a13, .ref a14, .ref a15, .int (iZ z16), .ref a17, .int (iZ z18), .ref a19, .ref a20, .ref a21, .ref a22, .ref a23, .ref a24, .int (iZ z25), .ref a26, .ref a27, .ref a28, .int (iZ z29), .int (iZ z30), .int (iZ z31), .int (iZ z32), .int (iZ z33), .int (iZ z34), .ref a35, .ref a36, .ref a37, .ref a38, .ref a39, .ref a40, .ref a41, .int (iZ z42), .int (iZ z43), .ref a44, .ref a45])), (a22, .inl (cI, 900, .inl (zA g22))), (a23, .inl (cY, 900, .inl (zA g23))), (a24, .inl (cY, 900, .inl (zA g24))), (a26, .inl (cJ, 3604, .inr (.inl (lA (upZ g26 (4 * i + c9) ((((z1 - (ln + (g22 (j - 1)))) * (z1 - (ln + (g22 (j - 1))))) + (z4 + z5)) + (g26 (4 * j + (c9 + 1) % z2)))))))), (a27, .inl (cI, 3604, .inl (zA (upZ g27 (4 * i + c9) (1 + (g27 (4 * j + (c9 + 1) % z2))))))), (a28, .inl (cI, 3604, .inl (zA (upZ g28 (4 * i + c9) j))))]) (by rw [upZ_uu, upZ_uu, upZ_uu]) rfl rfl rfl ?_
                        refine g_lv (lv' := [(0, .ref m0), (1, .int (iZ i)), (2, .int (iZ c9)), (3, .int (iZ ((4 * i) + c9))), (4, .int (iZ (ln + (g22 (j - 1))))), (5, .int (iZ (j + 1)))]) [6, 7, 8, 9, 5, 0] rfl ?_
                        exact ih_23 (((((z1 - (ln + (g22 (j - 1)))) * (z1 - (ln + (g22 (j - 1))))) + (z4 + z5)) + (g26 (4 * j + (c9 + 1) % z2)))) ((1 + (g27 (4 * j + (c9 + 1) % z2)))) j (ln + (g22 (j - 1))) (j + 1) (by omega) (by omega) (by omega) (fun h => by first | exact hne h | omega) hb2 (by omega)
                      · skip
                        have c_216 : (((z1 - (ln + (g22 (j - 1)))) * (z1 - (ln + (g22 (j - 1))))) + (z4 + z5)) + (g26 (4 * j + (c9 + 1) % z2)) = v := by have h9 := @cmpZ_eq ((((z1 - (ln + (g22 (j - 1)))) * (z1 - (ln + (g22 (j - 1))))) + (z4 + z5)) + (g26 (4 * j + (c9 + 1) % z2))) (v); omega
                        refine g_iload X 0 dX5_best_219 rfl ?_
                        refine g_aload_n X 5 dX5_best_221 rfl rfl ?_
                        refine g_get X (index := 77) (ref := "GuideWordsModel") hin5 0 rfl rfl 27 (by decide) rfl (by decide +kernel) (v := .ref a27) rfl dX5_best_222 ?_
                        refine g_iload_n X 8 dX5_best_225 rfl rfl ?_
                        refine g_iald X 5 1 rfl rfl (by omega) (by decide) dX5_best_226 ?_
                        refine g_topi (b := n0) upZ_s ?_
                        refine g_icmp_le X 233 dX5_best_227 (by decide) (by omega) (by have := hne (by omega); omega) (fun c_227 => ?_) (fun c_227 => ?_)
                        · skip
                          have hb2 := hb
                          rw [if_neg (by omega), ← hV, ← hN] at hb2
                          refine g_aload_n X 5 dX5_best_233 rfl rfl ?_
                          refine g_get X (index := 73) (ref := "GuideWordsModel") hin5 0 rfl rfl 26 (by decide) rfl (by decide +kernel) (v := .ref a26) rfl dX5_best_234 ?_
                          refine g_iload_n X 8 dX5_best_237 rfl rfl ?_
                          refine g_lload X 1 dX5_best_238 rfl ?_
                          refine g_last X 4 2 rfl rfl (by omega) (by decide) (ws2 := [(m0, .inr (5, [.int (iZ z0), .int (iZ z1), .int (iZ z2), .int (iZ z3), .int (iZ z4), .int (iZ z5), .ref a6, .int (iZ z7), .ref a8, .int (iZ z9), .ref a10, .ref a11, .ref a12, .ref a13, .ref a14, .ref a15, .int (iZ z16), .ref a17, .int (iZ z18), .ref a19, .ref a20, .ref a21, .ref a22, .ref a23, .ref a24, .int (iZ z25), .ref a26, .ref a27, .ref a28, .int (iZ z29), .int (iZ z30), .int (iZ z31), .int (iZ z32), .int (iZ z33), .int (iZ z34), .ref a35, .ref a36, .ref a37, .ref a38, .ref a39, .ref a40, .ref a41, .int (iZ z42), .int (iZ z43), .ref a44, .ref a45])), (a22, .inl (cI, 900, .inl (zA g22))), (a23, .inl (cY, 900, .inl (zA g23))), (a24, .inl (cY, 900, .inl (zA g24))), (a26, .inl (cJ, 3604, .inr (.inl (lA (upZ (upZ g26 (4 * i + c9) v) ((4 * i) + c9) ((((z1 - (ln + (g22 (j - 1)))) * (z1 - (ln + (g22 (j - 1))))) + (z4 + z5)) + (g26 (4 * j + (c9 + 1) % z2)))))))), (a27, .inl (cI, 3604, .inl (zA (upZ g27 (4 * i + c9) n0)))), (a28, .inl (cI, 3604, .inl (zA (upZ g28 (4 * i + c9) e0))))]) rfl dX5_best_240 ?_
                          refine g_aload_n X 5 dX5_best_241 rfl rfl ?_
                          refine g_get X (index := 77) (ref := "GuideWordsModel") hin5 0 rfl rfl 27 (by decide) rfl (by decide +kernel) (v := .ref a27) rfl dX5_best_242 ?_
                          refine g_iload_n X 8 dX5_best_245 rfl rfl ?_
                          refine g_iload X 0 dX5_best_246 rfl ?_
                          refine g_iast X 5 1 rfl rfl (by omega) (by decide) (ws2 := [(m0, .inr (5, [.int (iZ z0), .int (iZ z1), .int (iZ z2), .int (iZ z3), .int (iZ z4), .int (iZ z5), .ref a6, .int (iZ z7), .ref a8, .int (iZ z9), .ref a10, .ref a11, .ref a12, .ref a13, .ref a14, .ref a15, .int (iZ z16), .ref a17, .int (iZ z18), .ref a19, .ref a20, .ref a21, .ref a22, .ref a23, .ref a24, .int (iZ z25), .ref a26, .ref a27, .ref a28, .int (iZ z29), .int (iZ z30), .int (iZ z31), .int (iZ z32), .int (iZ z33), .int (iZ z34), .ref a35, .ref a36, .ref a37, .ref a38, .ref a39, .ref a40, .ref a41, .int (iZ z42), .int (iZ z43), .ref a44, .ref a45])), (a22, .inl (cI, 900, .inl (zA g22))), (a23, .inl (cY, 900, .inl (zA g23))), (a24, .inl (cY, 900, .inl (zA g24))), (a26, .inl (cJ, 3604, .inr (.inl (lA (upZ (upZ g26 (4 * i + c9) v) ((4 * i) + c9) ((((z1 - (ln + (g22 (j - 1)))) * (z1 - (ln + (g22 (j - 1))))) + (z4 + z5)) + (g26 (4 * j + (c9 + 1) % z2)))))))), (a27, .inl (cI, 3604, .inl (zA (upZ (upZ g27 (4 * i + c9) n0) ((4 * i) + c9) (1 + (g27 (4 * j + (c9 + 1) % z2))))))), (a28, .inl (cI, 3604, .inl (zA (upZ g28 (4 * i + c9) e0))))]) rfl dX5_best_248 ?_
                          refine g_aload_n X 5 dX5_best_249 rfl rfl ?_
                          refine g_get X (index := 80) (ref := "GuideWordsModel") hin5 0 rfl rfl 28 (by decide) rfl (by decide +kernel) (v := .ref a28) rfl dX5_best_250 ?_
                          refine g_iload_n X 8 dX5_best_253 rfl rfl ?_
                          refine g_iload X 9 dX5_best_254 rfl ?_
                          refine g_iast X 6 1 rfl rfl (by omega) (by decide) (ws2 := [(m0, .inr (5, [.int (iZ z0), .int (iZ z1), .int (iZ z2), .int (iZ z3), .int (iZ z4), .int (iZ z5), .ref a6, .int (iZ z7), .ref a8, .int (iZ z9), .ref a10, .ref a11, .ref a12, .ref a13, .ref a14, .ref a15, .int (iZ z16), .ref a17, .int (iZ z18), .ref a19, .ref a20, .ref a21, .ref a22, .ref a23, .ref a24, .int (iZ z25), .ref a26, .ref a27, .ref a28, .int (iZ z29), .int (iZ z30), .int (iZ z31), .int (iZ z32), .int (iZ z33), .int (iZ z34), .ref a35, .ref a36, .ref a37, .ref a38, .ref a39, .ref a40, .ref a41, .int (iZ z42), .int (iZ z43), .ref a44, .ref a45])), (a22, .inl (cI, 900, .inl (zA g22))), (a23, .inl (cY, 900, .inl (zA g23))), (a24, .inl (cY, 900, .inl (zA g24))), (a26, .inl (cJ, 3604, .inr (.inl (lA (upZ (upZ g26 (4 * i + c9) v) ((4 * i) + c9) ((((z1 - (ln + (g22 (j - 1)))) * (z1 - (ln + (g22 (j - 1))))) + (z4 + z5)) + (g26 (4 * j + (c9 + 1) % z2)))))))), (a27, .inl (cI, 3604, .inl (zA (upZ (upZ g27 (4 * i + c9) n0) ((4 * i) + c9) (1 + (g27 (4 * j + (c9 + 1) % z2))))))), (a28, .inl (cI, 3604, .inl (zA (upZ (upZ g28 (4 * i + c9) e0) ((4 * i) + c9) j))))]) rfl dX5_best_256 ?_
                          refine g_iinc (q := 9) (lv2 := [(5, .int (iZ (j + 1))), (8, .int (iZ (1 + (g27 (4 * j + (c9 + 1) % z2))))), (6, .long (lZ ((((z1 - (ln + (g22 (j - 1)))) * (z1 - (ln + (g22 (j - 1))))) + (z4 + z5)) + (g26 (4 * j + (c9 + 1) % z2))))), (10, .int (iZ (z1 - (ln + (g22 (j - 1)))))), (9, .int (iZ ((4 * j) + ((c9 + 1) % z2)))), (4, .int (iZ (ln + (g22 (j - 1))))), (0, .ref m0), (1, .int (iZ i)), (2, .int (iZ c9)), (3, .int (iZ ((4 * i) + c9)))]) X dX5_best_257 rfl (by decide) rfl ?_
                          refine g_goto X 23 dX5_best_260 (by decide) ?_
                          refine g_eq (ws' := [(m0, .inr (5, [.int (iZ z0), .int (iZ z1), .int (iZ z2), .int (iZ z3), .int (iZ z4), .int (iZ z5), .ref a6, .int (iZ z7), .ref a8, .int (iZ z9), .ref a10, .ref a11, .ref a12, .ref a13, .ref a14, .ref a15, .int (iZ z16), .ref a17, .int (iZ z18), .ref a19, .ref a20, .ref a21, .ref a22, .ref a23, .ref a24, .int (iZ z25), .ref a26, .ref a27, .ref a28, .int (iZ z29), .int (iZ z30), .int (iZ z31), .int (iZ z32), .int (iZ z33), .int (iZ z34), .ref a35, .ref a36, .ref a37, .ref a38, .ref a39, .ref a40, .ref a41, .int (iZ z42), .int (iZ z43), .ref a44, .ref a45])), (a22, .inl (cI, 900, .inl (zA g22))), (a23, .inl (cY, 900, .inl (zA g23))), (a24, .inl (cY, 900, .inl (zA g24))), (a26, .inl (cJ, 3604, .inr (.inl (lA (upZ g26 (4 * i + c9) ((((z1 - (ln + (g22 (j - 1)))) * (z1 - (ln + (g22 (j - 1))))) + (z4 + z5)) + (g26 (4 * j + (c9 + 1) % z2)))))))), (a27, .inl (cI, 3604, .inl (zA (upZ g27 (4 * i + c9) (1 + (g27 (4 * j + (c9 + 1) % z2))))))), (a28, .inl (cI, 3604, .inl (zA (upZ g28 (4 * i + c9) j))))]) (by rw [upZ_uu, upZ_uu, upZ_uu]) rfl rfl rfl ?_
                          refine g_lv (lv' := [(0, .ref m0), (1, .int (iZ i)), (2, .int (iZ c9)), (3, .int (iZ ((4 * i) + c9))), (4, .int (iZ (ln + (g22 (j - 1))))), (5, .int (iZ (j + 1)))]) [6, 7, 8, 9, 5, 0] rfl ?_
                          exact ih_23 (((((z1 - (ln + (g22 (j - 1)))) * (z1 - (ln + (g22 (j - 1))))) + (z4 + z5)) + (g26 (4 * j + (c9 + 1) % z2)))) ((1 + (g27 (4 * j + (c9 + 1) % z2)))) j (ln + (g22 (j - 1))) (j + 1) (by omega) (by omega) (by omega) (fun h => by first | exact hne h | omega) hb2 (by omega)
                        · skip
                          have hb2 := hb
                          rw [if_pos (Or.inr (Or.inr ⟨by omega, by omega⟩))] at hb2
                          refine g_goto X 257 dX5_best_230 (by decide) ?_
                          refine g_iinc (q := 9) (lv2 := [(5, .int (iZ (j + 1))), (8, .int (iZ (1 + (g27 (4 * j + (c9 + 1) % z2))))), (6, .long (lZ ((((z1 - (ln + (g22 (j - 1)))) * (z1 - (ln + (g22 (j - 1))))) + (z4 + z5)) + (g26 (4 * j + (c9 + 1) % z2))))), (10, .int (iZ (z1 - (ln + (g22 (j - 1)))))), (9, .int (iZ ((4 * j) + ((c9 + 1) % z2)))), (4, .int (iZ (ln + (g22 (j - 1))))), (0, .ref m0), (1, .int (iZ i)), (2, .int (iZ c9)), (3, .int (iZ ((4 * i) + c9)))]) X dX5_best_257 rfl (by decide) rfl ?_
                          refine g_goto X 23 dX5_best_260 (by decide) ?_
                          refine g_lv (lv' := [(0, .ref m0), (1, .int (iZ i)), (2, .int (iZ c9)), (3, .int (iZ ((4 * i) + c9))), (4, .int (iZ (ln + (g22 (j - 1))))), (5, .int (iZ (j + 1)))]) [6, 7, 8, 9, 5, 0] rfl ?_
                          exact ih_23 v n0 e0 (ln + (g22 (j - 1))) (j + 1) (by omega) (by omega) (by omega) (fun h => by first | exact hne h | omega) hb2 (by omega)
              · skip
                refine g_iconst X dX5_best_136 ?_
                refine g_goto X 163 dX5_best_137 (by decide) ?_
                refine g_iadd X dX5_best_163 ?_
                refine g_i2l X dX5_best_164 (by omega) ?_
                refine g_aload_n X 5 dX5_best_165 rfl rfl ?_
                refine g_get X (index := 73) (ref := "GuideWordsModel") hin5 0 rfl rfl 26 (by decide) rfl (by decide +kernel) (v := .ref a26) rfl dX5_best_166 ?_
                refine g_iload X 1 dX5_best_169 rfl ?_
                refine g_lald X 4 2 rfl rfl (by omega) (by decide) dX5_best_171 ?_
                refine g_topl (b := g26 (4 * j + (c9 + 1) % z2)) (upZ_n (by omega)) ?_
                have r_171 := h26 (4 * j + (c9 + 1) % z2) (by omega)
                refine g_ladd X dX5_best_172 ?_
                refine g_lstore (lv2 := [(6, .long (lZ ((((z1 - (ln + (g22 (j - 1)))) * (z1 - (ln + (g22 (j - 1))))) + 0) + (g26 (4 * j + (c9 + 1) % z2))))), (10, .int (iZ (z1 - (ln + (g22 (j - 1)))))), (9, .int (iZ ((4 * j) + ((c9 + 1) % z2)))), (8, .int (iZ 1)), (4, .int (iZ (ln + (g22 (j - 1))))), (0, .ref m0), (1, .int (iZ i)), (2, .int (iZ c9)), (3, .int (iZ ((4 * i) + c9))), (5, .int (iZ j))]) X dX5_best_173 (by decide) rfl ?_
                refine g_iconst X dX5_best_175 ?_
                refine g_aload_n X 5 dX5_best_176 rfl rfl ?_
                refine g_get X (index := 77) (ref := "GuideWordsModel") hin5 0 rfl rfl 27 (by decide) rfl (by decide +kernel) (v := .ref a27) rfl dX5_best_177 ?_
                refine g_iload X 2 dX5_best_180 rfl ?_
                refine g_iald X 5 1 rfl rfl (by omega) (by decide) dX5_best_182 ?_
                refine g_topi (b := g27 (4 * j + (c9 + 1) % z2)) (upZ_n (by omega)) ?_
                refine g_iadd X dX5_best_183 ?_
                refine g_istore (lv2 := [(8, .int (iZ (1 + (g27 (4 * j + (c9 + 1) % z2))))), (6, .long (lZ ((((z1 - (ln + (g22 (j - 1)))) * (z1 - (ln + (g22 (j - 1))))) + 0) + (g26 (4 * j + (c9 + 1) % z2))))), (10, .int (iZ (z1 - (ln + (g22 (j - 1)))))), (9, .int (iZ ((4 * j) + ((c9 + 1) % z2)))), (4, .int (iZ (ln + (g22 (j - 1))))), (0, .ref m0), (1, .int (iZ i)), (2, .int (iZ c9)), (3, .int (iZ ((4 * i) + c9))), (5, .int (iZ j))]) X dX5_best_184 (by decide) rfl ?_
                have hV : (((z1 - (ln + (g22 (j - 1)))) * (z1 - (ln + (g22 (j - 1))))) + 0) + (g26 (4 * j + (c9 + 1) % z2)) = vvM z1 z2 z4 z5 g24 g26 z25 c9 j (ln + g22 (j - 1)) := by
                  unfold vvM
                  first
                  | (rw [if_neg (by omega)]; done)
                  | (rw [if_pos (by omega), if_pos c_133]; done)
                  | (rw [if_pos (by omega), if_neg (by omega), if_pos c_151]; done)
                  | (rw [if_pos (by omega), if_neg (by omega), if_neg c_151]; done)
                have hN : 1 + (g27 (4 * j + (c9 + 1) % z2)) = nnM z2 g27 z25 c9 j := by
                  unfold nnM; first | (rw [if_neg (by omega)]; done) | (rw [if_pos (by omega)]; done)
                rw [if_neg (fun q => by have q2 := q.2; omega)] at hb
                have hnr : (((z1 - (ln + (g22 (j - 1)))) * (z1 - (ln + (g22 (j - 1))))) + 0) + (g26 (4 * j + (c9 + 1) % z2)) < 1152921504606846976 → 1 ≤ 1 + (g27 (4 * j + (c9 + 1) % z2)) ∧ 1 + (g27 (4 * j + (c9 + 1) % z2)) ≤ z25 - i := fun h => by
                  first
                  | omega
                  | (have q := hfe j ((c9 + 1) % z2) (by omega) (by omega) hmr hmr2 (by omega); omega)
                refine g_lload X 1 dX5_best_186 rfl ?_
                refine g_ldc2 (v := 1152921504606846976) (z := 1152921504606846976) X dX5_best_188 (by decide +kernel) rfl ?_
                refine g_lcmp X dX5_best_191 (by omega) (by omega) ?_
                refine g_if_ge X 257 dX5_best_192 (by decide) (by have := cmpZ_rng ((((z1 - (ln + (g22 (j - 1)))) * (z1 - (ln + (g22 (j - 1))))) + 0) + (g26 (4 * j + (c9 + 1) % z2))) (1152921504606846976); omega) (fun c_192 => ?_) (fun c_192 => ?_)
                · skip
                  have c_192 : 1152921504606846976 ≤ (((z1 - (ln + (g22 (j - 1)))) * (z1 - (ln + (g22 (j - 1))))) + 0) + (g26 (4 * j + (c9 + 1) % z2)) := by have h9 := @cmpZ_lt ((((z1 - (ln + (g22 (j - 1)))) * (z1 - (ln + (g22 (j - 1))))) + 0) + (g26 (4 * j + (c9 + 1) % z2))) (1152921504606846976); omega
                  have hb2 := hb
                  rw [if_pos (Or.inl (by omega))] at hb2
                  refine g_iinc (q := 9) (lv2 := [(5, .int (iZ (j + 1))), (8, .int (iZ (1 + (g27 (4 * j + (c9 + 1) % z2))))), (6, .long (lZ ((((z1 - (ln + (g22 (j - 1)))) * (z1 - (ln + (g22 (j - 1))))) + 0) + (g26 (4 * j + (c9 + 1) % z2))))), (10, .int (iZ (z1 - (ln + (g22 (j - 1)))))), (9, .int (iZ ((4 * j) + ((c9 + 1) % z2)))), (4, .int (iZ (ln + (g22 (j - 1))))), (0, .ref m0), (1, .int (iZ i)), (2, .int (iZ c9)), (3, .int (iZ ((4 * i) + c9)))]) X dX5_best_257 rfl (by decide) rfl ?_
                  refine g_goto X 23 dX5_best_260 (by decide) ?_
                  refine g_lv (lv' := [(0, .ref m0), (1, .int (iZ i)), (2, .int (iZ c9)), (3, .int (iZ ((4 * i) + c9))), (4, .int (iZ (ln + (g22 (j - 1))))), (5, .int (iZ (j + 1)))]) [6, 7, 8, 9, 5, 0] rfl ?_
                  exact ih_23 v n0 e0 (ln + (g22 (j - 1))) (j + 1) (by omega) (by omega) (by omega) (fun h => by first | exact hne h | omega) hb2 (by omega)
                · skip
                  have c_192 : (((z1 - (ln + (g22 (j - 1)))) * (z1 - (ln + (g22 (j - 1))))) + 0) + (g26 (4 * j + (c9 + 1) % z2)) < 1152921504606846976 := by have h9 := @cmpZ_lt ((((z1 - (ln + (g22 (j - 1)))) * (z1 - (ln + (g22 (j - 1))))) + 0) + (g26 (4 * j + (c9 + 1) % z2))) (1152921504606846976); omega
                  have hnr2 := hnr (by omega)
                  refine g_lload X 1 dX5_best_195 rfl ?_
                  refine g_aload_n X 5 dX5_best_197 rfl rfl ?_
                  refine g_get X (index := 73) (ref := "GuideWordsModel") hin5 0 rfl rfl 26 (by decide) rfl (by decide +kernel) (v := .ref a26) rfl dX5_best_198 ?_
                  refine g_iload_n X 8 dX5_best_201 rfl rfl ?_
                  refine g_lald X 4 2 rfl rfl (by omega) (by decide) dX5_best_202 ?_
                  refine g_topl (b := v) upZ_s ?_
                  refine g_lcmp X dX5_best_203 (by omega) (by omega) ?_
                  refine g_if_gt X 257 dX5_best_204 (by decide) (by have := cmpZ_rng ((((z1 - (ln + (g22 (j - 1)))) * (z1 - (ln + (g22 (j - 1))))) + 0) + (g26 (4 * j + (c9 + 1) % z2))) (v); omega) (fun c_204 => ?_) (fun c_204 => ?_)
                  · skip
                    have c_204 : v < (((z1 - (ln + (g22 (j - 1)))) * (z1 - (ln + (g22 (j - 1))))) + 0) + (g26 (4 * j + (c9 + 1) % z2)) := by have h9 := @cmpZ_le ((((z1 - (ln + (g22 (j - 1)))) * (z1 - (ln + (g22 (j - 1))))) + 0) + (g26 (4 * j + (c9 + 1) % z2))) (v); omega
                    have hb2 := hb
                    rw [if_pos (Or.inr (Or.inl (by omega)))] at hb2
                    refine g_iinc (q := 9) (lv2 := [(5, .int (iZ (j + 1))), (8, .int (iZ (1 + (g27 (4 * j + (c9 + 1) % z2))))), (6, .long (lZ ((((z1 - (ln + (g22 (j - 1)))) * (z1 - (ln + (g22 (j - 1))))) + 0) + (g26 (4 * j + (c9 + 1) % z2))))), (10, .int (iZ (z1 - (ln + (g22 (j - 1)))))), (9, .int (iZ ((4 * j) + ((c9 + 1) % z2)))), (4, .int (iZ (ln + (g22 (j - 1))))), (0, .ref m0), (1, .int (iZ i)), (2, .int (iZ c9)), (3, .int (iZ ((4 * i) + c9)))]) X dX5_best_257 rfl (by decide) rfl ?_
                    refine g_goto X 23 dX5_best_260 (by decide) ?_
                    refine g_lv (lv' := [(0, .ref m0), (1, .int (iZ i)), (2, .int (iZ c9)), (3, .int (iZ ((4 * i) + c9))), (4, .int (iZ (ln + (g22 (j - 1))))), (5, .int (iZ (j + 1)))]) [6, 7, 8, 9, 5, 0] rfl ?_
                    exact ih_23 v n0 e0 (ln + (g22 (j - 1))) (j + 1) (by omega) (by omega) (by omega) (fun h => by first | exact hne h | omega) hb2 (by omega)
                  · skip
                    have c_204 : (((z1 - (ln + (g22 (j - 1)))) * (z1 - (ln + (g22 (j - 1))))) + 0) + (g26 (4 * j + (c9 + 1) % z2)) ≤ v := by have h9 := @cmpZ_le ((((z1 - (ln + (g22 (j - 1)))) * (z1 - (ln + (g22 (j - 1))))) + 0) + (g26 (4 * j + (c9 + 1) % z2))) (v); omega
                    refine g_lload X 1 dX5_best_207 rfl ?_
                    refine g_aload_n X 5 dX5_best_209 rfl rfl ?_
                    refine g_get X (index := 73) (ref := "GuideWordsModel") hin5 0 rfl rfl 26 (by decide) rfl (by decide +kernel) (v := .ref a26) rfl dX5_best_210 ?_
                    refine g_iload_n X 8 dX5_best_213 rfl rfl ?_
                    refine g_lald X 4 2 rfl rfl (by omega) (by decide) dX5_best_214 ?_
                    refine g_topl (b := v) upZ_s ?_
                    refine g_lcmp X dX5_best_215 (by omega) (by omega) ?_
                    refine g_if_ne X 233 dX5_best_216 (by decide) (by have := cmpZ_rng ((((z1 - (ln + (g22 (j - 1)))) * (z1 - (ln + (g22 (j - 1))))) + 0) + (g26 (4 * j + (c9 + 1) % z2))) (v); omega) (fun c_216 => ?_) (fun c_216 => ?_)
                    · skip
                      have c_216 : ¬ (((z1 - (ln + (g22 (j - 1)))) * (z1 - (ln + (g22 (j - 1))))) + 0) + (g26 (4 * j + (c9 + 1) % z2)) = v := by have h9 := @cmpZ_eq ((((z1 - (ln + (g22 (j - 1)))) * (z1 - (ln + (g22 (j - 1))))) + 0) + (g26 (4 * j + (c9 + 1) % z2))) (v); omega
                      have hb2 := hb
                      rw [if_neg (by omega), ← hV, ← hN] at hb2
                      refine g_aload_n X 5 dX5_best_233 rfl rfl ?_
                      refine g_get X (index := 73) (ref := "GuideWordsModel") hin5 0 rfl rfl 26 (by decide) rfl (by decide +kernel) (v := .ref a26) rfl dX5_best_234 ?_
                      refine g_iload_n X 8 dX5_best_237 rfl rfl ?_
                      refine g_lload X 1 dX5_best_238 rfl ?_
                      refine g_last X 4 2 rfl rfl (by omega) (by decide) (ws2 := [(m0, .inr (5, [.int (iZ z0), .int (iZ z1), .int (iZ z2), .int (iZ z3), .int (iZ z4), .int (iZ z5), .ref a6, .int (iZ z7), .ref a8, .int (iZ z9), .ref a10, .ref a11, .ref a12, .ref a13, .ref a14, .ref a15, .int (iZ z16), .ref a17, .int (iZ z18), .ref a19, .ref a20, .ref a21, .ref a22, .ref a23, .ref a24, .int (iZ z25), .ref a26, .ref a27, .ref a28, .int (iZ z29), .int (iZ z30), .int (iZ z31), .int (iZ z32), .int (iZ z33), .int (iZ z34), .ref a35, .ref a36, .ref a37, .ref a38, .ref a39, .ref a40, .ref a41, .int (iZ z42), .int (iZ z43), .ref a44, .ref a45])), (a22, .inl (cI, 900, .inl (zA g22))), (a23, .inl (cY, 900, .inl (zA g23))), (a24, .inl (cY, 900, .inl (zA g24))), (a26, .inl (cJ, 3604, .inr (.inl (lA (upZ (upZ g26 (4 * i + c9) v) ((4 * i) + c9) ((((z1 - (ln + (g22 (j - 1)))) * (z1 - (ln + (g22 (j - 1))))) + 0) + (g26 (4 * j + (c9 + 1) % z2)))))))), (a27, .inl (cI, 3604, .inl (zA (upZ g27 (4 * i + c9) n0)))), (a28, .inl (cI, 3604, .inl (zA (upZ g28 (4 * i + c9) e0))))]) rfl dX5_best_240 ?_
                      refine g_aload_n X 5 dX5_best_241 rfl rfl ?_
                      refine g_get X (index := 77) (ref := "GuideWordsModel") hin5 0 rfl rfl 27 (by decide) rfl (by decide +kernel) (v := .ref a27) rfl dX5_best_242 ?_
                      refine g_iload_n X 8 dX5_best_245 rfl rfl ?_
                      refine g_iload X 0 dX5_best_246 rfl ?_
                      refine g_iast X 5 1 rfl rfl (by omega) (by decide) (ws2 := [(m0, .inr (5, [.int (iZ z0), .int (iZ z1), .int (iZ z2), .int (iZ z3), .int (iZ z4), .int (iZ z5), .ref a6, .int (iZ z7), .ref a8, .int (iZ z9), .ref a10, .ref a11, .ref a12, .ref a13, .ref a14, .ref a15, .int (iZ z16), .ref a17, .int (iZ z18), .ref a19, .ref a20, .ref a21, .ref a22, .ref a23, .ref a24, .int (iZ z25), .ref a26, .ref a27, .ref a28, .int (iZ z29), .int (iZ z30), .int (iZ z31), .int (iZ z32), .int (iZ z33), .int (iZ z34), .ref a35, .ref a36, .ref a37, .ref a38, .ref a39, .ref a40, .ref a41, .int (iZ z42), .int (iZ z43), .ref a44, .ref a45])), (a22, .inl (cI, 900, .inl (zA g22))), (a23, .inl (cY, 900, .inl (zA g23))), (a24, .inl (cY, 900, .inl (zA g24))), (a26, .inl (cJ, 3604, .inr (.inl (lA (upZ (upZ g26 (4 * i + c9) v) ((4 * i) + c9) ((((z1 - (ln + (g22 (j - 1)))) * (z1 - (ln + (g22 (j - 1))))) + 0) + (g26 (4 * j + (c9 + 1) % z2)))))))), (a27, .inl (cI, 3604, .inl (zA (upZ (upZ g27 (4 * i + c9) n0) ((4 * i) + c9) (1 + (g27 (4 * j + (c9 + 1) % z2))))))), (a28, .inl (cI, 3604, .inl (zA (upZ g28 (4 * i + c9) e0))))]) rfl dX5_best_248 ?_
                      refine g_aload_n X 5 dX5_best_249 rfl rfl ?_
                      refine g_get X (index := 80) (ref := "GuideWordsModel") hin5 0 rfl rfl 28 (by decide) rfl (by decide +kernel) (v := .ref a28) rfl dX5_best_250 ?_
                      refine g_iload_n X 8 dX5_best_253 rfl rfl ?_
                      refine g_iload X 9 dX5_best_254 rfl ?_
                      refine g_iast X 6 1 rfl rfl (by omega) (by decide) (ws2 := [(m0, .inr (5, [.int (iZ z0), .int (iZ z1), .int (iZ z2), .int (iZ z3), .int (iZ z4), .int (iZ z5), .ref a6, .int (iZ z7), .ref a8, .int (iZ z9), .ref a10, .ref a11, .ref a12, .ref a13, .ref a14, .ref a15, .int (iZ z16), .ref a17, .int (iZ z18), .ref a19, .ref a20, .ref a21, .ref a22, .ref a23, .ref a24, .int (iZ z25), .ref a26, .ref a27, .ref a28, .int (iZ z29), .int (iZ z30), .int (iZ z31), .int (iZ z32), .int (iZ z33), .int (iZ z34), .ref a35, .ref a36, .ref a37, .ref a38, .ref a39, .ref a40, .ref a41, .int (iZ z42), .int (iZ z43), .ref a44, .ref a45])), (a22, .inl (cI, 900, .inl (zA g22))), (a23, .inl (cY, 900, .inl (zA g23))), (a24, .inl (cY, 900, .inl (zA g24))), (a26, .inl (cJ, 3604, .inr (.inl (lA (upZ (upZ g26 (4 * i + c9) v) ((4 * i) + c9) ((((z1 - (ln + (g22 (j - 1)))) * (z1 - (ln + (g22 (j - 1))))) + 0) + (g26 (4 * j + (c9 + 1) % z2)))))))), (a27, .inl (cI, 3604, .inl (zA (upZ (upZ g27 (4 * i + c9) n0) ((4 * i) + c9) (1 + (g27 (4 * j + (c9 + 1) % z2))))))), (a28, .inl (cI, 3604, .inl (zA (upZ (upZ g28 (4 * i + c9) e0) ((4 * i) + c9) j))))]) rfl dX5_best_256 ?_
                      refine g_iinc (q := 9) (lv2 := [(5, .int (iZ (j + 1))), (8, .int (iZ (1 + (g27 (4 * j + (c9 + 1) % z2))))), (6, .long (lZ ((((z1 - (ln + (g22 (j - 1)))) * (z1 - (ln + (g22 (j - 1))))) + 0) + (g26 (4 * j + (c9 + 1) % z2))))), (10, .int (iZ (z1 - (ln + (g22 (j - 1)))))), (9, .int (iZ ((4 * j) + ((c9 + 1) % z2)))), (4, .int (iZ (ln + (g22 (j - 1))))), (0, .ref m0), (1, .int (iZ i)), (2, .int (iZ c9)), (3, .int (iZ ((4 * i) + c9)))]) X dX5_best_257 rfl (by decide) rfl ?_
                      refine g_goto X 23 dX5_best_260 (by decide) ?_
                      refine g_eq (ws' := [(m0, .inr (5, [.int (iZ z0), .int (iZ z1), .int (iZ z2), .int (iZ z3), .int (iZ z4), .int (iZ z5), .ref a6, .int (iZ z7), .ref a8, .int (iZ z9), .ref a10, .ref a11, .ref a12, .ref a13, .ref a14, .ref a15, .int (iZ z16), .ref a17, .int (iZ z18), .ref a19, .ref a20, .ref a21, .ref a22, .ref a23, .ref a24, .int (iZ z25), .ref a26, .ref a27, .ref a28, .int (iZ z29), .int (iZ z30), .int (iZ z31), .int (iZ z32), .int (iZ z33), .int (iZ z34), .ref a35, .ref a36, .ref a37, .ref a38, .ref a39, .ref a40, .ref a41, .int (iZ z42), .int (iZ z43), .ref a44, .ref a45])), (a22, .inl (cI, 900, .inl (zA g22))), (a23, .inl (cY, 900, .inl (zA g23))), (a24, .inl (cY, 900, .inl (zA g24))), (a26, .inl (cJ, 3604, .inr (.inl (lA (upZ g26 (4 * i + c9) ((((z1 - (ln + (g22 (j - 1)))) * (z1 - (ln + (g22 (j - 1))))) + 0) + (g26 (4 * j + (c9 + 1) % z2)))))))), (a27, .inl (cI, 3604, .inl (zA (upZ g27 (4 * i + c9) (1 + (g27 (4 * j + (c9 + 1) % z2))))))), (a28, .inl (cI, 3604, .inl (zA (upZ g28 (4 * i + c9) j))))]) (by rw [upZ_uu, upZ_uu, upZ_uu]) rfl rfl rfl ?_
                      refine g_lv (lv' := [(0, .ref m0), (1, .int (iZ i)), (2, .int (iZ c9)), (3, .int (iZ ((4 * i) + c9))), (4, .int (iZ (ln + (g22 (j - 1))))), (5, .int (iZ (j + 1)))]) [6, 7, 8, 9, 5, 0] rfl ?_
                      exact ih_23 (((((z1 - (ln + (g22 (j - 1)))) * (z1 - (ln + (g22 (j - 1))))) + 0) + (g26 (4 * j + (c9 + 1) % z2)))) ((1 + (g27 (4 * j + (c9 + 1) % z2)))) j (ln + (g22 (j - 1))) (j + 1) (by omega) (by omega) (by omega) (fun h => by first | exact hne h | omega) hb2 (by omega)
                    · skip
                      have c_216 : (((z1 - (ln + (g22 (j - 1)))) * (z1 - (ln + (g22 (j - 1))))) + 0) + (g26 (4 * j + (c9 + 1) % z2)) = v := by have h9 := @cmpZ_eq ((((z1 - (ln + (g22 (j - 1)))) * (z1 - (ln + (g22 (j - 1))))) + 0) + (g26 (4 * j + (c9 + 1) % z2))) (v); omega
                      refine g_iload X 0 dX5_best_219 rfl ?_
                      refine g_aload_n X 5 dX5_best_221 rfl rfl ?_
                      refine g_get X (index := 77) (ref := "GuideWordsModel") hin5 0 rfl rfl 27 (by decide) rfl (by decide +kernel) (v := .ref a27) rfl dX5_best_222 ?_
                      refine g_iload_n X 8 dX5_best_225 rfl rfl ?_
                      refine g_iald X 5 1 rfl rfl (by omega) (by decide) dX5_best_226 ?_
                      refine g_topi (b := n0) upZ_s ?_
                      refine g_icmp_le X 233 dX5_best_227 (by decide) (by omega) (by have := hne (by omega); omega) (fun c_227 => ?_) (fun c_227 => ?_)
                      · skip
                        have hb2 := hb
                        rw [if_neg (by omega), ← hV, ← hN] at hb2
                        refine g_aload_n X 5 dX5_best_233 rfl rfl ?_
                        refine g_get X (index := 73) (ref := "GuideWordsModel") hin5 0 rfl rfl 26 (by decide) rfl (by decide +kernel) (v := .ref a26) rfl dX5_best_234 ?_
                        refine g_iload_n X 8 dX5_best_237 rfl rfl ?_
                        refine g_lload X 1 dX5_best_238 rfl ?_
                        refine g_last X 4 2 rfl rfl (by omega) (by decide) (ws2 := [(m0, .inr (5, [.int (iZ z0), .int (iZ z1), .int (iZ z2), .int (iZ z3), .int (iZ z4), .int (iZ z5), .ref a6, .int (iZ z7), .ref a8, .int (iZ z9), .ref a10, .ref a11, .ref a12, .ref a13, .ref a14, .ref a15, .int (iZ z16), .ref a17, .int (iZ z18), .ref a19, .ref a20, .ref a21, .ref a22, .ref a23, .ref a24, .int (iZ z25), .ref a26, .ref a27, .ref a28, .int (iZ z29), .int (iZ z30), .int (iZ z31), .int (iZ z32), .int (iZ z33), .int (iZ z34), .ref a35, .ref a36, .ref a37, .ref a38, .ref a39, .ref a40, .ref a41, .int (iZ z42), .int (iZ z43), .ref a44, .ref a45])), (a22, .inl (cI, 900, .inl (zA g22))), (a23, .inl (cY, 900, .inl (zA g23))), (a24, .inl (cY, 900, .inl (zA g24))), (a26, .inl (cJ, 3604, .inr (.inl (lA (upZ (upZ g26 (4 * i + c9) v) ((4 * i) + c9) ((((z1 - (ln + (g22 (j - 1)))) * (z1 - (ln + (g22 (j - 1))))) + 0) + (g26 (4 * j + (c9 + 1) % z2)))))))), (a27, .inl (cI, 3604, .inl (zA (upZ g27 (4 * i + c9) n0)))), (a28, .inl (cI, 3604, .inl (zA (upZ g28 (4 * i + c9) e0))))]) rfl dX5_best_240 ?_
                        refine g_aload_n X 5 dX5_best_241 rfl rfl ?_
                        refine g_get X (index := 77) (ref := "GuideWordsModel") hin5 0 rfl rfl 27 (by decide) rfl (by decide +kernel) (v := .ref a27) rfl dX5_best_242 ?_
                        refine g_iload_n X 8 dX5_best_245 rfl rfl ?_
                        refine g_iload X 0 dX5_best_246 rfl ?_
                        refine g_iast X 5 1 rfl rfl (by omega) (by decide) (ws2 := [(m0, .inr (5, [.int (iZ z0), .int (iZ z1), .int (iZ z2), .int (iZ z3), .int (iZ z4), .int (iZ z5), .ref a6, .int (iZ z7), .ref a8, .int (iZ z9), .ref a10, .ref a11, .ref a12, .ref a13, .ref a14, .ref a15, .int (iZ z16), .ref a17, .int (iZ z18), .ref a19, .ref a20, .ref a21, .ref a22, .ref a23, .ref a24, .int (iZ z25), .ref a26, .ref a27, .ref a28, .int (iZ z29), .int (iZ z30), .int (iZ z31), .int (iZ z32), .int (iZ z33), .int (iZ z34), .ref a35, .ref a36, .ref a37, .ref a38, .ref a39, .ref a40, .ref a41, .int (iZ z42), .int (iZ z43), .ref a44, .ref a45])), (a22, .inl (cI, 900, .inl (zA g22))), (a23, .inl (cY, 900, .inl (zA g23))), (a24, .inl (cY, 900, .inl (zA g24))), (a26, .inl (cJ, 3604, .inr (.inl (lA (upZ (upZ g26 (4 * i + c9) v) ((4 * i) + c9) ((((z1 - (ln + (g22 (j - 1)))) * (z1 - (ln + (g22 (j - 1))))) + 0) + (g26 (4 * j + (c9 + 1) % z2)))))))), (a27, .inl (cI, 3604, .inl (zA (upZ (upZ g27 (4 * i + c9) n0) ((4 * i) + c9) (1 + (g27 (4 * j + (c9 + 1) % z2))))))), (a28, .inl (cI, 3604, .inl (zA (upZ g28 (4 * i + c9) e0))))]) rfl dX5_best_248 ?_
                        refine g_aload_n X 5 dX5_best_249 rfl rfl ?_
                        refine g_get X (index := 80) (ref := "GuideWordsModel") hin5 0 rfl rfl 28 (by decide) rfl (by decide +kernel) (v := .ref a28) rfl dX5_best_250 ?_
                        refine g_iload_n X 8 dX5_best_253 rfl rfl ?_
                        refine g_iload X 9 dX5_best_254 rfl ?_
                        refine g_iast X 6 1 rfl rfl (by omega) (by decide) (ws2 := [(m0, .inr (5, [.int (iZ z0), .int (iZ z1), .int (iZ z2), .int (iZ z3), .int (iZ z4), .int (iZ z5), .ref a6, .int (iZ z7), .ref a8, .int (iZ z9), .ref a10, .ref a11, .ref a12, .ref a13, .ref a14, .ref a15, .int (iZ z16), .ref a17, .int (iZ z18), .ref a19, .ref a20, .ref a21, .ref a22, .ref a23, .ref a24, .int (iZ z25), .ref a26, .ref a27, .ref a28, .int (iZ z29), .int (iZ z30), .int (iZ z31), .int (iZ z32), .int (iZ z33), .int (iZ z34), .ref a35, .ref a36, .ref a37, .ref a38, .ref a39, .ref a40, .ref a41, .int (iZ z42), .int (iZ z43), .ref a44, .ref a45])), (a22, .inl (cI, 900, .inl (zA g22))), (a23, .inl (cY, 900, .inl (zA g23))), (a24, .inl (cY, 900, .inl (zA g24))), (a26, .inl (cJ, 3604, .inr (.inl (lA (upZ (upZ g26 (4 * i + c9) v) ((4 * i) + c9) ((((z1 - (ln + (g22 (j - 1)))) * (z1 - (ln + (g22 (j - 1))))) + 0) + (g26 (4 * j + (c9 + 1) % z2)))))))), (a27, .inl (cI, 3604, .inl (zA (upZ (upZ g27 (4 * i + c9) n0) ((4 * i) + c9) (1 + (g27 (4 * j + (c9 + 1) % z2))))))), (a28, .inl (cI, 3604, .inl (zA (upZ (upZ g28 (4 * i + c9) e0) ((4 * i) + c9) j))))]) rfl dX5_best_256 ?_
                        refine g_iinc (q := 9) (lv2 := [(5, .int (iZ (j + 1))), (8, .int (iZ (1 + (g27 (4 * j + (c9 + 1) % z2))))), (6, .long (lZ ((((z1 - (ln + (g22 (j - 1)))) * (z1 - (ln + (g22 (j - 1))))) + 0) + (g26 (4 * j + (c9 + 1) % z2))))), (10, .int (iZ (z1 - (ln + (g22 (j - 1)))))), (9, .int (iZ ((4 * j) + ((c9 + 1) % z2)))), (4, .int (iZ (ln + (g22 (j - 1))))), (0, .ref m0), (1, .int (iZ i)), (2, .int (iZ c9)), (3, .int (iZ ((4 * i) + c9)))]) X dX5_best_257 rfl (by decide) rfl ?_
                        refine g_goto X 23 dX5_best_260 (by decide) ?_
                        refine g_eq (ws' := [(m0, .inr (5, [.int (iZ z0), .int (iZ z1), .int (iZ z2), .int (iZ z3), .int (iZ z4), .int (iZ z5), .ref a6, .int (iZ z7), .ref a8, .int (iZ z9), .ref a10, .ref a11, .ref a12, .ref a13, .ref a14, .ref a15, .int (iZ z16), .ref a17, .int (iZ z18), .ref a19, .ref a20, .ref a21, .ref a22, .ref a23, .ref a24, .int (iZ z25), .ref a26, .ref a27, .ref a28, .int (iZ z29), .int (iZ z30), .int (iZ z31), .int (iZ z32), .int (iZ z33), .int (iZ z34), .ref a35, .ref a36, .ref a37, .ref a38, .ref a39, .ref a40, .ref a41, .int (iZ z42), .int (iZ z43), .ref a44, .ref a45])), (a22, .inl (cI, 900, .inl (zA g22))), (a23, .inl (cY, 900, .inl (zA g23))), (a24, .inl (cY, 900, .inl (zA g24))), (a26, .inl (cJ, 3604, .inr (.inl (lA (upZ g26 (4 * i + c9) ((((z1 - (ln + (g22 (j - 1)))) * (z1 - (ln + (g22 (j - 1))))) + 0) + (g26 (4 * j + (c9 + 1) % z2)))))))), (a27, .inl (cI, 3604, .inl (zA (upZ g27 (4 * i + c9) (1 + (g27 (4 * j + (c9 + 1) % z2))))))), (a28, .inl (cI, 3604, .inl (zA (upZ g28 (4 * i + c9) j))))]) (by rw [upZ_uu, upZ_uu, upZ_uu]) rfl rfl rfl ?_
                        refine g_lv (lv' := [(0, .ref m0), (1, .int (iZ i)), (2, .int (iZ c9)), (3, .int (iZ ((4 * i) + c9))), (4, .int (iZ (ln + (g22 (j - 1))))), (5, .int (iZ (j + 1)))]) [6, 7, 8, 9, 5, 0] rfl ?_
                        exact ih_23 (((((z1 - (ln + (g22 (j - 1)))) * (z1 - (ln + (g22 (j - 1))))) + 0) + (g26 (4 * j + (c9 + 1) % z2)))) ((1 + (g27 (4 * j + (c9 + 1) % z2)))) j (ln + (g22 (j - 1))) (j + 1) (by omega) (by omega) (by omega) (fun h => by first | exact hne h | omega) hb2 (by omega)
                      · skip
                        have hb2 := hb
                        rw [if_pos (Or.inr (Or.inr ⟨by omega, by omega⟩))] at hb2
                        refine g_goto X 257 dX5_best_230 (by decide) ?_
                        refine g_iinc (q := 9) (lv2 := [(5, .int (iZ (j + 1))), (8, .int (iZ (1 + (g27 (4 * j + (c9 + 1) % z2))))), (6, .long (lZ ((((z1 - (ln + (g22 (j - 1)))) * (z1 - (ln + (g22 (j - 1))))) + 0) + (g26 (4 * j + (c9 + 1) % z2))))), (10, .int (iZ (z1 - (ln + (g22 (j - 1)))))), (9, .int (iZ ((4 * j) + ((c9 + 1) % z2)))), (4, .int (iZ (ln + (g22 (j - 1))))), (0, .ref m0), (1, .int (iZ i)), (2, .int (iZ c9)), (3, .int (iZ ((4 * i) + c9)))]) X dX5_best_257 rfl (by decide) rfl ?_
                        refine g_goto X 23 dX5_best_260 (by decide) ?_
                        refine g_lv (lv' := [(0, .ref m0), (1, .int (iZ i)), (2, .int (iZ c9)), (3, .int (iZ ((4 * i) + c9))), (4, .int (iZ (ln + (g22 (j - 1))))), (5, .int (iZ (j + 1)))]) [6, 7, 8, 9, 5, 0] rfl ?_
                        exact ih_23 v n0 e0 (ln + (g22 (j - 1))) (j + 1) (by omega) (by omega) (by omega) (fun h => by first | exact hne h | omega) hb2 (by omega)
          · skip
            refine g_aload_n X 1 dX5_best_65 rfl rfl ?_
            refine g_get X (index := 67) (ref := "GuideWordsModel") hin5 0 rfl rfl 23 (by decide) rfl (by decide +kernel) (v := .ref a23) rfl dX5_best_66 ?_
            refine g_iload X 5 dX5_best_69 rfl ?_
            refine g_iconst X dX5_best_71 ?_
            refine g_isub X dX5_best_72 ?_
            refine g_zald X 2 3 rfl rfl (by omega) (by decide) dX5_best_73 ?_
            have r_73 := h23 (j - 1) (by omega)
            refine g_if_ne X 80 dX5_best_74 (by decide) (by have := h23 (j - 1) (by omega); omega) (fun c_74 => ?_) (fun c_74 => ?_)
            · skip
              refine g_lconst (z := 0) X dX5_best_80 rfl ?_
              refine g_lstore (lv2 := [(6, .long (lZ 0)), (4, .int (iZ (ln + (g22 (j - 1))))), (0, .ref m0), (1, .int (iZ i)), (2, .int (iZ c9)), (3, .int (iZ ((4 * i) + c9))), (5, .int (iZ j))]) X dX5_best_81 (by decide) rfl ?_
              refine g_iconst X dX5_best_83 ?_
              refine g_istore (lv2 := [(8, .int (iZ 1)), (6, .long (lZ 0)), (4, .int (iZ (ln + (g22 (j - 1))))), (0, .ref m0), (1, .int (iZ i)), (2, .int (iZ c9)), (3, .int (iZ ((4 * i) + c9))), (5, .int (iZ j))]) X dX5_best_84 (by decide) rfl ?_
              refine g_iload X 7 dX5_best_86 rfl ?_
              refine g_aload_n X 3 dX5_best_88 rfl rfl ?_
              refine g_get X (index := 158) (ref := "GuideWordsModel") hin5 0 rfl rfl 25 (by decide) rfl (by decide +kernel) (v := .int (iZ z25)) rfl dX5_best_89 ?_
              refine g_icmp_ge X 186 dX5_best_92 (by decide) (by omega) (by omega) (fun c_92 => ?_) (fun c_92 => ?_)
              · skip
                have hV : 0 = vvM z1 z2 z4 z5 g24 g26 z25 c9 j (ln + g22 (j - 1)) := by
                  unfold vvM
                  first
                  | (rw [if_neg (by omega)]; done)
                  | (rw [if_pos (by omega), if_pos c_133]; done)
                  | (rw [if_pos (by omega), if_neg (by omega), if_pos c_151]; done)
                  | (rw [if_pos (by omega), if_neg (by omega), if_neg c_151]; done)
                have hN : 1 = nnM z2 g27 z25 c9 j := by
                  unfold nnM; first | (rw [if_neg (by omega)]; done) | (rw [if_pos (by omega)]; done)
                rw [if_neg (fun q => by have q2 := q.2; omega)] at hb
                have hnr : 0 < 1152921504606846976 → 1 ≤ 1 ∧ 1 ≤ z25 - i := fun h => by
                  first
                  | omega
                  | (have q := hfe j ((c9 + 1) % z2) (by omega) (by omega) hmr hmr2 (by omega); omega)
                refine g_lload X 1 dX5_best_186 rfl ?_
                refine g_ldc2 (v := 1152921504606846976) (z := 1152921504606846976) X dX5_best_188 (by decide +kernel) rfl ?_
                refine g_lcmp X dX5_best_191 (by omega) (by omega) ?_
                refine g_if_ge X 257 dX5_best_192 (by decide) (by have := cmpZ_rng (0) (1152921504606846976); omega) (fun c_192 => ?_) (fun c_192 => ?_)
                · skip
                  have c_192 : 1152921504606846976 ≤ 0 := by have h9 := @cmpZ_lt (0) (1152921504606846976); omega
                  have hb2 := hb
                  rw [if_pos (Or.inl (by omega))] at hb2
                  refine g_iinc (q := 7) (lv2 := [(5, .int (iZ (j + 1))), (8, .int (iZ 1)), (6, .long (lZ 0)), (4, .int (iZ (ln + (g22 (j - 1))))), (0, .ref m0), (1, .int (iZ i)), (2, .int (iZ c9)), (3, .int (iZ ((4 * i) + c9)))]) X dX5_best_257 rfl (by decide) rfl ?_
                  refine g_goto X 23 dX5_best_260 (by decide) ?_
                  refine g_lv (lv' := [(0, .ref m0), (1, .int (iZ i)), (2, .int (iZ c9)), (3, .int (iZ ((4 * i) + c9))), (4, .int (iZ (ln + (g22 (j - 1))))), (5, .int (iZ (j + 1)))]) [4, 5, 6, 7, 3, 0] rfl ?_
                  exact ih_23 v n0 e0 (ln + (g22 (j - 1))) (j + 1) (by omega) (by omega) (by omega) (fun h => by first | exact hne h | omega) hb2 (by omega)
                · skip
                  have c_192 : 0 < 1152921504606846976 := by have h9 := @cmpZ_lt (0) (1152921504606846976); omega
                  have hnr2 := hnr (by omega)
                  refine g_lload X 1 dX5_best_195 rfl ?_
                  refine g_aload_n X 3 dX5_best_197 rfl rfl ?_
                  refine g_get X (index := 73) (ref := "GuideWordsModel") hin5 0 rfl rfl 26 (by decide) rfl (by decide +kernel) (v := .ref a26) rfl dX5_best_198 ?_
                  refine g_iload_n X 6 dX5_best_201 rfl rfl ?_
                  refine g_lald X 4 2 rfl rfl (by omega) (by decide) dX5_best_202 ?_
                  refine g_topl (b := v) upZ_s ?_
                  refine g_lcmp X dX5_best_203 (by omega) (by omega) ?_
                  refine g_if_gt X 257 dX5_best_204 (by decide) (by have := cmpZ_rng (0) (v); omega) (fun c_204 => ?_) (fun c_204 => ?_)
                  · skip
                    have c_204 : v < 0 := by have h9 := @cmpZ_le (0) (v); omega
                    have hb2 := hb
                    rw [if_pos (Or.inr (Or.inl (by omega)))] at hb2
                    refine g_iinc (q := 7) (lv2 := [(5, .int (iZ (j + 1))), (8, .int (iZ 1)), (6, .long (lZ 0)), (4, .int (iZ (ln + (g22 (j - 1))))), (0, .ref m0), (1, .int (iZ i)), (2, .int (iZ c9)), (3, .int (iZ ((4 * i) + c9)))]) X dX5_best_257 rfl (by decide) rfl ?_
                    refine g_goto X 23 dX5_best_260 (by decide) ?_
                    refine g_lv (lv' := [(0, .ref m0), (1, .int (iZ i)), (2, .int (iZ c9)), (3, .int (iZ ((4 * i) + c9))), (4, .int (iZ (ln + (g22 (j - 1))))), (5, .int (iZ (j + 1)))]) [4, 5, 6, 7, 3, 0] rfl ?_
                    exact ih_23 v n0 e0 (ln + (g22 (j - 1))) (j + 1) (by omega) (by omega) (by omega) (fun h => by first | exact hne h | omega) hb2 (by omega)
                  · skip
                    have c_204 : 0 ≤ v := by have h9 := @cmpZ_le (0) (v); omega
                    refine g_lload X 1 dX5_best_207 rfl ?_
                    refine g_aload_n X 3 dX5_best_209 rfl rfl ?_
                    refine g_get X (index := 73) (ref := "GuideWordsModel") hin5 0 rfl rfl 26 (by decide) rfl (by decide +kernel) (v := .ref a26) rfl dX5_best_210 ?_
                    refine g_iload_n X 6 dX5_best_213 rfl rfl ?_
                    refine g_lald X 4 2 rfl rfl (by omega) (by decide) dX5_best_214 ?_
                    refine g_topl (b := v) upZ_s ?_
                    refine g_lcmp X dX5_best_215 (by omega) (by omega) ?_
                    refine g_if_ne X 233 dX5_best_216 (by decide) (by have := cmpZ_rng (0) (v); omega) (fun c_216 => ?_) (fun c_216 => ?_)
                    · skip
                      have c_216 : ¬ 0 = v := by have h9 := @cmpZ_eq (0) (v); omega
                      have hb2 := hb
                      rw [if_neg (by omega), ← hV, ← hN] at hb2
                      refine g_aload_n X 3 dX5_best_233 rfl rfl ?_
                      refine g_get X (index := 73) (ref := "GuideWordsModel") hin5 0 rfl rfl 26 (by decide) rfl (by decide +kernel) (v := .ref a26) rfl dX5_best_234 ?_
                      refine g_iload_n X 6 dX5_best_237 rfl rfl ?_
                      refine g_lload X 1 dX5_best_238 rfl ?_
                      refine g_last X 4 2 rfl rfl (by omega) (by decide) (ws2 := [(m0, .inr (5, [.int (iZ z0), .int (iZ z1), .int (iZ z2), .int (iZ z3), .int (iZ z4), .int (iZ z5), .ref a6, .int (iZ z7), .ref a8, .int (iZ z9), .ref a10, .ref a11, .ref a12, .ref a13, .ref a14, .ref a15, .int (iZ z16), .ref a17, .int (iZ z18), .ref a19, .ref a20, .ref a21, .ref a22, .ref a23, .ref a24, .int (iZ z25), .ref a26, .ref a27, .ref a28, .int (iZ z29), .int (iZ z30), .int (iZ z31), .int (iZ z32), .int (iZ z33), .int (iZ z34), .ref a35, .ref a36, .ref a37, .ref a38, .ref a39, .ref a40, .ref a41, .int (iZ z42), .int (iZ z43), .ref a44, .ref a45])), (a22, .inl (cI, 900, .inl (zA g22))), (a23, .inl (cY, 900, .inl (zA g23))), (a24, .inl (cY, 900, .inl (zA g24))), (a26, .inl (cJ, 3604, .inr (.inl (lA (upZ (upZ g26 (4 * i + c9) v) ((4 * i) + c9) 0))))), (a27, .inl (cI, 3604, .inl (zA (upZ g27 (4 * i + c9) n0)))), (a28, .inl (cI, 3604, .inl (zA (upZ g28 (4 * i + c9) e0))))]) rfl dX5_best_240 ?_
                      refine g_aload_n X 3 dX5_best_241 rfl rfl ?_
                      refine g_get X (index := 77) (ref := "GuideWordsModel") hin5 0 rfl rfl 27 (by decide) rfl (by decide +kernel) (v := .ref a27) rfl dX5_best_242 ?_
                      refine g_iload_n X 6 dX5_best_245 rfl rfl ?_
                      refine g_iload X 0 dX5_best_246 rfl ?_
                      refine g_iast X 5 1 rfl rfl (by omega) (by decide) (ws2 := [(m0, .inr (5, [.int (iZ z0), .int (iZ z1), .int (iZ z2), .int (iZ z3), .int (iZ z4), .int (iZ z5), .ref a6, .int (iZ z7), .ref a8, .int (iZ z9), .ref a10, .ref a11, .ref a12, .ref a13, .ref a14, .ref a15, .int (iZ z16), .ref a17, .int (iZ z18), .ref a19, .ref a20, .ref a21, .ref a22, .ref a23, .ref a24, .int (iZ z25), .ref a26, .ref a27, .ref a28, .int (iZ z29), .int (iZ z30), .int (iZ z31), .int (iZ z32), .int (iZ z33), .int (iZ z34), .ref a35, .ref a36, .ref a37, .ref a38, .ref a39, .ref a40, .ref a41, .int (iZ z42), .int (iZ z43), .ref a44, .ref a45])), (a22, .inl (cI, 900, .inl (zA g22))), (a23, .inl (cY, 900, .inl (zA g23))), (a24, .inl (cY, 900, .inl (zA g24))), (a26, .inl (cJ, 3604, .inr (.inl (lA (upZ (upZ g26 (4 * i + c9) v) ((4 * i) + c9) 0))))), (a27, .inl (cI, 3604, .inl (zA (upZ (upZ g27 (4 * i + c9) n0) ((4 * i) + c9) 1)))), (a28, .inl (cI, 3604, .inl (zA (upZ g28 (4 * i + c9) e0))))]) rfl dX5_best_248 ?_
                      refine g_aload_n X 3 dX5_best_249 rfl rfl ?_
                      refine g_get X (index := 80) (ref := "GuideWordsModel") hin5 0 rfl rfl 28 (by decide) rfl (by decide +kernel) (v := .ref a28) rfl dX5_best_250 ?_
                      refine g_iload_n X 6 dX5_best_253 rfl rfl ?_
                      refine g_iload X 7 dX5_best_254 rfl ?_
                      refine g_iast X 6 1 rfl rfl (by omega) (by decide) (ws2 := [(m0, .inr (5, [.int (iZ z0), .int (iZ z1), .int (iZ z2), .int (iZ z3), .int (iZ z4), .int (iZ z5), .ref a6, .int (iZ z7), .ref a8, .int (iZ z9), .ref a10, .ref a11, .ref a12, .ref a13, .ref a14, .ref a15, .int (iZ z16), .ref a17, .int (iZ z18), .ref a19, .ref a20, .ref a21, .ref a22, .ref a23, .ref a24, .int (iZ z25), .ref a26, .ref a27, .ref a28, .int (iZ z29), .int (iZ z30), .int (iZ z31), .int (iZ z32), .int (iZ z33), .int (iZ z34), .ref a35, .ref a36, .ref a37, .ref a38, .ref a39, .ref a40, .ref a41, .int (iZ z42), .int (iZ z43), .ref a44, .ref a45])), (a22, .inl (cI, 900, .inl (zA g22))), (a23, .inl (cY, 900, .inl (zA g23))), (a24, .inl (cY, 900, .inl (zA g24))), (a26, .inl (cJ, 3604, .inr (.inl (lA (upZ (upZ g26 (4 * i + c9) v) ((4 * i) + c9) 0))))), (a27, .inl (cI, 3604, .inl (zA (upZ (upZ g27 (4 * i + c9) n0) ((4 * i) + c9) 1)))), (a28, .inl (cI, 3604, .inl (zA (upZ (upZ g28 (4 * i + c9) e0) ((4 * i) + c9) j))))]) rfl dX5_best_256 ?_
                      refine g_iinc (q := 7) (lv2 := [(5, .int (iZ (j + 1))), (8, .int (iZ 1)), (6, .long (lZ 0)), (4, .int (iZ (ln + (g22 (j - 1))))), (0, .ref m0), (1, .int (iZ i)), (2, .int (iZ c9)), (3, .int (iZ ((4 * i) + c9)))]) X dX5_best_257 rfl (by decide) rfl ?_
                      refine g_goto X 23 dX5_best_260 (by decide) ?_
                      refine g_eq (ws' := [(m0, .inr (5, [.int (iZ z0), .int (iZ z1), .int (iZ z2), .int (iZ z3), .int (iZ z4), .int (iZ z5), .ref a6, .int (iZ z7), .ref a8, .int (iZ z9), .ref a10, .ref a11, .ref a12, .ref a13, .ref a14, .ref a15, .int (iZ z16), .ref a17, .int (iZ z18), .ref a19, .ref a20, .ref a21, .ref a22, .ref a23, .ref a24, .int (iZ z25), .ref a26, .ref a27, .ref a28, .int (iZ z29), .int (iZ z30), .int (iZ z31), .int (iZ z32), .int (iZ z33), .int (iZ z34), .ref a35, .ref a36, .ref a37, .ref a38, .ref a39, .ref a40, .ref a41, .int (iZ z42), .int (iZ z43), .ref a44, .ref a45])), (a22, .inl (cI, 900, .inl (zA g22))), (a23, .inl (cY, 900, .inl (zA g23))), (a24, .inl (cY, 900, .inl (zA g24))), (a26, .inl (cJ, 3604, .inr (.inl (lA (upZ g26 (4 * i + c9) 0))))), (a27, .inl (cI, 3604, .inl (zA (upZ g27 (4 * i + c9) 1)))), (a28, .inl (cI, 3604, .inl (zA (upZ g28 (4 * i + c9) j))))]) (by rw [upZ_uu, upZ_uu, upZ_uu]) rfl rfl rfl ?_
                      refine g_lv (lv' := [(0, .ref m0), (1, .int (iZ i)), (2, .int (iZ c9)), (3, .int (iZ ((4 * i) + c9))), (4, .int (iZ (ln + (g22 (j - 1))))), (5, .int (iZ (j + 1)))]) [4, 5, 6, 7, 3, 0] rfl ?_
                      exact ih_23 0 1 j (ln + (g22 (j - 1))) (j + 1) (by omega) (by omega) (by omega) (fun h => by first | exact hne h | omega) hb2 (by omega)
                    · skip
                      have c_216 : 0 = v := by have h9 := @cmpZ_eq (0) (v); omega
                      refine g_iload X 0 dX5_best_219 rfl ?_
                      refine g_aload_n X 3 dX5_best_221 rfl rfl ?_
                      refine g_get X (index := 77) (ref := "GuideWordsModel") hin5 0 rfl rfl 27 (by decide) rfl (by decide +kernel) (v := .ref a27) rfl dX5_best_222 ?_
                      refine g_iload_n X 6 dX5_best_225 rfl rfl ?_
                      refine g_iald X 5 1 rfl rfl (by omega) (by decide) dX5_best_226 ?_
                      refine g_topi (b := n0) upZ_s ?_
                      refine g_icmp_le X 233 dX5_best_227 (by decide) (by omega) (by have := hne (by omega); omega) (fun c_227 => ?_) (fun c_227 => ?_)
                      · skip
                        have hb2 := hb
                        rw [if_neg (by omega), ← hV, ← hN] at hb2
                        refine g_aload_n X 3 dX5_best_233 rfl rfl ?_
                        refine g_get X (index := 73) (ref := "GuideWordsModel") hin5 0 rfl rfl 26 (by decide) rfl (by decide +kernel) (v := .ref a26) rfl dX5_best_234 ?_
                        refine g_iload_n X 6 dX5_best_237 rfl rfl ?_
                        refine g_lload X 1 dX5_best_238 rfl ?_
                        refine g_last X 4 2 rfl rfl (by omega) (by decide) (ws2 := [(m0, .inr (5, [.int (iZ z0), .int (iZ z1), .int (iZ z2), .int (iZ z3), .int (iZ z4), .int (iZ z5), .ref a6, .int (iZ z7), .ref a8, .int (iZ z9), .ref a10, .ref a11, .ref a12, .ref a13, .ref a14, .ref a15, .int (iZ z16), .ref a17, .int (iZ z18), .ref a19, .ref a20, .ref a21, .ref a22, .ref a23, .ref a24, .int (iZ z25), .ref a26, .ref a27, .ref a28, .int (iZ z29), .int (iZ z30), .int (iZ z31), .int (iZ z32), .int (iZ z33), .int (iZ z34), .ref a35, .ref a36, .ref a37, .ref a38, .ref a39, .ref a40, .ref a41, .int (iZ z42), .int (iZ z43), .ref a44, .ref a45])), (a22, .inl (cI, 900, .inl (zA g22))), (a23, .inl (cY, 900, .inl (zA g23))), (a24, .inl (cY, 900, .inl (zA g24))), (a26, .inl (cJ, 3604, .inr (.inl (lA (upZ (upZ g26 (4 * i + c9) v) ((4 * i) + c9) 0))))), (a27, .inl (cI, 3604, .inl (zA (upZ g27 (4 * i + c9) n0)))), (a28, .inl (cI, 3604, .inl (zA (upZ g28 (4 * i + c9) e0))))]) rfl dX5_best_240 ?_
                        refine g_aload_n X 3 dX5_best_241 rfl rfl ?_
                        refine g_get X (index := 77) (ref := "GuideWordsModel") hin5 0 rfl rfl 27 (by decide) rfl (by decide +kernel) (v := .ref a27) rfl dX5_best_242 ?_
                        refine g_iload_n X 6 dX5_best_245 rfl rfl ?_
                        refine g_iload X 0 dX5_best_246 rfl ?_
                        refine g_iast X 5 1 rfl rfl (by omega) (by decide) (ws2 := [(m0, .inr (5, [.int (iZ z0), .int (iZ z1), .int (iZ z2), .int (iZ z3), .int (iZ z4), .int (iZ z5), .ref a6, .int (iZ z7), .ref a8, .int (iZ z9), .ref a10, .ref a11, .ref a12, .ref a13, .ref a14, .ref a15, .int (iZ z16), .ref a17, .int (iZ z18), .ref a19, .ref a20, .ref a21, .ref a22, .ref a23, .ref a24, .int (iZ z25), .ref a26, .ref a27, .ref a28, .int (iZ z29), .int (iZ z30), .int (iZ z31), .int (iZ z32), .int (iZ z33), .int (iZ z34), .ref a35, .ref a36, .ref a37, .ref a38, .ref a39, .ref a40, .ref a41, .int (iZ z42), .int (iZ z43), .ref a44, .ref a45])), (a22, .inl (cI, 900, .inl (zA g22))), (a23, .inl (cY, 900, .inl (zA g23))), (a24, .inl (cY, 900, .inl (zA g24))), (a26, .inl (cJ, 3604, .inr (.inl (lA (upZ (upZ g26 (4 * i + c9) v) ((4 * i) + c9) 0))))), (a27, .inl (cI, 3604, .inl (zA (upZ (upZ g27 (4 * i + c9) n0) ((4 * i) + c9) 1)))), (a28, .inl (cI, 3604, .inl (zA (upZ g28 (4 * i + c9) e0))))]) rfl dX5_best_248 ?_
                        refine g_aload_n X 3 dX5_best_249 rfl rfl ?_
                        refine g_get X (index := 80) (ref := "GuideWordsModel") hin5 0 rfl rfl 28 (by decide) rfl (by decide +kernel) (v := .ref a28) rfl dX5_best_250 ?_
                        refine g_iload_n X 6 dX5_best_253 rfl rfl ?_
                        refine g_iload X 7 dX5_best_254 rfl ?_
                        refine g_iast X 6 1 rfl rfl (by omega) (by decide) (ws2 := [(m0, .inr (5, [.int (iZ z0), .int (iZ z1), .int (iZ z2), .int (iZ z3), .int (iZ z4), .int (iZ z5), .ref a6, .int (iZ z7), .ref a8, .int (iZ z9), .ref a10, .ref a11, .ref a12, .ref a13, .ref a14, .ref a15, .int (iZ z16), .ref a17, .int (iZ z18), .ref a19, .ref a20, .ref a21, .ref a22, .ref a23, .ref a24, .int (iZ z25), .ref a26, .ref a27, .ref a28, .int (iZ z29), .int (iZ z30), .int (iZ z31), .int (iZ z32), .int (iZ z33), .int (iZ z34), .ref a35, .ref a36, .ref a37, .ref a38, .ref a39, .ref a40, .ref a41, .int (iZ z42), .int (iZ z43), .ref a44, .ref a45])), (a22, .inl (cI, 900, .inl (zA g22))), (a23, .inl (cY, 900, .inl (zA g23))), (a24, .inl (cY, 900, .inl (zA g24))), (a26, .inl (cJ, 3604, .inr (.inl (lA (upZ (upZ g26 (4 * i + c9) v) ((4 * i) + c9) 0))))), (a27, .inl (cI, 3604, .inl (zA (upZ (upZ g27 (4 * i + c9) n0) ((4 * i) + c9) 1)))), (a28, .inl (cI, 3604, .inl (zA (upZ (upZ g28 (4 * i + c9) e0) ((4 * i) + c9) j))))]) rfl dX5_best_256 ?_
                        refine g_iinc (q := 7) (lv2 := [(5, .int (iZ (j + 1))), (8, .int (iZ 1)), (6, .long (lZ 0)), (4, .int (iZ (ln + (g22 (j - 1))))), (0, .ref m0), (1, .int (iZ i)), (2, .int (iZ c9)), (3, .int (iZ ((4 * i) + c9)))]) X dX5_best_257 rfl (by decide) rfl ?_
                        refine g_goto X 23 dX5_best_260 (by decide) ?_
                        refine g_eq (ws' := [(m0, .inr (5, [.int (iZ z0), .int (iZ z1), .int (iZ z2), .int (iZ z3), .int (iZ z4), .int (iZ z5), .ref a6, .int (iZ z7), .ref a8, .int (iZ z9), .ref a10, .ref a11, .ref a12, .ref a13, .ref a14, .ref a15, .int (iZ z16), .ref a17, .int (iZ z18), .ref a19, .ref a20, .ref a21, .ref a22, .ref a23, .ref a24, .int (iZ z25), .ref a26, .ref a27, .ref a28, .int (iZ z29), .int (iZ z30), .int (iZ z31), .int (iZ z32), .int (iZ z33), .int (iZ z34), .ref a35, .ref a36, .ref a37, .ref a38, .ref a39, .ref a40, .ref a41, .int (iZ z42), .int (iZ z43), .ref a44, .ref a45])), (a22, .inl (cI, 900, .inl (zA g22))), (a23, .inl (cY, 900, .inl (zA g23))), (a24, .inl (cY, 900, .inl (zA g24))), (a26, .inl (cJ, 3604, .inr (.inl (lA (upZ g26 (4 * i + c9) 0))))), (a27, .inl (cI, 3604, .inl (zA (upZ g27 (4 * i + c9) 1)))), (a28, .inl (cI, 3604, .inl (zA (upZ g28 (4 * i + c9) j))))]) (by rw [upZ_uu, upZ_uu, upZ_uu]) rfl rfl rfl ?_
                        refine g_lv (lv' := [(0, .ref m0), (1, .int (iZ i)), (2, .int (iZ c9)), (3, .int (iZ ((4 * i) + c9))), (4, .int (iZ (ln + (g22 (j - 1))))), (5, .int (iZ (j + 1)))]) [4, 5, 6, 7, 3, 0] rfl ?_
                        exact ih_23 0 1 j (ln + (g22 (j - 1))) (j + 1) (by omega) (by omega) (by omega) (fun h => by first | exact hne h | omega) hb2 (by omega)
                      · skip
                        have hb2 := hb
                        rw [if_pos (Or.inr (Or.inr ⟨by omega, by omega⟩))] at hb2
                        refine g_goto X 257 dX5_best_230 (by decide) ?_
                        refine g_iinc (q := 7) (lv2 := [(5, .int (iZ (j + 1))), (8, .int (iZ 1)), (6, .long (lZ 0)), (4, .int (iZ (ln + (g22 (j - 1))))), (0, .ref m0), (1, .int (iZ i)), (2, .int (iZ c9)), (3, .int (iZ ((4 * i) + c9)))]) X dX5_best_257 rfl (by decide) rfl ?_
                        refine g_goto X 23 dX5_best_260 (by decide) ?_
                        refine g_lv (lv' := [(0, .ref m0), (1, .int (iZ i)), (2, .int (iZ c9)), (3, .int (iZ ((4 * i) + c9))), (4, .int (iZ (ln + (g22 (j - 1))))), (5, .int (iZ (j + 1)))]) [4, 5, 6, 7, 3, 0] rfl ?_
                        exact ih_23 v n0 e0 (ln + (g22 (j - 1))) (j + 1) (by omega) (by omega) (by omega) (fun h => by first | exact hne h | omega) hb2 (by omega)
              · skip
                have hmr := Int.emod_nonneg (c9 + 1) (show z2 ≠ 0 by omega)
                have hmr2 := Int.emod_lt_of_pos (c9 + 1) (show 0 < z2 by omega)
                refine g_iconst X dX5_best_95 ?_
                refine g_iload X 7 dX5_best_96 rfl ?_
                refine g_imul X dX5_best_98 ?_
                refine g_iload_n X 5 dX5_best_99 rfl rfl ?_
                refine g_iconst X dX5_best_100 ?_
                refine g_iadd X dX5_best_101 ?_
                refine g_aload_n X 3 dX5_best_102 rfl rfl ?_
                refine g_get X (index := 13) (ref := "GuideWordsModel") hin5 0 rfl rfl 2 (by decide) rfl (by decide +kernel) (v := .int (iZ z2)) rfl dX5_best_103 ?_
                refine g_irem X dX5_best_106 (by omega) (by omega) ?_
                refine g_iadd X dX5_best_107 ?_
                refine g_istore (lv2 := [(9, .int (iZ ((4 * j) + ((c9 + 1) % z2)))), (8, .int (iZ 1)), (6, .long (lZ 0)), (4, .int (iZ (ln + (g22 (j - 1))))), (0, .ref m0), (1, .int (iZ i)), (2, .int (iZ c9)), (3, .int (iZ ((4 * i) + c9))), (5, .int (iZ j))]) X dX5_best_108 (by decide) rfl ?_
                refine g_aload_n X 4 dX5_best_110 rfl rfl ?_
                refine g_get X (index := 7) (ref := "GuideWordsModel") hin5 0 rfl rfl 1 (by decide) rfl (by decide +kernel) (v := .int (iZ z1)) rfl dX5_best_111 ?_
                refine g_iload X 3 dX5_best_114 rfl ?_
                refine g_isub X dX5_best_116 ?_
                refine g_istore (lv2 := [(10, .int (iZ (z1 - (ln + (g22 (j - 1)))))), (9, .int (iZ ((4 * j) + ((c9 + 1) % z2)))), (8, .int (iZ 1)), (6, .long (lZ 0)), (4, .int (iZ (ln + (g22 (j - 1))))), (0, .ref m0), (1, .int (iZ i)), (2, .int (iZ c9)), (3, .int (iZ ((4 * i) + c9))), (5, .int (iZ j))]) X dX5_best_117 (by decide) rfl ?_
                have hsq := sq_rng (a := z1 - (ln + g22 (j - 1))) (by omega)
                refine g_iload X 0 dX5_best_119 rfl ?_
                refine g_iload X 0 dX5_best_121 rfl ?_
                refine g_imul X dX5_best_123 ?_
                refine g_aload_n X 5 dX5_best_124 rfl rfl ?_
                refine g_get X (index := 70) (ref := "GuideWordsModel") hin5 0 rfl rfl 24 (by decide) rfl (by decide +kernel) (v := .ref a24) rfl dX5_best_125 ?_
                refine g_iload X 9 dX5_best_128 rfl ?_
                refine g_iconst X dX5_best_130 ?_
                refine g_isub X dX5_best_131 ?_
                refine g_zald X 3 3 rfl rfl (by omega) (by decide) dX5_best_132 ?_
                have r_132 := h24 (j - 1) (by omega)
                refine g_if_eq X 140 dX5_best_133 (by decide) (by have := h24 (j - 1) (by omega); omega) (fun c_133 => ?_) (fun c_133 => ?_)
                · skip
                  refine g_aload_n X 5 dX5_best_140 rfl rfl ?_
                  refine g_get X (index := 19) (ref := "GuideWordsModel") hin5 0 rfl rfl 4 (by decide) rfl (by decide +kernel) (v := .int (iZ z4)) rfl dX5_best_141 ?_
                  refine g_iload_n X 7 dX5_best_144 rfl rfl ?_
                  refine g_aload_n X 5 dX5_best_145 rfl rfl ?_
                  refine g_get X (index := 13) (ref := "GuideWordsModel") hin5 0 rfl rfl 2 (by decide) rfl (by decide +kernel) (v := .int (iZ z2)) rfl dX5_best_146 ?_
                  refine g_iconst X dX5_best_149 ?_
                  refine g_isub X dX5_best_150 ?_
                  refine g_icmp_ne X 161 dX5_best_151 (by decide) (by omega) (by omega) (fun c_151 => ?_) (fun c_151 => ?_)
                  · skip
                    refine g_iconst X dX5_best_161 ?_
                    refine g_iadd X dX5_best_162 ?_
                    refine g_iadd X dX5_best_163 ?_
                    refine g_i2l X dX5_best_164 (by omega) ?_
                    refine g_aload_n X 5 dX5_best_165 rfl rfl ?_
                    refine g_get X (index := 73) (ref := "GuideWordsModel") hin5 0 rfl rfl 26 (by decide) rfl (by decide +kernel) (v := .ref a26) rfl dX5_best_166 ?_
                    refine g_iload X 1 dX5_best_169 rfl ?_
                    refine g_lald X 4 2 rfl rfl (by omega) (by decide) dX5_best_171 ?_
                    refine g_topl (b := g26 (4 * j + (c9 + 1) % z2)) (upZ_n (by omega)) ?_
                    have r_171 := h26 (4 * j + (c9 + 1) % z2) (by omega)
                    refine g_ladd X dX5_best_172 ?_
                    refine g_lstore (lv2 := [(6, .long (lZ ((((z1 - (ln + (g22 (j - 1)))) * (z1 - (ln + (g22 (j - 1))))) + (z4 + 0)) + (g26 (4 * j + (c9 + 1) % z2))))), (10, .int (iZ (z1 - (ln + (g22 (j - 1)))))), (9, .int (iZ ((4 * j) + ((c9 + 1) % z2)))), (8, .int (iZ 1)), (4, .int (iZ (ln + (g22 (j - 1))))), (0, .ref m0), (1, .int (iZ i)), (2, .int (iZ c9)), (3, .int (iZ ((4 * i) + c9))), (5, .int (iZ j))]) X dX5_best_173 (by decide) rfl ?_
                    refine g_iconst X dX5_best_175 ?_
                    refine g_aload_n X 5 dX5_best_176 rfl rfl ?_
                    refine g_get X (index := 77) (ref := "GuideWordsModel") hin5 0 rfl rfl 27 (by decide) rfl (by decide +kernel) (v := .ref a27) rfl dX5_best_177 ?_
                    refine g_iload X 2 dX5_best_180 rfl ?_
                    refine g_iald X 5 1 rfl rfl (by omega) (by decide) dX5_best_182 ?_
                    refine g_topi (b := g27 (4 * j + (c9 + 1) % z2)) (upZ_n (by omega)) ?_
                    refine g_iadd X dX5_best_183 ?_
                    refine g_istore (lv2 := [(8, .int (iZ (1 + (g27 (4 * j + (c9 + 1) % z2))))), (6, .long (lZ ((((z1 - (ln + (g22 (j - 1)))) * (z1 - (ln + (g22 (j - 1))))) + (z4 + 0)) + (g26 (4 * j + (c9 + 1) % z2))))), (10, .int (iZ (z1 - (ln + (g22 (j - 1)))))), (9, .int (iZ ((4 * j) + ((c9 + 1) % z2)))), (4, .int (iZ (ln + (g22 (j - 1))))), (0, .ref m0), (1, .int (iZ i)), (2, .int (iZ c9)), (3, .int (iZ ((4 * i) + c9))), (5, .int (iZ j))]) X dX5_best_184 (by decide) rfl ?_
                    have hV : (((z1 - (ln + (g22 (j - 1)))) * (z1 - (ln + (g22 (j - 1))))) + (z4 + 0)) + (g26 (4 * j + (c9 + 1) % z2)) = vvM z1 z2 z4 z5 g24 g26 z25 c9 j (ln + g22 (j - 1)) := by
                      unfold vvM
                      first
                      | (rw [if_neg (by omega)]; done)
                      | (rw [if_pos (by omega), if_pos c_133]; done)
                      | (rw [if_pos (by omega), if_neg (by omega), if_pos c_151]; done)
                      | (rw [if_pos (by omega), if_neg (by omega), if_neg c_151]; done)
                    have hN : 1 + (g27 (4 * j + (c9 + 1) % z2)) = nnM z2 g27 z25 c9 j := by
                      unfold nnM; first | (rw [if_neg (by omega)]; done) | (rw [if_pos (by omega)]; done)
                    rw [if_neg (fun q => by have q2 := q.2; omega)] at hb
                    have hnr : (((z1 - (ln + (g22 (j - 1)))) * (z1 - (ln + (g22 (j - 1))))) + (z4 + 0)) + (g26 (4 * j + (c9 + 1) % z2)) < 1152921504606846976 → 1 ≤ 1 + (g27 (4 * j + (c9 + 1) % z2)) ∧ 1 + (g27 (4 * j + (c9 + 1) % z2)) ≤ z25 - i := fun h => by
                      first
                      | omega
                      | (have q := hfe j ((c9 + 1) % z2) (by omega) (by omega) hmr hmr2 (by omega); omega)
                    refine g_lload X 1 dX5_best_186 rfl ?_
                    refine g_ldc2 (v := 1152921504606846976) (z := 1152921504606846976) X dX5_best_188 (by decide +kernel) rfl ?_
                    refine g_lcmp X dX5_best_191 (by omega) (by omega) ?_
                    refine g_if_ge X 257 dX5_best_192 (by decide) (by have := cmpZ_rng ((((z1 - (ln + (g22 (j - 1)))) * (z1 - (ln + (g22 (j - 1))))) + (z4 + 0)) + (g26 (4 * j + (c9 + 1) % z2))) (1152921504606846976); omega) (fun c_192 => ?_) (fun c_192 => ?_)
                    · skip
                      have c_192 : 1152921504606846976 ≤ (((z1 - (ln + (g22 (j - 1)))) * (z1 - (ln + (g22 (j - 1))))) + (z4 + 0)) + (g26 (4 * j + (c9 + 1) % z2)) := by have h9 := @cmpZ_lt ((((z1 - (ln + (g22 (j - 1)))) * (z1 - (ln + (g22 (j - 1))))) + (z4 + 0)) + (g26 (4 * j + (c9 + 1) % z2))) (1152921504606846976); omega
                      have hb2 := hb
                      rw [if_pos (Or.inl (by omega))] at hb2
                      refine g_iinc (q := 9) (lv2 := [(5, .int (iZ (j + 1))), (8, .int (iZ (1 + (g27 (4 * j + (c9 + 1) % z2))))), (6, .long (lZ ((((z1 - (ln + (g22 (j - 1)))) * (z1 - (ln + (g22 (j - 1))))) + (z4 + 0)) + (g26 (4 * j + (c9 + 1) % z2))))), (10, .int (iZ (z1 - (ln + (g22 (j - 1)))))), (9, .int (iZ ((4 * j) + ((c9 + 1) % z2)))), (4, .int (iZ (ln + (g22 (j - 1))))), (0, .ref m0), (1, .int (iZ i)), (2, .int (iZ c9)), (3, .int (iZ ((4 * i) + c9)))]) X dX5_best_257 rfl (by decide) rfl ?_
                      refine g_goto X 23 dX5_best_260 (by decide) ?_
                      refine g_lv (lv' := [(0, .ref m0), (1, .int (iZ i)), (2, .int (iZ c9)), (3, .int (iZ ((4 * i) + c9))), (4, .int (iZ (ln + (g22 (j - 1))))), (5, .int (iZ (j + 1)))]) [6, 7, 8, 9, 5, 0] rfl ?_
                      exact ih_23 v n0 e0 (ln + (g22 (j - 1))) (j + 1) (by omega) (by omega) (by omega) (fun h => by first | exact hne h | omega) hb2 (by omega)
                    · skip
                      have c_192 : (((z1 - (ln + (g22 (j - 1)))) * (z1 - (ln + (g22 (j - 1))))) + (z4 + 0)) + (g26 (4 * j + (c9 + 1) % z2)) < 1152921504606846976 := by have h9 := @cmpZ_lt ((((z1 - (ln + (g22 (j - 1)))) * (z1 - (ln + (g22 (j - 1))))) + (z4 + 0)) + (g26 (4 * j + (c9 + 1) % z2))) (1152921504606846976); omega
                      have hnr2 := hnr (by omega)
                      refine g_lload X 1 dX5_best_195 rfl ?_
                      refine g_aload_n X 5 dX5_best_197 rfl rfl ?_
                      refine g_get X (index := 73) (ref := "GuideWordsModel") hin5 0 rfl rfl 26 (by decide) rfl (by decide +kernel) (v := .ref a26) rfl dX5_best_198 ?_
                      refine g_iload_n X 8 dX5_best_201 rfl rfl ?_
                      refine g_lald X 4 2 rfl rfl (by omega) (by decide) dX5_best_202 ?_
                      refine g_topl (b := v) upZ_s ?_
                      refine g_lcmp X dX5_best_203 (by omega) (by omega) ?_
                      refine g_if_gt X 257 dX5_best_204 (by decide) (by have := cmpZ_rng ((((z1 - (ln + (g22 (j - 1)))) * (z1 - (ln + (g22 (j - 1))))) + (z4 + 0)) + (g26 (4 * j + (c9 + 1) % z2))) (v); omega) (fun c_204 => ?_) (fun c_204 => ?_)
                      · skip
                        have c_204 : v < (((z1 - (ln + (g22 (j - 1)))) * (z1 - (ln + (g22 (j - 1))))) + (z4 + 0)) + (g26 (4 * j + (c9 + 1) % z2)) := by have h9 := @cmpZ_le ((((z1 - (ln + (g22 (j - 1)))) * (z1 - (ln + (g22 (j - 1))))) + (z4 + 0)) + (g26 (4 * j + (c9 + 1) % z2))) (v); omega
                        have hb2 := hb
                        rw [if_pos (Or.inr (Or.inl (by omega)))] at hb2
                        refine g_iinc (q := 9) (lv2 := [(5, .int (iZ (j + 1))), (8, .int (iZ (1 + (g27 (4 * j + (c9 + 1) % z2))))), (6, .long (lZ ((((z1 - (ln + (g22 (j - 1)))) * (z1 - (ln + (g22 (j - 1))))) + (z4 + 0)) + (g26 (4 * j + (c9 + 1) % z2))))), (10, .int (iZ (z1 - (ln + (g22 (j - 1)))))), (9, .int (iZ ((4 * j) + ((c9 + 1) % z2)))), (4, .int (iZ (ln + (g22 (j - 1))))), (0, .ref m0), (1, .int (iZ i)), (2, .int (iZ c9)), (3, .int (iZ ((4 * i) + c9)))]) X dX5_best_257 rfl (by decide) rfl ?_
                        refine g_goto X 23 dX5_best_260 (by decide) ?_
                        refine g_lv (lv' := [(0, .ref m0), (1, .int (iZ i)), (2, .int (iZ c9)), (3, .int (iZ ((4 * i) + c9))), (4, .int (iZ (ln + (g22 (j - 1))))), (5, .int (iZ (j + 1)))]) [6, 7, 8, 9, 5, 0] rfl ?_
                        exact ih_23 v n0 e0 (ln + (g22 (j - 1))) (j + 1) (by omega) (by omega) (by omega) (fun h => by first | exact hne h | omega) hb2 (by omega)
                      · skip
                        have c_204 : (((z1 - (ln + (g22 (j - 1)))) * (z1 - (ln + (g22 (j - 1))))) + (z4 + 0)) + (g26 (4 * j + (c9 + 1) % z2)) ≤ v := by have h9 := @cmpZ_le ((((z1 - (ln + (g22 (j - 1)))) * (z1 - (ln + (g22 (j - 1))))) + (z4 + 0)) + (g26 (4 * j + (c9 + 1) % z2))) (v); omega
                        refine g_lload X 1 dX5_best_207 rfl ?_
                        refine g_aload_n X 5 dX5_best_209 rfl rfl ?_
                        refine g_get X (index := 73) (ref := "GuideWordsModel") hin5 0 rfl rfl 26 (by decide) rfl (by decide +kernel) (v := .ref a26) rfl dX5_best_210 ?_
                        refine g_iload_n X 8 dX5_best_213 rfl rfl ?_
                        refine g_lald X 4 2 rfl rfl (by omega) (by decide) dX5_best_214 ?_
                        refine g_topl (b := v) upZ_s ?_
                        refine g_lcmp X dX5_best_215 (by omega) (by omega) ?_
                        refine g_if_ne X 233 dX5_best_216 (by decide) (by have := cmpZ_rng ((((z1 - (ln + (g22 (j - 1)))) * (z1 - (ln + (g22 (j - 1))))) + (z4 + 0)) + (g26 (4 * j + (c9 + 1) % z2))) (v); omega) (fun c_216 => ?_) (fun c_216 => ?_)
                        · skip
                          have c_216 : ¬ (((z1 - (ln + (g22 (j - 1)))) * (z1 - (ln + (g22 (j - 1))))) + (z4 + 0)) + (g26 (4 * j + (c9 + 1) % z2)) = v := by have h9 := @cmpZ_eq ((((z1 - (ln + (g22 (j - 1)))) * (z1 - (ln + (g22 (j - 1))))) + (z4 + 0)) + (g26 (4 * j + (c9 + 1) % z2))) (v); omega
                          have hb2 := hb
                          rw [if_neg (by omega), ← hV, ← hN] at hb2
                          refine g_aload_n X 5 dX5_best_233 rfl rfl ?_
                          refine g_get X (index := 73) (ref := "GuideWordsModel") hin5 0 rfl rfl 26 (by decide) rfl (by decide +kernel) (v := .ref a26) rfl dX5_best_234 ?_
                          refine g_iload_n X 8 dX5_best_237 rfl rfl ?_
                          refine g_lload X 1 dX5_best_238 rfl ?_
                          refine g_last X 4 2 rfl rfl (by omega) (by decide) (ws2 := [(m0, .inr (5, [.int (iZ z0), .int (iZ z1), .int (iZ z2), .int (iZ z3), .int (iZ z4), .int (iZ z5), .ref a6, .int (iZ z7), .ref a8, .int (iZ z9), .ref a10, .ref a11, .ref a12, .ref a13, .ref a14, .ref a15, .int (iZ z16), .ref a17, .int (iZ z18), .ref a19, .ref a20, .ref a21, .ref a22, .ref a23, .ref a24, .int (iZ z25), .ref a26, .ref a27, .ref a28, .int (iZ z29), .int (iZ z30), .int (iZ z31), .int (iZ z32), .int (iZ z33), .int (iZ z34), .ref a35, .ref a36, .ref a37, .ref a38, .ref a39, .ref a40, .ref a41, .int (iZ z42), .int (iZ z43), .ref a44, .ref a45])), (a22, .inl (cI, 900, .inl (zA g22))), (a23, .inl (cY, 900, .inl (zA g23))), (a24, .inl (cY, 900, .inl (zA g24))), (a26, .inl (cJ, 3604, .inr (.inl (lA (upZ (upZ g26 (4 * i + c9) v) ((4 * i) + c9) ((((z1 - (ln + (g22 (j - 1)))) * (z1 - (ln + (g22 (j - 1))))) + (z4 + 0)) + (g26 (4 * j + (c9 + 1) % z2)))))))), (a27, .inl (cI, 3604, .inl (zA (upZ g27 (4 * i + c9) n0)))), (a28, .inl (cI, 3604, .inl (zA (upZ g28 (4 * i + c9) e0))))]) rfl dX5_best_240 ?_
                          refine g_aload_n X 5 dX5_best_241 rfl rfl ?_
                          refine g_get X (index := 77) (ref := "GuideWordsModel") hin5 0 rfl rfl 27 (by decide) rfl (by decide +kernel) (v := .ref a27) rfl dX5_best_242 ?_
                          refine g_iload_n X 8 dX5_best_245 rfl rfl ?_
                          refine g_iload X 0 dX5_best_246 rfl ?_
                          refine g_iast X 5 1 rfl rfl (by omega) (by decide) (ws2 := [(m0, .inr (5, [.int (iZ z0), .int (iZ z1), .int (iZ z2), .int (iZ z3), .int (iZ z4), .int (iZ z5), .ref a6, .int (iZ z7), .ref a8, .int (iZ z9), .ref a10, .ref a11, .ref a12, .ref a13, .ref a14, .ref a15, .int (iZ z16), .ref a17, .int (iZ z18), .ref a19, .ref a20, .ref a21, .ref a22, .ref a23, .ref a24, .int (iZ z25), .ref a26, .ref a27, .ref a28, .int (iZ z29), .int (iZ z30), .int (iZ z31), .int (iZ z32), .int (iZ z33), .int (iZ z34), .ref a35, .ref a36, .ref a37, .ref a38, .ref a39, .ref a40, .ref a41, .int (iZ z42), .int (iZ z43), .ref a44, .ref a45])), (a22, .inl (cI, 900, .inl (zA g22))), (a23, .inl (cY, 900, .inl (zA g23))), (a24, .inl (cY, 900, .inl (zA g24))), (a26, .inl (cJ, 3604, .inr (.inl (lA (upZ (upZ g26 (4 * i + c9) v) ((4 * i) + c9) ((((z1 - (ln + (g22 (j - 1)))) * (z1 - (ln + (g22 (j - 1))))) + (z4 + 0)) + (g26 (4 * j + (c9 + 1) % z2)))))))), (a27, .inl (cI, 3604, .inl (zA (upZ (upZ g27 (4 * i + c9) n0) ((4 * i) + c9) (1 + (g27 (4 * j + (c9 + 1) % z2))))))), (a28, .inl (cI, 3604, .inl (zA (upZ g28 (4 * i + c9) e0))))]) rfl dX5_best_248 ?_
                          refine g_aload_n X 5 dX5_best_249 rfl rfl ?_
                          refine g_get X (index := 80) (ref := "GuideWordsModel") hin5 0 rfl rfl 28 (by decide) rfl (by decide +kernel) (v := .ref a28) rfl dX5_best_250 ?_
                          refine g_iload_n X 8 dX5_best_253 rfl rfl ?_
                          refine g_iload X 9 dX5_best_254 rfl ?_
                          refine g_iast X 6 1 rfl rfl (by omega) (by decide) (ws2 := [(m0, .inr (5, [.int (iZ z0), .int (iZ z1), .int (iZ z2), .int (iZ z3), .int (iZ z4), .int (iZ z5), .ref a6, .int (iZ z7), .ref a8, .int (iZ z9), .ref a10, .ref a11, .ref a12, .ref a13, .ref a14, .ref a15, .int (iZ z16), .ref a17, .int (iZ z18), .ref a19, .ref a20, .ref a21, .ref a22, .ref a23, .ref a24, .int (iZ z25), .ref a26, .ref a27, .ref a28, .int (iZ z29), .int (iZ z30), .int (iZ z31), .int (iZ z32), .int (iZ z33), .int (iZ z34), .ref a35, .ref a36, .ref a37, .ref a38, .ref a39, .ref a40, .ref a41, .int (iZ z42), .int (iZ z43), .ref a44, .ref a45])), (a22, .inl (cI, 900, .inl (zA g22))), (a23, .inl (cY, 900, .inl (zA g23))), (a24, .inl (cY, 900, .inl (zA g24))), (a26, .inl (cJ, 3604, .inr (.inl (lA (upZ (upZ g26 (4 * i + c9) v) ((4 * i) + c9) ((((z1 - (ln + (g22 (j - 1)))) * (z1 - (ln + (g22 (j - 1))))) + (z4 + 0)) + (g26 (4 * j + (c9 + 1) % z2)))))))), (a27, .inl (cI, 3604, .inl (zA (upZ (upZ g27 (4 * i + c9) n0) ((4 * i) + c9) (1 + (g27 (4 * j + (c9 + 1) % z2))))))), (a28, .inl (cI, 3604, .inl (zA (upZ (upZ g28 (4 * i + c9) e0) ((4 * i) + c9) j))))]) rfl dX5_best_256 ?_
                          refine g_iinc (q := 9) (lv2 := [(5, .int (iZ (j + 1))), (8, .int (iZ (1 + (g27 (4 * j + (c9 + 1) % z2))))), (6, .long (lZ ((((z1 - (ln + (g22 (j - 1)))) * (z1 - (ln + (g22 (j - 1))))) + (z4 + 0)) + (g26 (4 * j + (c9 + 1) % z2))))), (10, .int (iZ (z1 - (ln + (g22 (j - 1)))))), (9, .int (iZ ((4 * j) + ((c9 + 1) % z2)))), (4, .int (iZ (ln + (g22 (j - 1))))), (0, .ref m0), (1, .int (iZ i)), (2, .int (iZ c9)), (3, .int (iZ ((4 * i) + c9)))]) X dX5_best_257 rfl (by decide) rfl ?_
                          refine g_goto X 23 dX5_best_260 (by decide) ?_
                          refine g_eq (ws' := [(m0, .inr (5, [.int (iZ z0), .int (iZ z1), .int (iZ z2), .int (iZ z3), .int (iZ z4), .int (iZ z5), .ref a6, .int (iZ z7), .ref a8, .int (iZ z9), .ref a10, .ref a11, .ref a12, .ref a13, .ref a14, .ref a15, .int (iZ z16), .ref a17, .int (iZ z18), .ref a19, .ref a20, .ref a21, .ref a22, .ref a23, .ref a24, .int (iZ z25), .ref a26, .ref a27, .ref a28, .int (iZ z29), .int (iZ z30), .int (iZ z31), .int (iZ z32), .int (iZ z33), .int (iZ z34), .ref a35, .ref a36, .ref a37, .ref a38, .ref a39, .ref a40, .ref a41, .int (iZ z42), .int (iZ z43), .ref a44, .ref a45])), (a22, .inl (cI, 900, .inl (zA g22))), (a23, .inl (cY, 900, .inl (zA g23))), (a24, .inl (cY, 900, .inl (zA g24))), (a26, .inl (cJ, 3604, .inr (.inl (lA (upZ g26 (4 * i + c9) ((((z1 - (ln + (g22 (j - 1)))) * (z1 - (ln + (g22 (j - 1))))) + (z4 + 0)) + (g26 (4 * j + (c9 + 1) % z2)))))))), (a27, .inl (cI, 3604, .inl (zA (upZ g27 (4 * i + c9) (1 + (g27 (4 * j + (c9 + 1) % z2))))))), (a28, .inl (cI, 3604, .inl (zA (upZ g28 (4 * i + c9) j))))]) (by rw [upZ_uu, upZ_uu, upZ_uu]) rfl rfl rfl ?_
                          refine g_lv (lv' := [(0, .ref m0), (1, .int (iZ i)), (2, .int (iZ c9)), (3, .int (iZ ((4 * i) + c9))), (4, .int (iZ (ln + (g22 (j - 1))))), (5, .int (iZ (j + 1)))]) [6, 7, 8, 9, 5, 0] rfl ?_
                          exact ih_23 (((((z1 - (ln + (g22 (j - 1)))) * (z1 - (ln + (g22 (j - 1))))) + (z4 + 0)) + (g26 (4 * j + (c9 + 1) % z2)))) ((1 + (g27 (4 * j + (c9 + 1) % z2)))) j (ln + (g22 (j - 1))) (j + 1) (by omega) (by omega) (by omega) (fun h => by first | exact hne h | omega) hb2 (by omega)
                        · skip
                          have c_216 : (((z1 - (ln + (g22 (j - 1)))) * (z1 - (ln + (g22 (j - 1))))) + (z4 + 0)) + (g26 (4 * j + (c9 + 1) % z2)) = v := by have h9 := @cmpZ_eq ((((z1 - (ln + (g22 (j - 1)))) * (z1 - (ln + (g22 (j - 1))))) + (z4 + 0)) + (g26 (4 * j + (c9 + 1) % z2))) (v); omega
                          refine g_iload X 0 dX5_best_219 rfl ?_
                          refine g_aload_n X 5 dX5_best_221 rfl rfl ?_
                          refine g_get X (index := 77) (ref := "GuideWordsModel") hin5 0 rfl rfl 27 (by decide) rfl (by decide +kernel) (v := .ref a27) rfl dX5_best_222 ?_
                          refine g_iload_n X 8 dX5_best_225 rfl rfl ?_
                          refine g_iald X 5 1 rfl rfl (by omega) (by decide) dX5_best_226 ?_
                          refine g_topi (b := n0) upZ_s ?_
                          refine g_icmp_le X 233 dX5_best_227 (by decide) (by omega) (by have := hne (by omega); omega) (fun c_227 => ?_) (fun c_227 => ?_)
                          · skip
                            have hb2 := hb
                            rw [if_neg (by omega), ← hV, ← hN] at hb2
                            refine g_aload_n X 5 dX5_best_233 rfl rfl ?_
                            refine g_get X (index := 73) (ref := "GuideWordsModel") hin5 0 rfl rfl 26 (by decide) rfl (by decide +kernel) (v := .ref a26) rfl dX5_best_234 ?_
                            refine g_iload_n X 8 dX5_best_237 rfl rfl ?_
                            refine g_lload X 1 dX5_best_238 rfl ?_
                            refine g_last X 4 2 rfl rfl (by omega) (by decide) (ws2 := [(m0, .inr (5, [.int (iZ z0), .int (iZ z1), .int (iZ z2), .int (iZ z3), .int (iZ z4), .int (iZ z5), .ref a6, .int (iZ z7), .ref a8, .int (iZ z9), .ref a10, .ref a11, .ref a12, .ref a13, .ref a14, .ref a15, .int (iZ z16), .ref a17, .int (iZ z18), .ref a19, .ref a20, .ref a21, .ref a22, .ref a23, .ref a24, .int (iZ z25), .ref a26, .ref a27, .ref a28, .int (iZ z29), .int (iZ z30), .int (iZ z31), .int (iZ z32), .int (iZ z33), .int (iZ z34), .ref a35, .ref a36, .ref a37, .ref a38, .ref a39, .ref a40, .ref a41, .int (iZ z42), .int (iZ z43), .ref a44, .ref a45])), (a22, .inl (cI, 900, .inl (zA g22))), (a23, .inl (cY, 900, .inl (zA g23))), (a24, .inl (cY, 900, .inl (zA g24))), (a26, .inl (cJ, 3604, .inr (.inl (lA (upZ (upZ g26 (4 * i + c9) v) ((4 * i) + c9) ((((z1 - (ln + (g22 (j - 1)))) * (z1 - (ln + (g22 (j - 1))))) + (z4 + 0)) + (g26 (4 * j + (c9 + 1) % z2)))))))), (a27, .inl (cI, 3604, .inl (zA (upZ g27 (4 * i + c9) n0)))), (a28, .inl (cI, 3604, .inl (zA (upZ g28 (4 * i + c9) e0))))]) rfl dX5_best_240 ?_
                            refine g_aload_n X 5 dX5_best_241 rfl rfl ?_
                            refine g_get X (index := 77) (ref := "GuideWordsModel") hin5 0 rfl rfl 27 (by decide) rfl (by decide +kernel) (v := .ref a27) rfl dX5_best_242 ?_
                            refine g_iload_n X 8 dX5_best_245 rfl rfl ?_
                            refine g_iload X 0 dX5_best_246 rfl ?_
                            refine g_iast X 5 1 rfl rfl (by omega) (by decide) (ws2 := [(m0, .inr (5, [.int (iZ z0), .int (iZ z1), .int (iZ z2), .int (iZ z3), .int (iZ z4), .int (iZ z5), .ref a6, .int (iZ z7), .ref a8, .int (iZ z9), .ref a10, .ref a11, .ref a12, .ref a13, .ref a14, .ref a15, .int (iZ z16), .ref a17, .int (iZ z18), .ref a19, .ref a20, .ref a21, .ref a22, .ref a23, .ref a24, .int (iZ z25), .ref a26, .ref a27, .ref a28, .int (iZ z29), .int (iZ z30), .int (iZ z31), .int (iZ z32), .int (iZ z33), .int (iZ z34), .ref a35, .ref a36, .ref a37, .ref a38, .ref a39, .ref a40, .ref a41, .int (iZ z42), .int (iZ z43), .ref a44, .ref a45])), (a22, .inl (cI, 900, .inl (zA g22))), (a23, .inl (cY, 900, .inl (zA g23))), (a24, .inl (cY, 900, .inl (zA g24))), (a26, .inl (cJ, 3604, .inr (.inl (lA (upZ (upZ g26 (4 * i + c9) v) ((4 * i) + c9) ((((z1 - (ln + (g22 (j - 1)))) * (z1 - (ln + (g22 (j - 1))))) + (z4 + 0)) + (g26 (4 * j + (c9 + 1) % z2)))))))), (a27, .inl (cI, 3604, .inl (zA (upZ (upZ g27 (4 * i + c9) n0) ((4 * i) + c9) (1 + (g27 (4 * j + (c9 + 1) % z2))))))), (a28, .inl (cI, 3604, .inl (zA (upZ g28 (4 * i + c9) e0))))]) rfl dX5_best_248 ?_
                            refine g_aload_n X 5 dX5_best_249 rfl rfl ?_
                            refine g_get X (index := 80) (ref := "GuideWordsModel") hin5 0 rfl rfl 28 (by decide) rfl (by decide +kernel) (v := .ref a28) rfl dX5_best_250 ?_
                            refine g_iload_n X 8 dX5_best_253 rfl rfl ?_
                            refine g_iload X 9 dX5_best_254 rfl ?_
                            refine g_iast X 6 1 rfl rfl (by omega) (by decide) (ws2 := [(m0, .inr (5, [.int (iZ z0), .int (iZ z1), .int (iZ z2), .int (iZ z3), .int (iZ z4), .int (iZ z5), .ref a6, .int (iZ z7), .ref a8, .int (iZ z9), .ref a10, .ref a11, .ref a12, .ref a13, .ref a14, .ref a15, .int (iZ z16), .ref a17, .int (iZ z18), .ref a19, .ref a20, .ref a21, .ref a22, .ref a23, .ref a24, .int (iZ z25), .ref a26, .ref a27, .ref a28, .int (iZ z29), .int (iZ z30), .int (iZ z31), .int (iZ z32), .int (iZ z33), .int (iZ z34), .ref a35, .ref a36, .ref a37, .ref a38, .ref a39, .ref a40, .ref a41, .int (iZ z42), .int (iZ z43), .ref a44, .ref a45])), (a22, .inl (cI, 900, .inl (zA g22))), (a23, .inl (cY, 900, .inl (zA g23))), (a24, .inl (cY, 900, .inl (zA g24))), (a26, .inl (cJ, 3604, .inr (.inl (lA (upZ (upZ g26 (4 * i + c9) v) ((4 * i) + c9) ((((z1 - (ln + (g22 (j - 1)))) * (z1 - (ln + (g22 (j - 1))))) + (z4 + 0)) + (g26 (4 * j + (c9 + 1) % z2)))))))), (a27, .inl (cI, 3604, .inl (zA (upZ (upZ g27 (4 * i + c9) n0) ((4 * i) + c9) (1 + (g27 (4 * j + (c9 + 1) % z2))))))), (a28, .inl (cI, 3604, .inl (zA (upZ (upZ g28 (4 * i + c9) e0) ((4 * i) + c9) j))))]) rfl dX5_best_256 ?_
                            refine g_iinc (q := 9) (lv2 := [(5, .int (iZ (j + 1))), (8, .int (iZ (1 + (g27 (4 * j + (c9 + 1) % z2))))), (6, .long (lZ ((((z1 - (ln + (g22 (j - 1)))) * (z1 - (ln + (g22 (j - 1))))) + (z4 + 0)) + (g26 (4 * j + (c9 + 1) % z2))))), (10, .int (iZ (z1 - (ln + (g22 (j - 1)))))), (9, .int (iZ ((4 * j) + ((c9 + 1) % z2)))), (4, .int (iZ (ln + (g22 (j - 1))))), (0, .ref m0), (1, .int (iZ i)), (2, .int (iZ c9)), (3, .int (iZ ((4 * i) + c9)))]) X dX5_best_257 rfl (by decide) rfl ?_
                            refine g_goto X 23 dX5_best_260 (by decide) ?_
                            refine g_eq (ws' := [(m0, .inr (5, [.int (iZ z0), .int (iZ z1), .int (iZ z2), .int (iZ z3), .int (iZ z4), .int (iZ z5), .ref a6, .int (iZ z7), .ref a8, .int (iZ z9), .ref a10, .ref a11, .ref a12, .ref a13, .ref a14, .ref a15, .int (iZ z16), .ref a17, .int (iZ z18), .ref a19, .ref a20, .ref a21, .ref a22, .ref a23, .ref a24, .int (iZ z25), .ref a26, .ref a27, .ref a28, .int (iZ z29), .int (iZ z30), .int (iZ z31), .int (iZ z32), .int (iZ z33), .int (iZ z34), .ref a35, .ref a36, .ref a37, .ref a38, .ref a39, .ref a40, .ref a41, .int (iZ z42), .int (iZ z43), .ref a44, .ref a45])), (a22, .inl (cI, 900, .inl (zA g22))), (a23, .inl (cY, 900, .inl (zA g23))), (a24, .inl (cY, 900, .inl (zA g24))), (a26, .inl (cJ, 3604, .inr (.inl (lA (upZ g26 (4 * i + c9) ((((z1 - (ln + (g22 (j - 1)))) * (z1 - (ln + (g22 (j - 1))))) + (z4 + 0)) + (g26 (4 * j + (c9 + 1) % z2)))))))), (a27, .inl (cI, 3604, .inl (zA (upZ g27 (4 * i + c9) (1 + (g27 (4 * j + (c9 + 1) % z2))))))), (a28, .inl (cI, 3604, .inl (zA (upZ g28 (4 * i + c9) j))))]) (by rw [upZ_uu, upZ_uu, upZ_uu]) rfl rfl rfl ?_
                            refine g_lv (lv' := [(0, .ref m0), (1, .int (iZ i)), (2, .int (iZ c9)), (3, .int (iZ ((4 * i) + c9))), (4, .int (iZ (ln + (g22 (j - 1))))), (5, .int (iZ (j + 1)))]) [6, 7, 8, 9, 5, 0] rfl ?_
                            exact ih_23 (((((z1 - (ln + (g22 (j - 1)))) * (z1 - (ln + (g22 (j - 1))))) + (z4 + 0)) + (g26 (4 * j + (c9 + 1) % z2)))) ((1 + (g27 (4 * j + (c9 + 1) % z2)))) j (ln + (g22 (j - 1))) (j + 1) (by omega) (by omega) (by omega) (fun h => by first | exact hne h | omega) hb2 (by omega)
                          · skip
                            have hb2 := hb
                            rw [if_pos (Or.inr (Or.inr ⟨by omega, by omega⟩))] at hb2
                            refine g_goto X 257 dX5_best_230 (by decide) ?_
                            refine g_iinc (q := 9) (lv2 := [(5, .int (iZ (j + 1))), (8, .int (iZ (1 + (g27 (4 * j + (c9 + 1) % z2))))), (6, .long (lZ ((((z1 - (ln + (g22 (j - 1)))) * (z1 - (ln + (g22 (j - 1))))) + (z4 + 0)) + (g26 (4 * j + (c9 + 1) % z2))))), (10, .int (iZ (z1 - (ln + (g22 (j - 1)))))), (9, .int (iZ ((4 * j) + ((c9 + 1) % z2)))), (4, .int (iZ (ln + (g22 (j - 1))))), (0, .ref m0), (1, .int (iZ i)), (2, .int (iZ c9)), (3, .int (iZ ((4 * i) + c9)))]) X dX5_best_257 rfl (by decide) rfl ?_
                            refine g_goto X 23 dX5_best_260 (by decide) ?_
                            refine g_lv (lv' := [(0, .ref m0), (1, .int (iZ i)), (2, .int (iZ c9)), (3, .int (iZ ((4 * i) + c9))), (4, .int (iZ (ln + (g22 (j - 1))))), (5, .int (iZ (j + 1)))]) [6, 7, 8, 9, 5, 0] rfl ?_
                            exact ih_23 v n0 e0 (ln + (g22 (j - 1))) (j + 1) (by omega) (by omega) (by omega) (fun h => by first | exact hne h | omega) hb2 (by omega)
                  · skip
                    refine g_aload_n X 5 dX5_best_154 rfl rfl ?_
                    refine g_get X (index := 22) (ref := "GuideWordsModel") hin5 0 rfl rfl 5 (by decide) rfl (by decide +kernel) (v := .int (iZ z5)) rfl dX5_best_155 ?_
                    refine g_goto X 162 dX5_best_158 (by decide) ?_
                    refine g_iadd X dX5_best_162 ?_
                    refine g_iadd X dX5_best_163 ?_
                    refine g_i2l X dX5_best_164 (by omega) ?_
                    refine g_aload_n X 5 dX5_best_165 rfl rfl ?_
                    refine g_get X (index := 73) (ref := "GuideWordsModel") hin5 0 rfl rfl 26 (by decide) rfl (by decide +kernel) (v := .ref a26) rfl dX5_best_166 ?_
                    refine g_iload X 1 dX5_best_169 rfl ?_
                    refine g_lald X 4 2 rfl rfl (by omega) (by decide) dX5_best_171 ?_
                    refine g_topl (b := g26 (4 * j + (c9 + 1) % z2)) (upZ_n (by omega)) ?_
                    have r_171 := h26 (4 * j + (c9 + 1) % z2) (by omega)
                    refine g_ladd X dX5_best_172 ?_
                    refine g_lstore (lv2 := [(6, .long (lZ ((((z1 - (ln + (g22 (j - 1)))) * (z1 - (ln + (g22 (j - 1))))) + (z4 + z5)) + (g26 (4 * j + (c9 + 1) % z2))))), (10, .int (iZ (z1 - (ln + (g22 (j - 1)))))), (9, .int (iZ ((4 * j) + ((c9 + 1) % z2)))), (8, .int (iZ 1)), (4, .int (iZ (ln + (g22 (j - 1))))), (0, .ref m0), (1, .int (iZ i)), (2, .int (iZ c9)), (3, .int (iZ ((4 * i) + c9))), (5, .int (iZ j))]) X dX5_best_173 (by decide) rfl ?_
                    refine g_iconst X dX5_best_175 ?_
                    refine g_aload_n X 5 dX5_best_176 rfl rfl ?_
                    refine g_get X (index := 77) (ref := "GuideWordsModel") hin5 0 rfl rfl 27 (by decide) rfl (by decide +kernel) (v := .ref a27) rfl dX5_best_177 ?_
                    refine g_iload X 2 dX5_best_180 rfl ?_
                    refine g_iald X 5 1 rfl rfl (by omega) (by decide) dX5_best_182 ?_
                    refine g_topi (b := g27 (4 * j + (c9 + 1) % z2)) (upZ_n (by omega)) ?_
                    refine g_iadd X dX5_best_183 ?_
                    refine g_istore (lv2 := [(8, .int (iZ (1 + (g27 (4 * j + (c9 + 1) % z2))))), (6, .long (lZ ((((z1 - (ln + (g22 (j - 1)))) * (z1 - (ln + (g22 (j - 1))))) + (z4 + z5)) + (g26 (4 * j + (c9 + 1) % z2))))), (10, .int (iZ (z1 - (ln + (g22 (j - 1)))))), (9, .int (iZ ((4 * j) + ((c9 + 1) % z2)))), (4, .int (iZ (ln + (g22 (j - 1))))), (0, .ref m0), (1, .int (iZ i)), (2, .int (iZ c9)), (3, .int (iZ ((4 * i) + c9))), (5, .int (iZ j))]) X dX5_best_184 (by decide) rfl ?_
                    have hV : (((z1 - (ln + (g22 (j - 1)))) * (z1 - (ln + (g22 (j - 1))))) + (z4 + z5)) + (g26 (4 * j + (c9 + 1) % z2)) = vvM z1 z2 z4 z5 g24 g26 z25 c9 j (ln + g22 (j - 1)) := by
                      unfold vvM
                      first
                      | (rw [if_neg (by omega)]; done)
                      | (rw [if_pos (by omega), if_pos c_133]; done)
                      | (rw [if_pos (by omega), if_neg (by omega), if_pos c_151]; done)
                      | (rw [if_pos (by omega), if_neg (by omega), if_neg c_151]; done)
                    have hN : 1 + (g27 (4 * j + (c9 + 1) % z2)) = nnM z2 g27 z25 c9 j := by
                      unfold nnM; first | (rw [if_neg (by omega)]; done) | (rw [if_pos (by omega)]; done)
                    rw [if_neg (fun q => by have q2 := q.2; omega)] at hb
                    have hnr : (((z1 - (ln + (g22 (j - 1)))) * (z1 - (ln + (g22 (j - 1))))) + (z4 + z5)) + (g26 (4 * j + (c9 + 1) % z2)) < 1152921504606846976 → 1 ≤ 1 + (g27 (4 * j + (c9 + 1) % z2)) ∧ 1 + (g27 (4 * j + (c9 + 1) % z2)) ≤ z25 - i := fun h => by
                      first
                      | omega
                      | (have q := hfe j ((c9 + 1) % z2) (by omega) (by omega) hmr hmr2 (by omega); omega)
                    refine g_lload X 1 dX5_best_186 rfl ?_
                    refine g_ldc2 (v := 1152921504606846976) (z := 1152921504606846976) X dX5_best_188 (by decide +kernel) rfl ?_
                    refine g_lcmp X dX5_best_191 (by omega) (by omega) ?_
                    refine g_if_ge X 257 dX5_best_192 (by decide) (by have := cmpZ_rng ((((z1 - (ln + (g22 (j - 1)))) * (z1 - (ln + (g22 (j - 1))))) + (z4 + z5)) + (g26 (4 * j + (c9 + 1) % z2))) (1152921504606846976); omega) (fun c_192 => ?_) (fun c_192 => ?_)
                    · skip
                      have c_192 : 1152921504606846976 ≤ (((z1 - (ln + (g22 (j - 1)))) * (z1 - (ln + (g22 (j - 1))))) + (z4 + z5)) + (g26 (4 * j + (c9 + 1) % z2)) := by have h9 := @cmpZ_lt ((((z1 - (ln + (g22 (j - 1)))) * (z1 - (ln + (g22 (j - 1))))) + (z4 + z5)) + (g26 (4 * j + (c9 + 1) % z2))) (1152921504606846976); omega
                      have hb2 := hb
                      rw [if_pos (Or.inl (by omega))] at hb2
                      refine g_iinc (q := 9) (lv2 := [(5, .int (iZ (j + 1))), (8, .int (iZ (1 + (g27 (4 * j + (c9 + 1) % z2))))), (6, .long (lZ ((((z1 - (ln + (g22 (j - 1)))) * (z1 - (ln + (g22 (j - 1))))) + (z4 + z5)) + (g26 (4 * j + (c9 + 1) % z2))))), (10, .int (iZ (z1 - (ln + (g22 (j - 1)))))), (9, .int (iZ ((4 * j) + ((c9 + 1) % z2)))), (4, .int (iZ (ln + (g22 (j - 1))))), (0, .ref m0), (1, .int (iZ i)), (2, .int (iZ c9)), (3, .int (iZ ((4 * i) + c9)))]) X dX5_best_257 rfl (by decide) rfl ?_
                      refine g_goto X 23 dX5_best_260 (by decide) ?_
                      refine g_lv (lv' := [(0, .ref m0), (1, .int (iZ i)), (2, .int (iZ c9)), (3, .int (iZ ((4 * i) + c9))), (4, .int (iZ (ln + (g22 (j - 1))))), (5, .int (iZ (j + 1)))]) [6, 7, 8, 9, 5, 0] rfl ?_
                      exact ih_23 v n0 e0 (ln + (g22 (j - 1))) (j + 1) (by omega) (by omega) (by omega) (fun h => by first | exact hne h | omega) hb2 (by omega)
                    · skip
                      have c_192 : (((z1 - (ln + (g22 (j - 1)))) * (z1 - (ln + (g22 (j - 1))))) + (z4 + z5)) + (g26 (4 * j + (c9 + 1) % z2)) < 1152921504606846976 := by have h9 := @cmpZ_lt ((((z1 - (ln + (g22 (j - 1)))) * (z1 - (ln + (g22 (j - 1))))) + (z4 + z5)) + (g26 (4 * j + (c9 + 1) % z2))) (1152921504606846976); omega
                      have hnr2 := hnr (by omega)
                      refine g_lload X 1 dX5_best_195 rfl ?_
                      refine g_aload_n X 5 dX5_best_197 rfl rfl ?_
                      refine g_get X (index := 73) (ref := "GuideWordsModel") hin5 0 rfl rfl 26 (by decide) rfl (by decide +kernel) (v := .ref a26) rfl dX5_best_198 ?_
                      refine g_iload_n X 8 dX5_best_201 rfl rfl ?_
                      refine g_lald X 4 2 rfl rfl (by omega) (by decide) dX5_best_202 ?_
                      refine g_topl (b := v) upZ_s ?_
                      refine g_lcmp X dX5_best_203 (by omega) (by omega) ?_
                      refine g_if_gt X 257 dX5_best_204 (by decide) (by have := cmpZ_rng ((((z1 - (ln + (g22 (j - 1)))) * (z1 - (ln + (g22 (j - 1))))) + (z4 + z5)) + (g26 (4 * j + (c9 + 1) % z2))) (v); omega) (fun c_204 => ?_) (fun c_204 => ?_)
                      · skip
                        have c_204 : v < (((z1 - (ln + (g22 (j - 1)))) * (z1 - (ln + (g22 (j - 1))))) + (z4 + z5)) + (g26 (4 * j + (c9 + 1) % z2)) := by have h9 := @cmpZ_le ((((z1 - (ln + (g22 (j - 1)))) * (z1 - (ln + (g22 (j - 1))))) + (z4 + z5)) + (g26 (4 * j + (c9 + 1) % z2))) (v); omega
                        have hb2 := hb
                        rw [if_pos (Or.inr (Or.inl (by omega)))] at hb2
                        refine g_iinc (q := 9) (lv2 := [(5, .int (iZ (j + 1))), (8, .int (iZ (1 + (g27 (4 * j + (c9 + 1) % z2))))), (6, .long (lZ ((((z1 - (ln + (g22 (j - 1)))) * (z1 - (ln + (g22 (j - 1))))) + (z4 + z5)) + (g26 (4 * j + (c9 + 1) % z2))))), (10, .int (iZ (z1 - (ln + (g22 (j - 1)))))), (9, .int (iZ ((4 * j) + ((c9 + 1) % z2)))), (4, .int (iZ (ln + (g22 (j - 1))))), (0, .ref m0), (1, .int (iZ i)), (2, .int (iZ c9)), (3, .int (iZ ((4 * i) + c9)))]) X dX5_best_257 rfl (by decide) rfl ?_
                        refine g_goto X 23 dX5_best_260 (by decide) ?_
                        refine g_lv (lv' := [(0, .ref m0), (1, .int (iZ i)), (2, .int (iZ c9)), (3, .int (iZ ((4 * i) + c9))), (4, .int (iZ (ln + (g22 (j - 1))))), (5, .int (iZ (j + 1)))]) [6, 7, 8, 9, 5, 0] rfl ?_
                        exact ih_23 v n0 e0 (ln + (g22 (j - 1))) (j + 1) (by omega) (by omega) (by omega) (fun h => by first | exact hne h | omega) hb2 (by omega)
                      · skip
                        have c_204 : (((z1 - (ln + (g22 (j - 1)))) * (z1 - (ln + (g22 (j - 1))))) + (z4 + z5)) + (g26 (4 * j + (c9 + 1) % z2)) ≤ v := by have h9 := @cmpZ_le ((((z1 - (ln + (g22 (j - 1)))) * (z1 - (ln + (g22 (j - 1))))) + (z4 + z5)) + (g26 (4 * j + (c9 + 1) % z2))) (v); omega
                        refine g_lload X 1 dX5_best_207 rfl ?_
                        refine g_aload_n X 5 dX5_best_209 rfl rfl ?_
                        refine g_get X (index := 73) (ref := "GuideWordsModel") hin5 0 rfl rfl 26 (by decide) rfl (by decide +kernel) (v := .ref a26) rfl dX5_best_210 ?_
                        refine g_iload_n X 8 dX5_best_213 rfl rfl ?_
                        refine g_lald X 4 2 rfl rfl (by omega) (by decide) dX5_best_214 ?_
                        refine g_topl (b := v) upZ_s ?_
                        refine g_lcmp X dX5_best_215 (by omega) (by omega) ?_
                        refine g_if_ne X 233 dX5_best_216 (by decide) (by have := cmpZ_rng ((((z1 - (ln + (g22 (j - 1)))) * (z1 - (ln + (g22 (j - 1))))) + (z4 + z5)) + (g26 (4 * j + (c9 + 1) % z2))) (v); omega) (fun c_216 => ?_) (fun c_216 => ?_)
                        · skip
                          have c_216 : ¬ (((z1 - (ln + (g22 (j - 1)))) * (z1 - (ln + (g22 (j - 1))))) + (z4 + z5)) + (g26 (4 * j + (c9 + 1) % z2)) = v := by have h9 := @cmpZ_eq ((((z1 - (ln + (g22 (j - 1)))) * (z1 - (ln + (g22 (j - 1))))) + (z4 + z5)) + (g26 (4 * j + (c9 + 1) % z2))) (v); omega
                          have hb2 := hb
                          rw [if_neg (by omega), ← hV, ← hN] at hb2
                          refine g_aload_n X 5 dX5_best_233 rfl rfl ?_
                          refine g_get X (index := 73) (ref := "GuideWordsModel") hin5 0 rfl rfl 26 (by decide) rfl (by decide +kernel) (v := .ref a26) rfl dX5_best_234 ?_
                          refine g_iload_n X 8 dX5_best_237 rfl rfl ?_
                          refine g_lload X 1 dX5_best_238 rfl ?_
                          refine g_last X 4 2 rfl rfl (by omega) (by decide) (ws2 := [(m0, .inr (5, [.int (iZ z0), .int (iZ z1), .int (iZ z2), .int (iZ z3), .int (iZ z4), .int (iZ z5), .ref a6, .int (iZ z7), .ref a8, .int (iZ z9), .ref a10, .ref a11, .ref a12, .ref a13, .ref a14, .ref a15, .int (iZ z16), .ref a17, .int (iZ z18), .ref a19, .ref a20, .ref a21, .ref a22, .ref a23, .ref a24, .int (iZ z25), .ref a26, .ref a27, .ref a28, .int (iZ z29), .int (iZ z30), .int (iZ z31), .int (iZ z32), .int (iZ z33), .int (iZ z34), .ref a35, .ref a36, .ref a37, .ref a38, .ref a39, .ref a40, .ref a41, .int (iZ z42), .int (iZ z43), .ref a44, .ref a45])), (a22, .inl (cI, 900, .inl (zA g22))), (a23, .inl (cY, 900, .inl (zA g23))), (a24, .inl (cY, 900, .inl (zA g24))), (a26, .inl (cJ, 3604, .inr (.inl (lA (upZ (upZ g26 (4 * i + c9) v) ((4 * i) + c9) ((((z1 - (ln + (g22 (j - 1)))) * (z1 - (ln + (g22 (j - 1))))) + (z4 + z5)) + (g26 (4 * j + (c9 + 1) % z2)))))))), (a27, .inl (cI, 3604, .inl (zA (upZ g27 (4 * i + c9) n0)))), (a28, .inl (cI, 3604, .inl (zA (upZ g28 (4 * i + c9) e0))))]) rfl dX5_best_240 ?_
                          refine g_aload_n X 5 dX5_best_241 rfl rfl ?_
                          refine g_get X (index := 77) (ref := "GuideWordsModel") hin5 0 rfl rfl 27 (by decide) rfl (by decide +kernel) (v := .ref a27) rfl dX5_best_242 ?_
                          refine g_iload_n X 8 dX5_best_245 rfl rfl ?_
                          refine g_iload X 0 dX5_best_246 rfl ?_
                          refine g_iast X 5 1 rfl rfl (by omega) (by decide) (ws2 := [(m0, .inr (5, [.int (iZ z0), .int (iZ z1), .int (iZ z2), .int (iZ z3), .int (iZ z4), .int (iZ z5), .ref a6, .int (iZ z7), .ref a8, .int (iZ z9), .ref a10, .ref a11, .ref a12, .ref a13, .ref a14, .ref a15, .int (iZ z16), .ref a17, .int (iZ z18), .ref a19, .ref a20, .ref a21, .ref a22, .ref a23, .ref a24, .int (iZ z25), .ref a26, .ref a27, .ref a28, .int (iZ z29), .int (iZ z30), .int (iZ z31), .int (iZ z32), .int (iZ z33), .int (iZ z34), .ref a35, .ref a36, .ref a37, .ref a38, .ref a39, .ref a40, .ref a41, .int (iZ z42), .int (iZ z43), .ref a44, .ref a45])), (a22, .inl (cI, 900, .inl (zA g22))), (a23, .inl (cY, 900, .inl (zA g23))), (a24, .inl (cY, 900, .inl (zA g24))), (a26, .inl (cJ, 3604, .inr (.inl (lA (upZ (upZ g26 (4 * i + c9) v) ((4 * i) + c9) ((((z1 - (ln + (g22 (j - 1)))) * (z1 - (ln + (g22 (j - 1))))) + (z4 + z5)) + (g26 (4 * j + (c9 + 1) % z2)))))))), (a27, .inl (cI, 3604, .inl (zA (upZ (upZ g27 (4 * i + c9) n0) ((4 * i) + c9) (1 + (g27 (4 * j + (c9 + 1) % z2))))))), (a28, .inl (cI, 3604, .inl (zA (upZ g28 (4 * i + c9) e0))))]) rfl dX5_best_248 ?_
                          refine g_aload_n X 5 dX5_best_249 rfl rfl ?_
                          refine g_get X (index := 80) (ref := "GuideWordsModel") hin5 0 rfl rfl 28 (by decide) rfl (by decide +kernel) (v := .ref a28) rfl dX5_best_250 ?_
                          refine g_iload_n X 8 dX5_best_253 rfl rfl ?_
                          refine g_iload X 9 dX5_best_254 rfl ?_
                          refine g_iast X 6 1 rfl rfl (by omega) (by decide) (ws2 := [(m0, .inr (5, [.int (iZ z0), .int (iZ z1), .int (iZ z2), .int (iZ z3), .int (iZ z4), .int (iZ z5), .ref a6, .int (iZ z7), .ref a8, .int (iZ z9), .ref a10, .ref a11, .ref a12, .ref a13, .ref a14, .ref a15, .int (iZ z16), .ref a17, .int (iZ z18), .ref a19, .ref a20, .ref a21, .ref a22, .ref a23, .ref a24, .int (iZ z25), .ref a26, .ref a27, .ref a28, .int (iZ z29), .int (iZ z30), .int (iZ z31), .int (iZ z32), .int (iZ z33), .int (iZ z34), .ref a35, .ref a36, .ref a37, .ref a38, .ref a39, .ref a40, .ref a41, .int (iZ z42), .int (iZ z43), .ref a44, .ref a45])), (a22, .inl (cI, 900, .inl (zA g22))), (a23, .inl (cY, 900, .inl (zA g23))), (a24, .inl (cY, 900, .inl (zA g24))), (a26, .inl (cJ, 3604, .inr (.inl (lA (upZ (upZ g26 (4 * i + c9) v) ((4 * i) + c9) ((((z1 - (ln + (g22 (j - 1)))) * (z1 - (ln + (g22 (j - 1))))) + (z4 + z5)) + (g26 (4 * j + (c9 + 1) % z2)))))))), (a27, .inl (cI, 3604, .inl (zA (upZ (upZ g27 (4 * i + c9) n0) ((4 * i) + c9) (1 + (g27 (4 * j + (c9 + 1) % z2))))))), (a28, .inl (cI, 3604, .inl (zA (upZ (upZ g28 (4 * i + c9) e0) ((4 * i) + c9) j))))]) rfl dX5_best_256 ?_
                          refine g_iinc (q := 9) (lv2 := [(5, .int (iZ (j + 1))), (8, .int (iZ (1 + (g27 (4 * j + (c9 + 1) % z2))))), (6, .long (lZ ((((z1 - (ln + (g22 (j - 1)))) * (z1 - (ln + (g22 (j - 1))))) + (z4 + z5)) + (g26 (4 * j + (c9 + 1) % z2))))), (10, .int (iZ (z1 - (ln + (g22 (j - 1)))))), (9, .int (iZ ((4 * j) + ((c9 + 1) % z2)))), (4, .int (iZ (ln + (g22 (j - 1))))), (0, .ref m0), (1, .int (iZ i)), (2, .int (iZ c9)), (3, .int (iZ ((4 * i) + c9)))]) X dX5_best_257 rfl (by decide) rfl ?_
                          refine g_goto X 23 dX5_best_260 (by decide) ?_
                          refine g_eq (ws' := [(m0, .inr (5, [.int (iZ z0), .int (iZ z1), .int (iZ z2), .int (iZ z3), .int (iZ z4), .int (iZ z5), .ref a6, .int (iZ z7), .ref a8, .int (iZ z9), .ref a10, .ref a11, .ref a12, .ref a13, .ref a14, .ref a15, .int (iZ z16), .ref a17, .int (iZ z18), .ref a19, .ref a20, .ref a21, .ref a22, .ref a23, .ref a24, .int (iZ z25), .ref a26, .ref a27, .ref a28, .int (iZ z29), .int (iZ z30), .int (iZ z31), .int (iZ z32), .int (iZ z33), .int (iZ z34), .ref a35, .ref a36, .ref a37, .ref a38, .ref a39, .ref a40, .ref a41, .int (iZ z42), .int (iZ z43), .ref a44, .ref a45])), (a22, .inl (cI, 900, .inl (zA g22))), (a23, .inl (cY, 900, .inl (zA g23))), (a24, .inl (cY, 900, .inl (zA g24))), (a26, .inl (cJ, 3604, .inr (.inl (lA (upZ g26 (4 * i + c9) ((((z1 - (ln + (g22 (j - 1)))) * (z1 - (ln + (g22 (j - 1))))) + (z4 + z5)) + (g26 (4 * j + (c9 + 1) % z2)))))))), (a27, .inl (cI, 3604, .inl (zA (upZ g27 (4 * i + c9) (1 + (g27 (4 * j + (c9 + 1) % z2))))))), (a28, .inl (cI, 3604, .inl (zA (upZ g28 (4 * i + c9) j))))]) (by rw [upZ_uu, upZ_uu, upZ_uu]) rfl rfl rfl ?_
                          refine g_lv (lv' := [(0, .ref m0), (1, .int (iZ i)), (2, .int (iZ c9)), (3, .int (iZ ((4 * i) + c9))), (4, .int (iZ (ln + (g22 (j - 1))))), (5, .int (iZ (j + 1)))]) [6, 7, 8, 9, 5, 0] rfl ?_
                          exact ih_23 (((((z1 - (ln + (g22 (j - 1)))) * (z1 - (ln + (g22 (j - 1))))) + (z4 + z5)) + (g26 (4 * j + (c9 + 1) % z2)))) ((1 + (g27 (4 * j + (c9 + 1) % z2)))) j (ln + (g22 (j - 1))) (j + 1) (by omega) (by omega) (by omega) (fun h => by first | exact hne h | omega) hb2 (by omega)
                        · skip
                          have c_216 : (((z1 - (ln + (g22 (j - 1)))) * (z1 - (ln + (g22 (j - 1))))) + (z4 + z5)) + (g26 (4 * j + (c9 + 1) % z2)) = v := by have h9 := @cmpZ_eq ((((z1 - (ln + (g22 (j - 1)))) * (z1 - (ln + (g22 (j - 1))))) + (z4 + z5)) + (g26 (4 * j + (c9 + 1) % z2))) (v); omega
                          refine g_iload X 0 dX5_best_219 rfl ?_
                          refine g_aload_n X 5 dX5_best_221 rfl rfl ?_
                          refine g_get X (index := 77) (ref := "GuideWordsModel") hin5 0 rfl rfl 27 (by decide) rfl (by decide +kernel) (v := .ref a27) rfl dX5_best_222 ?_
                          refine g_iload_n X 8 dX5_best_225 rfl rfl ?_
                          refine g_iald X 5 1 rfl rfl (by omega) (by decide) dX5_best_226 ?_
                          refine g_topi (b := n0) upZ_s ?_
                          refine g_icmp_le X 233 dX5_best_227 (by decide) (by omega) (by have := hne (by omega); omega) (fun c_227 => ?_) (fun c_227 => ?_)
                          · skip
                            have hb2 := hb
                            rw [if_neg (by omega), ← hV, ← hN] at hb2
                            refine g_aload_n X 5 dX5_best_233 rfl rfl ?_
                            refine g_get X (index := 73) (ref := "GuideWordsModel") hin5 0 rfl rfl 26 (by decide) rfl (by decide +kernel) (v := .ref a26) rfl dX5_best_234 ?_
                            refine g_iload_n X 8 dX5_best_237 rfl rfl ?_
                            refine g_lload X 1 dX5_best_238 rfl ?_
                            refine g_last X 4 2 rfl rfl (by omega) (by decide) (ws2 := [(m0, .inr (5, [.int (iZ z0), .int (iZ z1), .int (iZ z2), .int (iZ z3), .int (iZ z4), .int (iZ z5), .ref a6, .int (iZ z7), .ref a8, .int (iZ z9), .ref a10, .ref a11, .ref a12, .ref a13, .ref a14, .ref a15, .int (iZ z16), .ref a17, .int (iZ z18), .ref a19, .ref a20, .ref a21, .ref a22, .ref a23, .ref a24, .int (iZ z25), .ref a26, .ref a27, .ref a28, .int (iZ z29), .int (iZ z30), .int (iZ z31), .int (iZ z32), .int (iZ z33), .int (iZ z34), .ref a35, .ref a36, .ref a37, .ref a38, .ref a39, .ref a40, .ref a41, .int (iZ z42), .int (iZ z43), .ref a44, .ref a45])), (a22, .inl (cI, 900, .inl (zA g22))), (a23, .inl (cY, 900, .inl (zA g23))), (a24, .inl (cY, 900, .inl (zA g24))), (a26, .inl (cJ, 3604, .inr (.inl (lA (upZ (upZ g26 (4 * i + c9) v) ((4 * i) + c9) ((((z1 - (ln + (g22 (j - 1)))) * (z1 - (ln + (g22 (j - 1))))) + (z4 + z5)) + (g26 (4 * j + (c9 + 1) % z2)))))))), (a27, .inl (cI, 3604, .inl (zA (upZ g27 (4 * i + c9) n0)))), (a28, .inl (cI, 3604, .inl (zA (upZ g28 (4 * i + c9) e0))))]) rfl dX5_best_240 ?_
                            refine g_aload_n X 5 dX5_best_241 rfl rfl ?_
                            refine g_get X (index := 77) (ref := "GuideWordsModel") hin5 0 rfl rfl 27 (by decide) rfl (by decide +kernel) (v := .ref a27) rfl dX5_best_242 ?_
                            refine g_iload_n X 8 dX5_best_245 rfl rfl ?_
                            refine g_iload X 0 dX5_best_246 rfl ?_
                            refine g_iast X 5 1 rfl rfl (by omega) (by decide) (ws2 := [(m0, .inr (5, [.int (iZ z0), .int (iZ z1), .int (iZ z2), .int (iZ z3), .int (iZ z4), .int (iZ z5), .ref a6, .int (iZ z7), .ref a8, .int (iZ z9), .ref a10, .ref a11, .ref a12, .ref a13, .ref a14, .ref a15, .int (iZ z16), .ref a17, .int (iZ z18), .ref a19, .ref a20, .ref a21, .ref a22, .ref a23, .ref a24, .int (iZ z25), .ref a26, .ref a27, .ref a28, .int (iZ z29), .int (iZ z30), .int (iZ z31), .int (iZ z32), .int (iZ z33), .int (iZ z34), .ref a35, .ref a36, .ref a37, .ref a38, .ref a39, .ref a40, .ref a41, .int (iZ z42), .int (iZ z43), .ref a44, .ref a45])), (a22, .inl (cI, 900, .inl (zA g22))), (a23, .inl (cY, 900, .inl (zA g23))), (a24, .inl (cY, 900, .inl (zA g24))), (a26, .inl (cJ, 3604, .inr (.inl (lA (upZ (upZ g26 (4 * i + c9) v) ((4 * i) + c9) ((((z1 - (ln + (g22 (j - 1)))) * (z1 - (ln + (g22 (j - 1))))) + (z4 + z5)) + (g26 (4 * j + (c9 + 1) % z2)))))))), (a27, .inl (cI, 3604, .inl (zA (upZ (upZ g27 (4 * i + c9) n0) ((4 * i) + c9) (1 + (g27 (4 * j + (c9 + 1) % z2))))))), (a28, .inl (cI, 3604, .inl (zA (upZ g28 (4 * i + c9) e0))))]) rfl dX5_best_248 ?_
                            refine g_aload_n X 5 dX5_best_249 rfl rfl ?_
                            refine g_get X (index := 80) (ref := "GuideWordsModel") hin5 0 rfl rfl 28 (by decide) rfl (by decide +kernel) (v := .ref a28) rfl dX5_best_250 ?_
                            refine g_iload_n X 8 dX5_best_253 rfl rfl ?_
                            refine g_iload X 9 dX5_best_254 rfl ?_
                            refine g_iast X 6 1 rfl rfl (by omega) (by decide) (ws2 := [(m0, .inr (5, [.int (iZ z0), .int (iZ z1), .int (iZ z2), .int (iZ z3), .int (iZ z4), .int (iZ z5), .ref a6, .int (iZ z7), .ref a8, .int (iZ z9), .ref a10, .ref a11, .ref a12, .ref a13, .ref a14, .ref a15, .int (iZ z16), .ref a17, .int (iZ z18), .ref a19, .ref a20, .ref a21, .ref a22, .ref a23, .ref a24, .int (iZ z25), .ref a26, .ref a27, .ref a28, .int (iZ z29), .int (iZ z30), .int (iZ z31), .int (iZ z32), .int (iZ z33), .int (iZ z34), .ref a35, .ref a36, .ref a37, .ref a38, .ref a39, .ref a40, .ref a41, .int (iZ z42), .int (iZ z43), .ref a44, .ref a45])), (a22, .inl (cI, 900, .inl (zA g22))), (a23, .inl (cY, 900, .inl (zA g23))), (a24, .inl (cY, 900, .inl (zA g24))), (a26, .inl (cJ, 3604, .inr (.inl (lA (upZ (upZ g26 (4 * i + c9) v) ((4 * i) + c9) ((((z1 - (ln + (g22 (j - 1)))) * (z1 - (ln + (g22 (j - 1))))) + (z4 + z5)) + (g26 (4 * j + (c9 + 1) % z2)))))))), (a27, .inl (cI, 3604, .inl (zA (upZ (upZ g27 (4 * i + c9) n0) ((4 * i) + c9) (1 + (g27 (4 * j + (c9 + 1) % z2))))))), (a28, .inl (cI, 3604, .inl (zA (upZ (upZ g28 (4 * i + c9) e0) ((4 * i) + c9) j))))]) rfl dX5_best_256 ?_
                            refine g_iinc (q := 9) (lv2 := [(5, .int (iZ (j + 1))), (8, .int (iZ (1 + (g27 (4 * j + (c9 + 1) % z2))))), (6, .long (lZ ((((z1 - (ln + (g22 (j - 1)))) * (z1 - (ln + (g22 (j - 1))))) + (z4 + z5)) + (g26 (4 * j + (c9 + 1) % z2))))), (10, .int (iZ (z1 - (ln + (g22 (j - 1)))))), (9, .int (iZ ((4 * j) + ((c9 + 1) % z2)))), (4, .int (iZ (ln + (g22 (j - 1))))), (0, .ref m0), (1, .int (iZ i)), (2, .int (iZ c9)), (3, .int (iZ ((4 * i) + c9)))]) X dX5_best_257 rfl (by decide) rfl ?_
                            refine g_goto X 23 dX5_best_260 (by decide) ?_
                            refine g_eq (ws' := [(m0, .inr (5, [.int (iZ z0), .int (iZ z1), .int (iZ z2), .int (iZ z3), .int (iZ z4), .int (iZ z5), .ref a6, .int (iZ z7), .ref a8, .int (iZ z9), .ref a10, .ref a11, .ref a12, .ref a13, .ref a14, .ref a15, .int (iZ z16), .ref a17, .int (iZ z18), .ref a19, .ref a20, .ref a21, .ref a22, .ref a23, .ref a24, .int (iZ z25), .ref a26, .ref a27, .ref a28, .int (iZ z29), .int (iZ z30), .int (iZ z31), .int (iZ z32), .int (iZ z33), .int (iZ z34), .ref a35, .ref a36, .ref a37, .ref a38, .ref a39, .ref a40, .ref a41, .int (iZ z42), .int (iZ z43), .ref a44, .ref a45])), (a22, .inl (cI, 900, .inl (zA g22))), (a23, .inl (cY, 900, .inl (zA g23))), (a24, .inl (cY, 900, .inl (zA g24))), (a26, .inl (cJ, 3604, .inr (.inl (lA (upZ g26 (4 * i + c9) ((((z1 - (ln + (g22 (j - 1)))) * (z1 - (ln + (g22 (j - 1))))) + (z4 + z5)) + (g26 (4 * j + (c9 + 1) % z2)))))))), (a27, .inl (cI, 3604, .inl (zA (upZ g27 (4 * i + c9) (1 + (g27 (4 * j + (c9 + 1) % z2))))))), (a28, .inl (cI, 3604, .inl (zA (upZ g28 (4 * i + c9) j))))]) (by rw [upZ_uu, upZ_uu, upZ_uu]) rfl rfl rfl ?_
                            refine g_lv (lv' := [(0, .ref m0), (1, .int (iZ i)), (2, .int (iZ c9)), (3, .int (iZ ((4 * i) + c9))), (4, .int (iZ (ln + (g22 (j - 1))))), (5, .int (iZ (j + 1)))]) [6, 7, 8, 9, 5, 0] rfl ?_
                            exact ih_23 (((((z1 - (ln + (g22 (j - 1)))) * (z1 - (ln + (g22 (j - 1))))) + (z4 + z5)) + (g26 (4 * j + (c9 + 1) % z2)))) ((1 + (g27 (4 * j + (c9 + 1) % z2)))) j (ln + (g22 (j - 1))) (j + 1) (by omega) (by omega) (by omega) (fun h => by first | exact hne h | omega) hb2 (by omega)
                          · skip
                            have hb2 := hb
                            rw [if_pos (Or.inr (Or.inr ⟨by omega, by omega⟩))] at hb2
                            refine g_goto X 257 dX5_best_230 (by decide) ?_
                            refine g_iinc (q := 9) (lv2 := [(5, .int (iZ (j + 1))), (8, .int (iZ (1 + (g27 (4 * j + (c9 + 1) % z2))))), (6, .long (lZ ((((z1 - (ln + (g22 (j - 1)))) * (z1 - (ln + (g22 (j - 1))))) + (z4 + z5)) + (g26 (4 * j + (c9 + 1) % z2))))), (10, .int (iZ (z1 - (ln + (g22 (j - 1)))))), (9, .int (iZ ((4 * j) + ((c9 + 1) % z2)))), (4, .int (iZ (ln + (g22 (j - 1))))), (0, .ref m0), (1, .int (iZ i)), (2, .int (iZ c9)), (3, .int (iZ ((4 * i) + c9)))]) X dX5_best_257 rfl (by decide) rfl ?_
                            refine g_goto X 23 dX5_best_260 (by decide) ?_
                            refine g_lv (lv' := [(0, .ref m0), (1, .int (iZ i)), (2, .int (iZ c9)), (3, .int (iZ ((4 * i) + c9))), (4, .int (iZ (ln + (g22 (j - 1))))), (5, .int (iZ (j + 1)))]) [6, 7, 8, 9, 5, 0] rfl ?_
                            exact ih_23 v n0 e0 (ln + (g22 (j - 1))) (j + 1) (by omega) (by omega) (by omega) (fun h => by first | exact hne h | omega) hb2 (by omega)
                · skip
                  refine g_iconst X dX5_best_136 ?_
                  refine g_goto X 163 dX5_best_137 (by decide) ?_
                  refine g_iadd X dX5_best_163 ?_
                  refine g_i2l X dX5_best_164 (by omega) ?_
                  refine g_aload_n X 5 dX5_best_165 rfl rfl ?_
                  refine g_get X (index := 73) (ref := "GuideWordsModel") hin5 0 rfl rfl 26 (by decide) rfl (by decide +kernel) (v := .ref a26) rfl dX5_best_166 ?_
                  refine g_iload X 1 dX5_best_169 rfl ?_
                  refine g_lald X 4 2 rfl rfl (by omega) (by decide) dX5_best_171 ?_
                  refine g_topl (b := g26 (4 * j + (c9 + 1) % z2)) (upZ_n (by omega)) ?_
                  have r_171 := h26 (4 * j + (c9 + 1) % z2) (by omega)
                  refine g_ladd X dX5_best_172 ?_
                  refine g_lstore (lv2 := [(6, .long (lZ ((((z1 - (ln + (g22 (j - 1)))) * (z1 - (ln + (g22 (j - 1))))) + 0) + (g26 (4 * j + (c9 + 1) % z2))))), (10, .int (iZ (z1 - (ln + (g22 (j - 1)))))), (9, .int (iZ ((4 * j) + ((c9 + 1) % z2)))), (8, .int (iZ 1)), (4, .int (iZ (ln + (g22 (j - 1))))), (0, .ref m0), (1, .int (iZ i)), (2, .int (iZ c9)), (3, .int (iZ ((4 * i) + c9))), (5, .int (iZ j))]) X dX5_best_173 (by decide) rfl ?_
                  refine g_iconst X dX5_best_175 ?_
                  refine g_aload_n X 5 dX5_best_176 rfl rfl ?_
                  refine g_get X (index := 77) (ref := "GuideWordsModel") hin5 0 rfl rfl 27 (by decide) rfl (by decide +kernel) (v := .ref a27) rfl dX5_best_177 ?_
                  refine g_iload X 2 dX5_best_180 rfl ?_
                  refine g_iald X 5 1 rfl rfl (by omega) (by decide) dX5_best_182 ?_
                  refine g_topi (b := g27 (4 * j + (c9 + 1) % z2)) (upZ_n (by omega)) ?_
                  refine g_iadd X dX5_best_183 ?_
                  refine g_istore (lv2 := [(8, .int (iZ (1 + (g27 (4 * j + (c9 + 1) % z2))))), (6, .long (lZ ((((z1 - (ln + (g22 (j - 1)))) * (z1 - (ln + (g22 (j - 1))))) + 0) + (g26 (4 * j + (c9 + 1) % z2))))), (10, .int (iZ (z1 - (ln + (g22 (j - 1)))))), (9, .int (iZ ((4 * j) + ((c9 + 1) % z2)))), (4, .int (iZ (ln + (g22 (j - 1))))), (0, .ref m0), (1, .int (iZ i)), (2, .int (iZ c9)), (3, .int (iZ ((4 * i) + c9))), (5, .int (iZ j))]) X dX5_best_184 (by decide) rfl ?_
                  have hV : (((z1 - (ln + (g22 (j - 1)))) * (z1 - (ln + (g22 (j - 1))))) + 0) + (g26 (4 * j + (c9 + 1) % z2)) = vvM z1 z2 z4 z5 g24 g26 z25 c9 j (ln + g22 (j - 1)) := by
                    unfold vvM
                    first
                    | (rw [if_neg (by omega)]; done)
                    | (rw [if_pos (by omega), if_pos c_133]; done)
                    | (rw [if_pos (by omega), if_neg (by omega), if_pos c_151]; done)
                    | (rw [if_pos (by omega), if_neg (by omega), if_neg c_151]; done)
                  have hN : 1 + (g27 (4 * j + (c9 + 1) % z2)) = nnM z2 g27 z25 c9 j := by
                    unfold nnM; first | (rw [if_neg (by omega)]; done) | (rw [if_pos (by omega)]; done)
                  rw [if_neg (fun q => by have q2 := q.2; omega)] at hb
                  have hnr : (((z1 - (ln + (g22 (j - 1)))) * (z1 - (ln + (g22 (j - 1))))) + 0) + (g26 (4 * j + (c9 + 1) % z2)) < 1152921504606846976 → 1 ≤ 1 + (g27 (4 * j + (c9 + 1) % z2)) ∧ 1 + (g27 (4 * j + (c9 + 1) % z2)) ≤ z25 - i := fun h => by
                    first
                    | omega
                    | (have q := hfe j ((c9 + 1) % z2) (by omega) (by omega) hmr hmr2 (by omega); omega)
                  refine g_lload X 1 dX5_best_186 rfl ?_
                  refine g_ldc2 (v := 1152921504606846976) (z := 1152921504606846976) X dX5_best_188 (by decide +kernel) rfl ?_
                  refine g_lcmp X dX5_best_191 (by omega) (by omega) ?_
                  refine g_if_ge X 257 dX5_best_192 (by decide) (by have := cmpZ_rng ((((z1 - (ln + (g22 (j - 1)))) * (z1 - (ln + (g22 (j - 1))))) + 0) + (g26 (4 * j + (c9 + 1) % z2))) (1152921504606846976); omega) (fun c_192 => ?_) (fun c_192 => ?_)
                  · skip
                    have c_192 : 1152921504606846976 ≤ (((z1 - (ln + (g22 (j - 1)))) * (z1 - (ln + (g22 (j - 1))))) + 0) + (g26 (4 * j + (c9 + 1) % z2)) := by have h9 := @cmpZ_lt ((((z1 - (ln + (g22 (j - 1)))) * (z1 - (ln + (g22 (j - 1))))) + 0) + (g26 (4 * j + (c9 + 1) % z2))) (1152921504606846976); omega
                    have hb2 := hb
                    rw [if_pos (Or.inl (by omega))] at hb2
                    refine g_iinc (q := 9) (lv2 := [(5, .int (iZ (j + 1))), (8, .int (iZ (1 + (g27 (4 * j + (c9 + 1) % z2))))), (6, .long (lZ ((((z1 - (ln + (g22 (j - 1)))) * (z1 - (ln + (g22 (j - 1))))) + 0) + (g26 (4 * j + (c9 + 1) % z2))))), (10, .int (iZ (z1 - (ln + (g22 (j - 1)))))), (9, .int (iZ ((4 * j) + ((c9 + 1) % z2)))), (4, .int (iZ (ln + (g22 (j - 1))))), (0, .ref m0), (1, .int (iZ i)), (2, .int (iZ c9)), (3, .int (iZ ((4 * i) + c9)))]) X dX5_best_257 rfl (by decide) rfl ?_
                    refine g_goto X 23 dX5_best_260 (by decide) ?_
                    refine g_lv (lv' := [(0, .ref m0), (1, .int (iZ i)), (2, .int (iZ c9)), (3, .int (iZ ((4 * i) + c9))), (4, .int (iZ (ln + (g22 (j - 1))))), (5, .int (iZ (j + 1)))]) [6, 7, 8, 9, 5, 0] rfl ?_
                    exact ih_23 v n0 e0 (ln + (g22 (j - 1))) (j + 1) (by omega) (by omega) (by omega) (fun h => by first | exact hne h | omega) hb2 (by omega)
                  · skip
                    have c_192 : (((z1 - (ln + (g22 (j - 1)))) * (z1 - (ln + (g22 (j - 1))))) + 0) + (g26 (4 * j + (c9 + 1) % z2)) < 1152921504606846976 := by have h9 := @cmpZ_lt ((((z1 - (ln + (g22 (j - 1)))) * (z1 - (ln + (g22 (j - 1))))) + 0) + (g26 (4 * j + (c9 + 1) % z2))) (1152921504606846976); omega
                    have hnr2 := hnr (by omega)
                    refine g_lload X 1 dX5_best_195 rfl ?_
                    refine g_aload_n X 5 dX5_best_197 rfl rfl ?_
                    refine g_get X (index := 73) (ref := "GuideWordsModel") hin5 0 rfl rfl 26 (by decide) rfl (by decide +kernel) (v := .ref a26) rfl dX5_best_198 ?_
                    refine g_iload_n X 8 dX5_best_201 rfl rfl ?_
                    refine g_lald X 4 2 rfl rfl (by omega) (by decide) dX5_best_202 ?_
                    refine g_topl (b := v) upZ_s ?_
                    refine g_lcmp X dX5_best_203 (by omega) (by omega) ?_
                    refine g_if_gt X 257 dX5_best_204 (by decide) (by have := cmpZ_rng ((((z1 - (ln + (g22 (j - 1)))) * (z1 - (ln + (g22 (j - 1))))) + 0) + (g26 (4 * j + (c9 + 1) % z2))) (v); omega) (fun c_204 => ?_) (fun c_204 => ?_)
                    · skip
                      have c_204 : v < (((z1 - (ln + (g22 (j - 1)))) * (z1 - (ln + (g22 (j - 1))))) + 0) + (g26 (4 * j + (c9 + 1) % z2)) := by have h9 := @cmpZ_le ((((z1 - (ln + (g22 (j - 1)))) * (z1 - (ln + (g22 (j - 1))))) + 0) + (g26 (4 * j + (c9 + 1) % z2))) (v); omega
                      have hb2 := hb
                      rw [if_pos (Or.inr (Or.inl (by omega)))] at hb2
                      refine g_iinc (q := 9) (lv2 := [(5, .int (iZ (j + 1))), (8, .int (iZ (1 + (g27 (4 * j + (c9 + 1) % z2))))), (6, .long (lZ ((((z1 - (ln + (g22 (j - 1)))) * (z1 - (ln + (g22 (j - 1))))) + 0) + (g26 (4 * j + (c9 + 1) % z2))))), (10, .int (iZ (z1 - (ln + (g22 (j - 1)))))), (9, .int (iZ ((4 * j) + ((c9 + 1) % z2)))), (4, .int (iZ (ln + (g22 (j - 1))))), (0, .ref m0), (1, .int (iZ i)), (2, .int (iZ c9)), (3, .int (iZ ((4 * i) + c9)))]) X dX5_best_257 rfl (by decide) rfl ?_
                      refine g_goto X 23 dX5_best_260 (by decide) ?_
                      refine g_lv (lv' := [(0, .ref m0), (1, .int (iZ i)), (2, .int (iZ c9)), (3, .int (iZ ((4 * i) + c9))), (4, .int (iZ (ln + (g22 (j - 1))))), (5, .int (iZ (j + 1)))]) [6, 7, 8, 9, 5, 0] rfl ?_
                      exact ih_23 v n0 e0 (ln + (g22 (j - 1))) (j + 1) (by omega) (by omega) (by omega) (fun h => by first | exact hne h | omega) hb2 (by omega)
                    · skip
                      have c_204 : (((z1 - (ln + (g22 (j - 1)))) * (z1 - (ln + (g22 (j - 1))))) + 0) + (g26 (4 * j + (c9 + 1) % z2)) ≤ v := by have h9 := @cmpZ_le ((((z1 - (ln + (g22 (j - 1)))) * (z1 - (ln + (g22 (j - 1))))) + 0) + (g26 (4 * j + (c9 + 1) % z2))) (v); omega
                      refine g_lload X 1 dX5_best_207 rfl ?_
                      refine g_aload_n X 5 dX5_best_209 rfl rfl ?_
                      refine g_get X (index := 73) (ref := "GuideWordsModel") hin5 0 rfl rfl 26 (by decide) rfl (by decide +kernel) (v := .ref a26) rfl dX5_best_210 ?_
                      refine g_iload_n X 8 dX5_best_213 rfl rfl ?_
                      refine g_lald X 4 2 rfl rfl (by omega) (by decide) dX5_best_214 ?_
                      refine g_topl (b := v) upZ_s ?_
                      refine g_lcmp X dX5_best_215 (by omega) (by omega) ?_
                      refine g_if_ne X 233 dX5_best_216 (by decide) (by have := cmpZ_rng ((((z1 - (ln + (g22 (j - 1)))) * (z1 - (ln + (g22 (j - 1))))) + 0) + (g26 (4 * j + (c9 + 1) % z2))) (v); omega) (fun c_216 => ?_) (fun c_216 => ?_)
                      · skip
                        have c_216 : ¬ (((z1 - (ln + (g22 (j - 1)))) * (z1 - (ln + (g22 (j - 1))))) + 0) + (g26 (4 * j + (c9 + 1) % z2)) = v := by have h9 := @cmpZ_eq ((((z1 - (ln + (g22 (j - 1)))) * (z1 - (ln + (g22 (j - 1))))) + 0) + (g26 (4 * j + (c9 + 1) % z2))) (v); omega
                        have hb2 := hb
                        rw [if_neg (by omega), ← hV, ← hN] at hb2
                        refine g_aload_n X 5 dX5_best_233 rfl rfl ?_
                        refine g_get X (index := 73) (ref := "GuideWordsModel") hin5 0 rfl rfl 26 (by decide) rfl (by decide +kernel) (v := .ref a26) rfl dX5_best_234 ?_
                        refine g_iload_n X 8 dX5_best_237 rfl rfl ?_
                        refine g_lload X 1 dX5_best_238 rfl ?_
                        refine g_last X 4 2 rfl rfl (by omega) (by decide) (ws2 := [(m0, .inr (5, [.int (iZ z0), .int (iZ z1), .int (iZ z2), .int (iZ z3), .int (iZ z4), .int (iZ z5), .ref a6, .int (iZ z7), .ref a8, .int (iZ z9), .ref a10, .ref a11, .ref a12, .ref a13, .ref a14, .ref a15, .int (iZ z16), .ref a17, .int (iZ z18), .ref a19, .ref a20, .ref a21, .ref a22, .ref a23, .ref a24, .int (iZ z25), .ref a26, .ref a27, .ref a28, .int (iZ z29), .int (iZ z30), .int (iZ z31), .int (iZ z32), .int (iZ z33), .int (iZ z34), .ref a35, .ref a36, .ref a37, .ref a38, .ref a39, .ref a40, .ref a41, .int (iZ z42), .int (iZ z43), .ref a44, .ref a45])), (a22, .inl (cI, 900, .inl (zA g22))), (a23, .inl (cY, 900, .inl (zA g23))), (a24, .inl (cY, 900, .inl (zA g24))), (a26, .inl (cJ, 3604, .inr (.inl (lA (upZ (upZ g26 (4 * i + c9) v) ((4 * i) + c9) ((((z1 - (ln + (g22 (j - 1)))) * (z1 - (ln + (g22 (j - 1))))) + 0) + (g26 (4 * j + (c9 + 1) % z2)))))))), (a27, .inl (cI, 3604, .inl (zA (upZ g27 (4 * i + c9) n0)))), (a28, .inl (cI, 3604, .inl (zA (upZ g28 (4 * i + c9) e0))))]) rfl dX5_best_240 ?_
                        refine g_aload_n X 5 dX5_best_241 rfl rfl ?_
                        refine g_get X (index := 77) (ref := "GuideWordsModel") hin5 0 rfl rfl 27 (by decide) rfl (by decide +kernel) (v := .ref a27) rfl dX5_best_242 ?_
                        refine g_iload_n X 8 dX5_best_245 rfl rfl ?_
                        refine g_iload X 0 dX5_best_246 rfl ?_
                        refine g_iast X 5 1 rfl rfl (by omega) (by decide) (ws2 := [(m0, .inr (5, [.int (iZ z0), .int (iZ z1), .int (iZ z2), .int (iZ z3), .int (iZ z4), .int (iZ z5), .ref a6, .int (iZ z7), .ref a8, .int (iZ z9), .ref a10, .ref a11, .ref a12, .ref a13, .ref a14, .ref a15, .int (iZ z16), .ref a17, .int (iZ z18), .ref a19, .ref a20, .ref a21, .ref a22, .ref a23, .ref a24, .int (iZ z25), .ref a26, .ref a27, .ref a28, .int (iZ z29), .int (iZ z30), .int (iZ z31), .int (iZ z32), .int (iZ z33), .int (iZ z34), .ref a35, .ref a36, .ref a37, .ref a38, .ref a39, .ref a40, .ref a41, .int (iZ z42), .int (iZ z43), .ref a44, .ref a45])), (a22, .inl (cI, 900, .inl (zA g22))), (a23, .inl (cY, 900, .inl (zA g23))), (a24, .inl (cY, 900, .inl (zA g24))), (a26, .inl (cJ, 3604, .inr (.inl (lA (upZ (upZ g26 (4 * i + c9) v) ((4 * i) + c9) ((((z1 - (ln + (g22 (j - 1)))) * (z1 - (ln + (g22 (j - 1))))) + 0) + (g26 (4 * j + (c9 + 1) % z2)))))))), (a27, .inl (cI, 3604, .inl (zA (upZ (upZ g27 (4 * i + c9) n0) ((4 * i) + c9) (1 + (g27 (4 * j + (c9 + 1) % z2))))))), (a28, .inl (cI, 3604, .inl (zA (upZ g28 (4 * i + c9) e0))))]) rfl dX5_best_248 ?_
                        refine g_aload_n X 5 dX5_best_249 rfl rfl ?_
                        refine g_get X (index := 80) (ref := "GuideWordsModel") hin5 0 rfl rfl 28 (by decide) rfl (by decide +kernel) (v := .ref a28) rfl dX5_best_250 ?_
                        refine g_iload_n X 8 dX5_best_253 rfl rfl ?_
                        refine g_iload X 9 dX5_best_254 rfl ?_
                        refine g_iast X 6 1 rfl rfl (by omega) (by decide) (ws2 := [(m0, .inr (5, [.int (iZ z0), .int (iZ z1), .int (iZ z2), .int (iZ z3), .int (iZ z4), .int (iZ z5), .ref a6, .int (iZ z7), .ref a8, .int (iZ z9), .ref a10, .ref a11, .ref a12, .ref a13, .ref a14, .ref a15, .int (iZ z16), .ref a17, .int (iZ z18), .ref a19, .ref a20, .ref a21, .ref a22, .ref a23, .ref a24, .int (iZ z25), .ref a26, .ref a27, .ref a28, .int (iZ z29), .int (iZ z30), .int (iZ z31), .int (iZ z32), .int (iZ z33), .int (iZ z34), .ref a35, .ref a36, .ref a37, .ref a38, .ref a39, .ref a40, .ref a41, .int (iZ z42), .int (iZ z43), .ref a44, .ref a45])), (a22, .inl (cI, 900, .inl (zA g22))), (a23, .inl (cY, 900, .inl (zA g23))), (a24, .inl (cY, 900, .inl (zA g24))), (a26, .inl (cJ, 3604, .inr (.inl (lA (upZ (upZ g26 (4 * i + c9) v) ((4 * i) + c9) ((((z1 - (ln + (g22 (j - 1)))) * (z1 - (ln + (g22 (j - 1))))) + 0) + (g26 (4 * j + (c9 + 1) % z2)))))))), (a27, .inl (cI, 3604, .inl (zA (upZ (upZ g27 (4 * i + c9) n0) ((4 * i) + c9) (1 + (g27 (4 * j + (c9 + 1) % z2))))))), (a28, .inl (cI, 3604, .inl (zA (upZ (upZ g28 (4 * i + c9) e0) ((4 * i) + c9) j))))]) rfl dX5_best_256 ?_
                        refine g_iinc (q := 9) (lv2 := [(5, .int (iZ (j + 1))), (8, .int (iZ (1 + (g27 (4 * j + (c9 + 1) % z2))))), (6, .long (lZ ((((z1 - (ln + (g22 (j - 1)))) * (z1 - (ln + (g22 (j - 1))))) + 0) + (g26 (4 * j + (c9 + 1) % z2))))), (10, .int (iZ (z1 - (ln + (g22 (j - 1)))))), (9, .int (iZ ((4 * j) + ((c9 + 1) % z2)))), (4, .int (iZ (ln + (g22 (j - 1))))), (0, .ref m0), (1, .int (iZ i)), (2, .int (iZ c9)), (3, .int (iZ ((4 * i) + c9)))]) X dX5_best_257 rfl (by decide) rfl ?_
                        refine g_goto X 23 dX5_best_260 (by decide) ?_
                        refine g_eq (ws' := [(m0, .inr (5, [.int (iZ z0), .int (iZ z1), .int (iZ z2), .int (iZ z3), .int (iZ z4), .int (iZ z5), .ref a6, .int (iZ z7), .ref a8, .int (iZ z9), .ref a10, .ref a11, .ref a12, .ref a13, .ref a14, .ref a15, .int (iZ z16), .ref a17, .int (iZ z18), .ref a19, .ref a20, .ref a21, .ref a22, .ref a23, .ref a24, .int (iZ z25), .ref a26, .ref a27, .ref a28, .int (iZ z29), .int (iZ z30), .int (iZ z31), .int (iZ z32), .int (iZ z33), .int (iZ z34), .ref a35, .ref a36, .ref a37, .ref a38, .ref a39, .ref a40, .ref a41, .int (iZ z42), .int (iZ z43), .ref a44, .ref a45])), (a22, .inl (cI, 900, .inl (zA g22))), (a23, .inl (cY, 900, .inl (zA g23))), (a24, .inl (cY, 900, .inl (zA g24))), (a26, .inl (cJ, 3604, .inr (.inl (lA (upZ g26 (4 * i + c9) ((((z1 - (ln + (g22 (j - 1)))) * (z1 - (ln + (g22 (j - 1))))) + 0) + (g26 (4 * j + (c9 + 1) % z2)))))))), (a27, .inl (cI, 3604, .inl (zA (upZ g27 (4 * i + c9) (1 + (g27 (4 * j + (c9 + 1) % z2))))))), (a28, .inl (cI, 3604, .inl (zA (upZ g28 (4 * i + c9) j))))]) (by rw [upZ_uu, upZ_uu, upZ_uu]) rfl rfl rfl ?_
                        refine g_lv (lv' := [(0, .ref m0), (1, .int (iZ i)), (2, .int (iZ c9)), (3, .int (iZ ((4 * i) + c9))), (4, .int (iZ (ln + (g22 (j - 1))))), (5, .int (iZ (j + 1)))]) [6, 7, 8, 9, 5, 0] rfl ?_
                        exact ih_23 (((((z1 - (ln + (g22 (j - 1)))) * (z1 - (ln + (g22 (j - 1))))) + 0) + (g26 (4 * j + (c9 + 1) % z2)))) ((1 + (g27 (4 * j + (c9 + 1) % z2)))) j (ln + (g22 (j - 1))) (j + 1) (by omega) (by omega) (by omega) (fun h => by first | exact hne h | omega) hb2 (by omega)
                      · skip
                        have c_216 : (((z1 - (ln + (g22 (j - 1)))) * (z1 - (ln + (g22 (j - 1))))) + 0) + (g26 (4 * j + (c9 + 1) % z2)) = v := by have h9 := @cmpZ_eq ((((z1 - (ln + (g22 (j - 1)))) * (z1 - (ln + (g22 (j - 1))))) + 0) + (g26 (4 * j + (c9 + 1) % z2))) (v); omega
                        refine g_iload X 0 dX5_best_219 rfl ?_
                        refine g_aload_n X 5 dX5_best_221 rfl rfl ?_
                        refine g_get X (index := 77) (ref := "GuideWordsModel") hin5 0 rfl rfl 27 (by decide) rfl (by decide +kernel) (v := .ref a27) rfl dX5_best_222 ?_
                        refine g_iload_n X 8 dX5_best_225 rfl rfl ?_
                        refine g_iald X 5 1 rfl rfl (by omega) (by decide) dX5_best_226 ?_
                        refine g_topi (b := n0) upZ_s ?_
                        refine g_icmp_le X 233 dX5_best_227 (by decide) (by omega) (by have := hne (by omega); omega) (fun c_227 => ?_) (fun c_227 => ?_)
                        · skip
                          have hb2 := hb
                          rw [if_neg (by omega), ← hV, ← hN] at hb2
                          refine g_aload_n X 5 dX5_best_233 rfl rfl ?_
                          refine g_get X (index := 73) (ref := "GuideWordsModel") hin5 0 rfl rfl 26 (by decide) rfl (by decide +kernel) (v := .ref a26) rfl dX5_best_234 ?_
                          refine g_iload_n X 8 dX5_best_237 rfl rfl ?_
                          refine g_lload X 1 dX5_best_238 rfl ?_
                          refine g_last X 4 2 rfl rfl (by omega) (by decide) (ws2 := [(m0, .inr (5, [.int (iZ z0), .int (iZ z1), .int (iZ z2), .int (iZ z3), .int (iZ z4), .int (iZ z5), .ref a6, .int (iZ z7), .ref a8, .int (iZ z9), .ref a10, .ref a11, .ref a12, .ref a13, .ref a14, .ref a15, .int (iZ z16), .ref a17, .int (iZ z18), .ref a19, .ref a20, .ref a21, .ref a22, .ref a23, .ref a24, .int (iZ z25), .ref a26, .ref a27, .ref a28, .int (iZ z29), .int (iZ z30), .int (iZ z31), .int (iZ z32), .int (iZ z33), .int (iZ z34), .ref a35, .ref a36, .ref a37, .ref a38, .ref a39, .ref a40, .ref a41, .int (iZ z42), .int (iZ z43), .ref a44, .ref a45])), (a22, .inl (cI, 900, .inl (zA g22))), (a23, .inl (cY, 900, .inl (zA g23))), (a24, .inl (cY, 900, .inl (zA g24))), (a26, .inl (cJ, 3604, .inr (.inl (lA (upZ (upZ g26 (4 * i + c9) v) ((4 * i) + c9) ((((z1 - (ln + (g22 (j - 1)))) * (z1 - (ln + (g22 (j - 1))))) + 0) + (g26 (4 * j + (c9 + 1) % z2)))))))), (a27, .inl (cI, 3604, .inl (zA (upZ g27 (4 * i + c9) n0)))), (a28, .inl (cI, 3604, .inl (zA (upZ g28 (4 * i + c9) e0))))]) rfl dX5_best_240 ?_
                          refine g_aload_n X 5 dX5_best_241 rfl rfl ?_
                          refine g_get X (index := 77) (ref := "GuideWordsModel") hin5 0 rfl rfl 27 (by decide) rfl (by decide +kernel) (v := .ref a27) rfl dX5_best_242 ?_
                          refine g_iload_n X 8 dX5_best_245 rfl rfl ?_
                          refine g_iload X 0 dX5_best_246 rfl ?_
                          refine g_iast X 5 1 rfl rfl (by omega) (by decide) (ws2 := [(m0, .inr (5, [.int (iZ z0), .int (iZ z1), .int (iZ z2), .int (iZ z3), .int (iZ z4), .int (iZ z5), .ref a6, .int (iZ z7), .ref a8, .int (iZ z9), .ref a10, .ref a11, .ref a12, .ref a13, .ref a14, .ref a15, .int (iZ z16), .ref a17, .int (iZ z18), .ref a19, .ref a20, .ref a21, .ref a22, .ref a23, .ref a24, .int (iZ z25), .ref a26, .ref a27, .ref a28, .int (iZ z29), .int (iZ z30), .int (iZ z31), .int (iZ z32), .int (iZ z33), .int (iZ z34), .ref a35, .ref a36, .ref a37, .ref a38, .ref a39, .ref a40, .ref a41, .int (iZ z42), .int (iZ z43), .ref a44, .ref a45])), (a22, .inl (cI, 900, .inl (zA g22))), (a23, .inl (cY, 900, .inl (zA g23))), (a24, .inl (cY, 900, .inl (zA g24))), (a26, .inl (cJ, 3604, .inr (.inl (lA (upZ (upZ g26 (4 * i + c9) v) ((4 * i) + c9) ((((z1 - (ln + (g22 (j - 1)))) * (z1 - (ln + (g22 (j - 1))))) + 0) + (g26 (4 * j + (c9 + 1) % z2)))))))), (a27, .inl (cI, 3604, .inl (zA (upZ (upZ g27 (4 * i + c9) n0) ((4 * i) + c9) (1 + (g27 (4 * j + (c9 + 1) % z2))))))), (a28, .inl (cI, 3604, .inl (zA (upZ g28 (4 * i + c9) e0))))]) rfl dX5_best_248 ?_
                          refine g_aload_n X 5 dX5_best_249 rfl rfl ?_
                          refine g_get X (index := 80) (ref := "GuideWordsModel") hin5 0 rfl rfl 28 (by decide) rfl (by decide +kernel) (v := .ref a28) rfl dX5_best_250 ?_
                          refine g_iload_n X 8 dX5_best_253 rfl rfl ?_
                          refine g_iload X 9 dX5_best_254 rfl ?_
                          refine g_iast X 6 1 rfl rfl (by omega) (by decide) (ws2 := [(m0, .inr (5, [.int (iZ z0), .int (iZ z1), .int (iZ z2), .int (iZ z3), .int (iZ z4), .int (iZ z5), .ref a6, .int (iZ z7), .ref a8, .int (iZ z9), .ref a10, .ref a11, .ref a12, .ref a13, .ref a14, .ref a15, .int (iZ z16), .ref a17, .int (iZ z18), .ref a19, .ref a20, .ref a21, .ref a22, .ref a23, .ref a24, .int (iZ z25), .ref a26, .ref a27, .ref a28, .int (iZ z29), .int (iZ z30), .int (iZ z31), .int (iZ z32), .int (iZ z33), .int (iZ z34), .ref a35, .ref a36, .ref a37, .ref a38, .ref a39, .ref a40, .ref a41, .int (iZ z42), .int (iZ z43), .ref a44, .ref a45])), (a22, .inl (cI, 900, .inl (zA g22))), (a23, .inl (cY, 900, .inl (zA g23))), (a24, .inl (cY, 900, .inl (zA g24))), (a26, .inl (cJ, 3604, .inr (.inl (lA (upZ (upZ g26 (4 * i + c9) v) ((4 * i) + c9) ((((z1 - (ln + (g22 (j - 1)))) * (z1 - (ln + (g22 (j - 1))))) + 0) + (g26 (4 * j + (c9 + 1) % z2)))))))), (a27, .inl (cI, 3604, .inl (zA (upZ (upZ g27 (4 * i + c9) n0) ((4 * i) + c9) (1 + (g27 (4 * j + (c9 + 1) % z2))))))), (a28, .inl (cI, 3604, .inl (zA (upZ (upZ g28 (4 * i + c9) e0) ((4 * i) + c9) j))))]) rfl dX5_best_256 ?_
                          refine g_iinc (q := 9) (lv2 := [(5, .int (iZ (j + 1))), (8, .int (iZ (1 + (g27 (4 * j + (c9 + 1) % z2))))), (6, .long (lZ ((((z1 - (ln + (g22 (j - 1)))) * (z1 - (ln + (g22 (j - 1))))) + 0) + (g26 (4 * j + (c9 + 1) % z2))))), (10, .int (iZ (z1 - (ln + (g22 (j - 1)))))), (9, .int (iZ ((4 * j) + ((c9 + 1) % z2)))), (4, .int (iZ (ln + (g22 (j - 1))))), (0, .ref m0), (1, .int (iZ i)), (2, .int (iZ c9)), (3, .int (iZ ((4 * i) + c9)))]) X dX5_best_257 rfl (by decide) rfl ?_
                          refine g_goto X 23 dX5_best_260 (by decide) ?_
                          refine g_eq (ws' := [(m0, .inr (5, [.int (iZ z0), .int (iZ z1), .int (iZ z2), .int (iZ z3), .int (iZ z4), .int (iZ z5), .ref a6, .int (iZ z7), .ref a8, .int (iZ z9), .ref a10, .ref a11, .ref a12, .ref a13, .ref a14, .ref a15, .int (iZ z16), .ref a17, .int (iZ z18), .ref a19, .ref a20, .ref a21, .ref a22, .ref a23, .ref a24, .int (iZ z25), .ref a26, .ref a27, .ref a28, .int (iZ z29), .int (iZ z30), .int (iZ z31), .int (iZ z32), .int (iZ z33), .int (iZ z34), .ref a35, .ref a36, .ref a37, .ref a38, .ref a39, .ref a40, .ref a41, .int (iZ z42), .int (iZ z43), .ref a44, .ref a45])), (a22, .inl (cI, 900, .inl (zA g22))), (a23, .inl (cY, 900, .inl (zA g23))), (a24, .inl (cY, 900, .inl (zA g24))), (a26, .inl (cJ, 3604, .inr (.inl (lA (upZ g26 (4 * i + c9) ((((z1 - (ln + (g22 (j - 1)))) * (z1 - (ln + (g22 (j - 1))))) + 0) + (g26 (4 * j + (c9 + 1) % z2)))))))), (a27, .inl (cI, 3604, .inl (zA (upZ g27 (4 * i + c9) (1 + (g27 (4 * j + (c9 + 1) % z2))))))), (a28, .inl (cI, 3604, .inl (zA (upZ g28 (4 * i + c9) j))))]) (by rw [upZ_uu, upZ_uu, upZ_uu]) rfl rfl rfl ?_
                          refine g_lv (lv' := [(0, .ref m0), (1, .int (iZ i)), (2, .int (iZ c9)), (3, .int (iZ ((4 * i) + c9))), (4, .int (iZ (ln + (g22 (j - 1))))), (5, .int (iZ (j + 1)))]) [6, 7, 8, 9, 5, 0] rfl ?_
                          exact ih_23 (((((z1 - (ln + (g22 (j - 1)))) * (z1 - (ln + (g22 (j - 1))))) + 0) + (g26 (4 * j + (c9 + 1) % z2)))) ((1 + (g27 (4 * j + (c9 + 1) % z2)))) j (ln + (g22 (j - 1))) (j + 1) (by omega) (by omega) (by omega) (fun h => by first | exact hne h | omega) hb2 (by omega)
                        · skip
                          have hb2 := hb
                          rw [if_pos (Or.inr (Or.inr ⟨by omega, by omega⟩))] at hb2
                          refine g_goto X 257 dX5_best_230 (by decide) ?_
                          refine g_iinc (q := 9) (lv2 := [(5, .int (iZ (j + 1))), (8, .int (iZ (1 + (g27 (4 * j + (c9 + 1) % z2))))), (6, .long (lZ ((((z1 - (ln + (g22 (j - 1)))) * (z1 - (ln + (g22 (j - 1))))) + 0) + (g26 (4 * j + (c9 + 1) % z2))))), (10, .int (iZ (z1 - (ln + (g22 (j - 1)))))), (9, .int (iZ ((4 * j) + ((c9 + 1) % z2)))), (4, .int (iZ (ln + (g22 (j - 1))))), (0, .ref m0), (1, .int (iZ i)), (2, .int (iZ c9)), (3, .int (iZ ((4 * i) + c9)))]) X dX5_best_257 rfl (by decide) rfl ?_
                          refine g_goto X 23 dX5_best_260 (by decide) ?_
                          refine g_lv (lv' := [(0, .ref m0), (1, .int (iZ i)), (2, .int (iZ c9)), (3, .int (iZ ((4 * i) + c9))), (4, .int (iZ (ln + (g22 (j - 1))))), (5, .int (iZ (j + 1)))]) [6, 7, 8, 9, 5, 0] rfl ?_
                          exact ih_23 v n0 e0 (ln + (g22 (j - 1))) (j + 1) (by omega) (by omega) (by omega) (fun h => by first | exact hne h | omega) hb2 (by omega)
            · skip
              have hb2 := hb
              rw [if_pos ⟨by omega, c_74⟩] at hb2
              refine g_goto X 257 dX5_best_77 (by decide) ?_
              refine g_iinc (q := 5) (lv2 := [(5, .int (iZ (j + 1))), (4, .int (iZ (ln + (g22 (j - 1))))), (0, .ref m0), (1, .int (iZ i)), (2, .int (iZ c9)), (3, .int (iZ ((4 * i) + c9)))]) X dX5_best_257 rfl (by decide) rfl ?_
              refine g_goto X 23 dX5_best_260 (by decide) ?_
              refine g_lv (lv' := [(0, .ref m0), (1, .int (iZ i)), (2, .int (iZ c9)), (3, .int (iZ ((4 * i) + c9))), (4, .int (iZ (ln + (g22 (j - 1))))), (5, .int (iZ (j + 1)))]) [2, 3, 4, 5, 1, 0] rfl ?_
              exact ih_23 v n0 e0 (ln + (g22 (j - 1))) (j + 1) (by omega) (by omega) (by omega) (fun h => by first | exact hne h | omega) hb2 (by omega)
        · skip
          have hres : btF z1 z2 z4 z5 g22 g23 g24 g26 g27 g28 z25 i c9 = (v, n0, e0) := by rw [← hb, if_pos (by omega)]
          exact g_vret X hr (by decide) (by decide) dX5_best_55 ⟨_, _, _, rfl, by rw [hres], by rw [hres], by rw [hres], by rw [hres]; exact hv, by rw [hres]; exact hne, rfl⟩
  exact loop_23 _ 1152921504606846976 ((g27 (4 * i + c9))) ((g28 (4 * i + c9))) 0 (i + 1) (by omega) (by omega) (by omega) (fun h => absurd h (by omega)) (by rw [show z25 + 1 - (i + 1) = z25 - i by omega]; rfl) (Nat.lt_succ_self _)
