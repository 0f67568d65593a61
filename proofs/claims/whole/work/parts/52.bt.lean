/-! BT: the model's table of least costs, without what lay there before -/
def btG (H W SP TU : Int) (li mb il le fe : Int → Int) (nb f c9 : Int) : Int × Int × Int := btR H W SP TU li mb il le fe nb c9 (nb - f).toNat (f + 1) 0 1152921504606846976 0 0
theorem vvM_lt {H W SP TU : Int} {il le : Int → Int} {nb c9 j ln : Int} (hS : 0 ≤ SP) (hT : 0 ≤ TU) (hj : j < nb) : le (4 * j + (c9 + 1) % W) ≤ vvM H W SP TU il le nb c9 j ln := by
  unfold vvM
  rw [if_pos hj]
  have h1 : 0 ≤ (H - ln) * (H - ln) := by
    rcases (show 0 ≤ H - ln ∨ H - ln ≤ 0 by omega) with h | h
    · exact Int.mul_nonneg h h
    · have := Int.mul_nonneg (show 0 ≤ -(H - ln) by omega) (show 0 ≤ -(H - ln) by omega)
      rwa [Int.neg_mul_neg] at this
  have h2 : 0 ≤ (if ¬ il (j - 1) = 0 then 0 else SP + (if c9 = W - 1 then TU else 0)) := by
    split
    · omega
    · split <;> omega
  omega
theorem btR_rel {H W SP TU : Int} {li mb il le fe le2 fe2 : Int → Int} {nb c9 : Int} (hW : 0 < W) (hS : 0 ≤ SP) (hT : 0 ≤ TU) : ∀ (m : Nat) (j ln v n e9 n2 e2 : Int), (∀ q : Int, 4 * j ≤ q → le q = le2 q ∧ (le q < 1152921504606846976 → fe q = fe2 q)) → (v < 1152921504606846976 → n = n2 ∧ e9 = e2) →
    (btR H W SP TU li mb il le fe nb c9 m j ln v n e9).1 = (btR H W SP TU li mb il le2 fe2 nb c9 m j ln v n2 e2).1 ∧ ((btR H W SP TU li mb il le fe nb c9 m j ln v n e9).1 < 1152921504606846976 → (btR H W SP TU li mb il le fe nb c9 m j ln v n e9).2 = (btR H W SP TU li mb il le2 fe2 nb c9 m j ln v n2 e2).2)
  | 0, _, _, v, n, e9, n2, e2, _, hv => ⟨rfl, fun h => by
      have h1 := hv h
      show (n, e9) = (n2, e2)
      rw [h1.1, h1.2]⟩
  | m + 1, j, ln, v, n, e9, n2, e2, hq, hv => by
    have hmod := Int.emod_nonneg (c9 + 1) (show W ≠ 0 by omega)
    have hq2 : ∀ q : Int, 4 * (j + 1) ≤ q → le q = le2 q ∧ (le q < 1152921504606846976 → fe q = fe2 q) := fun q h => hq q (by omega)
    have hat := hq (4 * j + (c9 + 1) % W) (by omega)
    have eV : vvM H W SP TU il le nb c9 j (ln + li (j - 1)) = vvM H W SP TU il le2 nb c9 j (ln + li (j - 1)) := by unfold vvM; rw [hat.1]
    have eN : vvM H W SP TU il le nb c9 j (ln + li (j - 1)) < 1152921504606846976 → nnM W fe nb c9 j = nnM W fe2 nb c9 j := fun h => by
      unfold nnM
      by_cases hj : j < nb
      · have h2 := vvM_lt (H := H) (W := W) (il := il) (le := le) (c9 := c9) (ln := ln + li (j - 1)) hS hT hj
        rw [if_pos hj, if_pos hj, hat.2 (by omega)]
      · rw [if_neg hj, if_neg hj]
    rw [btR_s, btR_s, ← eV]
    by_cases c1 : H < ln + li (j - 1)
    · rw [if_pos c1, if_pos c1]
      exact ⟨rfl, fun h => by have h1 := hv h; show (n, e9) = (n2, e2); rw [h1.1, h1.2]⟩
    · rw [if_neg c1, if_neg c1]
      by_cases c2 : j < nb ∧ mb (j - 1) = 0
      · rw [if_pos c2, if_pos c2]
        exact btR_rel hW hS hT m (j + 1) _ v n e9 n2 e2 hq2 hv
      · rw [if_neg c2, if_neg c2]
        generalize vvM H W SP TU il le nb c9 j (ln + li (j - 1)) = V at *
        by_cases c3 : 1152921504606846976 ≤ V
        · rw [if_pos (Or.inl c3), if_pos (Or.inl c3)]
          exact btR_rel hW hS hT m (j + 1) _ v n e9 n2 e2 hq2 hv
        · have hN := eN (by omega)
          rw [← hN]
          by_cases c4 : 1152921504606846976 ≤ V ∨ v < V ∨ (V = v ∧ n < nnM W fe nb c9 j)
          · have c5 : 1152921504606846976 ≤ V ∨ v < V ∨ (V = v ∧ n2 < nnM W fe nb c9 j) := by
              rcases c4 with h | h | h
              · exact Or.inl h
              · exact Or.inr (Or.inl h)
              · exact Or.inr (Or.inr ⟨h.1, by rw [← (hv (by omega)).1]; exact h.2⟩)
            rw [if_pos c4, if_pos c5]
            exact btR_rel hW hS hT m (j + 1) _ v n e9 n2 e2 hq2 hv
          · have c5 : ¬ (1152921504606846976 ≤ V ∨ v < V ∨ (V = v ∧ n2 < nnM W fe nb c9 j)) := by
              intro h
              apply c4
              rcases h with h | h | h
              · exact Or.inl h
              · exact Or.inr (Or.inl h)
              · exact Or.inr (Or.inr ⟨h.1, by rw [(hv (by omega)).1]; exact h.2⟩)
            rw [if_neg c4, if_neg c5]
            exact btR_rel hW hS hT m (j + 1) _ V _ j _ j hq2 (fun _ => ⟨rfl, rfl⟩)
/-- a choice that was made is a good one -/
theorem btR_good {H W SP TU : Int} {li mb il le fe : Int → Int} {nb c9 f : Int} (hS : 0 ≤ SP) (hT : 0 ≤ TU) : ∀ (m : Nat) (j ln v n e9 : Int), f < j → j + m = nb + 1 → (v < 1152921504606846976 → f < e9 ∧ e9 ≤ nb ∧ (e9 = nb ∨ le (4 * e9 + (c9 + 1) % W) < 1152921504606846976)) → (btR H W SP TU li mb il le fe nb c9 m j ln v n e9).1 < 1152921504606846976 → f < (btR H W SP TU li mb il le fe nb c9 m j ln v n e9).2.2 ∧ (btR H W SP TU li mb il le fe nb c9 m j ln v n e9).2.2 ≤ nb ∧ ((btR H W SP TU li mb il le fe nb c9 m j ln v n e9).2.2 = nb ∨ le (4 * (btR H W SP TU li mb il le fe nb c9 m j ln v n e9).2.2 + (c9 + 1) % W) < 1152921504606846976)
  | 0, _, _, _, _, _, _, _, hv, h => hv h
  | m + 1, j, ln, v, n, e9, hf, hj, hv, h => by
    rw [btR_s] at h ⊢
    by_cases c1 : H < ln + li (j - 1)
    · rw [if_pos c1] at h ⊢; exact hv h
    · rw [if_neg c1] at h ⊢
      by_cases c2 : j < nb ∧ mb (j - 1) = 0
      · rw [if_pos c2] at h ⊢
        exact btR_good hS hT m (j + 1) _ v n e9 (by omega) (by omega) hv h
      · rw [if_neg c2] at h ⊢
        by_cases c3 : 1152921504606846976 ≤ vvM H W SP TU il le nb c9 j (ln + li (j - 1)) ∨ v < vvM H W SP TU il le nb c9 j (ln + li (j - 1)) ∨ (vvM H W SP TU il le nb c9 j (ln + li (j - 1)) = v ∧ n < nnM W fe nb c9 j)
        · rw [if_pos c3] at h ⊢
          exact btR_good hS hT m (j + 1) _ v n e9 (by omega) (by omega) hv h
        · rw [if_neg c3] at h ⊢
          refine btR_good hS hT m (j + 1) _ _ _ j (by omega) (by omega) (fun hV => ⟨hf, by omega, ?_⟩) h
          rcases (show j = nb ∨ j < nb by omega) with e | e
          · exact Or.inl e
          · have h2 := vvM_lt (H := H) (W := W) (il := il) (le := le) (c9 := c9) (ln := ln + li (j - 1)) hS hT e
            exact Or.inr (by omega)
theorem btG_good {H W SP TU : Int} {li mb il le fe : Int → Int} {nb c9 f : Int} (hS : 0 ≤ SP) (hT : 0 ≤ TU) (hf : f ≤ nb) (h : (btG H W SP TU li mb il le fe nb f c9).1 < 1152921504606846976) : f < (btG H W SP TU li mb il le fe nb f c9).2.2 ∧ (btG H W SP TU li mb il le fe nb f c9).2.2 ≤ nb ∧ ((btG H W SP TU li mb il le fe nb f c9).2.2 = nb ∨ le (4 * (btG H W SP TU li mb il le fe nb f c9).2.2 + (c9 + 1) % W) < 1152921504606846976) :=
  btR_good hS hT _ _ _ _ _ _ (by omega) (by omega) (fun h => absurd h (by omega)) h
/-- the table holds what it should from row f0 + 1 on -/
def BtOk (H W SP TU : Int) (li mb il le fe en : Int → Int) (nb f0 : Int) : Prop := ∀ f c9 : Int, f0 < f → f < nb → 0 ≤ c9 → c9 < W → le (4 * f + c9) = (btG H W SP TU li mb il le fe nb f c9).1 ∧ (le (4 * f + c9) < 1152921504606846976 → fe (4 * f + c9) = (btG H W SP TU li mb il le fe nb f c9).2.1 ∧ en (4 * f + c9) = (btG H W SP TU li mb il le fe nb f c9).2.2)
/-- .. and in row fi up to the place pl -/
def BtRow (H W SP TU : Int) (li mb il le fe en : Int → Int) (nb fi pl : Int) : Prop := ∀ c9 : Int, 0 ≤ c9 → c9 < pl → le (4 * fi + c9) = (btG H W SP TU li mb il le fe nb fi c9).1 ∧ (le (4 * fi + c9) < 1152921504606846976 → fe (4 * fi + c9) = (btG H W SP TU li mb il le fe nb fi c9).2.1 ∧ en (4 * fi + c9) = (btG H W SP TU li mb il le fe nb fi c9).2.2)
theorem btG_congr {H W SP TU : Int} {li mb il le fe le2 fe2 : Int → Int} {nb f c9 : Int} (hW : 0 < W) (hS : 0 ≤ SP) (hT : 0 ≤ TU) (h : ∀ q : Int, 4 * (f + 1) ≤ q → le q = le2 q ∧ fe q = fe2 q) : (btG H W SP TU li mb il le fe nb f c9).1 = (btG H W SP TU li mb il le2 fe2 nb f c9).1 ∧ ((btG H W SP TU li mb il le fe nb f c9).1 < 1152921504606846976 → (btG H W SP TU li mb il le fe nb f c9).2 = (btG H W SP TU li mb il le2 fe2 nb f c9).2) :=
  btR_rel hW hS hT _ _ _ _ _ _ _ _ (fun q hq => ⟨(h q hq).1, fun _ => (h q hq).2⟩) (fun h => absurd h (by omega))
theorem bt_step {H W SP TU : Int} {li mb il le fe en : Int → Int} {nb fi pl : Int} (hW : 0 < W ∧ W ≤ 4) (hS : 0 ≤ SP) (hT : 0 ≤ TU) (hpl : 0 ≤ pl ∧ pl < W) (hA : BtOk H W SP TU li mb il le fe en nb fi) (hC : BtRow H W SP TU li mb il le fe en nb fi pl) {le2 fe2 en2 : Int → Int} (e1 : le2 = upZ le (4 * fi + pl) (btF H W SP TU li mb il le fe en nb fi pl).1) (e2 : fe2 = upZ fe (4 * fi + pl) (btF H W SP TU li mb il le fe en nb fi pl).2.1) (e3 : en2 = upZ en (4 * fi + pl) (btF H W SP TU li mb il le fe en nb fi pl).2.2) :
    BtOk H W SP TU li mb il le2 fe2 en2 nb fi ∧ BtRow H W SP TU li mb il le2 fe2 en2 nb fi (pl + 1) := by
  have hfar : ∀ q : Int, 4 * (fi + 1) ≤ q → le q = le2 q ∧ fe q = fe2 q := fun q hq => ⟨by rw [e1, upZ_n (by omega)], by rw [e2, upZ_n (by omega)]⟩
  have old : ∀ f c9 : Int, fi ≤ f → (4 * f + c9 ≠ 4 * fi + pl) → (le (4 * f + c9) = (btG H W SP TU li mb il le fe nb f c9).1 ∧ (le (4 * f + c9) < 1152921504606846976 → fe (4 * f + c9) = (btG H W SP TU li mb il le fe nb f c9).2.1 ∧ en (4 * f + c9) = (btG H W SP TU li mb il le fe nb f c9).2.2)) → (le2 (4 * f + c9) = (btG H W SP TU li mb il le2 fe2 nb f c9).1 ∧ (le2 (4 * f + c9) < 1152921504606846976 → fe2 (4 * f + c9) = (btG H W SP TU li mb il le2 fe2 nb f c9).2.1 ∧ en2 (4 * f + c9) = (btG H W SP TU li mb il le2 fe2 nb f c9).2.2)) := by
    intro f c9 h1 h2 h3
    have g := btG_congr (H := H) (W := W) (SP := SP) (TU := TU) (li := li) (mb := mb) (il := il) (le := le) (fe := fe) (le2 := le2) (fe2 := fe2) (nb := nb) (f := f) (c9 := c9) hW.1 hS hT (fun q hq => hfar q (by omega))
    have q1 : le2 (4 * f + c9) = le (4 * f + c9) := by rw [e1, upZ_n h2]
    have q2 : fe2 (4 * f + c9) = fe (4 * f + c9) := by rw [e2, upZ_n h2]
    have q3 : en2 (4 * f + c9) = en (4 * f + c9) := by rw [e3, upZ_n h2]
    rw [q1, q2, q3, ← g.1]
    refine ⟨h3.1, fun h => ?_⟩
    have g2 := g.2 (by rw [← h3.1]; exact h)
    have h4 := h3.2 h
    rw [← g2]; exact h4
  refine ⟨fun f c9 a b c d => old f c9 (by omega) (by omega) (hA f c9 a b c d), fun c9 a b => ?_⟩
  rcases (show c9 = pl ∨ c9 < pl by omega) with h | h
  · subst h
    have g := btR_rel (H := H) (W := W) (SP := SP) (TU := TU) (li := li) (mb := mb) (il := il) (le := le) (fe := fe) (le2 := le2) (fe2 := fe2) (nb := nb) (c9 := c9) hW.1 hS hT (nb - fi).toNat (fi + 1) 0 1152921504606846976 (fe (4 * fi + c9)) (en (4 * fi + c9)) 0 0 (fun q hq => ⟨(hfar q (by omega)).1, fun _ => (hfar q (by omega)).2⟩) (fun h => absurd h (by omega))
    have k1 : le2 (4 * fi + c9) = (btF H W SP TU li mb il le fe en nb fi c9).1 := by rw [e1, upZ_s]
    have k2 : fe2 (4 * fi + c9) = (btF H W SP TU li mb il le fe en nb fi c9).2.1 := by rw [e2, upZ_s]
    have k3 : en2 (4 * fi + c9) = (btF H W SP TU li mb il le fe en nb fi c9).2.2 := by rw [e3, upZ_s]
    rw [k1, k2, k3]
    refine ⟨g.1, fun h => ?_⟩
    have g2 := g.2 h
    exact ⟨congrArg Prod.fst g2, congrArg Prod.snd g2⟩
  · exact old fi c9 (Int.le_refl _) (by omega) (hC c9 a h)
