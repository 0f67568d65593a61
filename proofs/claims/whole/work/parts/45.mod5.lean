def tldM (z29 z30 z31 z32 z33 wh r t : Int) : Prop := (¬ (0 ≤ wh ∧ wh ≤ 4) ∧ t = 1 ∧ r = 0) ∨ ((0 ≤ wh ∧ wh ≤ 4) ∧ t = 0 ∧ tlZ z29 z30 z31 z32 z33 wh r)
def clmM (z31 : Int) (g35 g36 g37 g38 : Int → Int) (k wh r t : Int) : Prop := (¬ (0 ≤ k ∧ k < z31) ∧ t = 1 ∧ r = 0) ∨ ((0 ≤ k ∧ k < z31) ∧ ¬ (0 ≤ wh ∧ wh ≤ 3) ∧ t = 2 ∧ r = 0) ∨ ((0 ≤ k ∧ k < z31) ∧ (0 ≤ wh ∧ wh ≤ 3) ∧ t = 0 ∧ ((wh = 0 ∧ r = g35 (g37 k)) ∨ (wh = 1 ∧ r = g36 (g37 k)) ∨ (wh = 2 ∧ r = g37 (k + 1) - g37 k) ∨ (wh = 3 ∧ r = g38 k)))
def whM (g35 g36 g37 : Int → Int) (z31 e9 s9 r : Int) : Prop := (∃ c : Int, 0 ≤ c ∧ c < z31 ∧ (∃ k : Int, g37 c ≤ k ∧ k < g37 (c + 1) ∧ g35 k = e9 ∧ g36 k = s9) ∧ (∀ c1 : Int, 0 ≤ c1 → c1 < c → ∀ k : Int, g37 c1 ≤ k → k < g37 (c1 + 1) → ¬ (g35 k = e9 ∧ g36 k = s9)) ∧ r = c) ∨ ((∀ c1 : Int, 0 ≤ c1 → c1 < z31 → ∀ k : Int, g37 c1 ≤ k → k < g37 (c1 + 1) → ¬ (g35 k = e9 ∧ g36 k = s9)) ∧ r = -1)
def fgM (g35 g36 : Int → Int) (a b r : Int) : Prop := (∃ k : Int, a ≤ k ∧ k < b ∧ g36 k = 0 ∧ (∀ i : Int, a ≤ i → i < k → g36 i ≠ 0) ∧ r = g35 k) ∨ ((∀ i : Int, a ≤ i → i < b → g36 i ≠ 0) ∧ r = g35 a)
def lgM (g35 g36 : Int → Int) (a b r : Int) : Prop := (∃ k : Int, a ≤ k ∧ k < b ∧ g36 k = 0 ∧ (∀ i : Int, k < i → i < b → g36 i ≠ 0) ∧ r = g35 k) ∨ ((∀ i : Int, a ≤ i → i < b → g36 i ≠ 0) ∧ r = g35 a)
def toM (z31 z32 z34 : Int) (g37 : Int → Int) (pg : Int) : Int := if (pg + 1) * z34 < z31 then g37 ((pg + 1) * z34) else z32
def mnM (a b : Int) : Int := if a < b then a else b
def alM (g35 g36 g37 g39 g40 g41 : Int → Int) (z31 z34 z42 z43 pg : Int) : Prop := mnM (z31 - pg * z34) z34 = mnM (z42 - pg * z43) z43 ∧ ∀ c : Int, 0 ≤ c → c < mnM (z31 - pg * z34) z34 → (g37 (pg * z34 + c + 1) - g37 (pg * z34 + c) = g41 (pg * z43 + c + 1) - g41 (pg * z43 + c) ∧ ∀ k : Int, 0 ≤ k → k < g37 (pg * z34 + c + 1) - g37 (pg * z34 + c) → (g35 (g37 (pg * z34 + c) + k) = g39 (g41 (pg * z43 + c) + k) ∧ g36 (g37 (pg * z34 + c) + k) = g40 (g41 (pg * z43 + c) + k)))
def qX5_told (cB cI cJ cY : ClassId) (m0 : Nat) (a6 : Nat) (a8 : Nat) (a10 : Nat) (a11 : Nat) (a12 : Nat) (a13 : Nat) (a14 : Nat) (a15 : Nat) (a17 : Nat) (a19 : Nat) (a20 : Nat) (a21 : Nat) (a22 : Nat) (a23 : Nat) (a24 : Nat) (a26 : Nat) (a27 : Nat) (a28 : Nat) (a35 : Nat) (a36 : Nat) (a37 : Nat) (a38 : Nat) (a39 : Nat) (a40 : Nat) (a41 : Nat) (a44 : Nat) (a45 : Nat) (z0 : Int) (z1 : Int) (z2 : Int) (z3 : Int) (z4 : Int) (z5 : Int) (z7 : Int) (z9 : Int) (z16 : Int) (z18 : Int) (z25 : Int) (z29 : Int) (z30 : Int) (z31 : Int) (z32 : Int) (z33 : Int) (z34 : Int) (z42 : Int) (z43 : Int) (wh : Int) : Option Value → va_W → Prop := fun rv w1 => ∃ (r : Int) (t : Int), rv = some (.int (iZ r)) ∧ tldM z29 z30 z31 z32 z33 wh r t ∧ w1 = [(m0, .inr (5, [.int (iZ t), .int (iZ z1), .int (iZ z2), .int (iZ z3), .int (iZ z4), .int (iZ z5), .ref a6, .int (iZ z7), .ref a8, .int (iZ z9), .ref a10, .ref a11, .ref a12, .ref a13, .ref a14, .ref a15, .int (iZ z16), .ref a17, .int (iZ z18), .ref a19, .ref a20, .ref a21, .ref a22, .ref a23, .ref a24, .int (iZ z25), .ref a26, .ref a27, .ref a28, .int (iZ z29), .int (iZ z30), .int (iZ z31), .int (iZ z32), .int (iZ z33), .int (iZ z34), .ref a35, .ref a36, .ref a37, .ref a38, .ref a39, .ref a40, .ref a41, .int (iZ z42), .int (iZ z43), .ref a44, .ref a45]))]
set_option maxHeartbeats 4000000 in
set_option maxRecDepth 100000 in
theorem ctX5_told (l : Launch) (D : va_G) (cB cI cJ cY : ClassId) (m0 : Nat) (a6 : Nat) (a8 : Nat) (a10 : Nat) (a11 : Nat) (a12 : Nat) (a13 : Nat) (a14 : Nat) (a15 : Nat) (a17 : Nat) (a19 : Nat) (a20 : Nat) (a21 : Nat) (a22 : Nat) (a23 : Nat) (a24 : Nat) (a26 : Nat) (a27 : Nat) (a28 : Nat) (a35 : Nat) (a36 : Nat) (a37 : Nat) (a38 : Nat) (a39 : Nat) (a40 : Nat) (a41 : Nat) (a44 : Nat) (a45 : Nat) (z0 : Int) (z1 : Int) (z2 : Int) (z3 : Int) (z4 : Int) (z5 : Int) (z7 : Int) (z9 : Int) (z16 : Int) (z18 : Int) (z25 : Int) (z29 : Int) (z30 : Int) (z31 : Int) (z32 : Int) (z33 : Int) (z34 : Int) (z42 : Int) (z43 : Int) (wh : Int) (h_wh : -2147483648 ≤ wh ∧ wh ≤ 2147483647) : gM l yX5_told wsX5_told { frames := 1, cells := 0, slots := 0, locals := 22 } D (gT cB cI cJ cY) [.ref m0, .int (iZ wh)] [(m0, .inr (5, [.int (iZ z0), .int (iZ z1), .int (iZ z2), .int (iZ z3), .int (iZ z4), .int (iZ z5), .ref a6, .int (iZ z7), .ref a8, .int (iZ z9), .ref a10, .ref a11, .ref a12, .ref a13, .ref a14, .ref a15, .int (iZ z16), .ref a17, .int (iZ z18), .ref a19, .ref a20, .ref a21, .ref a22, .ref a23, .ref a24, .int (iZ z25), .ref a26, .ref a27, .ref a28, .int (iZ z29), .int (iZ z30), .int (iZ z31), .int (iZ z32), .int (iZ z33), .int (iZ z34), .ref a35, .ref a36, .ref a37, .ref a38, .ref a39, .ref a40, .ref a41, .int (iZ z42), .int (iZ z43), .ref a44, .ref a45]))] 0 0 (qX5_told cB cI cJ cY m0 a6 a8 a10 a11 a12 a13 a14 a15 a17 a19 a20 a21 a22 a23 a24 a26 a27 a28 a35 a36 a37 a38 a39 a40 a41 a44 a45 z0 z1 z2 z3 z4 z5 z7 z9 z16 z18 z25 z29 z30 z31 z32 z33 z34 z42 z43 wh) := by
  refine g_start (cc := cX5_told) (maxL := 2) (ret := some .int) (lv := [(0, .ref m0), (1, .int (iZ wh))]) (by decide) rfl (Nat.le_of_ble_eq_true rfl) rfl ?_
  intro p e s m args below meth c A X hr hnm
  have hin5 : ∀ w ∈ u_ws RX5 TX5 46, w ∈ wsX5_told := by decide +kernel
  refine g_aload_n X 0 dX5_told_0 rfl rfl ?_
  refine g_iconst X dX5_told_1 ?_
  refine g_put X (index := 116) (ref := "GuideWordsModel") hin5 0 rfl rfl 0 (by decide) rfl tyX5 tyX5_ok nmX5 (by decide +kernel) rfl rfl rfl rfl (Nat.le_of_ble_eq_true rfl) (ws2 := [(m0, .inr (5, [.int (iZ 0), .int (iZ z1), .int (iZ z2), .int (iZ z3), .int (iZ z4), .int (iZ z5), .ref a6, .int (iZ z7), .ref a8, .int (iZ z9), .ref a10, .ref a11, .ref a12, .ref a13, .ref a14, .ref a15, .int (iZ z16), .ref a17, .int (iZ z18), .ref a19, .ref a20, .ref a21, .ref a22, .ref a23, .ref a24, .int (iZ z25), .ref a26, .ref a27, .ref a28, .int (iZ z29), .int (iZ z30), .int (iZ z31), .int (iZ z32), .int (iZ z33), .int (iZ z34), .ref a35, .ref a36, .ref a37, .ref a38, .ref a39, .ref a40, .ref a41, .int (iZ z42), .int (iZ z43), .ref a44, .ref a45]))]) rfl dX5_told_2 ?_
  refine g_aload_n X 0 dX5_told_5 rfl rfl ?_
  refine g_iload_n X 1 dX5_told_6 rfl rfl ?_
  refine g_if_lt X 15 dX5_told_7 (by decide) (by omega) (fun c_7 => ?_) (fun c_7 => ?_)
  · skip
    refine g_iconst X dX5_told_15 ?_
    refine g_goto X 20 dX5_told_16 (by decide) ?_
    refine g_iconst X dX5_told_20 ?_
    refine g_callV0 X (As := [.int (iZ 1), .int (iZ 1)]) (rest := []) (ctX5_bad l D cB cI cJ cY m0 a6 a8 a10 a11 a12 a13 a14 a15 a17 a19 a20 a21 a22 a23 a24 a26 a27 a28 a35 a36 a37 a38 a39 a40 a41 a44 a45 0 z1 z2 z3 z4 z5 z7 z9 z16 z18 z25 z29 z30 z31 z32 z33 z34 z42 z43 1 1 (by omega)) (cwV 2 X.2.2.2.2.1 gX5_told_X5_bad rfl rfl rfl (by decide +kernel) ⟨by decide, by decide⟩) 0 rfl rfl (wc := [(m0, .inr (5, [.int (iZ 0), .int (iZ z1), .int (iZ z2), .int (iZ z3), .int (iZ z4), .int (iZ z5), .ref a6, .int (iZ z7), .ref a8, .int (iZ z9), .ref a10, .ref a11, .ref a12, .ref a13, .ref a14, .ref a15, .int (iZ z16), .ref a17, .int (iZ z18), .ref a19, .ref a20, .ref a21, .ref a22, .ref a23, .ref a24, .int (iZ z25), .ref a26, .ref a27, .ref a28, .int (iZ z29), .int (iZ z30), .int (iZ z31), .int (iZ z32), .int (iZ z33), .int (iZ z34), .ref a35, .ref a36, .ref a37, .ref a38, .ref a39, .ref a40, .ref a41, .int (iZ z42), .int (iZ z43), .ref a44, .ref a45]))]) (wr := []) [0] [] rfl rfl (by decide) (by decide) (by decide) rfl rfl (Nat.le_of_ble_eq_true rfl) ⟨by decide, by decide⟩ dX5_told_21 (fun v w1 hq => ?_)
    obtain ⟨x9, rfl, p9, rfl⟩ := hq
    refine g_eq (ws' := [(m0, .inr (5, [.int (iZ x9), .int (iZ z1), .int (iZ z2), .int (iZ z3), .int (iZ z4), .int (iZ z5), .ref a6, .int (iZ z7), .ref a8, .int (iZ z9), .ref a10, .ref a11, .ref a12, .ref a13, .ref a14, .ref a15, .int (iZ z16), .ref a17, .int (iZ z18), .ref a19, .ref a20, .ref a21, .ref a22, .ref a23, .ref a24, .int (iZ z25), .ref a26, .ref a27, .ref a28, .int (iZ z29), .int (iZ z30), .int (iZ z31), .int (iZ z32), .int (iZ z33), .int (iZ z34), .ref a35, .ref a36, .ref a37, .ref a38, .ref a39, .ref a40, .ref a41, .int (iZ z42), .int (iZ z43), .ref a44, .ref a45]))]) (pc' := 24) (st' := [.int (iZ 1)]) rfl rfl rfl rfl ?_
    simp at p9
    subst p9
    refine g_if_eq X 29 dX5_told_24 (by decide) (by omega) (fun c_24 => ?_) (fun c_24 => ?_)
    · omega
    · skip
      refine g_iconst X dX5_told_27 ?_
      exact g_iret X hr (by decide) (by decide) dX5_told_28 ⟨_, _, rfl, Or.inl ⟨by omega, rfl, rfl⟩, rfl⟩
  · skip
    refine g_iload_n X 1 dX5_told_10 rfl rfl ?_
    refine g_iconst X dX5_told_11 ?_
    refine g_icmp_le X 19 dX5_told_12 (by decide) (by omega) (by omega) (fun c_12 => ?_) (fun c_12 => ?_)
    · skip
      refine g_iconst X dX5_told_19 ?_
      refine g_iconst X dX5_told_20 ?_
      refine g_callV0 X (As := [.int (iZ 0), .int (iZ 1)]) (rest := []) (ctX5_bad l D cB cI cJ cY m0 a6 a8 a10 a11 a12 a13 a14 a15 a17 a19 a20 a21 a22 a23 a24 a26 a27 a28 a35 a36 a37 a38 a39 a40 a41 a44 a45 0 z1 z2 z3 z4 z5 z7 z9 z16 z18 z25 z29 z30 z31 z32 z33 z34 z42 z43 0 1 (by omega)) (cwV 2 X.2.2.2.2.1 gX5_told_X5_bad rfl rfl rfl (by decide +kernel) ⟨by decide, by decide⟩) 0 rfl rfl (wc := [(m0, .inr (5, [.int (iZ 0), .int (iZ z1), .int (iZ z2), .int (iZ z3), .int (iZ z4), .int (iZ z5), .ref a6, .int (iZ z7), .ref a8, .int (iZ z9), .ref a10, .ref a11, .ref a12, .ref a13, .ref a14, .ref a15, .int (iZ z16), .ref a17, .int (iZ z18), .ref a19, .ref a20, .ref a21, .ref a22, .ref a23, .ref a24, .int (iZ z25), .ref a26, .ref a27, .ref a28, .int (iZ z29), .int (iZ z30), .int (iZ z31), .int (iZ z32), .int (iZ z33), .int (iZ z34), .ref a35, .ref a36, .ref a37, .ref a38, .ref a39, .ref a40, .ref a41, .int (iZ z42), .int (iZ z43), .ref a44, .ref a45]))]) (wr := []) [0] [] rfl rfl (by decide) (by decide) (by decide) rfl rfl (Nat.le_of_ble_eq_true rfl) ⟨by decide, by decide⟩ dX5_told_21 (fun v w1 hq => ?_)
      obtain ⟨x9, rfl, p9, rfl⟩ := hq
      refine g_eq (ws' := [(m0, .inr (5, [.int (iZ x9), .int (iZ z1), .int (iZ z2), .int (iZ z3), .int (iZ z4), .int (iZ z5), .ref a6, .int (iZ z7), .ref a8, .int (iZ z9), .ref a10, .ref a11, .ref a12, .ref a13, .ref a14, .ref a15, .int (iZ z16), .ref a17, .int (iZ z18), .ref a19, .ref a20, .ref a21, .ref a22, .ref a23, .ref a24, .int (iZ z25), .ref a26, .ref a27, .ref a28, .int (iZ z29), .int (iZ z30), .int (iZ z31), .int (iZ z32), .int (iZ z33), .int (iZ z34), .ref a35, .ref a36, .ref a37, .ref a38, .ref a39, .ref a40, .ref a41, .int (iZ z42), .int (iZ z43), .ref a44, .ref a45]))]) (pc' := 24) (st' := [.int (iZ 0)]) rfl rfl rfl rfl ?_
      simp at p9
      subst p9
      refine g_if_eq X 29 dX5_told_24 (by decide) (by omega) (fun c_24 => ?_) (fun c_24 => ?_)
      · skip
        refine g_iload_n X 1 dX5_told_29 rfl rfl ?_
        refine g_if_ne X 40 dX5_told_30 (by decide) (by omega) (fun c_30 => ?_) (fun c_30 => ?_)
        · skip
          refine g_iload_n X 1 dX5_told_40 rfl rfl ?_
          refine g_iconst X dX5_told_41 ?_
          refine g_icmp_ne X 52 dX5_told_42 (by decide) (by omega) (by omega) (fun c_42 => ?_) (fun c_42 => ?_)
          · skip
            refine g_iload_n X 1 dX5_told_52 rfl rfl ?_
            refine g_iconst X dX5_told_53 ?_
            refine g_icmp_ne X 64 dX5_told_54 (by decide) (by omega) (by omega) (fun c_54 => ?_) (fun c_54 => ?_)
            · skip
              refine g_iload_n X 1 dX5_told_64 rfl rfl ?_
              refine g_iconst X dX5_told_65 ?_
              refine g_icmp_ne X 76 dX5_told_66 (by decide) (by omega) (by omega) (fun c_66 => ?_) (fun c_66 => ?_)
              · skip
                refine g_aload_n X 0 dX5_told_76 rfl rfl ?_
                refine g_get X (index := 185) (ref := "GuideWordsModel") hin5 0 rfl rfl 33 (by decide) rfl (by decide +kernel) (v := .int (iZ z33)) rfl dX5_told_77 ?_
                exact g_iret X hr (by decide) (by decide) dX5_told_80 ⟨_, _, rfl, Or.inr ⟨by omega, rfl, by unfold tlZ; omega⟩, rfl⟩
              · skip
                refine g_aload_n X 0 dX5_told_69 rfl rfl ?_
                refine g_get X (index := 170) (ref := "GuideWordsModel") hin5 0 rfl rfl 32 (by decide) rfl (by decide +kernel) (v := .int (iZ z32)) rfl dX5_told_70 ?_
                refine g_goto X 80 dX5_told_73 (by decide) ?_
                exact g_iret X hr (by decide) (by decide) dX5_told_80 ⟨_, _, rfl, Or.inr ⟨by omega, rfl, by unfold tlZ; omega⟩, rfl⟩
            · skip
              refine g_aload_n X 0 dX5_told_57 rfl rfl ?_
              refine g_get X (index := 173) (ref := "GuideWordsModel") hin5 0 rfl rfl 31 (by decide) rfl (by decide +kernel) (v := .int (iZ z31)) rfl dX5_told_58 ?_
              refine g_goto X 80 dX5_told_61 (by decide) ?_
              exact g_iret X hr (by decide) (by decide) dX5_told_80 ⟨_, _, rfl, Or.inr ⟨by omega, rfl, by unfold tlZ; omega⟩, rfl⟩
          · skip
            refine g_aload_n X 0 dX5_told_45 rfl rfl ?_
            refine g_get X (index := 182) (ref := "GuideWordsModel") hin5 0 rfl rfl 30 (by decide) rfl (by decide +kernel) (v := .int (iZ z30)) rfl dX5_told_46 ?_
            refine g_goto X 80 dX5_told_49 (by decide) ?_
            exact g_iret X hr (by decide) (by decide) dX5_told_80 ⟨_, _, rfl, Or.inr ⟨by omega, rfl, by unfold tlZ; omega⟩, rfl⟩
        · skip
          refine g_aload_n X 0 dX5_told_33 rfl rfl ?_
          refine g_get X (index := 179) (ref := "GuideWordsModel") hin5 0 rfl rfl 29 (by decide) rfl (by decide +kernel) (v := .int (iZ z29)) rfl dX5_told_34 ?_
          refine g_goto X 80 dX5_told_37 (by decide) ?_
          exact g_iret X hr (by decide) (by decide) dX5_told_80 ⟨_, _, rfl, Or.inr ⟨by omega, rfl, by unfold tlZ; omega⟩, rfl⟩
      · omega
    · skip
      refine g_iconst X dX5_told_15 ?_
      refine g_goto X 20 dX5_told_16 (by decide) ?_
      refine g_iconst X dX5_told_20 ?_
      refine g_callV0 X (As := [.int (iZ 1), .int (iZ 1)]) (rest := []) (ctX5_bad l D cB cI cJ cY m0 a6 a8 a10 a11 a12 a13 a14 a15 a17 a19 a20 a21 a22 a23 a24 a26 a27 a28 a35 a36 a37 a38 a39 a40 a41 a44 a45 0 z1 z2 z3 z4 z5 z7 z9 z16 z18 z25 z29 z30 z31 z32 z33 z34 z42 z43 1 1 (by omega)) (cwV 2 X.2.2.2.2.1 gX5_told_X5_bad rfl rfl rfl (by decide +kernel) ⟨by decide, by decide⟩) 0 rfl rfl (wc := [(m0, .inr (5, [.int (iZ 0), .int (iZ z1), .int (iZ z2), .int (iZ z3), .int (iZ z4), .int (iZ z5), .ref a6, .int (iZ z7), .ref a8, .int (iZ z9), .ref a10, .ref a11, .ref a12, .ref a13, .ref a14, .ref a15, .int (iZ z16), .ref a17, .int (iZ z18), .ref a19, .ref a20, .ref a21, .ref a22, .ref a23, .ref a24, .int (iZ z25), .ref a26, .ref a27, .ref a28, .int (iZ z29), .int (iZ z30), .int (iZ z31), .int (iZ z32), .int (iZ z33), .int (iZ z34), .ref a35, .ref a36, .ref a37, .ref a38, .ref a39, .ref a40, .ref a41, .int (iZ z42), .int (iZ z43), .ref a44, .ref a45]))]) (wr := []) [0] [] rfl rfl (by decide) (by decide) (by decide) rfl rfl (Nat.le_of_ble_eq_true rfl) ⟨by decide, by decide⟩ dX5_told_21 (fun v w1 hq => ?_)
      obtain ⟨x9, rfl, p9, rfl⟩ := hq
      refine g_eq (ws' := [(m0, .inr (5, [.int (iZ x9), .int (iZ z1), .int (iZ z2), .int (iZ z3), .int (iZ z4), .int (iZ z5), .ref a6, .int (iZ z7), .ref a8, .int (iZ z9), .ref a10, .ref a11, .ref a12, .ref a13, .ref a14, .ref a15, .int (iZ z16), .ref a17, .int (iZ z18), .ref a19, .ref a20, .ref a21, .ref a22, .ref a23, .ref a24, .int (iZ z25), .ref a26, .ref a27, .ref a28, .int (iZ z29), .int (iZ z30), .int (iZ z31), .int (iZ z32), .int (iZ z33), .int (iZ z34), .ref a35, .ref a36, .ref a37, .ref a38, .ref a39, .ref a40, .ref a41, .int (iZ z42), .int (iZ z43), .ref a44, .ref a45]))]) (pc' := 24) (st' := [.int (iZ 1)]) rfl rfl rfl rfl ?_
      simp at p9
      subst p9
      refine g_if_eq X 29 dX5_told_24 (by decide) (by omega) (fun c_24 => ?_) (fun c_24 => ?_)
      · omega
      · skip
        refine g_iconst X dX5_told_27 ?_
        exact g_iret X hr (by decide) (by decide) dX5_told_28 ⟨_, _, rfl, Or.inl ⟨by omega, rfl, rfl⟩, rfl⟩
def qX5_column (cB cI cJ cY : ClassId) (m0 : Nat) (a6 : Nat) (a8 : Nat) (a10 : Nat) (a11 : Nat) (a12 : Nat) (a13 : Nat) (a14 : Nat) (a15 : Nat) (a17 : Nat) (a19 : Nat) (a20 : Nat) (a21 : Nat) (a22 : Nat) (a23 : Nat) (a24 : Nat) (a26 : Nat) (a27 : Nat) (a28 : Nat) (a35 : Nat) (a36 : Nat) (a37 : Nat) (a38 : Nat) (a39 : Nat) (a40 : Nat) (a41 : Nat) (a44 : Nat) (a45 : Nat) (z0 : Int) (z1 : Int) (z2 : Int) (z3 : Int) (z4 : Int) (z5 : Int) (z7 : Int) (z9 : Int) (z16 : Int) (z18 : Int) (z25 : Int) (z29 : Int) (z30 : Int) (z31 : Int) (z32 : Int) (z33 : Int) (z34 : Int) (z42 : Int) (z43 : Int) (g35 : Int → Int) (g36 : Int → Int) (g37 : Int → Int) (g38 : Int → Int) (k : Int) (wh : Int) : Option Value → va_W → Prop := fun rv w1 => ∃ (r : Int) (t : Int), rv = some (.int (iZ r)) ∧ clmM z31 g35 g36 g37 g38 k wh r t ∧ w1 = [(m0, .inr (5, [.int (iZ t), .int (iZ z1), .int (iZ z2), .int (iZ z3), .int (iZ z4), .int (iZ z5), .ref a6, .int (iZ z7), .ref a8, .int (iZ z9), .ref a10, .ref a11, .ref a12, .ref a13, .ref a14, .ref a15, .int (iZ z16), .ref a17, .int (iZ z18), .ref a19, .ref a20, .ref a21, .ref a22, .ref a23, .ref a24, .int (iZ z25), .ref a26, .ref a27, .ref a28, .int (iZ z29), .int (iZ z30), .int (iZ z31), .int (iZ z32), .int (iZ z33), .int (iZ z34), .ref a35, .ref a36, .ref a37, .ref a38, .ref a39, .ref a40, .ref a41, .int (iZ z42), .int (iZ z43), .ref a44, .ref a45])), (a35, .inl (cI, 900, .inl (zA g35))), (a36, .inl (cI, 900, .inl (zA g36))), (a37, .inl (cI, 901, .inl (zA g37))), (a38, .inl (cI, 900, .inl (zA g38)))]
set_option maxHeartbeats 4000000 in
set_option maxRecDepth 100000 in
theorem ctX5_column (l : Launch) (D : va_G) (cB cI cJ cY : ClassId) (m0 : Nat) (a6 : Nat) (a8 : Nat) (a10 : Nat) (a11 : Nat) (a12 : Nat) (a13 : Nat) (a14 : Nat) (a15 : Nat) (a17 : Nat) (a19 : Nat) (a20 : Nat) (a21 : Nat) (a22 : Nat) (a23 : Nat) (a24 : Nat) (a26 : Nat) (a27 : Nat) (a28 : Nat) (a35 : Nat) (a36 : Nat) (a37 : Nat) (a38 : Nat) (a39 : Nat) (a40 : Nat) (a41 : Nat) (a44 : Nat) (a45 : Nat) (z0 : Int) (z1 : Int) (z2 : Int) (z3 : Int) (z4 : Int) (z5 : Int) (z7 : Int) (z9 : Int) (z16 : Int) (z18 : Int) (z25 : Int) (z29 : Int) (z30 : Int) (z31 : Int) (z32 : Int) (z33 : Int) (z34 : Int) (z42 : Int) (z43 : Int) (g35 : Int → Int) (g36 : Int → Int) (g37 : Int → Int) (g38 : Int → Int) (k : Int) (wh : Int) (h31 : 0 ≤ z31 ∧ z31 ≤ 900) (h37 : ∀ j : Int, 0 ≤ j ∧ j ≤ z31 → 0 ≤ g37 j ∧ g37 j ≤ 900) (h37b : ∀ j : Int, 0 ≤ j ∧ j < z31 → g37 j < 900) (h_k : -2147483648 ≤ k ∧ k ≤ 2147483647) (h_wh : -2147483648 ≤ wh ∧ wh ≤ 2147483647) : gM l yX5_column wsX5_column { frames := 1, cells := 0, slots := 0, locals := 22 } D (gT cB cI cJ cY) [.ref m0, .int (iZ k), .int (iZ wh)] [(m0, .inr (5, [.int (iZ z0), .int (iZ z1), .int (iZ z2), .int (iZ z3), .int (iZ z4), .int (iZ z5), .ref a6, .int (iZ z7), .ref a8, .int (iZ z9), .ref a10, .ref a11, .ref a12, .ref a13, .ref a14, .ref a15, .int (iZ z16), .ref a17, .int (iZ z18), .ref a19, .ref a20, .ref a21, .ref a22, .ref a23, .ref a24, .int (iZ z25), .ref a26, .ref a27, .ref a28, .int (iZ z29), .int (iZ z30), .int (iZ z31), .int (iZ z32), .int (iZ z33), .int (iZ z34), .ref a35, .ref a36, .ref a37, .ref a38, .ref a39, .ref a40, .ref a41, .int (iZ z42), .int (iZ z43), .ref a44, .ref a45])), (a35, .inl (cI, 900, .inl (zA g35))), (a36, .inl (cI, 900, .inl (zA g36))), (a37, .inl (cI, 901, .inl (zA g37))), (a38, .inl (cI, 900, .inl (zA g38)))] 0 0 (qX5_column cB cI cJ cY m0 a6 a8 a10 a11 a12 a13 a14 a15 a17 a19 a20 a21 a22 a23 a24 a26 a27 a28 a35 a36 a37 a38 a39 a40 a41 a44 a45 z0 z1 z2 z3 z4 z5 z7 z9 z16 z18 z25 z29 z30 z31 z32 z33 z34 z42 z43 g35 g36 g37 g38 k wh) := by
  refine g_start (cc := cX5_column) (maxL := 3) (ret := some .int) (lv := [(0, .ref m0), (1, .int (iZ k)), (2, .int (iZ wh))]) (by decide) rfl (Nat.le_of_ble_eq_true rfl) rfl ?_
  intro p e s m args below meth c A X hr hnm
  have hin5 : ∀ w ∈ u_ws RX5 TX5 46, w ∈ wsX5_column := by decide +kernel
  refine g_aload_n X 0 dX5_column_0 rfl rfl ?_
  refine g_iconst X dX5_column_1 ?_
  refine g_put X (index := 116) (ref := "GuideWordsModel") hin5 0 rfl rfl 0 (by decide) rfl tyX5 tyX5_ok nmX5 (by decide +kernel) rfl rfl rfl rfl (Nat.le_of_ble_eq_true rfl) (ws2 := [(m0, .inr (5, [.int (iZ 0), .int (iZ z1), .int (iZ z2), .int (iZ z3), .int (iZ z4), .int (iZ z5), .ref a6, .int (iZ z7), .ref a8, .int (iZ z9), .ref a10, .ref a11, .ref a12, .ref a13, .ref a14, .ref a15, .int (iZ z16), .ref a17, .int (iZ z18), .ref a19, .ref a20, .ref a21, .ref a22, .ref a23, .ref a24, .int (iZ z25), .ref a26, .ref a27, .ref a28, .int (iZ z29), .int (iZ z30), .int (iZ z31), .int (iZ z32), .int (iZ z33), .int (iZ z34), .ref a35, .ref a36, .ref a37, .ref a38, .ref a39, .ref a40, .ref a41, .int (iZ z42), .int (iZ z43), .ref a44, .ref a45])), (a35, .inl (cI, 900, .inl (zA g35))), (a36, .inl (cI, 900, .inl (zA g36))), (a37, .inl (cI, 901, .inl (zA g37))), (a38, .inl (cI, 900, .inl (zA g38)))]) rfl dX5_column_2 ?_
  refine g_aload_n X 0 dX5_column_5 rfl rfl ?_
  refine g_iload_n X 1 dX5_column_6 rfl rfl ?_
  refine g_if_lt X 18 dX5_column_7 (by decide) (by omega) (fun c_7 => ?_) (fun c_7 => ?_)
  · skip
    refine g_iconst X dX5_column_18 ?_
    refine g_goto X 23 dX5_column_19 (by decide) ?_
    refine g_iconst X dX5_column_23 ?_
    refine g_callV0 X (As := [.int (iZ 1), .int (iZ 1)]) (rest := []) (ctX5_bad l D cB cI cJ cY m0 a6 a8 a10 a11 a12 a13 a14 a15 a17 a19 a20 a21 a22 a23 a24 a26 a27 a28 a35 a36 a37 a38 a39 a40 a41 a44 a45 0 z1 z2 z3 z4 z5 z7 z9 z16 z18 z25 z29 z30 z31 z32 z33 z34 z42 z43 1 1 (by omega)) (cwV 2 X.2.2.2.2.1 gX5_column_X5_bad rfl rfl rfl (by decide +kernel) ⟨by decide, by decide⟩) 0 rfl rfl (wc := [(m0, .inr (5, [.int (iZ 0), .int (iZ z1), .int (iZ z2), .int (iZ z3), .int (iZ z4), .int (iZ z5), .ref a6, .int (iZ z7), .ref a8, .int (iZ z9), .ref a10, .ref a11, .ref a12, .ref a13, .ref a14, .ref a15, .int (iZ z16), .ref a17, .int (iZ z18), .ref a19, .ref a20, .ref a21, .ref a22, .ref a23, .ref a24, .int (iZ z25), .ref a26, .ref a27, .ref a28, .int (iZ z29), .int (iZ z30), .int (iZ z31), .int (iZ z32), .int (iZ z33), .int (iZ z34), .ref a35, .ref a36, .ref a37, .ref a38, .ref a39, .ref a40, .ref a41, .int (iZ z42), .int (iZ z43), .ref a44, .ref a45]))]) (wr := [(a35, .inl (cI, 900, .inl (zA g35))), (a36, .inl (cI, 900, .inl (zA g36))), (a37, .inl (cI, 901, .inl (zA g37))), (a38, .inl (cI, 900, .inl (zA g38)))]) [0] [1, 2, 3, 4] rfl rfl (by decide) (by decide) (by decide) rfl rfl (Nat.le_of_ble_eq_true rfl) ⟨by decide, by decide⟩ dX5_column_24 (fun v w1 hq => ?_)
    obtain ⟨x9, rfl, p9, rfl⟩ := hq
    refine g_eq (ws' := [(a35, .inl (cI, 900, .inl (zA g35))), (a36, .inl (cI, 900, .inl (zA g36))), (a37, .inl (cI, 901, .inl (zA g37))), (a38, .inl (cI, 900, .inl (zA g38))), (m0, .inr (5, [.int (iZ x9), .int (iZ z1), .int (iZ z2), .int (iZ z3), .int (iZ z4), .int (iZ z5), .ref a6, .int (iZ z7), .ref a8, .int (iZ z9), .ref a10, .ref a11, .ref a12, .ref a13, .ref a14, .ref a15, .int (iZ z16), .ref a17, .int (iZ z18), .ref a19, .ref a20, .ref a21, .ref a22, .ref a23, .ref a24, .int (iZ z25), .ref a26, .ref a27, .ref a28, .int (iZ z29), .int (iZ z30), .int (iZ z31), .int (iZ z32), .int (iZ z33), .int (iZ z34), .ref a35, .ref a36, .ref a37, .ref a38, .ref a39, .ref a40, .ref a41, .int (iZ z42), .int (iZ z43), .ref a44, .ref a45]))]) (pc' := 27) (st' := [.int (iZ 1)]) rfl rfl rfl rfl ?_
    refine g_perm (ws' := [(m0, .inr (5, [.int (iZ x9), .int (iZ z1), .int (iZ z2), .int (iZ z3), .int (iZ z4), .int (iZ z5), .ref a6, .int (iZ z7), .ref a8, .int (iZ z9), .ref a10, .ref a11, .ref a12, .ref a13, .ref a14, .ref a15, .int (iZ z16), .ref a17, .int (iZ z18), .ref a19, .ref a20, .ref a21, .ref a22, .ref a23, .ref a24, .int (iZ z25), .ref a26, .ref a27, .ref a28, .int (iZ z29), .int (iZ z30), .int (iZ z31), .int (iZ z32), .int (iZ z33), .int (iZ z34), .ref a35, .ref a36, .ref a37, .ref a38, .ref a39, .ref a40, .ref a41, .int (iZ z42), .int (iZ z43), .ref a44, .ref a45])), (a35, .inl (cI, 900, .inl (zA g35))), (a36, .inl (cI, 900, .inl (zA g36))), (a37, .inl (cI, 901, .inl (zA g37))), (a38, .inl (cI, 900, .inl (zA g38)))]) [4, 0, 1, 2, 3] (by decide) rfl ?_
    simp at p9
    subst p9
    refine g_if_ne X 52 dX5_column_27 (by decide) (by omega) (fun c_27 => ?_) (fun c_27 => ?_)
    · skip
      refine g_iconst X dX5_column_52 ?_
      exact g_iret X hr (by decide) (by decide) dX5_column_53 ⟨_, _, rfl, by first | exact Or.inl ⟨by omega, rfl, rfl⟩ | exact Or.inr (Or.inl ⟨by omega, by omega, rfl, rfl⟩), rfl⟩
    · omega
  · skip
    refine g_iload_n X 1 dX5_column_10 rfl rfl ?_
    refine g_aload_n X 0 dX5_column_11 rfl rfl ?_
    refine g_get X (index := 173) (ref := "GuideWordsModel") hin5 0 rfl rfl 31 (by decide) rfl (by decide +kernel) (v := .int (iZ z31)) rfl dX5_column_12 ?_
    refine g_icmp_lt X 22 dX5_column_15 (by decide) (by omega) (by omega) (fun c_15 => ?_) (fun c_15 => ?_)
    · skip
      refine g_iconst X dX5_column_22 ?_
      refine g_iconst X dX5_column_23 ?_
      refine g_callV0 X (As := [.int (iZ 0), .int (iZ 1)]) (rest := []) (ctX5_bad l D cB cI cJ cY m0 a6 a8 a10 a11 a12 a13 a14 a15 a17 a19 a20 a21 a22 a23 a24 a26 a27 a28 a35 a36 a37 a38 a39 a40 a41 a44 a45 0 z1 z2 z3 z4 z5 z7 z9 z16 z18 z25 z29 z30 z31 z32 z33 z34 z42 z43 0 1 (by omega)) (cwV 2 X.2.2.2.2.1 gX5_column_X5_bad rfl rfl rfl (by decide +kernel) ⟨by decide, by decide⟩) 0 rfl rfl (wc := [(m0, .inr (5, [.int (iZ 0), .int (iZ z1), .int (iZ z2), .int (iZ z3), .int (iZ z4), .int (iZ z5), .ref a6, .int (iZ z7), .ref a8, .int (iZ z9), .ref a10, .ref a11, .ref a12, .ref a13, .ref a14, .ref a15, .int (iZ z16), .ref a17, .int (iZ z18), .ref a19, .ref a20, .ref a21, .ref a22, .ref a23, .ref a24, .int (iZ z25), .ref a26, .ref a27, .ref a28, .int (iZ z29), .int (iZ z30), .int (iZ z31), .int (iZ z32), .int (iZ z33), .int (iZ z34), .ref a35, .ref a36, .ref a37, .ref a38, .ref a39, .ref a40, .ref a41, .int (iZ z42), .int (iZ z43), .ref a44, .ref a45]))]) (wr := [(a35, .inl (cI, 900, .inl (zA g35))), (a36, .inl (cI, 900, .inl (zA g36))), (a37, .inl (cI, 901, .inl (zA g37))), (a38, .inl (cI, 900, .inl (zA g38)))]) [0] [1, 2, 3, 4] rfl rfl (by decide) (by decide) (by decide) rfl rfl (Nat.le_of_ble_eq_true rfl) ⟨by decide, by decide⟩ dX5_column_24 (fun v w1 hq => ?_)
      obtain ⟨x9, rfl, p9, rfl⟩ := hq
      refine g_eq (ws' := [(a35, .inl (cI, 900, .inl (zA g35))), (a36, .inl (cI, 900, .inl (zA g36))), (a37, .inl (cI, 901, .inl (zA g37))), (a38, .inl (cI, 900, .inl (zA g38))), (m0, .inr (5, [.int (iZ x9), .int (iZ z1), .int (iZ z2), .int (iZ z3), .int (iZ z4), .int (iZ z5), .ref a6, .int (iZ z7), .ref a8, .int (iZ z9), .ref a10, .ref a11, .ref a12, .ref a13, .ref a14, .ref a15, .int (iZ z16), .ref a17, .int (iZ z18), .ref a19, .ref a20, .ref a21, .ref a22, .ref a23, .ref a24, .int (iZ z25), .ref a26, .ref a27, .ref a28, .int (iZ z29), .int (iZ z30), .int (iZ z31), .int (iZ z32), .int (iZ z33), .int (iZ z34), .ref a35, .ref a36, .ref a37, .ref a38, .ref a39, .ref a40, .ref a41, .int (iZ z42), .int (iZ z43), .ref a44, .ref a45]))]) (pc' := 27) (st' := [.int (iZ 0)]) rfl rfl rfl rfl ?_
      refine g_perm (ws' := [(m0, .inr (5, [.int (iZ x9), .int (iZ z1), .int (iZ z2), .int (iZ z3), .int (iZ z4), .int (iZ z5), .ref a6, .int (iZ z7), .ref a8, .int (iZ z9), .ref a10, .ref a11, .ref a12, .ref a13, .ref a14, .ref a15, .int (iZ z16), .ref a17, .int (iZ z18), .ref a19, .ref a20, .ref a21, .ref a22, .ref a23, .ref a24, .int (iZ z25), .ref a26, .ref a27, .ref a28, .int (iZ z29), .int (iZ z30), .int (iZ z31), .int (iZ z32), .int (iZ z33), .int (iZ z34), .ref a35, .ref a36, .ref a37, .ref a38, .ref a39, .ref a40, .ref a41, .int (iZ z42), .int (iZ z43), .ref a44, .ref a45])), (a35, .inl (cI, 900, .inl (zA g35))), (a36, .inl (cI, 900, .inl (zA g36))), (a37, .inl (cI, 901, .inl (zA g37))), (a38, .inl (cI, 900, .inl (zA g38)))]) [4, 0, 1, 2, 3] (by decide) rfl ?_
      simp at p9
      subst p9
      refine g_if_ne X 52 dX5_column_27 (by decide) (by omega) (fun c_27 => ?_) (fun c_27 => ?_)
      · omega
      · skip
        refine g_aload_n X 0 dX5_column_30 rfl rfl ?_
        refine g_iload_n X 2 dX5_column_31 rfl rfl ?_
        refine g_if_lt X 40 dX5_column_32 (by decide) (by omega) (fun c_32 => ?_) (fun c_32 => ?_)
        · skip
          refine g_iconst X dX5_column_40 ?_
          refine g_goto X 45 dX5_column_41 (by decide) ?_
          refine g_iconst X dX5_column_45 ?_
          refine g_callV0 X (As := [.int (iZ 1), .int (iZ 2)]) (rest := []) (ctX5_bad l D cB cI cJ cY m0 a6 a8 a10 a11 a12 a13 a14 a15 a17 a19 a20 a21 a22 a23 a24 a26 a27 a28 a35 a36 a37 a38 a39 a40 a41 a44 a45 0 z1 z2 z3 z4 z5 z7 z9 z16 z18 z25 z29 z30 z31 z32 z33 z34 z42 z43 1 2 (by omega)) (cwV 2 X.2.2.2.2.1 gX5_column_X5_bad rfl rfl rfl (by decide +kernel) ⟨by decide, by decide⟩) 0 rfl rfl (wc := [(m0, .inr (5, [.int (iZ 0), .int (iZ z1), .int (iZ z2), .int (iZ z3), .int (iZ z4), .int (iZ z5), .ref a6, .int (iZ z7), .ref a8, .int (iZ z9), .ref a10, .ref a11, .ref a12, .ref a13, .ref a14, .ref a15, .int (iZ z16), .ref a17, .int (iZ z18), .ref a19, .ref a20, .ref a21, .ref a22, .ref a23, .ref a24, .int (iZ z25), .ref a26, .ref a27, .ref a28, .int (iZ z29), .int (iZ z30), .int (iZ z31), .int (iZ z32), .int (iZ z33), .int (iZ z34), .ref a35, .ref a36, .ref a37, .ref a38, .ref a39, .ref a40, .ref a41, .int (iZ z42), .int (iZ z43), .ref a44, .ref a45]))]) (wr := [(a35, .inl (cI, 900, .inl (zA g35))), (a36, .inl (cI, 900, .inl (zA g36))), (a37, .inl (cI, 901, .inl (zA g37))), (a38, .inl (cI, 900, .inl (zA g38)))]) [0] [1, 2, 3, 4] rfl rfl (by decide) (by decide) (by decide) rfl rfl (Nat.le_of_ble_eq_true rfl) ⟨by decide, by decide⟩ dX5_column_46 (fun v w1 hq => ?_)
          obtain ⟨x9, rfl, p9, rfl⟩ := hq
          refine g_eq (ws' := [(a35, .inl (cI, 900, .inl (zA g35))), (a36, .inl (cI, 900, .inl (zA g36))), (a37, .inl (cI, 901, .inl (zA g37))), (a38, .inl (cI, 900, .inl (zA g38))), (m0, .inr (5, [.int (iZ x9), .int (iZ z1), .int (iZ z2), .int (iZ z3), .int (iZ z4), .int (iZ z5), .ref a6, .int (iZ z7), .ref a8, .int (iZ z9), .ref a10, .ref a11, .ref a12, .ref a13, .ref a14, .ref a15, .int (iZ z16), .ref a17, .int (iZ z18), .ref a19, .ref a20, .ref a21, .ref a22, .ref a23, .ref a24, .int (iZ z25), .ref a26, .ref a27, .ref a28, .int (iZ z29), .int (iZ z30), .int (iZ z31), .int (iZ z32), .int (iZ z33), .int (iZ z34), .ref a35, .ref a36, .ref a37, .ref a38, .ref a39, .ref a40, .ref a41, .int (iZ z42), .int (iZ z43), .ref a44, .ref a45]))]) (pc' := 49) (st' := [.int (iZ 1)]) rfl rfl rfl rfl ?_
          refine g_perm (ws' := [(m0, .inr (5, [.int (iZ x9), .int (iZ z1), .int (iZ z2), .int (iZ z3), .int (iZ z4), .int (iZ z5), .ref a6, .int (iZ z7), .ref a8, .int (iZ z9), .ref a10, .ref a11, .ref a12, .ref a13, .ref a14, .ref a15, .int (iZ z16), .ref a17, .int (iZ z18), .ref a19, .ref a20, .ref a21, .ref a22, .ref a23, .ref a24, .int (iZ z25), .ref a26, .ref a27, .ref a28, .int (iZ z29), .int (iZ z30), .int (iZ z31), .int (iZ z32), .int (iZ z33), .int (iZ z34), .ref a35, .ref a36, .ref a37, .ref a38, .ref a39, .ref a40, .ref a41, .int (iZ z42), .int (iZ z43), .ref a44, .ref a45])), (a35, .inl (cI, 900, .inl (zA g35))), (a36, .inl (cI, 900, .inl (zA g36))), (a37, .inl (cI, 901, .inl (zA g37))), (a38, .inl (cI, 900, .inl (zA g38)))]) [4, 0, 1, 2, 3] (by decide) rfl ?_
          simp at p9
          subst p9
          refine g_if_eq X 54 dX5_column_49 (by decide) (by omega) (fun c_49 => ?_) (fun c_49 => ?_)
          · omega
          · skip
            refine g_iconst X dX5_column_52 ?_
            exact g_iret X hr (by decide) (by decide) dX5_column_53 ⟨_, _, rfl, by first | exact Or.inl ⟨by omega, rfl, rfl⟩ | exact Or.inr (Or.inl ⟨by omega, by omega, rfl, rfl⟩), rfl⟩
        · skip
          refine g_iload_n X 2 dX5_column_35 rfl rfl ?_
          refine g_iconst X dX5_column_36 ?_
          refine g_icmp_le X 44 dX5_column_37 (by decide) (by omega) (by omega) (fun c_37 => ?_) (fun c_37 => ?_)
          · skip
            refine g_iconst X dX5_column_44 ?_
            refine g_iconst X dX5_column_45 ?_
            refine g_callV0 X (As := [.int (iZ 0), .int (iZ 2)]) (rest := []) (ctX5_bad l D cB cI cJ cY m0 a6 a8 a10 a11 a12 a13 a14 a15 a17 a19 a20 a21 a22 a23 a24 a26 a27 a28 a35 a36 a37 a38 a39 a40 a41 a44 a45 0 z1 z2 z3 z4 z5 z7 z9 z16 z18 z25 z29 z30 z31 z32 z33 z34 z42 z43 0 2 (by omega)) (cwV 2 X.2.2.2.2.1 gX5_column_X5_bad rfl rfl rfl (by decide +kernel) ⟨by decide, by decide⟩) 0 rfl rfl (wc := [(m0, .inr (5, [.int (iZ 0), .int (iZ z1), .int (iZ z2), .int (iZ z3), .int (iZ z4), .int (iZ z5), .ref a6, .int (iZ z7), .ref a8, .int (iZ z9), .ref a10, .ref a11, .ref a12, .ref a13, .ref a14, .ref a15, .int (iZ z16), .ref a17, .int (iZ z18), .ref a19, .ref a20, .ref a21, .ref a22, .ref a23, .ref a24, .int (iZ z25), .ref a26, .ref a27, .ref a28, .int (iZ z29), .int (iZ z30), .int (iZ z31), .int (iZ z32), .int (iZ z33), .int (iZ z34), .ref a35, .ref a36, .ref a37, .ref a38, .ref a39, .ref a40, .ref a41, .int (iZ z42), .int (iZ z43), .ref a44, .ref a45]))]) (wr := [(a35, .inl (cI, 900, .inl (zA g35))), (a36, .inl (cI, 900, .inl (zA g36))), (a37, .inl (cI, 901, .inl (zA g37))), (a38, .inl (cI, 900, .inl (zA g38)))]) [0] [1, 2, 3, 4] rfl rfl (by decide) (by decide) (by decide) rfl rfl (Nat.le_of_ble_eq_true rfl) ⟨by decide, by decide⟩ dX5_column_46 (fun v w1 hq => ?_)
            obtain ⟨x9, rfl, p9, rfl⟩ := hq
            refine g_eq (ws' := [(a35, .inl (cI, 900, .inl (zA g35))), (a36, .inl (cI, 900, .inl (zA g36))), (a37, .inl (cI, 901, .inl (zA g37))), (a38, .inl (cI, 900, .inl (zA g38))), (m0, .inr (5, [.int (iZ x9), .int (iZ z1), .int (iZ z2), .int (iZ z3), .int (iZ z4), .int (iZ z5), .ref a6, .int (iZ z7), .ref a8, .int (iZ z9), .ref a10, .ref a11, .ref a12, .ref a13, .ref a14, .ref a15, .int (iZ z16), .ref a17, .int (iZ z18), .ref a19, .ref a20, .ref a21, .ref a22, .ref a23, .ref a24, .int (iZ z25), .ref a26, .ref a27, .ref a28, .int (iZ z29), .int (iZ z30), .int (iZ z31), .int (iZ z32), .int (iZ z33), .int (iZ z34), .ref a35, .ref a36, .ref a37, .ref a38, .ref a39, .ref a40, .ref a41, .int (iZ z42), .int (iZ z43), .ref a44, .ref a45]))]) (pc' := 49) (st' := [.int (iZ 0)]) rfl rfl rfl rfl ?_
            refine g_perm (ws' := [(m0, .inr (5, [.int (iZ x9), .int (iZ z1), .int (iZ z2), .int (iZ z3), .int (iZ z4), .int (iZ z5), .ref a6, .int (iZ z7), .ref a8, .int (iZ z9), .ref a10, .ref a11, .ref a12, .ref a13, .ref a14, .ref a15, .int (iZ z16), .ref a17, .int (iZ z18), .ref a19, .ref a20, .ref a21, .ref a22, .ref a23, .ref a24, .int (iZ z25), .ref a26, .ref a27, .ref a28, .int (iZ z29), .int (iZ z30), .int (iZ z31), .int (iZ z32), .int (iZ z33), .int (iZ z34), .ref a35, .ref a36, .ref a37, .ref a38, .ref a39, .ref a40, .ref a41, .int (iZ z42), .int (iZ z43), .ref a44, .ref a45])), (a35, .inl (cI, 900, .inl (zA g35))), (a36, .inl (cI, 900, .inl (zA g36))), (a37, .inl (cI, 901, .inl (zA g37))), (a38, .inl (cI, 900, .inl (zA g38)))]) [4, 0, 1, 2, 3] (by decide) rfl ?_
            simp at p9
            subst p9
            refine g_if_eq X 54 dX5_column_49 (by decide) (by omega) (fun c_49 => ?_) (fun c_49 => ?_)
            · skip
              have r_9 := h37b k (by omega)
              refine g_iload_n X 2 dX5_column_54 rfl rfl ?_
              refine g_if_ne X 72 dX5_column_55 (by decide) (by omega) (fun c_55 => ?_) (fun c_55 => ?_)
              · skip
                refine g_iload_n X 2 dX5_column_72 rfl rfl ?_
                refine g_iconst X dX5_column_73 ?_
                refine g_icmp_ne X 91 dX5_column_74 (by decide) (by omega) (by omega) (fun c_74 => ?_) (fun c_74 => ?_)
                · skip
                  refine g_iload_n X 2 dX5_column_91 rfl rfl ?_
                  refine g_iconst X dX5_column_92 ?_
                  refine g_icmp_ne X 114 dX5_column_93 (by decide) (by omega) (by omega) (fun c_93 => ?_) (fun c_93 => ?_)
                  · skip
                    refine g_aload_n X 0 dX5_column_114 rfl rfl ?_
                    refine g_get X (index := 95) (ref := "GuideWordsModel") hin5 0 rfl rfl 38 (by decide) rfl (by decide +kernel) (v := .ref a38) rfl dX5_column_115 ?_
                    refine g_iload_n X 1 dX5_column_118 rfl rfl ?_
                    refine g_iald X 4 1 rfl rfl (by omega) (by decide) dX5_column_119 ?_
                    exact g_iret X hr (by decide) (by decide) dX5_column_120 ⟨_, _, rfl, Or.inr (Or.inr ⟨by omega, by omega, rfl, by first | exact Or.inl ⟨by omega, rfl⟩ | exact Or.inr (Or.inl ⟨by omega, rfl⟩) | exact Or.inr (Or.inr (Or.inl ⟨by omega, rfl⟩)) | exact Or.inr (Or.inr (Or.inr ⟨by omega, rfl⟩))⟩), rfl⟩
                  · skip
                    refine g_aload_n X 0 dX5_column_96 rfl rfl ?_
                    refine g_get X (index := 92) (ref := "GuideWordsModel") hin5 0 rfl rfl 37 (by decide) rfl (by decide +kernel) (v := .ref a37) rfl dX5_column_97 ?_
                    refine g_iload_n X 1 dX5_column_100 rfl rfl ?_
                    refine g_iconst X dX5_column_101 ?_
                    refine g_iadd X dX5_column_102 ?_
                    refine g_iald X 3 1 rfl rfl (by omega) (by decide) dX5_column_103 ?_
                    have r_103 := h37 (k + 1) (by omega)
                    refine g_aload_n X 0 dX5_column_104 rfl rfl ?_
                    refine g_get X (index := 92) (ref := "GuideWordsModel") hin5 0 rfl rfl 37 (by decide) rfl (by decide +kernel) (v := .ref a37) rfl dX5_column_105 ?_
                    refine g_iload_n X 1 dX5_column_108 rfl rfl ?_
                    refine g_iald X 3 1 rfl rfl (by omega) (by decide) dX5_column_109 ?_
                    have r_109 := h37 k (by omega)
                    refine g_isub X dX5_column_110 ?_
                    refine g_goto X 120 dX5_column_111 (by decide) ?_
                    exact g_iret X hr (by decide) (by decide) dX5_column_120 ⟨_, _, rfl, Or.inr (Or.inr ⟨by omega, by omega, rfl, by first | exact Or.inl ⟨by omega, rfl⟩ | exact Or.inr (Or.inl ⟨by omega, rfl⟩) | exact Or.inr (Or.inr (Or.inl ⟨by omega, rfl⟩)) | exact Or.inr (Or.inr (Or.inr ⟨by omega, rfl⟩))⟩), rfl⟩
                · skip
                  refine g_aload_n X 0 dX5_column_77 rfl rfl ?_
                  refine g_get X (index := 89) (ref := "GuideWordsModel") hin5 0 rfl rfl 36 (by decide) rfl (by decide +kernel) (v := .ref a36) rfl dX5_column_78 ?_
                  refine g_aload_n X 0 dX5_column_81 rfl rfl ?_
                  refine g_get X (index := 92) (ref := "GuideWordsModel") hin5 0 rfl rfl 37 (by decide) rfl (by decide +kernel) (v := .ref a37) rfl dX5_column_82 ?_
                  refine g_iload_n X 1 dX5_column_85 rfl rfl ?_
                  refine g_iald X 3 1 rfl rfl (by omega) (by decide) dX5_column_86 ?_
                  have r_86 := h37 k (by omega)
                  refine g_iald X 2 1 rfl rfl (by omega) (by decide) dX5_column_87 ?_
                  refine g_goto X 120 dX5_column_88 (by decide) ?_
                  exact g_iret X hr (by decide) (by decide) dX5_column_120 ⟨_, _, rfl, Or.inr (Or.inr ⟨by omega, by omega, rfl, by first | exact Or.inl ⟨by omega, rfl⟩ | exact Or.inr (Or.inl ⟨by omega, rfl⟩) | exact Or.inr (Or.inr (Or.inl ⟨by omega, rfl⟩)) | exact Or.inr (Or.inr (Or.inr ⟨by omega, rfl⟩))⟩), rfl⟩
              · skip
                refine g_aload_n X 0 dX5_column_58 rfl rfl ?_
                refine g_get X (index := 86) (ref := "GuideWordsModel") hin5 0 rfl rfl 35 (by decide) rfl (by decide +kernel) (v := .ref a35) rfl dX5_column_59 ?_
                refine g_aload_n X 0 dX5_column_62 rfl rfl ?_
                refine g_get X (index := 92) (ref := "GuideWordsModel") hin5 0 rfl rfl 37 (by decide) rfl (by decide +kernel) (v := .ref a37) rfl dX5_column_63 ?_
                refine g_iload_n X 1 dX5_column_66 rfl rfl ?_
                refine g_iald X 3 1 rfl rfl (by omega) (by decide) dX5_column_67 ?_
                have r_67 := h37 k (by omega)
                refine g_iald X 1 1 rfl rfl (by omega) (by decide) dX5_column_68 ?_
                refine g_goto X 120 dX5_column_69 (by decide) ?_
                exact g_iret X hr (by decide) (by decide) dX5_column_120 ⟨_, _, rfl, Or.inr (Or.inr ⟨by omega, by omega, rfl, by first | exact Or.inl ⟨by omega, rfl⟩ | exact Or.inr (Or.inl ⟨by omega, rfl⟩) | exact Or.inr (Or.inr (Or.inl ⟨by omega, rfl⟩)) | exact Or.inr (Or.inr (Or.inr ⟨by omega, rfl⟩))⟩), rfl⟩
            · omega
          · skip
            refine g_iconst X dX5_column_40 ?_
            refine g_goto X 45 dX5_column_41 (by decide) ?_
            refine g_iconst X dX5_column_45 ?_
            refine g_callV0 X (As := [.int (iZ 1), .int (iZ 2)]) (rest := []) (ctX5_bad l D cB cI cJ cY m0 a6 a8 a10 a11 a12 a13 a14 a15 a17 a19 a20 a21 a22 a23 a24 a26 a27 a28 a35 a36 a37 a38 a39 a40 a41 a44 a45 0 z1 z2 z3 z4 z5 z7 z9 z16 z18 z25 z29 z30 z31 z32 z33 z34 z42 z43 1 2 (by omega)) (cwV 2 X.2.2.2.2.1 gX5_column_X5_bad rfl rfl rfl (by decide +kernel) ⟨by decide, by decide⟩) 0 rfl rfl (wc := [(m0, .inr (5, [.int (iZ 0), .int (iZ z1), .int (iZ z2), .int (iZ z3), .int (iZ z4), .int (iZ z5), .ref a6, .int (iZ z7), .ref a8, .int (iZ z9), .ref a10, .ref a11, .ref a12, .ref a13, .ref a14, .ref a15, .int (iZ z16), .ref a17, .int (iZ z18), .ref a19, .ref a20, .ref a21, .ref a22, .ref a23, .ref a24, .int (iZ z25), .ref a26, .ref a27, .ref a28, .int (iZ z29), .int (iZ z30), .int (iZ z31), .int (iZ z32), .int (iZ z33), .int (iZ z34), .ref a35, .ref a36, .ref a37, .ref a38, .ref a39, .ref a40, .ref a41, .int (iZ z42), .int (iZ z43), .ref a44, .ref a45]))]) (wr := [(a35, .inl (cI, 900, .inl (zA g35))), (a36, .inl (cI, 900, .inl (zA g36))), (a37, .inl (cI, 901, .inl (zA g37))), (a38, .inl (cI, 900, .inl (zA g38)))]) [0] [1, 2, 3, 4] rfl rfl (by decide) (by decide) (by decide) rfl rfl (Nat.le_of_ble_eq_true rfl) ⟨by decide, by decide⟩ dX5_column_46 (fun v w1 hq => ?_)
            obtain ⟨x9, rfl, p9, rfl⟩ := hq
            refine g_eq (ws' := [(a35, .inl (cI, 900, .inl (zA g35))), (a36, .inl (cI, 900, .inl (zA g36))), (a37, .inl (cI, 901, .inl (zA g37))), (a38, .inl (cI, 900, .inl (zA g38))), (m0, .inr (5, [.int (iZ x9), .int (iZ z1), .int (iZ z2), .int (iZ z3), .int (iZ z4), .int (iZ z5), .ref a6, .int (iZ z7), .ref a8, .int (iZ z9), .ref a10, .ref a11, .ref a12, .ref a13, .ref a14, .ref a15, .int (iZ z16), .ref a17, .int (iZ z18), .ref a19, .ref a20, .ref a21, .ref a22, .ref a23, .ref a24, .int (iZ z25), .ref a26, .ref a27, .ref a28, .int (iZ z29), .int (iZ z30), .int (iZ z31), .int (iZ z32), .int (iZ z33), .int (iZ z34), .ref a35, .ref a36, .ref a37, .ref a38, .ref a39, .ref a40, .ref a41, .int (iZ z42), .int (iZ z43), .ref a44, .ref a45]))]) (pc' := 49) (st' := [.int (iZ 1)]) rfl rfl rfl rfl ?_
            refine g_perm (ws' := [(m0, .inr (5, [.int (iZ x9), .int (iZ z1), .int (iZ z2), .int (iZ z3), .int (iZ z4), .int (iZ z5), .ref a6, .int (iZ z7), .ref a8, .int (iZ z9), .ref a10, .ref a11, .ref a12, .ref a13, .ref a14, .ref a15, .int (iZ z16), .ref a17, .int (iZ z18), .ref a19, .ref a20, .ref a21, .ref a22, .ref a23, .ref a24, .int (iZ z25), .ref a26, .ref a27, .ref a28, .int (iZ z29), .int (iZ z30), .int (iZ z31), .int (iZ z32), .int (iZ z33), .int (iZ z34), .ref a35, .ref a36, .ref a37, .ref a38, .ref a39, .ref a40, .ref a41, .int (iZ z42), .int (iZ z43), .ref a44, .ref a45])), (a35, .inl (cI, 900, .inl (zA g35))), (a36, .inl (cI, 900, .inl (zA g36))), (a37, .inl (cI, 901, .inl (zA g37))), (a38, .inl (cI, 900, .inl (zA g38)))]) [4, 0, 1, 2, 3] (by decide) rfl ?_
            simp at p9
            subst p9
            refine g_if_eq X 54 dX5_column_49 (by decide) (by omega) (fun c_49 => ?_) (fun c_49 => ?_)
            · omega
            · skip
              refine g_iconst X dX5_column_52 ?_
              exact g_iret X hr (by decide) (by decide) dX5_column_53 ⟨_, _, rfl, by first | exact Or.inl ⟨by omega, rfl, rfl⟩ | exact Or.inr (Or.inl ⟨by omega, by omega, rfl, rfl⟩), rfl⟩
    · skip
      refine g_iconst X dX5_column_18 ?_
      refine g_goto X 23 dX5_column_19 (by decide) ?_
      refine g_iconst X dX5_column_23 ?_
      refine g_callV0 X (As := [.int (iZ 1), .int (iZ 1)]) (rest := []) (ctX5_bad l D cB cI cJ cY m0 a6 a8 a10 a11 a12 a13 a14 a15 a17 a19 a20 a21 a22 a23 a24 a26 a27 a28 a35 a36 a37 a38 a39 a40 a41 a44 a45 0 z1 z2 z3 z4 z5 z7 z9 z16 z18 z25 z29 z30 z31 z32 z33 z34 z42 z43 1 1 (by omega)) (cwV 2 X.2.2.2.2.1 gX5_column_X5_bad rfl rfl rfl (by decide +kernel) ⟨by decide, by decide⟩) 0 rfl rfl (wc := [(m0, .inr (5, [.int (iZ 0), .int (iZ z1), .int (iZ z2), .int (iZ z3), .int (iZ z4), .int (iZ z5), .ref a6, .int (iZ z7), .ref a8, .int (iZ z9), .ref a10, .ref a11, .ref a12, .ref a13, .ref a14, .ref a15, .int (iZ z16), .ref a17, .int (iZ z18), .ref a19, .ref a20, .ref a21, .ref a22, .ref a23, .ref a24, .int (iZ z25), .ref a26, .ref a27, .ref a28, .int (iZ z29), .int (iZ z30), .int (iZ z31), .int (iZ z32), .int (iZ z33), .int (iZ z34), .ref a35, .ref a36, .ref a37, .ref a38, .ref a39, .ref a40, .ref a41, .int (iZ z42), .int (iZ z43), .ref a44, .ref a45]))]) (wr := [(a35, .inl (cI, 900, .inl (zA g35))), (a36, .inl (cI, 900, .inl (zA g36))), (a37, .inl (cI, 901, .inl (zA g37))), (a38, .inl (cI, 900, .inl (zA g38)))]) [0] [1, 2, 3, 4] rfl rfl (by decide) (by decide) (by decide) rfl rfl (Nat.le_of_ble_eq_true rfl) ⟨by decide, by decide⟩ dX5_column_24 (fun v w1 hq => ?_)
      obtain ⟨x9, rfl, p9, rfl⟩ := hq
      refine g_eq (ws' := [(a35, .inl (cI, 900, .inl (zA g35))), (a36, .inl (cI, 900, .inl (zA g36))), (a37, .inl (cI, 901, .inl (zA g37))), (a38, .inl (cI, 900, .inl (zA g38))), (m0, .inr (5, [.int (iZ x9), .int (iZ z1), .int (iZ z2), .int (iZ z3), .int (iZ z4), .int (iZ z5), .ref a6, .int (iZ z7), .ref a8, .int (iZ z9), .ref a10, .ref a11, .ref a12, .ref a13, .ref a14, .ref a15, .int (iZ z16), .ref a17, .int (iZ z18), .ref a19, .ref a20, .ref a21, .ref a22, .ref a23, .ref a24, .int (iZ z25), .ref a26, .ref a27, .ref a28, .int (iZ z29), .int (iZ z30), .int (iZ z31), .int (iZ z32), .int (iZ z33), .int (iZ z34), .ref a35, .ref a36, .ref a37, .ref a38, .ref a39, .ref a40, .ref a41, .int (iZ z42), .int (iZ z43), .ref a44, .ref a45]))]) (pc' := 27) (st' := [.int (iZ 1)]) rfl rfl rfl rfl ?_
      refine g_perm (ws' := [(m0, .inr (5, [.int (iZ x9), .int (iZ z1), .int (iZ z2), .int (iZ z3), .int (iZ z4), .int (iZ z5), .ref a6, .int (iZ z7), .ref a8, .int (iZ z9), .ref a10, .ref a11, .ref a12, .ref a13, .ref a14, .ref a15, .int (iZ z16), .ref a17, .int (iZ z18), .ref a19, .ref a20, .ref a21, .ref a22, .ref a23, .ref a24, .int (iZ z25), .ref a26, .ref a27, .ref a28, .int (iZ z29), .int (iZ z30), .int (iZ z31), .int (iZ z32), .int (iZ z33), .int (iZ z34), .ref a35, .ref a36, .ref a37, .ref a38, .ref a39, .ref a40, .ref a41, .int (iZ z42), .int (iZ z43), .ref a44, .ref a45])), (a35, .inl (cI, 900, .inl (zA g35))), (a36, .inl (cI, 900, .inl (zA g36))), (a37, .inl (cI, 901, .inl (zA g37))), (a38, .inl (cI, 900, .inl (zA g38)))]) [4, 0, 1, 2, 3] (by decide) rfl ?_
      simp at p9
      subst p9
      refine g_if_ne X 52 dX5_column_27 (by decide) (by omega) (fun c_27 => ?_) (fun c_27 => ?_)
      · skip
        refine g_iconst X dX5_column_52 ?_
        exact g_iret X hr (by decide) (by decide) dX5_column_53 ⟨_, _, rfl, by first | exact Or.inl ⟨by omega, rfl, rfl⟩ | exact Or.inr (Or.inl ⟨by omega, by omega, rfl, rfl⟩), rfl⟩
      · omega
def qX5_where (cB cI cJ cY : ClassId) (m0 : Nat) (a6 : Nat) (a8 : Nat) (a10 : Nat) (a11 : Nat) (a12 : Nat) (a13 : Nat) (a14 : Nat) (a15 : Nat) (a17 : Nat) (a19 : Nat) (a20 : Nat) (a21 : Nat) (a22 : Nat) (a23 : Nat) (a24 : Nat) (a26 : Nat) (a27 : Nat) (a28 : Nat) (a35 : Nat) (a36 : Nat) (a37 : Nat) (a38 : Nat) (a39 : Nat) (a40 : Nat) (a41 : Nat) (a44 : Nat) (a45 : Nat) (z0 : Int) (z1 : Int) (z2 : Int) (z3 : Int) (z4 : Int) (z5 : Int) (z7 : Int) (z9 : Int) (z16 : Int) (z18 : Int) (z25 : Int) (z29 : Int) (z30 : Int) (z31 : Int) (z32 : Int) (z33 : Int) (z34 : Int) (z42 : Int) (z43 : Int) (g35 : Int → Int) (g36 : Int → Int) (g37 : Int → Int) (e9 : Int) (s9 : Int) : Option Value → va_W → Prop := fun rv w1 => ∃ (r : Int) (t : Int), rv = some (.int (iZ r)) ∧ ((¬ (0 ≤ e9 ∧ e9 < z16) ∧ t = 1 ∧ r = 0) ∨ ((0 ≤ e9 ∧ e9 < z16) ∧ t = 0 ∧ whM g35 g36 g37 z31 e9 s9 r)) ∧ w1 = [(m0, .inr (5, [.int (iZ t), .int (iZ z1), .int (iZ z2), .int (iZ z3), .int (iZ z4), .int (iZ z5), .ref a6, .int (iZ z7), .ref a8, .int (iZ z9), .ref a10, .ref a11, .ref a12, .ref a13, .ref a14, .ref a15, .int (iZ z16), .ref a17, .int (iZ z18), .ref a19, .ref a20, .ref a21, .ref a22, .ref a23, .ref a24, .int (iZ z25), .ref a26, .ref a27, .ref a28, .int (iZ z29), .int (iZ z30), .int (iZ z31), .int (iZ z32), .int (iZ z33), .int (iZ z34), .ref a35, .ref a36, .ref a37, .ref a38, .ref a39, .ref a40, .ref a41, .int (iZ z42), .int (iZ z43), .ref a44, .ref a45])), (a35, .inl (cI, 900, .inl (zA g35))), (a36, .inl (cI, 900, .inl (zA g36))), (a37, .inl (cI, 901, .inl (zA g37)))]
set_option maxHeartbeats 4000000 in
set_option maxRecDepth 100000 in
theorem ctX5_where (l : Launch) (D : va_G) (cB cI cJ cY : ClassId) (m0 : Nat) (a6 : Nat) (a8 : Nat) (a10 : Nat) (a11 : Nat) (a12 : Nat) (a13 : Nat) (a14 : Nat) (a15 : Nat) (a17 : Nat) (a19 : Nat) (a20 : Nat) (a21 : Nat) (a22 : Nat) (a23 : Nat) (a24 : Nat) (a26 : Nat) (a27 : Nat) (a28 : Nat) (a35 : Nat) (a36 : Nat) (a37 : Nat) (a38 : Nat) (a39 : Nat) (a40 : Nat) (a41 : Nat) (a44 : Nat) (a45 : Nat) (z0 : Int) (z1 : Int) (z2 : Int) (z3 : Int) (z4 : Int) (z5 : Int) (z7 : Int) (z9 : Int) (z16 : Int) (z18 : Int) (z25 : Int) (z29 : Int) (z30 : Int) (z31 : Int) (z32 : Int) (z33 : Int) (z34 : Int) (z42 : Int) (z43 : Int) (g35 : Int → Int) (g36 : Int → Int) (g37 : Int → Int) (e9 : Int) (s9 : Int) (h16 : 0 ≤ z16 ∧ z16 ≤ 150) (h31 : 0 ≤ z31 ∧ z31 ≤ 900) (h37 : ∀ j : Int, 0 ≤ j ∧ j ≤ z31 → 0 ≤ g37 j ∧ g37 j ≤ 900) (h35 : ∀ j : Int, 0 ≤ j ∧ j < 900 → 0 ≤ g35 j ∧ g35 j < 150) (h36 : ∀ j : Int, 0 ≤ j ∧ j < 900 → 0 ≤ g36 j ∧ g36 j < 6) (h_e9 : -2147483648 ≤ e9 ∧ e9 ≤ 2147483647) (h_s9 : -2147483648 ≤ s9 ∧ s9 ≤ 2147483647) : gM l yX5_where wsX5_where { frames := 1, cells := 0, slots := 0, locals := 21 } D (gT cB cI cJ cY) [.ref m0, .int (iZ e9), .int (iZ s9)] [(m0, .inr (5, [.int (iZ z0), .int (iZ z1), .int (iZ z2), .int (iZ z3), .int (iZ z4), .int (iZ z5), .ref a6, .int (iZ z7), .ref a8, .int (iZ z9), .ref a10, .ref a11, .ref a12, .ref a13, .ref a14, .ref a15, .int (iZ z16), .ref a17, .int (iZ z18), .ref a19, .ref a20, .ref a21, .ref a22, .ref a23, .ref a24, .int (iZ z25), .ref a26, .ref a27, .ref a28, .int (iZ z29), .int (iZ z30), .int (iZ z31), .int (iZ z32), .int (iZ z33), .int (iZ z34), .ref a35, .ref a36, .ref a37, .ref a38, .ref a39, .ref a40, .ref a41, .int (iZ z42), .int (iZ z43), .ref a44, .ref a45])), (a35, .inl (cI, 900, .inl (zA g35))), (a36, .inl (cI, 900, .inl (zA g36))), (a37, .inl (cI, 901, .inl (zA g37)))] 0 0 (qX5_where cB cI cJ cY m0 a6 a8 a10 a11 a12 a13 a14 a15 a17 a19 a20 a21 a22 a23 a24 a26 a27 a28 a35 a36 a37 a38 a39 a40 a41 a44 a45 z0 z1 z2 z3 z4 z5 z7 z9 z16 z18 z25 z29 z30 z31 z32 z33 z34 z42 z43 g35 g36 g37 e9 s9) := by
  refine g_start (cc := cX5_where) (maxL := 5) (ret := some .int) (lv := [(0, .ref m0), (1, .int (iZ e9)), (2, .int (iZ s9))]) (by decide) rfl (Nat.le_of_ble_eq_true rfl) rfl ?_
  intro p e s m args below meth c A X hr hnm
  have hin5 : ∀ w ∈ u_ws RX5 TX5 46, w ∈ wsX5_where := by decide +kernel
  refine g_aload_n X 0 dX5_where_0 rfl rfl ?_
  refine g_iload_n X 1 dX5_where_1 rfl rfl ?_
  refine g_callV0 X (As := [.int (iZ e9)]) (rest := []) (ctX5_isEntry l D cB cI cJ cY m0 a6 a8 a10 a11 a12 a13 a14 a15 a17 a19 a20 a21 a22 a23 a24 a26 a27 a28 a35 a36 a37 a38 a39 a40 a41 a44 a45 z0 z1 z2 z3 z4 z5 z7 z9 z16 z18 z25 z29 z30 z31 z32 z33 z34 z42 z43 e9 (by first | assumption | omega) (by first | assumption | omega)) (cwV 1 X.2.2.2.2.1 gX5_where_X5_isEntry rfl rfl rfl (by decide +kernel) ⟨by decide, by decide⟩) 0 rfl rfl (wc := [(m0, .inr (5, [.int (iZ z0), .int (iZ z1), .int (iZ z2), .int (iZ z3), .int (iZ z4), .int (iZ z5), .ref a6, .int (iZ z7), .ref a8, .int (iZ z9), .ref a10, .ref a11, .ref a12, .ref a13, .ref a14, .ref a15, .int (iZ z16), .ref a17, .int (iZ z18), .ref a19, .ref a20, .ref a21, .ref a22, .ref a23, .ref a24, .int (iZ z25), .ref a26, .ref a27, .ref a28, .int (iZ z29), .int (iZ z30), .int (iZ z31), .int (iZ z32), .int (iZ z33), .int (iZ z34), .ref a35, .ref a36, .ref a37, .ref a38, .ref a39, .ref a40, .ref a41, .int (iZ z42), .int (iZ z43), .ref a44, .ref a45]))]) (wr := [(a35, .inl (cI, 900, .inl (zA g35))), (a36, .inl (cI, 900, .inl (zA g36))), (a37, .inl (cI, 901, .inl (zA g37)))]) [0] [1, 2, 3] rfl rfl (by decide) (by decide) (by decide) rfl rfl (Nat.le_of_ble_eq_true rfl) ⟨by decide, by decide⟩ dX5_where_2 (fun v w1 hq => ?_)
  obtain ⟨r0, t, rfl, hrt, rfl⟩ := hq
  refine g_eq (ws' := [(a35, .inl (cI, 900, .inl (zA g35))), (a36, .inl (cI, 900, .inl (zA g36))), (a37, .inl (cI, 901, .inl (zA g37))), (m0, .inr (5, [.int (iZ t), .int (iZ z1), .int (iZ z2), .int (iZ z3), .int (iZ z4), .int (iZ z5), .ref a6, .int (iZ z7), .ref a8, .int (iZ z9), .ref a10, .ref a11, .ref a12, .ref a13, .ref a14, .ref a15, .int (iZ z16), .ref a17, .int (iZ z18), .ref a19, .ref a20, .ref a21, .ref a22, .ref a23, .ref a24, .int (iZ z25), .ref a26, .ref a27, .ref a28, .int (iZ z29), .int (iZ z30), .int (iZ z31), .int (iZ z32), .int (iZ z33), .int (iZ z34), .ref a35, .ref a36, .ref a37, .ref a38, .ref a39, .ref a40, .ref a41, .int (iZ z42), .int (iZ z43), .ref a44, .ref a45]))]) (pc' := 5) (st' := [.int (iZ r0)]) rfl rfl rfl rfl ?_
  refine g_perm (ws' := [(m0, .inr (5, [.int (iZ t), .int (iZ z1), .int (iZ z2), .int (iZ z3), .int (iZ z4), .int (iZ z5), .ref a6, .int (iZ z7), .ref a8, .int (iZ z9), .ref a10, .ref a11, .ref a12, .ref a13, .ref a14, .ref a15, .int (iZ z16), .ref a17, .int (iZ z18), .ref a19, .ref a20, .ref a21, .ref a22, .ref a23, .ref a24, .int (iZ z25), .ref a26, .ref a27, .ref a28, .int (iZ z29), .int (iZ z30), .int (iZ z31), .int (iZ z32), .int (iZ z33), .int (iZ z34), .ref a35, .ref a36, .ref a37, .ref a38, .ref a39, .ref a40, .ref a41, .int (iZ z42), .int (iZ z43), .ref a44, .ref a45])), (a35, .inl (cI, 900, .inl (zA g35))), (a36, .inl (cI, 900, .inl (zA g36))), (a37, .inl (cI, 901, .inl (zA g37)))]) [3, 0, 1, 2] (by decide) rfl ?_
  have hr01 : r0 = 0 ∨ r0 = 1 := by omega
  refine g_if_ne X 10 dX5_where_5 (by decide) (by omega) (fun c_5 => ?_) (fun c_5 => ?_)
  · skip
    refine g_iconst X dX5_where_10 ?_
    refine g_istore_n (lv2 := [(3, .int (iZ 0)), (0, .ref m0), (1, .int (iZ e9)), (2, .int (iZ s9))]) X dX5_where_11 rfl (by decide) rfl ?_
    refine g_lv (lv' := [(0, .ref m0), (1, .int (iZ e9)), (2, .int (iZ s9)), (3, .int (iZ 0))]) [1, 2, 3, 0] rfl ?_
    have loop_12 : ∀ (kf : Nat) (c9 : Int), (hc9 : 0 ≤ c9 ∧ c9 ≤ z31) → (hno : ∀ c1 : Int, 0 ≤ c1 → c1 < c9 → ∀ k : Int, g37 c1 ≤ k → k < g37 (c1 + 1) → ¬ (g35 k = e9 ∧ g36 k = s9)) → (z31 - c9).toNat < kf → gW p l e { frames := 1, cells := 0, slots := 0, locals := 21 } s m args below meth c D A 5 0 0 (MQ below (gQ D (gT cB cI cJ cY) (qX5_where cB cI cJ cY m0 a6 a8 a10 a11 a12 a13 a14 a15 a17 a19 a20 a21 a22 a23 a24 a26 a27 a28 a35 a36 a37 a38 a39 a40 a41 a44 a45 z0 z1 z2 z3 z4 z5 z7 z9 z16 z18 z25 z29 z30 z31 z32 z33 z34 z42 z43 g35 g36 g37 e9 s9) A) args s 0 0 A) [(m0, .inr (5, [.int (iZ t), .int (iZ z1), .int (iZ z2), .int (iZ z3), .int (iZ z4), .int (iZ z5), .ref a6, .int (iZ z7), .ref a8, .int (iZ z9), .ref a10, .ref a11, .ref a12, .ref a13, .ref a14, .ref a15, .int (iZ z16), .ref a17, .int (iZ z18), .ref a19, .ref a20, .ref a21, .ref a22, .ref a23, .ref a24, .int (iZ z25), .ref a26, .ref a27, .ref a28, .int (iZ z29), .int (iZ z30), .int (iZ z31), .int (iZ z32), .int (iZ z33), .int (iZ z34), .ref a35, .ref a36, .ref a37, .ref a38, .ref a39, .ref a40, .ref a41, .int (iZ z42), .int (iZ z43), .ref a44, .ref a45])), (a35, .inl (cI, 900, .inl (zA g35))), (a36, .inl (cI, 900, .inl (zA g36))), (a37, .inl (cI, 901, .inl (zA g37)))] 12 [(0, .ref m0), (1, .int (iZ e9)), (2, .int (iZ s9)), (3, .int (iZ c9))] [] := by
      intro kf
      induction kf with
      | zero => intro c9 hc9 hno hm; exact absurd hm (Nat.not_lt_zero _)
      | succ kf ih_12 =>
        intro c9 hc9 hno hm
        refine g_iload_n X 3 dX5_where_12 rfl rfl ?_
        refine g_aload_n X 0 dX5_where_13 rfl rfl ?_
        refine g_get X (index := 173) (ref := "GuideWordsModel") hin5 0 rfl rfl 31 (by decide) rfl (by decide +kernel) (v := .int (iZ z31)) rfl dX5_where_14 ?_
        refine g_icmp_ge X 77 dX5_where_17 (by decide) (by omega) (by omega) (fun c_17 => ?_) (fun c_17 => ?_)
        · skip
          refine g_iconst X dX5_where_77 ?_
          exact g_iret X hr (by decide) (by decide) dX5_where_78 ⟨_, _, rfl, Or.inr ⟨by omega, by omega, Or.inr ⟨fun c1 h1 h2 => hno c1 h1 (by omega), rfl⟩⟩, rfl⟩
        · skip
          refine g_aload_n X 0 dX5_where_20 rfl rfl ?_
          refine g_get X (index := 92) (ref := "GuideWordsModel") hin5 0 rfl rfl 37 (by decide) rfl (by decide +kernel) (v := .ref a37) rfl dX5_where_21 ?_
          refine g_iload_n X 3 dX5_where_24 rfl rfl ?_
          refine g_iald X 3 1 rfl rfl (by omega) (by decide) dX5_where_25 ?_
          have r_25 := h37 c9 (by omega)
          refine g_istore (lv2 := [(4, .int (iZ (g37 c9))), (0, .ref m0), (1, .int (iZ e9)), (2, .int (iZ s9)), (3, .int (iZ c9))]) X dX5_where_26 (by decide) rfl ?_
          refine g_lv (lv' := [(0, .ref m0), (1, .int (iZ e9)), (2, .int (iZ s9)), (3, .int (iZ c9)), (4, .int (iZ (g37 c9)))]) [1, 2, 3, 4, 0] rfl ?_
          have loop_28 : ∀ (kf : Nat) (k : Int), (hk : g37 c9 ≤ k ∧ k ≤ 900) → (hin : ∀ i : Int, g37 c9 ≤ i → i < k → ¬ (g35 i = e9 ∧ g36 i = s9)) → (900 - k).toNat < kf → gW p l e { frames := 1, cells := 0, slots := 0, locals := 21 } s m args below meth c D A 5 0 0 (MQ below (gQ D (gT cB cI cJ cY) (qX5_where cB cI cJ cY m0 a6 a8 a10 a11 a12 a13 a14 a15 a17 a19 a20 a21 a22 a23 a24 a26 a27 a28 a35 a36 a37 a38 a39 a40 a41 a44 a45 z0 z1 z2 z3 z4 z5 z7 z9 z16 z18 z25 z29 z30 z31 z32 z33 z34 z42 z43 g35 g36 g37 e9 s9) A) args s 0 0 A) [(m0, .inr (5, [.int (iZ t), .int (iZ z1), .int (iZ z2), .int (iZ z3), .int (iZ z4), .int (iZ z5), .ref a6, .int (iZ z7), .ref a8, .int (iZ z9), .ref a10, .ref a11, .ref a12, .ref a13, .ref a14, .ref a15, .int (iZ z16), .ref a17, .int (iZ z18), .ref a19, .ref a20, .ref a21, .ref a22, .ref a23, .ref a24, .int (iZ z25), .ref a26, .ref a27, .ref a28, .int (iZ z29), .int (iZ z30), .int (iZ z31), .int (iZ z32), .int (iZ z33), .int (iZ z34), .ref a35, .ref a36, .ref a37, .ref a38, .ref a39, .ref a40, .ref a41, .int (iZ z42), .int (iZ z43), .ref a44, .ref a45])), (a35, .inl (cI, 900, .inl (zA g35))), (a36, .inl (cI, 900, .inl (zA g36))), (a37, .inl (cI, 901, .inl (zA g37)))] 28 [(0, .ref m0), (1, .int (iZ e9)), (2, .int (iZ s9)), (3, .int (iZ c9)), (4, .int (iZ k))] [] := by
            intro kf
            induction kf with
            | zero => intro k hk hin hm; exact absurd hm (Nat.not_lt_zero _)
            | succ kf ih_28 =>
              intro k hk hin hm
              refine g_iload X 4 dX5_where_28 rfl ?_
              refine g_aload_n X 0 dX5_where_30 rfl rfl ?_
              refine g_get X (index := 92) (ref := "GuideWordsModel") hin5 0 rfl rfl 37 (by decide) rfl (by decide +kernel) (v := .ref a37) rfl dX5_where_31 ?_
              refine g_iload_n X 3 dX5_where_34 rfl rfl ?_
              refine g_iconst X dX5_where_35 ?_
              refine g_iadd X dX5_where_36 ?_
              refine g_iald X 3 1 rfl rfl (by omega) (by decide) dX5_where_37 ?_
              have r_37 := h37 (c9 + 1) (by omega)
              refine g_icmp_ge X 71 dX5_where_38 (by decide) (by omega) (by omega) (fun c_38 => ?_) (fun c_38 => ?_)
              · skip
                have hno2 : ∀ c1 : Int, 0 ≤ c1 → c1 < c9 + 1 → ∀ k : Int, g37 c1 ≤ k → k < g37 (c1 + 1) → ¬ (g35 k = e9 ∧ g36 k = s9) := fun c1 h1 h2 k1 h3 h4 => by
                  rcases (show c1 = c9 ∨ c1 < c9 by omega) with h | h
                  · subst h; exact hin k1 h3 (by omega)
                  · exact hno c1 h1 h k1 h3 h4
                refine g_iinc (q := 3) (lv2 := [(3, .int (iZ (c9 + 1))), (0, .ref m0), (1, .int (iZ e9)), (2, .int (iZ s9)), (4, .int (iZ k))]) X dX5_where_71 rfl (by decide) rfl ?_
                refine g_goto X 12 dX5_where_74 (by decide) ?_
                refine g_lv (lv' := [(0, .ref m0), (1, .int (iZ e9)), (2, .int (iZ s9)), (3, .int (iZ (c9 + 1)))]) [1, 2, 3, 0] rfl ?_
                exact ih_12 (c9 + 1) (by omega) hno2 (by omega)
              · skip
                refine g_aload_n X 0 dX5_where_41 rfl rfl ?_
                refine g_get X (index := 86) (ref := "GuideWordsModel") hin5 0 rfl rfl 35 (by decide) rfl (by decide +kernel) (v := .ref a35) rfl dX5_where_42 ?_
                refine g_iload X 4 dX5_where_45 rfl ?_
                refine g_iald X 1 1 rfl rfl (by omega) (by decide) dX5_where_47 ?_
                have r_47 := h35 k (by omega)
                refine g_iload_n X 1 dX5_where_48 rfl rfl ?_
                refine g_icmp_ne X 65 dX5_where_49 (by decide) (by omega) (by omega) (fun c_49 => ?_) (fun c_49 => ?_)
                · skip
                  refine g_iinc (q := 4) (lv2 := [(4, .int (iZ (k + 1))), (0, .ref m0), (1, .int (iZ e9)), (2, .int (iZ s9)), (3, .int (iZ c9))]) X dX5_where_65 rfl (by decide) rfl ?_
                  refine g_goto X 28 dX5_where_68 (by decide) ?_
                  refine g_lv (lv' := [(0, .ref m0), (1, .int (iZ e9)), (2, .int (iZ s9)), (3, .int (iZ c9)), (4, .int (iZ (k + 1)))]) [1, 2, 3, 4, 0] rfl ?_
                  exact ih_28 (k + 1) (by omega) (fun i h1 h2 => by
                      rcases (show i = k ∨ i < k by omega) with h | h
                      · rw [h]; omega
                      · exact hin i h1 h) (by omega)
                · skip
                  refine g_aload_n X 0 dX5_where_52 rfl rfl ?_
                  refine g_get X (index := 89) (ref := "GuideWordsModel") hin5 0 rfl rfl 36 (by decide) rfl (by decide +kernel) (v := .ref a36) rfl dX5_where_53 ?_
                  refine g_iload X 4 dX5_where_56 rfl ?_
                  refine g_iald X 2 1 rfl rfl (by omega) (by decide) dX5_where_58 ?_
                  have r_58 := h36 k (by omega)
                  refine g_iload_n X 2 dX5_where_59 rfl rfl ?_
                  refine g_icmp_ne X 65 dX5_where_60 (by decide) (by omega) (by omega) (fun c_60 => ?_) (fun c_60 => ?_)
                  · skip
                    refine g_iinc (q := 4) (lv2 := [(4, .int (iZ (k + 1))), (0, .ref m0), (1, .int (iZ e9)), (2, .int (iZ s9)), (3, .int (iZ c9))]) X dX5_where_65 rfl (by decide) rfl ?_
                    refine g_goto X 28 dX5_where_68 (by decide) ?_
                    refine g_lv (lv' := [(0, .ref m0), (1, .int (iZ e9)), (2, .int (iZ s9)), (3, .int (iZ c9)), (4, .int (iZ (k + 1)))]) [1, 2, 3, 4, 0] rfl ?_
                    exact ih_28 (k + 1) (by omega) (fun i h1 h2 => by
                        rcases (show i = k ∨ i < k by omega) with h | h
                        · rw [h]; omega
                        · exact hin i h1 h) (by omega)
                  · skip
                    refine g_iload_n X 3 dX5_where_63 rfl rfl ?_
                    exact g_iret X hr (by decide) (by decide) dX5_where_64 ⟨_, _, rfl, Or.inr ⟨by omega, by omega, Or.inl ⟨c9, by omega, by omega, ⟨k, by omega, by omega, c_49, c_60⟩, hno, rfl⟩⟩, rfl⟩
          exact loop_28 _ (g37 c9) (by omega) (fun i h1 h2 => by omega) (Nat.lt_succ_self _)
    exact loop_12 _ 0 (by omega) (fun c1 h1 h2 => by omega) (Nat.lt_succ_self _)
  · skip
    refine g_iconst X dX5_where_8 ?_
    exact g_iret X hr (by decide) (by decide) dX5_where_9 ⟨_, _, rfl, Or.inl ⟨by omega, by omega, rfl⟩, rfl⟩
def gdI (g35 g36 : Int → Int) (fr k fi la : Int) : Prop := (fi = -1 ∧ la = -1 ∧ ∀ i : Int, fr ≤ i → i < k → g36 i ≠ 0) ∨ (0 ≤ fi ∧ (∃ q : Int, fr ≤ q ∧ q < k ∧ g36 q = 0 ∧ (∀ i : Int, fr ≤ i → i < q → g36 i ≠ 0) ∧ fi = g35 q) ∧ (∃ q : Int, fr ≤ q ∧ q < k ∧ g36 q = 0 ∧ (∀ i : Int, q < i → i < k → g36 i ≠ 0) ∧ la = g35 q))
def qX5_guide (cB cI cJ cY : ClassId) (m0 : Nat) (a6 : Nat) (a8 : Nat) (a10 : Nat) (a11 : Nat) (a12 : Nat) (a13 : Nat) (a14 : Nat) (a15 : Nat) (a17 : Nat) (a19 : Nat) (a20 : Nat) (a21 : Nat) (a22 : Nat) (a23 : Nat) (a24 : Nat) (a26 : Nat) (a27 : Nat) (a28 : Nat) (a35 : Nat) (a36 : Nat) (a37 : Nat) (a38 : Nat) (a39 : Nat) (a40 : Nat) (a41 : Nat) (a44 : Nat) (a45 : Nat) (z0 : Int) (z1 : Int) (z2 : Int) (z3 : Int) (z4 : Int) (z5 : Int) (z7 : Int) (z9 : Int) (z16 : Int) (z18 : Int) (z25 : Int) (z29 : Int) (z30 : Int) (z31 : Int) (z32 : Int) (z33 : Int) (z34 : Int) (z42 : Int) (z43 : Int) (g35 : Int → Int) (g36 : Int → Int) (g37 : Int → Int) (pg : Int) (wh : Int) : Option Value → va_W → Prop := fun rv w1 => ∃ (r : Int) (t : Int), rv = some (.int (iZ r)) ∧ ((¬ (0 ≤ pg ∧ pg < z30) ∧ t = 1 ∧ r = 0) ∨ ((0 ≤ pg ∧ pg < z30) ∧ ¬ (0 ≤ wh ∧ wh ≤ 1) ∧ t = 2 ∧ r = 0) ∨ ((0 ≤ pg ∧ pg < z30) ∧ (0 ≤ wh ∧ wh ≤ 1) ∧ t = 0 ∧ ((wh = 0 ∧ fgM g35 g36 (g37 (pg * z34)) (toM z31 z32 z34 g37 pg) r) ∨ (wh = 1 ∧ lgM g35 g36 (g37 (pg * z34)) (toM z31 z32 z34 g37 pg) r)))) ∧ w1 = [(m0, .inr (5, [.int (iZ t), .int (iZ z1), .int (iZ z2), .int (iZ z3), .int (iZ z4), .int (iZ z5), .ref a6, .int (iZ z7), .ref a8, .int (iZ z9), .ref a10, .ref a11, .ref a12, .ref a13, .ref a14, .ref a15, .int (iZ z16), .ref a17, .int (iZ z18), .ref a19, .ref a20, .ref a21, .ref a22, .ref a23, .ref a24, .int (iZ z25), .ref a26, .ref a27, .ref a28, .int (iZ z29), .int (iZ z30), .int (iZ z31), .int (iZ z32), .int (iZ z33), .int (iZ z34), .ref a35, .ref a36, .ref a37, .ref a38, .ref a39, .ref a40, .ref a41, .int (iZ z42), .int (iZ z43), .ref a44, .ref a45])), (a35, .inl (cI, 900, .inl (zA g35))), (a36, .inl (cI, 900, .inl (zA g36))), (a37, .inl (cI, 901, .inl (zA g37)))]
set_option maxHeartbeats 4000000 in
set_option maxRecDepth 100000 in
theorem ctX5_guide (l : Launch) (D : va_G) (cB cI cJ cY : ClassId) (m0 : Nat) (a6 : Nat) (a8 : Nat) (a10 : Nat) (a11 : Nat) (a12 : Nat) (a13 : Nat) (a14 : Nat) (a15 : Nat) (a17 : Nat) (a19 : Nat) (a20 : Nat) (a21 : Nat) (a22 : Nat) (a23 : Nat) (a24 : Nat) (a26 : Nat) (a27 : Nat) (a28 : Nat) (a35 : Nat) (a36 : Nat) (a37 : Nat) (a38 : Nat) (a39 : Nat) (a40 : Nat) (a41 : Nat) (a44 : Nat) (a45 : Nat) (z0 : Int) (z1 : Int) (z2 : Int) (z3 : Int) (z4 : Int) (z5 : Int) (z7 : Int) (z9 : Int) (z16 : Int) (z18 : Int) (z25 : Int) (z29 : Int) (z30 : Int) (z31 : Int) (z32 : Int) (z33 : Int) (z34 : Int) (z42 : Int) (z43 : Int) (g35 : Int → Int) (g36 : Int → Int) (g37 : Int → Int) (pg : Int) (wh : Int) (h31 : 0 ≤ z31 ∧ z31 ≤ 900) (h37 : ∀ j : Int, 0 ≤ j ∧ j ≤ z31 → 0 ≤ g37 j ∧ g37 j ≤ 900) (h37b : ∀ j : Int, 0 ≤ j ∧ j < z31 → g37 j < 900) (h35 : ∀ j : Int, 0 ≤ j ∧ j < 900 → 0 ≤ g35 j ∧ g35 j < 150) (h36 : ∀ j : Int, 0 ≤ j ∧ j < 900 → 0 ≤ g36 j ∧ g36 j < 6) (h30 : 0 ≤ z30 ∧ z30 ≤ 900 ∧ 0 ≤ z32 ∧ z32 ≤ 900) (hpg : ∀ q : Int, 0 ≤ q → q < z30 → (0 ≤ q * z34 ∧ q * z34 < z31) ∧ (0 ≤ (q + 1) * z34 ∧ (q + 1) * z34 ≤ 4000)) (h_pg : -2147483648 ≤ pg ∧ pg ≤ 2147483647) (h_wh : -2147483648 ≤ wh ∧ wh ≤ 2147483647) : gM l yX5_guide wsX5_guide { frames := 1, cells := 0, slots := 0, locals := 22 } D (gT cB cI cJ cY) [.ref m0, .int (iZ pg), .int (iZ wh)] [(m0, .inr (5, [.int (iZ z0), .int (iZ z1), .int (iZ z2), .int (iZ z3), .int (iZ z4), .int (iZ z5), .ref a6, .int (iZ z7), .ref a8, .int (iZ z9), .ref a10, .ref a11, .ref a12, .ref a13, .ref a14, .ref a15, .int (iZ z16), .ref a17, .int (iZ z18), .ref a19, .ref a20, .ref a21, .ref a22, .ref a23, .ref a24, .int (iZ z25), .ref a26, .ref a27, .ref a28, .int (iZ z29), .int (iZ z30), .int (iZ z31), .int (iZ z32), .int (iZ z33), .int (iZ z34), .ref a35, .ref a36, .ref a37, .ref a38, .ref a39, .ref a40, .ref a41, .int (iZ z42), .int (iZ z43), .ref a44, .ref a45])), (a35, .inl (cI, 900, .inl (zA g35))), (a36, .inl (cI, 900, .inl (zA g36))), (a37, .inl (cI, 901, .inl (zA g37)))] 0 0 (qX5_guide cB cI cJ cY m0 a6 a8 a10 a11 a12 a13 a14 a15 a17 a19 a20 a21 a22 a23 a24 a26 a27 a28 a35 a36 a37 a38 a39 a40 a41 a44 a45 z0 z1 z2 z3 z4 z5 z7 z9 z16 z18 z25 z29 z30 z31 z32 z33 z34 z42 z43 g35 g36 g37 pg wh) := by
  refine g_start (cc := cX5_guide) (maxL := 8) (ret := some .int) (lv := [(0, .ref m0), (1, .int (iZ pg)), (2, .int (iZ wh))]) (by decide) rfl (Nat.le_of_ble_eq_true rfl) rfl ?_
  intro p e s m args below meth c A X hr hnm
  have hin5 : ∀ w ∈ u_ws RX5 TX5 46, w ∈ wsX5_guide := by decide +kernel
  refine g_aload_n X 0 dX5_guide_0 rfl rfl ?_
  refine g_iconst X dX5_guide_1 ?_
  refine g_put X (index := 116) (ref := "GuideWordsModel") hin5 0 rfl rfl 0 (by decide) rfl tyX5 tyX5_ok nmX5 (by decide +kernel) rfl rfl rfl rfl (Nat.le_of_ble_eq_true rfl) (ws2 := [(m0, .inr (5, [.int (iZ 0), .int (iZ z1), .int (iZ z2), .int (iZ z3), .int (iZ z4), .int (iZ z5), .ref a6, .int (iZ z7), .ref a8, .int (iZ z9), .ref a10, .ref a11, .ref a12, .ref a13, .ref a14, .ref a15, .int (iZ z16), .ref a17, .int (iZ z18), .ref a19, .ref a20, .ref a21, .ref a22, .ref a23, .ref a24, .int (iZ z25), .ref a26, .ref a27, .ref a28, .int (iZ z29), .int (iZ z30), .int (iZ z31), .int (iZ z32), .int (iZ z33), .int (iZ z34), .ref a35, .ref a36, .ref a37, .ref a38, .ref a39, .ref a40, .ref a41, .int (iZ z42), .int (iZ z43), .ref a44, .ref a45])), (a35, .inl (cI, 900, .inl (zA g35))), (a36, .inl (cI, 900, .inl (zA g36))), (a37, .inl (cI, 901, .inl (zA g37)))]) rfl dX5_guide_2 ?_
  refine g_aload_n X 0 dX5_guide_5 rfl rfl ?_
  refine g_iload_n X 1 dX5_guide_6 rfl rfl ?_
  refine g_if_lt X 18 dX5_guide_7 (by decide) (by omega) (fun c_7 => ?_) (fun c_7 => ?_)
  · skip
    refine g_iconst X dX5_guide_18 ?_
    refine g_goto X 23 dX5_guide_19 (by decide) ?_
    refine g_iconst X dX5_guide_23 ?_
    refine g_callV0 X (As := [.int (iZ 1), .int (iZ 1)]) (rest := []) (ctX5_bad l D cB cI cJ cY m0 a6 a8 a10 a11 a12 a13 a14 a15 a17 a19 a20 a21 a22 a23 a24 a26 a27 a28 a35 a36 a37 a38 a39 a40 a41 a44 a45 0 z1 z2 z3 z4 z5 z7 z9 z16 z18 z25 z29 z30 z31 z32 z33 z34 z42 z43 1 1 (by omega)) (cwV 2 X.2.2.2.2.1 gX5_guide_X5_bad rfl rfl rfl (by decide +kernel) ⟨by decide, by decide⟩) 0 rfl rfl (wc := [(m0, .inr (5, [.int (iZ 0), .int (iZ z1), .int (iZ z2), .int (iZ z3), .int (iZ z4), .int (iZ z5), .ref a6, .int (iZ z7), .ref a8, .int (iZ z9), .ref a10, .ref a11, .ref a12, .ref a13, .ref a14, .ref a15, .int (iZ z16), .ref a17, .int (iZ z18), .ref a19, .ref a20, .ref a21, .ref a22, .ref a23, .ref a24, .int (iZ z25), .ref a26, .ref a27, .ref a28, .int (iZ z29), .int (iZ z30), .int (iZ z31), .int (iZ z32), .int (iZ z33), .int (iZ z34), .ref a35, .ref a36, .ref a37, .ref a38, .ref a39, .ref a40, .ref a41, .int (iZ z42), .int (iZ z43), .ref a44, .ref a45]))]) (wr := [(a35, .inl (cI, 900, .inl (zA g35))), (a36, .inl (cI, 900, .inl (zA g36))), (a37, .inl (cI, 901, .inl (zA g37)))]) [0] [1, 2, 3] rfl rfl (by decide) (by decide) (by decide) rfl rfl (Nat.le_of_ble_eq_true rfl) ⟨by decide, by decide⟩ dX5_guide_24 (fun v w1 hq => ?_)
    obtain ⟨x9, rfl, p9, rfl⟩ := hq
    refine g_eq (ws' := [(a35, .inl (cI, 900, .inl (zA g35))), (a36, .inl (cI, 900, .inl (zA g36))), (a37, .inl (cI, 901, .inl (zA g37))), (m0, .inr (5, [.int (iZ x9), .int (iZ z1), .int (iZ z2), .int (iZ z3), .int (iZ z4), .int (iZ z5), .ref a6, .int (iZ z7), .ref a8, .int (iZ z9), .ref a10, .ref a11, .ref a12, .ref a13, .ref a14, .ref a15, .int (iZ z16), .ref a17, .int (iZ z18), .ref a19, .ref a20, .ref a21, .ref a22, .ref a23, .ref a24, .int (iZ z25), .ref a26, .ref a27, .ref a28, .int (iZ z29), .int (iZ z30), .int (iZ z31), .int (iZ z32), .int (iZ z33), .int (iZ z34), .ref a35, .ref a36, .ref a37, .ref a38, .ref a39, .ref a40, .ref a41, .int (iZ z42), .int (iZ z43), .ref a44, .ref a45]))]) (pc' := 27) (st' := [.int (iZ 1)]) rfl rfl rfl rfl ?_
    refine g_perm (ws' := [(m0, .inr (5, [.int (iZ x9), .int (iZ z1), .int (iZ z2), .int (iZ z3), .int (iZ z4), .int (iZ z5), .ref a6, .int (iZ z7), .ref a8, .int (iZ z9), .ref a10, .ref a11, .ref a12, .ref a13, .ref a14, .ref a15, .int (iZ z16), .ref a17, .int (iZ z18), .ref a19, .ref a20, .ref a21, .ref a22, .ref a23, .ref a24, .int (iZ z25), .ref a26, .ref a27, .ref a28, .int (iZ z29), .int (iZ z30), .int (iZ z31), .int (iZ z32), .int (iZ z33), .int (iZ z34), .ref a35, .ref a36, .ref a37, .ref a38, .ref a39, .ref a40, .ref a41, .int (iZ z42), .int (iZ z43), .ref a44, .ref a45])), (a35, .inl (cI, 900, .inl (zA g35))), (a36, .inl (cI, 900, .inl (zA g36))), (a37, .inl (cI, 901, .inl (zA g37)))]) [3, 0, 1, 2] (by decide) rfl ?_
    simp at p9
    subst p9
    refine g_if_ne X 52 dX5_guide_27 (by decide) (by omega) (fun c_27 => ?_) (fun c_27 => ?_)
    · skip
      refine g_iconst X dX5_guide_52 ?_
      exact g_iret X hr (by decide) (by decide) dX5_guide_53 ⟨_, _, rfl, by first | exact Or.inl ⟨by omega, rfl, rfl⟩ | exact Or.inr (Or.inl ⟨by omega, by omega, rfl, rfl⟩), rfl⟩
    · omega
  · skip
    refine g_iload_n X 1 dX5_guide_10 rfl rfl ?_
    refine g_aload_n X 0 dX5_guide_11 rfl rfl ?_
    refine g_get X (index := 182) (ref := "GuideWordsModel") hin5 0 rfl rfl 30 (by decide) rfl (by decide +kernel) (v := .int (iZ z30)) rfl dX5_guide_12 ?_
    refine g_icmp_lt X 22 dX5_guide_15 (by decide) (by omega) (by omega) (fun c_15 => ?_) (fun c_15 => ?_)
    · skip
      refine g_iconst X dX5_guide_22 ?_
      refine g_iconst X dX5_guide_23 ?_
      refine g_callV0 X (As := [.int (iZ 0), .int (iZ 1)]) (rest := []) (ctX5_bad l D cB cI cJ cY m0 a6 a8 a10 a11 a12 a13 a14 a15 a17 a19 a20 a21 a22 a23 a24 a26 a27 a28 a35 a36 a37 a38 a39 a40 a41 a44 a45 0 z1 z2 z3 z4 z5 z7 z9 z16 z18 z25 z29 z30 z31 z32 z33 z34 z42 z43 0 1 (by omega)) (cwV 2 X.2.2.2.2.1 gX5_guide_X5_bad rfl rfl rfl (by decide +kernel) ⟨by decide, by decide⟩) 0 rfl rfl (wc := [(m0, .inr (5, [.int (iZ 0), .int (iZ z1), .int (iZ z2), .int (iZ z3), .int (iZ z4), .int (iZ z5), .ref a6, .int (iZ z7), .ref a8, .int (iZ z9), .ref a10, .ref a11, .ref a12, .ref a13, .ref a14, .ref a15, .int (iZ z16), .ref a17, .int (iZ z18), .ref a19, .ref a20, .ref a21, .ref a22, .ref a23, .ref a24, .int (iZ z25), .ref a26, .ref a27, .ref a28, .int (iZ z29), .int (iZ z30), .int (iZ z31), .int (iZ z32), .int (iZ z33), .int (iZ z34), .ref a35, .ref a36, .ref a37, .ref a38, .ref a39, .ref a40, .ref a41, .int (iZ z42), .int (iZ z43), .ref a44, .ref a45]))]) (wr := [(a35, .inl (cI, 900, .inl (zA g35))), (a36, .inl (cI, 900, .inl (zA g36))), (a37, .inl (cI, 901, .inl (zA g37)))]) [0] [1, 2, 3] rfl rfl (by decide) (by decide) (by decide) rfl rfl (Nat.le_of_ble_eq_true rfl) ⟨by decide, by decide⟩ dX5_guide_24 (fun v w1 hq => ?_)
      obtain ⟨x9, rfl, p9, rfl⟩ := hq
      refine g_eq (ws' := [(a35, .inl (cI, 900, .inl (zA g35))), (a36, .inl (cI, 900, .inl (zA g36))), (a37, .inl (cI, 901, .inl (zA g37))), (m0, .inr (5, [.int (iZ x9), .int (iZ z1), .int (iZ z2), .int (iZ z3), .int (iZ z4), .int (iZ z5), .ref a6, .int (iZ z7), .ref a8, .int (iZ z9), .ref a10, .ref a11, .ref a12, .ref a13, .ref a14, .ref a15, .int (iZ z16), .ref a17, .int (iZ z18), .ref a19, .ref a20, .ref a21, .ref a22, .ref a23, .ref a24, .int (iZ z25), .ref a26, .ref a27, .ref a28, .int (iZ z29), .int (iZ z30), .int (iZ z31), .int (iZ z32), .int (iZ z33), .int (iZ z34), .ref a35, .ref a36, .ref a37, .ref a38, .ref a39, .ref a40, .ref a41, .int (iZ z42), .int (iZ z43), .ref a44, .ref a45]))]) (pc' := 27) (st' := [.int (iZ 0)]) rfl rfl rfl rfl ?_
      refine g_perm (ws' := [(m0, .inr (5, [.int (iZ x9), .int (iZ z1), .int (iZ z2), .int (iZ z3), .int (iZ z4), .int (iZ z5), .ref a6, .int (iZ z7), .ref a8, .int (iZ z9), .ref a10, .ref a11, .ref a12, .ref a13, .ref a14, .ref a15, .int (iZ z16), .ref a17, .int (iZ z18), .ref a19, .ref a20, .ref a21, .ref a22, .ref a23, .ref a24, .int (iZ z25), .ref a26, .ref a27, .ref a28, .int (iZ z29), .int (iZ z30), .int (iZ z31), .int (iZ z32), .int (iZ z33), .int (iZ z34), .ref a35, .ref a36, .ref a37, .ref a38, .ref a39, .ref a40, .ref a41, .int (iZ z42), .int (iZ z43), .ref a44, .ref a45])), (a35, .inl (cI, 900, .inl (zA g35))), (a36, .inl (cI, 900, .inl (zA g36))), (a37, .inl (cI, 901, .inl (zA g37)))]) [3, 0, 1, 2] (by decide) rfl ?_
      simp at p9
      subst p9
      refine g_if_ne X 52 dX5_guide_27 (by decide) (by omega) (fun c_27 => ?_) (fun c_27 => ?_)
      · omega
      · skip
        refine g_aload_n X 0 dX5_guide_30 rfl rfl ?_
        refine g_iload_n X 2 dX5_guide_31 rfl rfl ?_
        refine g_if_lt X 40 dX5_guide_32 (by decide) (by omega) (fun c_32 => ?_) (fun c_32 => ?_)
        · skip
          refine g_iconst X dX5_guide_40 ?_
          refine g_goto X 45 dX5_guide_41 (by decide) ?_
          refine g_iconst X dX5_guide_45 ?_
          refine g_callV0 X (As := [.int (iZ 1), .int (iZ 2)]) (rest := []) (ctX5_bad l D cB cI cJ cY m0 a6 a8 a10 a11 a12 a13 a14 a15 a17 a19 a20 a21 a22 a23 a24 a26 a27 a28 a35 a36 a37 a38 a39 a40 a41 a44 a45 0 z1 z2 z3 z4 z5 z7 z9 z16 z18 z25 z29 z30 z31 z32 z33 z34 z42 z43 1 2 (by omega)) (cwV 2 X.2.2.2.2.1 gX5_guide_X5_bad rfl rfl rfl (by decide +kernel) ⟨by decide, by decide⟩) 0 rfl rfl (wc := [(m0, .inr (5, [.int (iZ 0), .int (iZ z1), .int (iZ z2), .int (iZ z3), .int (iZ z4), .int (iZ z5), .ref a6, .int (iZ z7), .ref a8, .int (iZ z9), .ref a10, .ref a11, .ref a12, .ref a13, .ref a14, .ref a15, .int (iZ z16), .ref a17, .int (iZ z18), .ref a19, .ref a20, .ref a21, .ref a22, .ref a23, .ref a24, .int (iZ z25), .ref a26, .ref a27, .ref a28, .int (iZ z29), .int (iZ z30), .int (iZ z31), .int (iZ z32), .int (iZ z33), .int (iZ z34), .ref a35, .ref a36, .ref a37, .ref a38, .ref a39, .ref a40, .ref a41, .int (iZ z42), .int (iZ z43), .ref a44, .ref a45]))]) (wr := [(a35, .inl (cI, 900, .inl (zA g35))), (a36, .inl (cI, 900, .inl (zA g36))), (a37, .inl (cI, 901, .inl (zA g37)))]) [0] [1, 2, 3] rfl rfl (by decide) (by decide) (by decide) rfl rfl (Nat.le_of_ble_eq_true rfl) ⟨by decide, by decide⟩ dX5_guide_46 (fun v w1 hq => ?_)
          obtain ⟨x9, rfl, p9, rfl⟩ := hq
          refine g_eq (ws' := [(a35, .inl (cI, 900, .inl (zA g35))), (a36, .inl (cI, 900, .inl (zA g36))), (a37, .inl (cI, 901, .inl (zA g37))), (m0, .inr (5, [.int (iZ x9), .int (iZ z1), .int (iZ z2), .int (iZ z3), .int (iZ z4), .int (iZ z5), .ref a6, .int (iZ z7), .ref a8, .int (iZ z9), .ref a10, .ref a11, .ref a12, .ref a13, .ref a14, .ref a15, .int (iZ z16), .ref a17, .int (iZ z18), .ref a19, .ref a20, .ref a21, .ref a22, .ref a23, .ref a24, .int (iZ z25), .ref a26, .ref a27, .ref a28, .int (iZ z29), .int (iZ z30), .int (iZ z31), .int (iZ z32), .int (iZ z33), .int (iZ z34), .ref a35, .ref a36, .ref a37, .ref a38, .ref a39, .ref a40, .ref a41, .int (iZ z42), .int (iZ z43), .ref a44, .ref a45]))]) (pc' := 49) (st' := [.int (iZ 1)]) rfl rfl rfl rfl ?_
          refine g_perm (ws' := [(m0, .inr (5, [.int (iZ x9), .int (iZ z1), .int (iZ z2), .int (iZ z3), .int (iZ z4), .int (iZ z5), .ref a6, .int (iZ z7), .ref a8, .int (iZ z9), .ref a10, .ref a11, .ref a12, .ref a13, .ref a14, .ref a15, .int (iZ z16), .ref a17, .int (iZ z18), .ref a19, .ref a20, .ref a21, .ref a22, .ref a23, .ref a24, .int (iZ z25), .ref a26, .ref a27, .ref a28, .int (iZ z29), .int (iZ z30), .int (iZ z31), .int (iZ z32), .int (iZ z33), .int (iZ z34), .ref a35, .ref a36, .ref a37, .ref a38, .ref a39, .ref a40, .ref a41, .int (iZ z42), .int (iZ z43), .ref a44, .ref a45])), (a35, .inl (cI, 900, .inl (zA g35))), (a36, .inl (cI, 900, .inl (zA g36))), (a37, .inl (cI, 901, .inl (zA g37)))]) [3, 0, 1, 2] (by decide) rfl ?_
          simp at p9
          subst p9
          refine g_if_eq X 54 dX5_guide_49 (by decide) (by omega) (fun c_49 => ?_) (fun c_49 => ?_)
          · omega
          · skip
            refine g_iconst X dX5_guide_52 ?_
            exact g_iret X hr (by decide) (by decide) dX5_guide_53 ⟨_, _, rfl, by first | exact Or.inl ⟨by omega, rfl, rfl⟩ | exact Or.inr (Or.inl ⟨by omega, by omega, rfl, rfl⟩), rfl⟩
        · skip
          refine g_iload_n X 2 dX5_guide_35 rfl rfl ?_
          refine g_iconst X dX5_guide_36 ?_
          refine g_icmp_le X 44 dX5_guide_37 (by decide) (by omega) (by omega) (fun c_37 => ?_) (fun c_37 => ?_)
          · skip
            refine g_iconst X dX5_guide_44 ?_
            refine g_iconst X dX5_guide_45 ?_
            refine g_callV0 X (As := [.int (iZ 0), .int (iZ 2)]) (rest := []) (ctX5_bad l D cB cI cJ cY m0 a6 a8 a10 a11 a12 a13 a14 a15 a17 a19 a20 a21 a22 a23 a24 a26 a27 a28 a35 a36 a37 a38 a39 a40 a41 a44 a45 0 z1 z2 z3 z4 z5 z7 z9 z16 z18 z25 z29 z30 z31 z32 z33 z34 z42 z43 0 2 (by omega)) (cwV 2 X.2.2.2.2.1 gX5_guide_X5_bad rfl rfl rfl (by decide +kernel) ⟨by decide, by decide⟩) 0 rfl rfl (wc := [(m0, .inr (5, [.int (iZ 0), .int (iZ z1), .int (iZ z2), .int (iZ z3), .int (iZ z4), .int (iZ z5), .ref a6, .int (iZ z7), .ref a8, .int (iZ z9), .ref a10, .ref a11, .ref a12, .ref a13, .ref a14, .ref a15, .int (iZ z16), .ref a17, .int (iZ z18), .ref a19, .ref a20, .ref a21, .ref a22, .ref a23, .ref a24, .int (iZ z25), .ref a26, .ref a27, .ref a28, .int (iZ z29), .int (iZ z30), .int (iZ z31), .int (iZ z32), .int (iZ z33), .int (iZ z34), .ref a35, .ref a36, .ref a37, .ref a38, .ref a39, .ref a40, .ref a41, .int (iZ z42), .int (iZ z43), .ref a44, .ref a45]))]) (wr := [(a35, .inl (cI, 900, .inl (zA g35))), (a36, .inl (cI, 900, .inl (zA g36))), (a37, .inl (cI, 901, .inl (zA g37)))]) [0] [1, 2, 3] rfl rfl (by decide) (by decide) (by decide) rfl rfl (Nat.le_of_ble_eq_true rfl) ⟨by decide, by decide⟩ dX5_guide_46 (fun v w1 hq => ?_)
            obtain ⟨x9, rfl, p9, rfl⟩ := hq
            refine g_eq (ws' := [(a35, .inl (cI, 900, .inl (zA g35))), (a36, .inl (cI, 900, .inl (zA g36))), (a37, .inl (cI, 901, .inl (zA g37))), (m0, .inr (5, [.int (iZ x9), .int (iZ z1), .int (iZ z2), .int (iZ z3), .int (iZ z4), .int (iZ z5), .ref a6, .int (iZ z7), .ref a8, .int (iZ z9), .ref a10, .ref a11, .ref a12, .ref a13, .ref a14, .ref a15, .int (iZ z16), .ref a17, .int (iZ z18), .ref a19, .ref a20, .ref a21, .ref a22, .ref a23, .ref a24, .int (iZ z25), .ref a26, .ref a27, .ref a28, .int (iZ z29), .int (iZ z30), .int (iZ z31), .int (iZ z32), .int (iZ z33), .int (iZ z34), .ref a35, .ref a36, .ref a37, .ref a38, .ref a39, .ref a40, .ref a41, .int (iZ z42), .int (iZ z43), .ref a44, .ref a45]))]) (pc' := 49) (st' := [.int (iZ 0)]) rfl rfl rfl rfl ?_
            refine g_perm (ws' := [(m0, .inr (5, [.int (iZ x9), .int (iZ z1), .int (iZ z2), .int (iZ z3), .int (iZ z4), .int (iZ z5), .ref a6, .int (iZ z7), .ref a8, .int (iZ z9), .ref a10, .ref a11, .ref a12, .ref a13, .ref a14, .ref a15, .int (iZ z16), .ref a17, .int (iZ z18), .ref a19, .ref a20, .ref a21, .ref a22, .ref a23, .ref a24, .int (iZ z25), .ref a26, .ref a27, .ref a28, .int (iZ z29), .int (iZ z30), .int (iZ z31), .int (iZ z32), .int (iZ z33), .int (iZ z34), .ref a35, .ref a36, .ref a37, .ref a38, .ref a39, .ref a40, .ref a41, .int (iZ z42), .int (iZ z43), .ref a44, .ref a45])), (a35, .inl (cI, 900, .inl (zA g35))), (a36, .inl (cI, 900, .inl (zA g36))), (a37, .inl (cI, 901, .inl (zA g37)))]) [3, 0, 1, 2] (by decide) rfl ?_
            simp at p9
            subst p9
            refine g_if_eq X 54 dX5_guide_49 (by decide) (by omega) (fun c_49 => ?_) (fun c_49 => ?_)
            · skip
              have hq := hpg pg (by omega) (by omega)
              have r_9 := h37b (pg * z34) (by omega)
              refine g_aload_n X 0 dX5_guide_54 rfl rfl ?_
              refine g_get X (index := 92) (ref := "GuideWordsModel") hin5 0 rfl rfl 37 (by decide) rfl (by decide +kernel) (v := .ref a37) rfl dX5_guide_55 ?_
              refine g_iload_n X 1 dX5_guide_58 rfl rfl ?_
              refine g_aload_n X 0 dX5_guide_59 rfl rfl ?_
              refine g_get X (index := 83) (ref := "GuideWordsModel") hin5 0 rfl rfl 34 (by decide) rfl (by decide +kernel) (v := .int (iZ z34)) rfl dX5_guide_60 ?_
              refine g_imul X dX5_guide_63 ?_
              refine g_iald X 3 1 rfl rfl (by omega) (by decide) dX5_guide_64 ?_
              have r_64 := h37 (pg * z34) (by omega)
              refine g_istore_n (lv2 := [(3, .int (iZ (g37 (pg * z34)))), (0, .ref m0), (1, .int (iZ pg)), (2, .int (iZ wh))]) X dX5_guide_65 rfl (by decide) rfl ?_
              refine g_iload_n X 2 dX5_guide_66 rfl rfl ?_
              refine g_iconst X dX5_guide_67 ?_
              refine g_iadd X dX5_guide_68 ?_
              refine g_aload_n X 1 dX5_guide_69 rfl rfl ?_
              refine g_get X (index := 83) (ref := "GuideWordsModel") hin5 0 rfl rfl 34 (by decide) rfl (by decide +kernel) (v := .int (iZ z34)) rfl dX5_guide_70 ?_
              refine g_imul X dX5_guide_73 ?_
              refine g_aload_n X 1 dX5_guide_74 rfl rfl ?_
              refine g_get X (index := 173) (ref := "GuideWordsModel") hin5 0 rfl rfl 31 (by decide) rfl (by decide +kernel) (v := .int (iZ z31)) rfl dX5_guide_75 ?_
              refine g_icmp_ge X 97 dX5_guide_78 (by decide) (by omega) (by omega) (fun c_78 => ?_) (fun c_78 => ?_)
              · skip
                refine g_aload_n X 1 dX5_guide_97 rfl rfl ?_
                refine g_get X (index := 170) (ref := "GuideWordsModel") hin5 0 rfl rfl 32 (by decide) rfl (by decide +kernel) (v := .int (iZ z32)) rfl dX5_guide_98 ?_
                refine g_istore (lv2 := [(4, .int (iZ z32)), (3, .int (iZ (g37 (pg * z34)))), (0, .ref m0), (1, .int (iZ pg)), (2, .int (iZ wh))]) X dX5_guide_101 (by decide) rfl ?_
                refine g_iconst X dX5_guide_103 ?_
                refine g_istore (lv2 := [(5, .int (iZ ((-1)))), (4, .int (iZ z32)), (3, .int (iZ (g37 (pg * z34)))), (0, .ref m0), (1, .int (iZ pg)), (2, .int (iZ wh))]) X dX5_guide_104 (by decide) rfl ?_
                refine g_iconst X dX5_guide_106 ?_
                refine g_istore (lv2 := [(6, .int (iZ ((-1)))), (5, .int (iZ ((-1)))), (4, .int (iZ z32)), (3, .int (iZ (g37 (pg * z34)))), (0, .ref m0), (1, .int (iZ pg)), (2, .int (iZ wh))]) X dX5_guide_107 (by decide) rfl ?_
                refine g_iload_n X 3 dX5_guide_109 rfl rfl ?_
                refine g_istore (lv2 := [(7, .int (iZ (g37 (pg * z34)))), (6, .int (iZ ((-1)))), (5, .int (iZ ((-1)))), (4, .int (iZ z32)), (3, .int (iZ (g37 (pg * z34)))), (0, .ref m0), (1, .int (iZ pg)), (2, .int (iZ wh))]) X dX5_guide_110 (by decide) rfl ?_
                have hto : z32 = toM z31 z32 z34 g37 pg := by unfold toM; first | rw [if_pos (by omega)] | rw [if_neg (by omega)]
                refine g_lv (lv' := [(0, .ref m0), (1, .int (iZ pg)), (2, .int (iZ wh)), (3, .int (iZ (g37 (pg * z34)))), (4, .int (iZ z32)), (5, .int (iZ ((-1)))), (6, .int (iZ ((-1)))), (7, .int (iZ (g37 (pg * z34))))]) [5, 6, 7, 4, 3, 2, 1, 0] rfl ?_
                have loop_112 : ∀ (kf : Nat) (fi : Int) (la : Int) (k : Int), (hk : g37 (pg * z34) ≤ k ∧ k ≤ 900) → (hkt : k ≤ toM z31 z32 z34 g37 pg ∨ k = g37 (pg * z34)) → (hfl : -1 ≤ fi ∧ fi < 150 ∧ -1 ≤ la ∧ la < 150) → (hf : gdI g35 g36 (g37 (pg * z34)) k fi la) → (900 - k).toNat < kf → gW p l e { frames := 1, cells := 0, slots := 0, locals := 22 } s m args below meth c D A 8 0 0 (MQ below (gQ D (gT cB cI cJ cY) (qX5_guide cB cI cJ cY m0 a6 a8 a10 a11 a12 a13 a14 a15 a17 a19 a20 a21 a22 a23 a24 a26 a27 a28 a35 a36 a37 a38 a39 a40 a41 a44 a45 z0 z1 z2 z3 z4 z5 z7 z9 z16 z18 z25 z29 z30 z31 z32 z33 z34 z42 z43 g35 g36 g37 pg wh) A) args s 0 0 A) [(m0, .inr (5, [.int (iZ 0), .int (iZ z1), .int (iZ z2), .int (iZ z3), .int (iZ z4), .int (iZ z5), .ref a6, .int (iZ z7), .ref a8, .int (iZ z9), .ref a10, .ref a11, .ref a12, .ref a13, .ref a14, .ref a15, .int (iZ z16), .ref a17, .int (iZ z18), .ref a19, .ref a20, .ref a21, .ref a22, .ref a23, .ref a24, .int (iZ z25), .ref a26, .ref a27, .ref a28, .int (iZ z29), .int (iZ z30), .int (iZ z31), .int (iZ z32), .int (iZ z33), .int (iZ z34), .ref a35, .ref a36, .ref a37, .ref a38, .ref a39, .ref a40, .ref a41, .int (iZ z42), .int (iZ z43), .ref a44, .ref a45])), (a35, .inl (cI, 900, .inl (zA g35))), (a36, .inl (cI, 900, .inl (zA g36))), (a37, .inl (cI, 901, .inl (zA g37)))] 112 [(0, .ref m0), (1, .int (iZ pg)), (2, .int (iZ wh)), (3, .int (iZ (g37 (pg * z34)))), (4, .int (iZ z32)), (5, .int (iZ fi)), (6, .int (iZ la)), (7, .int (iZ k))] [] := by
                  intro kf
                  induction kf with
                  | zero => intro fi la k hk hkt hfl hf hm; exact absurd hm (Nat.not_lt_zero _)
                  | succ kf ih_112 =>
                    intro fi la k hk hkt hfl hf hm
                    refine g_iload X 7 dX5_guide_112 rfl ?_
                    refine g_iload X 4 dX5_guide_114 rfl ?_
                    refine g_icmp_ge X 166 dX5_guide_116 (by decide) (by omega) (by omega) (fun c_116 => ?_) (fun c_116 => ?_)
                    · skip
                      rw [hto] at c_116
                      refine g_iload X 5 dX5_guide_166 rfl ?_
                      refine g_if_ge X 178 dX5_guide_168 (by decide) (by omega) (fun c_168 => ?_) (fun c_168 => ?_)
                      · skip
                        have hlt : ∀ q : Int, g37 (pg * z34) ≤ q → q < k → g36 q = 0 → q < toM z31 z32 z34 g37 pg := fun q h1 h2 h3 => by omega
                        refine g_iload_n X 2 dX5_guide_178 rfl rfl ?_
                        refine g_if_ne X 187 dX5_guide_179 (by decide) (by omega) (fun c_179 => ?_) (fun c_179 => ?_)
                        · skip
                          have hsome : (wh = 0 ∧ fgM g35 g36 (g37 (pg * z34)) (toM z31 z32 z34 g37 pg) la) ∨ (wh = 1 ∧ lgM g35 g36 (g37 (pg * z34)) (toM z31 z32 z34 g37 pg) la) := by
                            rcases hf with h | ⟨a1, -, ⟨q, q1, q2, q3, q4, q5⟩⟩
                            · omega
                            · exact Or.inr ⟨by omega, Or.inl ⟨q, q1, hlt q q1 q2 q3, q3, fun i h1 h2 => q4 i h1 (by omega), q5⟩⟩
                          refine g_iload X 6 dX5_guide_187 rfl ?_
                          exact g_iret X hr (by decide) (by decide) dX5_guide_189 ⟨_, _, rfl, Or.inr (Or.inr ⟨by omega, by omega, rfl, hsome⟩), rfl⟩
                        · skip
                          have hsome : (wh = 0 ∧ fgM g35 g36 (g37 (pg * z34)) (toM z31 z32 z34 g37 pg) fi) ∨ (wh = 1 ∧ lgM g35 g36 (g37 (pg * z34)) (toM z31 z32 z34 g37 pg) fi) := by
                            rcases hf with h | ⟨a1, ⟨q, q1, q2, q3, q4, q5⟩, -⟩
                            · omega
                            · exact Or.inl ⟨c_179, Or.inl ⟨q, q1, hlt q q1 q2 q3, q3, q4, q5⟩⟩
                          refine g_iload X 5 dX5_guide_182 rfl ?_
                          refine g_goto X 189 dX5_guide_184 (by decide) ?_
                          exact g_iret X hr (by decide) (by decide) dX5_guide_189 ⟨_, _, rfl, Or.inr (Or.inr ⟨by omega, by omega, rfl, hsome⟩), rfl⟩
                      · skip
                        have hnone : (wh = 0 ∧ fgM g35 g36 (g37 (pg * z34)) (toM z31 z32 z34 g37 pg) (g35 (g37 (pg * z34)))) ∨ (wh = 1 ∧ lgM g35 g36 (g37 (pg * z34)) (toM z31 z32 z34 g37 pg) (g35 (g37 (pg * z34)))) := by
                          rcases hf with ⟨a1, a2, a3⟩ | h
                          · rcases (show wh = 0 ∨ wh = 1 by omega) with h | h
                            · exact Or.inl ⟨h, Or.inr ⟨fun i h1 h2 => a3 i h1 (by omega), rfl⟩⟩
                            · exact Or.inr ⟨h, Or.inr ⟨fun i h1 h2 => a3 i h1 (by omega), rfl⟩⟩
                          · omega
                        refine g_aload_n X 0 dX5_guide_171 rfl rfl ?_
                        refine g_get X (index := 86) (ref := "GuideWordsModel") hin5 0 rfl rfl 35 (by decide) rfl (by decide +kernel) (v := .ref a35) rfl dX5_guide_172 ?_
                        refine g_iload_n X 3 dX5_guide_175 rfl rfl ?_
                        refine g_iald X 1 1 rfl rfl (by omega) (by decide) dX5_guide_176 ?_
                        have r_176 := h35 (g37 (pg * z34)) (by omega)
                        exact g_iret X hr (by decide) (by decide) dX5_guide_177 ⟨_, _, rfl, Or.inr (Or.inr ⟨by omega, by omega, rfl, hnone⟩), rfl⟩
                    · skip
                      refine g_aload_n X 0 dX5_guide_119 rfl rfl ?_
                      refine g_get X (index := 89) (ref := "GuideWordsModel") hin5 0 rfl rfl 36 (by decide) rfl (by decide +kernel) (v := .ref a36) rfl dX5_guide_120 ?_
                      refine g_iload X 7 dX5_guide_123 rfl ?_
                      refine g_iald X 2 1 rfl rfl (by omega) (by decide) dX5_guide_125 ?_
                      have r_125 := h36 k (by omega)
                      refine g_if_eq X 132 dX5_guide_126 (by decide) (by omega) (fun c_126 => ?_) (fun c_126 => ?_)
                      · skip
                        refine g_iload X 5 dX5_guide_132 rfl ?_
                        refine g_if_ge X 147 dX5_guide_134 (by decide) (by omega) (fun c_134 => ?_) (fun c_134 => ?_)
                        · skip
                          refine g_iload X 5 dX5_guide_147 rfl ?_
                          refine g_istore (lv2 := [(5, .int (iZ fi)), (0, .ref m0), (1, .int (iZ pg)), (2, .int (iZ wh)), (3, .int (iZ (g37 (pg * z34)))), (4, .int (iZ z32)), (6, .int (iZ la)), (7, .int (iZ k))]) X dX5_guide_149 (by decide) rfl ?_
                          refine g_aload_n X 1 dX5_guide_151 rfl rfl ?_
                          refine g_get X (index := 86) (ref := "GuideWordsModel") hin5 0 rfl rfl 35 (by decide) rfl (by decide +kernel) (v := .ref a35) rfl dX5_guide_152 ?_
                          refine g_iload X 7 dX5_guide_155 rfl ?_
                          refine g_iald X 1 1 rfl rfl (by omega) (by decide) dX5_guide_157 ?_
                          have r_157 := h35 k (by omega)
                          refine g_istore (lv2 := [(6, .int (iZ (g35 k))), (5, .int (iZ fi)), (0, .ref m0), (1, .int (iZ pg)), (2, .int (iZ wh)), (3, .int (iZ (g37 (pg * z34)))), (4, .int (iZ z32)), (7, .int (iZ k))]) X dX5_guide_158 (by decide) rfl ?_
                          refine g_iinc (q := 7) (lv2 := [(7, .int (iZ (k + 1))), (6, .int (iZ (g35 k))), (5, .int (iZ fi)), (0, .ref m0), (1, .int (iZ pg)), (2, .int (iZ wh)), (3, .int (iZ (g37 (pg * z34)))), (4, .int (iZ z32))]) X dX5_guide_160 rfl (by decide) rfl ?_
                          refine g_goto X 112 dX5_guide_163 (by decide) ?_
                          have G1 : gdI g35 g36 (g37 (pg * z34)) (k + 1) (fi) (g35 k) := by
                            rcases hf with ⟨a1, a2, a3⟩ | ⟨a1, ⟨q, q1, q2, q3, q4, q5⟩, ⟨p9, p1, p2, p3, p4, p5⟩⟩
                            · first
                              | exact Or.inl ⟨a1, a2, fun i h1 h2 => by
                                  rcases (show i = k ∨ i < k by omega) with h | h
                                  · rw [h]; exact c_126
                                  · exact a3 i h1 h⟩
                              | exact Or.inr ⟨by omega, ⟨k, by omega, by omega, c_126, fun i h1 h2 => a3 i h1 h2, by first | rfl | omega⟩, ⟨k, by omega, by omega, c_126, fun i h1 h2 => by omega, rfl⟩⟩
                              | omega
                            · first
                              | exact Or.inr ⟨a1, ⟨q, q1, by omega, q3, q4, q5⟩, ⟨p9, p1, by omega, p3, fun i h1 h2 => by
                                  rcases (show i = k ∨ i < k by omega) with h | h
                                  · rw [h]; exact c_126
                                  · exact p4 i h1 h, p5⟩⟩
                              | exact Or.inr ⟨by omega, ⟨q, q1, by omega, q3, q4, q5⟩, ⟨k, by omega, by omega, c_126, fun i h1 h2 => by omega, rfl⟩⟩
                              | omega
                          refine g_lv (lv' := [(0, .ref m0), (1, .int (iZ pg)), (2, .int (iZ wh)), (3, .int (iZ (g37 (pg * z34)))), (4, .int (iZ z32)), (5, .int (iZ fi)), (6, .int (iZ (g35 k))), (7, .int (iZ (k + 1)))]) [3, 4, 5, 6, 7, 2, 1, 0] rfl ?_
                          exact ih_112 fi (g35 k) (k + 1) (by omega) (Or.inl (by omega)) (by omega) G1 (by omega)
                        · skip
                          refine g_aload_n X 0 dX5_guide_137 rfl rfl ?_
                          refine g_get X (index := 86) (ref := "GuideWordsModel") hin5 0 rfl rfl 35 (by decide) rfl (by decide +kernel) (v := .ref a35) rfl dX5_guide_138 ?_
                          refine g_iload X 7 dX5_guide_141 rfl ?_
                          refine g_iald X 1 1 rfl rfl (by omega) (by decide) dX5_guide_143 ?_
                          have r_143 := h35 k (by omega)
                          refine g_goto X 149 dX5_guide_144 (by decide) ?_
                          refine g_istore (lv2 := [(5, .int (iZ (g35 k))), (0, .ref m0), (1, .int (iZ pg)), (2, .int (iZ wh)), (3, .int (iZ (g37 (pg * z34)))), (4, .int (iZ z32)), (6, .int (iZ la)), (7, .int (iZ k))]) X dX5_guide_149 (by decide) rfl ?_
                          refine g_aload_n X 1 dX5_guide_151 rfl rfl ?_
                          refine g_get X (index := 86) (ref := "GuideWordsModel") hin5 0 rfl rfl 35 (by decide) rfl (by decide +kernel) (v := .ref a35) rfl dX5_guide_152 ?_
                          refine g_iload X 7 dX5_guide_155 rfl ?_
                          refine g_iald X 1 1 rfl rfl (by omega) (by decide) dX5_guide_157 ?_
                          have r_157 := h35 k (by omega)
                          refine g_istore (lv2 := [(6, .int (iZ (g35 k))), (5, .int (iZ (g35 k))), (0, .ref m0), (1, .int (iZ pg)), (2, .int (iZ wh)), (3, .int (iZ (g37 (pg * z34)))), (4, .int (iZ z32)), (7, .int (iZ k))]) X dX5_guide_158 (by decide) rfl ?_
                          refine g_iinc (q := 7) (lv2 := [(7, .int (iZ (k + 1))), (6, .int (iZ (g35 k))), (5, .int (iZ (g35 k))), (0, .ref m0), (1, .int (iZ pg)), (2, .int (iZ wh)), (3, .int (iZ (g37 (pg * z34)))), (4, .int (iZ z32))]) X dX5_guide_160 rfl (by decide) rfl ?_
                          refine g_goto X 112 dX5_guide_163 (by decide) ?_
                          have G1 : gdI g35 g36 (g37 (pg * z34)) (k + 1) (g35 k) (g35 k) := by
                            rcases hf with ⟨a1, a2, a3⟩ | ⟨a1, ⟨q, q1, q2, q3, q4, q5⟩, ⟨p9, p1, p2, p3, p4, p5⟩⟩
                            · first
                              | exact Or.inl ⟨a1, a2, fun i h1 h2 => by
                                  rcases (show i = k ∨ i < k by omega) with h | h
                                  · rw [h]; exact c_126
                                  · exact a3 i h1 h⟩
                              | exact Or.inr ⟨by omega, ⟨k, by omega, by omega, c_126, fun i h1 h2 => a3 i h1 h2, by first | rfl | omega⟩, ⟨k, by omega, by omega, c_126, fun i h1 h2 => by omega, rfl⟩⟩
                              | omega
                            · first
                              | exact Or.inr ⟨a1, ⟨q, q1, by omega, q3, q4, q5⟩, ⟨p9, p1, by omega, p3, fun i h1 h2 => by
                                  rcases (show i = k ∨ i < k by omega) with h | h
                                  · rw [h]; exact c_126
                                  · exact p4 i h1 h, p5⟩⟩
                              | exact Or.inr ⟨by omega, ⟨q, q1, by omega, q3, q4, q5⟩, ⟨k, by omega, by omega, c_126, fun i h1 h2 => by omega, rfl⟩⟩
                              | omega
                          refine g_lv (lv' := [(0, .ref m0), (1, .int (iZ pg)), (2, .int (iZ wh)), (3, .int (iZ (g37 (pg * z34)))), (4, .int (iZ z32)), (5, .int (iZ (g35 k))), (6, .int (iZ (g35 k))), (7, .int (iZ (k + 1)))]) [3, 4, 5, 6, 7, 2, 1, 0] rfl ?_
                          exact ih_112 (g35 k) (g35 k) (k + 1) (by omega) (Or.inl (by omega)) (by omega) G1 (by omega)
                      · skip
                        refine g_goto X 160 dX5_guide_129 (by decide) ?_
                        refine g_iinc (q := 7) (lv2 := [(7, .int (iZ (k + 1))), (0, .ref m0), (1, .int (iZ pg)), (2, .int (iZ wh)), (3, .int (iZ (g37 (pg * z34)))), (4, .int (iZ z32)), (5, .int (iZ fi)), (6, .int (iZ la))]) X dX5_guide_160 rfl (by decide) rfl ?_
                        refine g_goto X 112 dX5_guide_163 (by decide) ?_
                        have G1 : gdI g35 g36 (g37 (pg * z34)) (k + 1) (fi) (la) := by
                          rcases hf with ⟨a1, a2, a3⟩ | ⟨a1, ⟨q, q1, q2, q3, q4, q5⟩, ⟨p9, p1, p2, p3, p4, p5⟩⟩
                          · first
                            | exact Or.inl ⟨a1, a2, fun i h1 h2 => by
                                rcases (show i = k ∨ i < k by omega) with h | h
                                · rw [h]; exact c_126
                                · exact a3 i h1 h⟩
                            | exact Or.inr ⟨by omega, ⟨k, by omega, by omega, c_126, fun i h1 h2 => a3 i h1 h2, by first | rfl | omega⟩, ⟨k, by omega, by omega, c_126, fun i h1 h2 => by omega, rfl⟩⟩
                            | omega
                          · first
                            | exact Or.inr ⟨a1, ⟨q, q1, by omega, q3, q4, q5⟩, ⟨p9, p1, by omega, p3, fun i h1 h2 => by
                                rcases (show i = k ∨ i < k by omega) with h | h
                                · rw [h]; exact c_126
                                · exact p4 i h1 h, p5⟩⟩
                            | exact Or.inr ⟨by omega, ⟨q, q1, by omega, q3, q4, q5⟩, ⟨k, by omega, by omega, c_126, fun i h1 h2 => by omega, rfl⟩⟩
                            | omega
                        refine g_lv (lv' := [(0, .ref m0), (1, .int (iZ pg)), (2, .int (iZ wh)), (3, .int (iZ (g37 (pg * z34)))), (4, .int (iZ z32)), (5, .int (iZ fi)), (6, .int (iZ la)), (7, .int (iZ (k + 1)))]) [1, 2, 3, 4, 5, 6, 7, 0] rfl ?_
                        exact ih_112 fi la (k + 1) (by omega) (Or.inl (by omega)) (by omega) G1 (by omega)
                exact loop_112 _ ((-1)) ((-1)) (g37 (pg * z34)) (by omega) (Or.inr rfl) (by omega) (Or.inl ⟨rfl, rfl, fun i h1 h2 => by omega⟩) (Nat.lt_succ_self _)
              · skip
                refine g_aload_n X 1 dX5_guide_81 rfl rfl ?_
                refine g_get X (index := 92) (ref := "GuideWordsModel") hin5 0 rfl rfl 37 (by decide) rfl (by decide +kernel) (v := .ref a37) rfl dX5_guide_82 ?_
                refine g_iload_n X 2 dX5_guide_85 rfl rfl ?_
                refine g_iconst X dX5_guide_86 ?_
                refine g_iadd X dX5_guide_87 ?_
                refine g_aload_n X 1 dX5_guide_88 rfl rfl ?_
                refine g_get X (index := 83) (ref := "GuideWordsModel") hin5 0 rfl rfl 34 (by decide) rfl (by decide +kernel) (v := .int (iZ z34)) rfl dX5_guide_89 ?_
                refine g_imul X dX5_guide_92 ?_
                refine g_iald X 3 1 rfl rfl (by omega) (by decide) dX5_guide_93 ?_
                have r_93 := h37 ((pg + 1) * z34) (by omega)
                refine g_goto X 101 dX5_guide_94 (by decide) ?_
                refine g_istore (lv2 := [(4, .int (iZ (g37 ((pg + 1) * z34)))), (3, .int (iZ (g37 (pg * z34)))), (0, .ref m0), (1, .int (iZ pg)), (2, .int (iZ wh))]) X dX5_guide_101 (by decide) rfl ?_
                refine g_iconst X dX5_guide_103 ?_
                refine g_istore (lv2 := [(5, .int (iZ ((-1)))), (4, .int (iZ (g37 ((pg + 1) * z34)))), (3, .int (iZ (g37 (pg * z34)))), (0, .ref m0), (1, .int (iZ pg)), (2, .int (iZ wh))]) X dX5_guide_104 (by decide) rfl ?_
                refine g_iconst X dX5_guide_106 ?_
                refine g_istore (lv2 := [(6, .int (iZ ((-1)))), (5, .int (iZ ((-1)))), (4, .int (iZ (g37 ((pg + 1) * z34)))), (3, .int (iZ (g37 (pg * z34)))), (0, .ref m0), (1, .int (iZ pg)), (2, .int (iZ wh))]) X dX5_guide_107 (by decide) rfl ?_
                refine g_iload_n X 3 dX5_guide_109 rfl rfl ?_
                refine g_istore (lv2 := [(7, .int (iZ (g37 (pg * z34)))), (6, .int (iZ ((-1)))), (5, .int (iZ ((-1)))), (4, .int (iZ (g37 ((pg + 1) * z34)))), (3, .int (iZ (g37 (pg * z34)))), (0, .ref m0), (1, .int (iZ pg)), (2, .int (iZ wh))]) X dX5_guide_110 (by decide) rfl ?_
                have hto : g37 ((pg + 1) * z34) = toM z31 z32 z34 g37 pg := by unfold toM; first | rw [if_pos (by omega)] | rw [if_neg (by omega)]
                refine g_lv (lv' := [(0, .ref m0), (1, .int (iZ pg)), (2, .int (iZ wh)), (3, .int (iZ (g37 (pg * z34)))), (4, .int (iZ (g37 ((pg + 1) * z34)))), (5, .int (iZ ((-1)))), (6, .int (iZ ((-1)))), (7, .int (iZ (g37 (pg * z34))))]) [5, 6, 7, 4, 3, 2, 1, 0] rfl ?_
                have loop_112 : ∀ (kf : Nat) (fi : Int) (la : Int) (k : Int), (hk : g37 (pg * z34) ≤ k ∧ k ≤ 900) → (hkt : k ≤ toM z31 z32 z34 g37 pg ∨ k = g37 (pg * z34)) → (hfl : -1 ≤ fi ∧ fi < 150 ∧ -1 ≤ la ∧ la < 150) → (hf : gdI g35 g36 (g37 (pg * z34)) k fi la) → (900 - k).toNat < kf → gW p l e { frames := 1, cells := 0, slots := 0, locals := 22 } s m args below meth c D A 8 0 0 (MQ below (gQ D (gT cB cI cJ cY) (qX5_guide cB cI cJ cY m0 a6 a8 a10 a11 a12 a13 a14 a15 a17 a19 a20 a21 a22 a23 a24 a26 a27 a28 a35 a36 a37 a38 a39 a40 a41 a44 a45 z0 z1 z2 z3 z4 z5 z7 z9 z16 z18 z25 z29 z30 z31 z32 z33 z34 z42 z43 g35 g36 g37 pg wh) A) args s 0 0 A) [(m0, .inr (5, [.int (iZ 0), .int (iZ z1), .int (iZ z2), .int (iZ z3), .int (iZ z4), .int (iZ z5), .ref a6, .int (iZ z7), .ref a8, .int (iZ z9), .ref a10, .ref a11, .ref a12, .ref a13, .ref a14, .ref a15, .int (iZ z16), .ref a17, .int (iZ z18), .ref a19, .ref a20, .ref a21, .ref a22, .ref a23, .ref a24, .int (iZ z25), .ref a26, .ref a27, .ref a28, .int (iZ z29), .int (iZ z30), .int (iZ z31), .int (iZ z32), .int (iZ z33), .int (iZ z34), .ref a35, .ref a36, .ref a37, .ref a38, .ref a39, .ref a40, .ref a41, .int (iZ z42), .int (iZ z43), .ref a44, .ref a45])), (a35, .inl (cI, 900, .inl (zA g35))), (a36, .inl (cI, 900, .inl (zA g36))), (a37, .inl (cI, 901, .inl (zA g37)))] 112 [(0, .ref m0), (1, .int (iZ pg)), (2, .int (iZ wh)), (3, .int (iZ (g37 (pg * z34)))), (4, .int (iZ (g37 ((pg + 1) * z34)))), (5, .int (iZ fi)), (6, .int (iZ la)), (7, .int (iZ k))] [] := by
                  intro kf
                  induction kf with
                  | zero => intro fi la k hk hkt hfl hf hm; exact absurd hm (Nat.not_lt_zero _)
                  | succ kf ih_112 =>
                    intro fi la k hk hkt hfl hf hm
                    refine g_iload X 7 dX5_guide_112 rfl ?_
                    refine g_iload X 4 dX5_guide_114 rfl ?_
                    refine g_icmp_ge X 166 dX5_guide_116 (by decide) (by omega) (by omega) (fun c_116 => ?_) (fun c_116 => ?_)
                    · skip
                      rw [hto] at c_116
                      refine g_iload X 5 dX5_guide_166 rfl ?_
                      refine g_if_ge X 178 dX5_guide_168 (by decide) (by omega) (fun c_168 => ?_) (fun c_168 => ?_)
                      · skip
                        have hlt : ∀ q : Int, g37 (pg * z34) ≤ q → q < k → g36 q = 0 → q < toM z31 z32 z34 g37 pg := fun q h1 h2 h3 => by omega
                        refine g_iload_n X 2 dX5_guide_178 rfl rfl ?_
                        refine g_if_ne X 187 dX5_guide_179 (by decide) (by omega) (fun c_179 => ?_) (fun c_179 => ?_)
                        · skip
                          have hsome : (wh = 0 ∧ fgM g35 g36 (g37 (pg * z34)) (toM z31 z32 z34 g37 pg) la) ∨ (wh = 1 ∧ lgM g35 g36 (g37 (pg * z34)) (toM z31 z32 z34 g37 pg) la) := by
                            rcases hf with h | ⟨a1, -, ⟨q, q1, q2, q3, q4, q5⟩⟩
                            · omega
                            · exact Or.inr ⟨by omega, Or.inl ⟨q, q1, hlt q q1 q2 q3, q3, fun i h1 h2 => q4 i h1 (by omega), q5⟩⟩
                          refine g_iload X 6 dX5_guide_187 rfl ?_
                          exact g_iret X hr (by decide) (by decide) dX5_guide_189 ⟨_, _, rfl, Or.inr (Or.inr ⟨by omega, by omega, rfl, hsome⟩), rfl⟩
                        · skip
                          have hsome : (wh = 0 ∧ fgM g35 g36 (g37 (pg * z34)) (toM z31 z32 z34 g37 pg) fi) ∨ (wh = 1 ∧ lgM g35 g36 (g37 (pg * z34)) (toM z31 z32 z34 g37 pg) fi) := by
                            rcases hf with h | ⟨a1, ⟨q, q1, q2, q3, q4, q5⟩, -⟩
                            · omega
                            · exact Or.inl ⟨c_179, Or.inl ⟨q, q1, hlt q q1 q2 q3, q3, q4, q5⟩⟩
                          refine g_iload X 5 dX5_guide_182 rfl ?_
                          refine g_goto X 189 dX5_guide_184 (by decide) ?_
                          exact g_iret X hr (by decide) (by decide) dX5_guide_189 ⟨_, _, rfl, Or.inr (Or.inr ⟨by omega, by omega, rfl, hsome⟩), rfl⟩
                      · skip
                        have hnone : (wh = 0 ∧ fgM g35 g36 (g37 (pg * z34)) (toM z31 z32 z34 g37 pg) (g35 (g37 (pg * z34)))) ∨ (wh = 1 ∧ lgM g35 g36 (g37 (pg * z34)) (toM z31 z32 z34 g37 pg) (g35 (g37 (pg * z34)))) := by
                          rcases hf with ⟨a1, a2, a3⟩ | h
                          · rcases (show wh = 0 ∨ wh = 1 by omega) with h | h
                            · exact Or.inl ⟨h, Or.inr ⟨fun i h1 h2 => a3 i h1 (by omega), rfl⟩⟩
                            · exact Or.inr ⟨h, Or.inr ⟨fun i h1 h2 => a3 i h1 (by omega), rfl⟩⟩
                          · omega
                        refine g_aload_n X 0 dX5_guide_171 rfl rfl ?_
                        refine g_get X (index := 86) (ref := "GuideWordsModel") hin5 0 rfl rfl 35 (by decide) rfl (by decide +kernel) (v := .ref a35) rfl dX5_guide_172 ?_
                        refine g_iload_n X 3 dX5_guide_175 rfl rfl ?_
                        refine g_iald X 1 1 rfl rfl (by omega) (by decide) dX5_guide_176 ?_
                        have r_176 := h35 (g37 (pg * z34)) (by omega)
                        exact g_iret X hr (by decide) (by decide) dX5_guide_177 ⟨_, _, rfl, Or.inr (Or.inr ⟨by omega, by omega, rfl, hnone⟩), rfl⟩
                    · skip
                      refine g_aload_n X 0 dX5_guide_119 rfl rfl ?_
                      refine g_get X (index := 89) (ref := "GuideWordsModel") hin5 0 rfl rfl 36 (by decide) rfl (by decide +kernel) (v := .ref a36) rfl dX5_guide_120 ?_
                      refine g_iload X 7 dX5_guide_123 rfl ?_
                      refine g_iald X 2 1 rfl rfl (by omega) (by decide) dX5_guide_125 ?_
                      have r_125 := h36 k (by omega)
                      refine g_if_eq X 132 dX5_guide_126 (by decide) (by omega) (fun c_126 => ?_) (fun c_126 => ?_)
                      · skip
                        refine g_iload X 5 dX5_guide_132 rfl ?_
                        refine g_if_ge X 147 dX5_guide_134 (by decide) (by omega) (fun c_134 => ?_) (fun c_134 => ?_)
                        · skip
                          refine g_iload X 5 dX5_guide_147 rfl ?_
                          refine g_istore (lv2 := [(5, .int (iZ fi)), (0, .ref m0), (1, .int (iZ pg)), (2, .int (iZ wh)), (3, .int (iZ (g37 (pg * z34)))), (4, .int (iZ (g37 ((pg + 1) * z34)))), (6, .int (iZ la)), (7, .int (iZ k))]) X dX5_guide_149 (by decide) rfl ?_
                          refine g_aload_n X 1 dX5_guide_151 rfl rfl ?_
                          refine g_get X (index := 86) (ref := "GuideWordsModel") hin5 0 rfl rfl 35 (by decide) rfl (by decide +kernel) (v := .ref a35) rfl dX5_guide_152 ?_
                          refine g_iload X 7 dX5_guide_155 rfl ?_
                          refine g_iald X 1 1 rfl rfl (by omega) (by decide) dX5_guide_157 ?_
                          have r_157 := h35 k (by omega)
                          refine g_istore (lv2 := [(6, .int (iZ (g35 k))), (5, .int (iZ fi)), (0, .ref m0), (1, .int (iZ pg)), (2, .int (iZ wh)), (3, .int (iZ (g37 (pg * z34)))), (4, .int (iZ (g37 ((pg + 1) * z34)))), (7, .int (iZ k))]) X dX5_guide_158 (by decide) rfl ?_
                          refine g_iinc (q := 7) (lv2 := [(7, .int (iZ (k + 1))), (6, .int (iZ (g35 k))), (5, .int (iZ fi)), (0, .ref m0), (1, .int (iZ pg)), (2, .int (iZ wh)), (3, .int (iZ (g37 (pg * z34)))), (4, .int (iZ (g37 ((pg + 1) * z34))))]) X dX5_guide_160 rfl (by decide) rfl ?_
                          refine g_goto X 112 dX5_guide_163 (by decide) ?_
                          have G1 : gdI g35 g36 (g37 (pg * z34)) (k + 1) (fi) (g35 k) := by
                            rcases hf with ⟨a1, a2, a3⟩ | ⟨a1, ⟨q, q1, q2, q3, q4, q5⟩, ⟨p9, p1, p2, p3, p4, p5⟩⟩
                            · first
                              | exact Or.inl ⟨a1, a2, fun i h1 h2 => by
                                  rcases (show i = k ∨ i < k by omega) with h | h
                                  · rw [h]; exact c_126
                                  · exact a3 i h1 h⟩
                              | exact Or.inr ⟨by omega, ⟨k, by omega, by omega, c_126, fun i h1 h2 => a3 i h1 h2, by first | rfl | omega⟩, ⟨k, by omega, by omega, c_126, fun i h1 h2 => by omega, rfl⟩⟩
                              | omega
                            · first
                              | exact Or.inr ⟨a1, ⟨q, q1, by omega, q3, q4, q5⟩, ⟨p9, p1, by omega, p3, fun i h1 h2 => by
                                  rcases (show i = k ∨ i < k by omega) with h | h
                                  · rw [h]; exact c_126
                                  · exact p4 i h1 h, p5⟩⟩
                              | exact Or.inr ⟨by omega, ⟨q, q1, by omega, q3, q4, q5⟩, ⟨k, by omega, by omega, c_126, fun i h1 h2 => by omega, rfl⟩⟩
                              | omega
                          refine g_lv (lv' := [(0, .ref m0), (1, .int (iZ pg)), (2, .int (iZ wh)), (3, .int (iZ (g37 (pg * z34)))), (4, .int (iZ (g37 ((pg + 1) * z34)))), (5, .int (iZ fi)), (6, .int (iZ (g35 k))), (7, .int (iZ (k + 1)))]) [3, 4, 5, 6, 7, 2, 1, 0] rfl ?_
                          exact ih_112 fi (g35 k) (k + 1) (by omega) (Or.inl (by omega)) (by omega) G1 (by omega)
                        · skip
                          refine g_aload_n X 0 dX5_guide_137 rfl rfl ?_
                          refine g_get X (index := 86) (ref := "GuideWordsModel") hin5 0 rfl rfl 35 (by decide) rfl (by decide +kernel) (v := .ref a35) rfl dX5_guide_138 ?_
                          refine g_iload X 7 dX5_guide_141 rfl ?_
                          refine g_iald X 1 1 rfl rfl (by omega) (by decide) dX5_guide_143 ?_
                          have r_143 := h35 k (by omega)
                          refine g_goto X 149 dX5_guide_144 (by decide) ?_
                          refine g_istore (lv2 := [(5, .int (iZ (g35 k))), (0, .ref m0), (1, .int (iZ pg)), (2, .int (iZ wh)), (3, .int (iZ (g37 (pg * z34)))), (4, .int (iZ (g37 ((pg + 1) * z34)))), (6, .int (iZ la)), (7, .int (iZ k))]) X dX5_guide_149 (by decide) rfl ?_
                          refine g_aload_n X 1 dX5_guide_151 rfl rfl ?_
                          refine g_get X (index := 86) (ref := "GuideWordsModel") hin5 0 rfl rfl 35 (by decide) rfl (by decide +kernel) (v := .ref a35) rfl dX5_guide_152 ?_
                          refine g_iload X 7 dX5_guide_155 rfl ?_
                          refine g_iald X 1 1 rfl rfl (by omega) (by decide) dX5_guide_157 ?_
                          have r_157 := h35 k (by omega)
                          refine g_istore (lv2 := [(6, .int (iZ (g35 k))), (5, .int (iZ (g35 k))), (0, .ref m0), (1, .int (iZ pg)), (2, .int (iZ wh)), (3, .int (iZ (g37 (pg * z34)))), (4, .int (iZ (g37 ((pg + 1) * z34)))), (7, .int (iZ k))]) X dX5_guide_158 (by decide) rfl ?_
                          refine g_iinc (q := 7) (lv2 := [(7, .int (iZ (k + 1))), (6, .int (iZ (g35 k))), (5, .int (iZ (g35 k))), (0, .ref m0), (1, .int (iZ pg)), (2, .int (iZ wh)), (3, .int (iZ (g37 (pg * z34)))), (4, .int (iZ (g37 ((pg + 1) * z34))))]) X dX5_guide_160 rfl (by decide) rfl ?_
                          refine g_goto X 112 dX5_guide_163 (by decide) ?_
                          have G1 : gdI g35 g36 (g37 (pg * z34)) (k + 1) (g35 k) (g35 k) := by
                            rcases hf with ⟨a1, a2, a3⟩ | ⟨a1, ⟨q, q1, q2, q3, q4, q5⟩, ⟨p9, p1, p2, p3, p4, p5⟩⟩
                            · first
                              | exact Or.inl ⟨a1, a2, fun i h1 h2 => by
                                  rcases (show i = k ∨ i < k by omega) with h | h
                                  · rw [h]; exact c_126
                                  · exact a3 i h1 h⟩
                              | exact Or.inr ⟨by omega, ⟨k, by omega, by omega, c_126, fun i h1 h2 => a3 i h1 h2, by first | rfl | omega⟩, ⟨k, by omega, by omega, c_126, fun i h1 h2 => by omega, rfl⟩⟩
                              | omega
                            · first
                              | exact Or.inr ⟨a1, ⟨q, q1, by omega, q3, q4, q5⟩, ⟨p9, p1, by omega, p3, fun i h1 h2 => by
                                  rcases (show i = k ∨ i < k by omega) with h | h
                                  · rw [h]; exact c_126
                                  · exact p4 i h1 h, p5⟩⟩
                              | exact Or.inr ⟨by omega, ⟨q, q1, by omega, q3, q4, q5⟩, ⟨k, by omega, by omega, c_126, fun i h1 h2 => by omega, rfl⟩⟩
                              | omega
                          refine g_lv (lv' := [(0, .ref m0), (1, .int (iZ pg)), (2, .int (iZ wh)), (3, .int (iZ (g37 (pg * z34)))), (4, .int (iZ (g37 ((pg + 1) * z34)))), (5, .int (iZ (g35 k))), (6, .int (iZ (g35 k))), (7, .int (iZ (k + 1)))]) [3, 4, 5, 6, 7, 2, 1, 0] rfl ?_
                          exact ih_112 (g35 k) (g35 k) (k + 1) (by omega) (Or.inl (by omega)) (by omega) G1 (by omega)
                      · skip
                        refine g_goto X 160 dX5_guide_129 (by decide) ?_
                        refine g_iinc (q := 7) (lv2 := [(7, .int (iZ (k + 1))), (0, .ref m0), (1, .int (iZ pg)), (2, .int (iZ wh)), (3, .int (iZ (g37 (pg * z34)))), (4, .int (iZ (g37 ((pg + 1) * z34)))), (5, .int (iZ fi)), (6, .int (iZ la))]) X dX5_guide_160 rfl (by decide) rfl ?_
                        refine g_goto X 112 dX5_guide_163 (by decide) ?_
                        have G1 : gdI g35 g36 (g37 (pg * z34)) (k + 1) (fi) (la) := by
                          rcases hf with ⟨a1, a2, a3⟩ | ⟨a1, ⟨q, q1, q2, q3, q4, q5⟩, ⟨p9, p1, p2, p3, p4, p5⟩⟩
                          · first
                            | exact Or.inl ⟨a1, a2, fun i h1 h2 => by
                                rcases (show i = k ∨ i < k by omega) with h | h
                                · rw [h]; exact c_126
                                · exact a3 i h1 h⟩
                            | exact Or.inr ⟨by omega, ⟨k, by omega, by omega, c_126, fun i h1 h2 => a3 i h1 h2, by first | rfl | omega⟩, ⟨k, by omega, by omega, c_126, fun i h1 h2 => by omega, rfl⟩⟩
                            | omega
                          · first
                            | exact Or.inr ⟨a1, ⟨q, q1, by omega, q3, q4, q5⟩, ⟨p9, p1, by omega, p3, fun i h1 h2 => by
                                rcases (show i = k ∨ i < k by omega) with h | h
                                · rw [h]; exact c_126
                                · exact p4 i h1 h, p5⟩⟩
                            | exact Or.inr ⟨by omega, ⟨q, q1, by omega, q3, q4, q5⟩, ⟨k, by omega, by omega, c_126, fun i h1 h2 => by omega, rfl⟩⟩
                            | omega
                        refine g_lv (lv' := [(0, .ref m0), (1, .int (iZ pg)), (2, .int (iZ wh)), (3, .int (iZ (g37 (pg * z34)))), (4, .int (iZ (g37 ((pg + 1) * z34)))), (5, .int (iZ fi)), (6, .int (iZ la)), (7, .int (iZ (k + 1)))]) [1, 2, 3, 4, 5, 6, 7, 0] rfl ?_
                        exact ih_112 fi la (k + 1) (by omega) (Or.inl (by omega)) (by omega) G1 (by omega)
                exact loop_112 _ ((-1)) ((-1)) (g37 (pg * z34)) (by omega) (Or.inr rfl) (by omega) (Or.inl ⟨rfl, rfl, fun i h1 h2 => by omega⟩) (Nat.lt_succ_self _)
            · omega
          · skip
            refine g_iconst X dX5_guide_40 ?_
            refine g_goto X 45 dX5_guide_41 (by decide) ?_
            refine g_iconst X dX5_guide_45 ?_
            refine g_callV0 X (As := [.int (iZ 1), .int (iZ 2)]) (rest := []) (ctX5_bad l D cB cI cJ cY m0 a6 a8 a10 a11 a12 a13 a14 a15 a17 a19 a20 a21 a22 a23 a24 a26 a27 a28 a35 a36 a37 a38 a39 a40 a41 a44 a45 0 z1 z2 z3 z4 z5 z7 z9 z16 z18 z25 z29 z30 z31 z32 z33 z34 z42 z43 1 2 (by omega)) (cwV 2 X.2.2.2.2.1 gX5_guide_X5_bad rfl rfl rfl (by decide +kernel) ⟨by decide, by decide⟩) 0 rfl rfl (wc := [(m0, .inr (5, [.int (iZ 0), .int (iZ z1), .int (iZ z2), .int (iZ z3), .int (iZ z4), .int (iZ z5), .ref a6, .int (iZ z7), .ref a8, .int (iZ z9), .ref a10, .ref a11, .ref a12, .ref a13, .ref a14, .ref a15, .int (iZ z16), .ref a17, .int (iZ z18), .ref a19, .ref a20, .ref a21, .ref a22, .ref a23, .ref a24, .int (iZ z25), .ref a26, .ref a27, .ref a28, .int (iZ z29), .int (iZ z30), .int (iZ z31), .int (iZ z32), .int (iZ z33), .int (iZ z34), .ref a35, .ref a36, .ref a37, .ref a38, .ref a39, .ref a40, .ref a41, .int (iZ z42), .int (iZ z43), .ref a44, .ref a45]))]) (wr := [(a35, .inl (cI, 900, .inl (zA g35))), (a36, .inl (cI, 900, .inl (zA g36))), (a37, .inl (cI, 901, .inl (zA g37)))]) [0] [1, 2, 3] rfl rfl (by decide) (by decide) (by decide) rfl rfl (Nat.le_of_ble_eq_true rfl) ⟨by decide, by decide⟩ dX5_guide_46 (fun v w1 hq => ?_)
            obtain ⟨x9, rfl, p9, rfl⟩ := hq
            refine g_eq (ws' := [(a35, .inl (cI, 900, .inl (zA g35))), (a36, .inl (cI, 900, .inl (zA g36))), (a37, .inl (cI, 901, .inl (zA g37))), (m0, .inr (5, [.int (iZ x9), .int (iZ z1), .int (iZ z2), .int (iZ z3), .int (iZ z4), .int (iZ z5), .ref a6, .int (iZ z7), .ref a8, .int (iZ z9), .ref a10, .ref a11, .ref a12, .ref a13, .ref a14, .ref a15, .int (iZ z16), .ref a17, .int (iZ z18), .ref a19, .ref a20, .ref a21, .ref a22, .ref a23, .ref a24, .int (iZ z25), .ref a26, .ref a27, .ref a28, .int (iZ z29), .int (iZ z30), .int (iZ z31), .int (iZ z32), .int (iZ z33), .int (iZ z34), .ref a35, .ref a36, .ref a37, .ref a38, .ref a39, .ref a40, .ref a41, .int (iZ z42), .int (iZ z43), .ref a44, .ref a45]))]) (pc' := 49) (st' := [.int (iZ 1)]) rfl rfl rfl rfl ?_
            refine g_perm (ws' := [(m0, .inr (5, [.int (iZ x9), .int (iZ z1), .int (iZ z2), .int (iZ z3), .int (iZ z4), .int (iZ z5), .ref a6, .int (iZ z7), .ref a8, .int (iZ z9), .ref a10, .ref a11, .ref a12, .ref a13, .ref a14, .ref a15, .int (iZ z16), .ref a17, .int (iZ z18), .ref a19, .ref a20, .ref a21, .ref a22, .ref a23, .ref a24, .int (iZ z25), .ref a26, .ref a27, .ref a28, .int (iZ z29), .int (iZ z30), .int (iZ z31), .int (iZ z32), .int (iZ z33), .int (iZ z34), .ref a35, .ref a36, .ref a37, .ref a38, .ref a39, .ref a40, .ref a41, .int (iZ z42), .int (iZ z43), .ref a44, .ref a45])), (a35, .inl (cI, 900, .inl (zA g35))), (a36, .inl (cI, 900, .inl (zA g36))), (a37, .inl (cI, 901, .inl (zA g37)))]) [3, 0, 1, 2] (by decide) rfl ?_
            simp at p9
            subst p9
            refine g_if_eq X 54 dX5_guide_49 (by decide) (by omega) (fun c_49 => ?_) (fun c_49 => ?_)
            · omega
            · skip
              refine g_iconst X dX5_guide_52 ?_
              exact g_iret X hr (by decide) (by decide) dX5_guide_53 ⟨_, _, rfl, by first | exact Or.inl ⟨by omega, rfl, rfl⟩ | exact Or.inr (Or.inl ⟨by omega, by omega, rfl, rfl⟩), rfl⟩
    · skip
      refine g_iconst X dX5_guide_18 ?_
      refine g_goto X 23 dX5_guide_19 (by decide) ?_
      refine g_iconst X dX5_guide_23 ?_
      refine g_callV0 X (As := [.int (iZ 1), .int (iZ 1)]) (rest := []) (ctX5_bad l D cB cI cJ cY m0 a6 a8 a10 a11 a12 a13 a14 a15 a17 a19 a20 a21 a22 a23 a24 a26 a27 a28 a35 a36 a37 a38 a39 a40 a41 a44 a45 0 z1 z2 z3 z4 z5 z7 z9 z16 z18 z25 z29 z30 z31 z32 z33 z34 z42 z43 1 1 (by omega)) (cwV 2 X.2.2.2.2.1 gX5_guide_X5_bad rfl rfl rfl (by decide +kernel) ⟨by decide, by decide⟩) 0 rfl rfl (wc := [(m0, .inr (5, [.int (iZ 0), .int (iZ z1), .int (iZ z2), .int (iZ z3), .int (iZ z4), .int (iZ z5), .ref a6, .int (iZ z7), .ref a8, .int (iZ z9), .ref a10, .ref a11, .ref a12, .ref a13, .ref a14, .ref a15, .int (iZ z16), .ref a17, .int (iZ z18), .ref a19, .ref a20, .ref a21, .ref a22, .ref a23, .ref a24, .int (iZ z25), .ref a26, .ref a27, .ref a28, .int (iZ z29), .int (iZ z30), .int (iZ z31), .int (iZ z32), .int (iZ z33), .int (iZ z34), .ref a35, .ref a36, .ref a37, .ref a38, .ref a39, .ref a40, .ref a41, .int (iZ z42), .int (iZ z43), .ref a44, .ref a45]))]) (wr := [(a35, .inl (cI, 900, .inl (zA g35))), (a36, .inl (cI, 900, .inl (zA g36))), (a37, .inl (cI, 901, .inl (zA g37)))]) [0] [1, 2, 3] rfl rfl (by decide) (by decide) (by decide) rfl rfl (Nat.le_of_ble_eq_true rfl) ⟨by decide, by decide⟩ dX5_guide_24 (fun v w1 hq => ?_)
      obtain ⟨x9, rfl, p9, rfl⟩ := hq
      refine g_eq (ws' := [(a35, .inl (cI, 900, .inl (zA g35))), (a36, .inl (cI, 900, .inl (zA g36))), (a37, .inl (cI, 901, .inl (zA g37))), (m0, .inr (5, [.int (iZ x9), .int (iZ z1), .int (iZ z2), .int (iZ z3), .int (iZ z4), .int (iZ z5), .ref a6, .int (iZ z7), .ref a8, .int (iZ z9), .ref a10, .ref a11, .ref a12, .ref a13, .ref a14, .ref a15, .int (iZ z16), .ref a17, .int (iZ z18), .ref a19, .ref a20, .ref a21, .ref a22, .ref a23, .ref a24, .int (iZ z25), .ref a26, .ref a27, .ref a28, .int (iZ z29), .int (iZ z30), .int (iZ z31), .int (iZ z32), .int (iZ z33), .int (iZ z34), .ref a35, .ref a36, .ref a37, .ref a38, .ref a39, .ref a40, .ref a41, .int (iZ z42), .int (iZ z43), .ref a44, .ref a45]))]) (pc' := 27) (st' := [.int (iZ 1)]) rfl rfl rfl rfl ?_
      refine g_perm (ws' := [(m0, .inr (5, [.int (iZ x9), .int (iZ z1), .int (iZ z2), .int (iZ z3), .int (iZ z4), .int (iZ z5), .ref a6, .int (iZ z7), .ref a8, .int (iZ z9), .ref a10, .ref a11, .ref a12, .ref a13, .ref a14, .ref a15, .int (iZ z16), .ref a17, .int (iZ z18), .ref a19, .ref a20, .ref a21, .ref a22, .ref a23, .ref a24, .int (iZ z25), .ref a26, .ref a27, .ref a28, .int (iZ z29), .int (iZ z30), .int (iZ z31), .int (iZ z32), .int (iZ z33), .int (iZ z34), .ref a35, .ref a36, .ref a37, .ref a38, .ref a39, .ref a40, .ref a41, .int (iZ z42), .int (iZ z43), .ref a44, .ref a45])), (a35, .inl (cI, 900, .inl (zA g35))), (a36, .inl (cI, 900, .inl (zA g36))), (a37, .inl (cI, 901, .inl (zA g37)))]) [3, 0, 1, 2] (by decide) rfl ?_
      simp at p9
      subst p9
      refine g_if_ne X 52 dX5_guide_27 (by decide) (by omega) (fun c_27 => ?_) (fun c_27 => ?_)
      · skip
        refine g_iconst X dX5_guide_52 ?_
        exact g_iret X hr (by decide) (by decide) dX5_guide_53 ⟨_, _, rfl, by first | exact Or.inl ⟨by omega, rfl, rfl⟩ | exact Or.inr (Or.inl ⟨by omega, by omega, rfl, rfl⟩), rfl⟩
      · omega
