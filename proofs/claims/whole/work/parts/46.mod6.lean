def clE (g35 g36 g37 g39 g40 g41 : Int → Int) (f w c : Int) : Prop := g37 (f + c + 1) - g37 (f + c) = g41 (w + c + 1) - g41 (w + c) ∧ ∀ k : Int, 0 ≤ k → k < g37 (f + c + 1) - g37 (f + c) → (g35 (g37 (f + c) + k) = g39 (g41 (w + c) + k) ∧ g36 (g37 (f + c) + k) = g40 (g41 (w + c) + k))
theorem mnM_b (a b : Int) : mnM a b ≤ a ∧ mnM a b ≤ b ∧ (mnM a b = a ∨ mnM a b = b) := by unfold mnM; split <;> omega
def cntU (pa : Int → Int) : Nat → Int
  | 0 => 0
  | n + 1 => cntU pa n + (if pa n = 0 then 1 else 0)
theorem cntU_b (pa : Int → Int) : ∀ n : Nat, 0 ≤ cntU pa n ∧ cntU pa n ≤ n
  | 0 => by simp [cntU]
  | n + 1 => by have := cntU_b pa n; rw [cntU]; split <;> omega
theorem cntU_up (pa : Int → Int) (a : Int) : ∀ n : Nat, 0 ≤ a → pa a = 0 → cntU (upZ pa a 1) n = cntU pa n - (if a < n then 1 else 0)
  | 0, h, _ => by rw [if_neg (by omega)]; rfl
  | n + 1, h, h2 => by
    rw [cntU, cntU, cntU_up pa a n h h2]
    by_cases e : (n : Int) = a
    · subst e; rw [upZ_s, h2, if_neg (by omega), if_neg (by omega), if_pos rfl, if_pos (by omega)]; omega
    · rw [upZ_n e]
      by_cases e2 : a < n
      · rw [if_pos e2, if_pos (show a < ((n + 1 : Nat) : Int) by omega)]; omega
      · rw [if_neg e2, if_neg (show ¬ a < ((n + 1 : Nat) : Int) by omega)]; omega
def qX5_isAlike (cB cI cJ cY : ClassId) (m0 : Nat) (a6 : Nat) (a8 : Nat) (a10 : Nat) (a11 : Nat) (a12 : Nat) (a13 : Nat) (a14 : Nat) (a15 : Nat) (a17 : Nat) (a19 : Nat) (a20 : Nat) (a21 : Nat) (a22 : Nat) (a23 : Nat) (a24 : Nat) (a26 : Nat) (a27 : Nat) (a28 : Nat) (a35 : Nat) (a36 : Nat) (a37 : Nat) (a38 : Nat) (a39 : Nat) (a40 : Nat) (a41 : Nat) (a44 : Nat) (a45 : Nat) (z0 : Int) (z1 : Int) (z2 : Int) (z3 : Int) (z4 : Int) (z5 : Int) (z7 : Int) (z9 : Int) (z16 : Int) (z18 : Int) (z25 : Int) (z29 : Int) (z30 : Int) (z31 : Int) (z32 : Int) (z33 : Int) (z34 : Int) (z42 : Int) (z43 : Int) (g35 : Int → Int) (g36 : Int → Int) (g37 : Int → Int) (g39 : Int → Int) (g40 : Int → Int) (g41 : Int → Int) (pg : Int) : Option Value → va_W → Prop := fun rv w1 => ∃ (r : Int), rv = some (.int (iZ r)) ∧ ((r = 1 ∧ alM g35 g36 g37 g39 g40 g41 z31 z34 z42 z43 pg) ∨ (r = 0 ∧ ¬ alM g35 g36 g37 g39 g40 g41 z31 z34 z42 z43 pg)) ∧ w1 = [(m0, .inr (5, [.int (iZ z0), .int (iZ z1), .int (iZ z2), .int (iZ z3), .int (iZ z4), .int (iZ z5), .ref a6, .int (iZ z7), .ref a8, .int (iZ z9), .ref a10, .ref a11, .ref a12, .ref a13, .ref a14, .ref a15, .int (iZ z16), .ref a17, .int (iZ z18), .ref a19, .ref a20, .ref a21, .ref a22, .ref a23, .ref a24, .int (iZ z25), .ref a26, .ref a27, .ref a28, .int (iZ z29), .int (iZ z30), .int (iZ z31), .int (iZ z32), .int (iZ z33), .int (iZ z34), .ref a35, .ref a36, .ref a37, .ref a38, .ref a39, .ref a40, .ref a41, .int (iZ z42), .int (iZ z43), .ref a44, .ref a45])), (a35, .inl (cI, 900, .inl (zA g35))), (a36, .inl (cI, 900, .inl (zA g36))), (a37, .inl (cI, 901, .inl (zA g37))), (a39, .inl (cI, 900, .inl (zA g39))), (a40, .inl (cI, 900, .inl (zA g40))), (a41, .inl (cI, 901, .inl (zA g41)))]
set_option maxHeartbeats 4000000 in
set_option maxRecDepth 100000 in
theorem ctX5_isAlike (l : Launch) (D : va_G) (cB cI cJ cY : ClassId) (m0 : Nat) (a6 : Nat) (a8 : Nat) (a10 : Nat) (a11 : Nat) (a12 : Nat) (a13 : Nat) (a14 : Nat) (a15 : Nat) (a17 : Nat) (a19 : Nat) (a20 : Nat) (a21 : Nat) (a22 : Nat) (a23 : Nat) (a24 : Nat) (a26 : Nat) (a27 : Nat) (a28 : Nat) (a35 : Nat) (a36 : Nat) (a37 : Nat) (a38 : Nat) (a39 : Nat) (a40 : Nat) (a41 : Nat) (a44 : Nat) (a45 : Nat) (z0 : Int) (z1 : Int) (z2 : Int) (z3 : Int) (z4 : Int) (z5 : Int) (z7 : Int) (z9 : Int) (z16 : Int) (z18 : Int) (z25 : Int) (z29 : Int) (z30 : Int) (z31 : Int) (z32 : Int) (z33 : Int) (z34 : Int) (z42 : Int) (z43 : Int) (g35 : Int → Int) (g36 : Int → Int) (g37 : Int → Int) (g39 : Int → Int) (g40 : Int → Int) (g41 : Int → Int) (pg : Int) (h31 : 0 ≤ z31 ∧ z31 ≤ 900) (h42 : 0 ≤ z42 ∧ z42 ≤ 900) (h37 : ∀ j : Int, 0 ≤ j ∧ j ≤ z31 → 0 ≤ g37 j ∧ g37 j ≤ 900) (h41 : ∀ j : Int, 0 ≤ j ∧ j ≤ z42 → 0 ≤ g41 j ∧ g41 j ≤ 900) (h35 : ∀ j : Int, 0 ≤ j ∧ j < 900 → 0 ≤ g35 j ∧ g35 j < 150) (h36 : ∀ j : Int, 0 ≤ j ∧ j < 900 → 0 ≤ g36 j ∧ g36 j < 6) (h39 : ∀ j : Int, 0 ≤ j ∧ j < 900 → 0 ≤ g39 j ∧ g39 j < 150) (h40 : ∀ j : Int, 0 ≤ j ∧ j < 900 → 0 ≤ g40 j ∧ g40 j < 6) (hfr : 0 ≤ pg * z34 ∧ pg * z34 < z31 ∧ 0 ≤ pg * z43 ∧ pg * z43 < z42) (h34 : 0 ≤ z34 ∧ z34 ≤ 4 ∧ 0 ≤ z43 ∧ z43 ≤ 4) : gM l yX5_isAlike wsX5_isAlike { frames := 0, cells := 0, slots := 0, locals := 0 } D (gT cB cI cJ cY) [.ref m0, .int (iZ pg)] [(m0, .inr (5, [.int (iZ z0), .int (iZ z1), .int (iZ z2), .int (iZ z3), .int (iZ z4), .int (iZ z5), .ref a6, .int (iZ z7), .ref a8, .int (iZ z9), .ref a10, .ref a11, .ref a12, .ref a13, .ref a14, .ref a15, .int (iZ z16), .ref a17, .int (iZ z18), .ref a19, .ref a20, .ref a21, .ref a22, .ref a23, .ref a24, .int (iZ z25), .ref a26, .ref a27, .ref a28, .int (iZ z29), .int (iZ z30), .int (iZ z31), .int (iZ z32), .int (iZ z33), .int (iZ z34), .ref a35, .ref a36, .ref a37, .ref a38, .ref a39, .ref a40, .ref a41, .int (iZ z42), .int (iZ z43), .ref a44, .ref a45])), (a35, .inl (cI, 900, .inl (zA g35))), (a36, .inl (cI, 900, .inl (zA g36))), (a37, .inl (cI, 901, .inl (zA g37))), (a39, .inl (cI, 900, .inl (zA g39))), (a40, .inl (cI, 900, .inl (zA g40))), (a41, .inl (cI, 901, .inl (zA g41)))] 0 0 (qX5_isAlike cB cI cJ cY m0 a6 a8 a10 a11 a12 a13 a14 a15 a17 a19 a20 a21 a22 a23 a24 a26 a27 a28 a35 a36 a37 a38 a39 a40 a41 a44 a45 z0 z1 z2 z3 z4 z5 z7 z9 z16 z18 z25 z29 z30 z31 z32 z33 z34 z42 z43 g35 g36 g37 g39 g40 g41 pg) := by
  refine g_start (cc := cX5_isAlike) (maxL := 11) (ret := some .boolean) (lv := [(0, .ref m0), (1, .int (iZ pg))]) (by decide) rfl (Nat.le_of_ble_eq_true rfl) rfl ?_
  intro p e s m args below meth c A X hr hnm
  have hin5 : ∀ w ∈ u_ws RX5 TX5 46, w ∈ wsX5_isAlike := by decide +kernel
  refine g_iload_n X 1 dX5_isAlike_0 rfl rfl ?_
  refine g_aload_n X 0 dX5_isAlike_1 rfl rfl ?_
  refine g_get X (index := 83) (ref := "GuideWordsModel") hin5 0 rfl rfl 34 (by decide) rfl (by decide +kernel) (v := .int (iZ z34)) rfl dX5_isAlike_2 ?_
  refine g_imul X dX5_isAlike_5 ?_
  refine g_istore_n (lv2 := [(2, .int (iZ (pg * z34))), (0, .ref m0), (1, .int (iZ pg))]) X dX5_isAlike_6 rfl (by decide) rfl ?_
  refine g_iload_n X 2 dX5_isAlike_7 rfl rfl ?_
  refine g_aload_n X 1 dX5_isAlike_8 rfl rfl ?_
  refine g_get X (index := 107) (ref := "GuideWordsModel") hin5 0 rfl rfl 43 (by decide) rfl (by decide +kernel) (v := .int (iZ z43)) rfl dX5_isAlike_9 ?_
  refine g_imul X dX5_isAlike_12 ?_
  refine g_istore_n (lv2 := [(3, .int (iZ (pg * z43))), (2, .int (iZ (pg * z34))), (0, .ref m0), (1, .int (iZ pg))]) X dX5_isAlike_13 rfl (by decide) rfl ?_
  refine g_aload_n X 2 dX5_isAlike_14 rfl rfl ?_
  refine g_get X (index := 173) (ref := "GuideWordsModel") hin5 0 rfl rfl 31 (by decide) rfl (by decide +kernel) (v := .int (iZ z31)) rfl dX5_isAlike_15 ?_
  refine g_iload_n X 1 dX5_isAlike_18 rfl rfl ?_
  refine g_isub X dX5_isAlike_19 ?_
  refine g_aload_n X 2 dX5_isAlike_20 rfl rfl ?_
  refine g_get X (index := 83) (ref := "GuideWordsModel") hin5 0 rfl rfl 34 (by decide) rfl (by decide +kernel) (v := .int (iZ z34)) rfl dX5_isAlike_21 ?_
  refine g_icmp_ge X 36 dX5_isAlike_24 (by decide) (by omega) (by omega) (fun c_24 => ?_) (fun c_24 => ?_)
  · skip
    refine g_aload_n X 2 dX5_isAlike_36 rfl rfl ?_
    refine g_get X (index := 83) (ref := "GuideWordsModel") hin5 0 rfl rfl 34 (by decide) rfl (by decide +kernel) (v := .int (iZ z34)) rfl dX5_isAlike_37 ?_
    refine g_istore (lv2 := [(4, .int (iZ z34)), (3, .int (iZ (pg * z43))), (2, .int (iZ (pg * z34))), (0, .ref m0), (1, .int (iZ pg))]) X dX5_isAlike_40 (by decide) rfl ?_
    refine g_aload_n X 3 dX5_isAlike_42 rfl rfl ?_
    refine g_get X (index := 176) (ref := "GuideWordsModel") hin5 0 rfl rfl 42 (by decide) rfl (by decide +kernel) (v := .int (iZ z42)) rfl dX5_isAlike_43 ?_
    refine g_iload_n X 1 dX5_isAlike_46 rfl rfl ?_
    refine g_isub X dX5_isAlike_47 ?_
    refine g_aload_n X 3 dX5_isAlike_48 rfl rfl ?_
    refine g_get X (index := 107) (ref := "GuideWordsModel") hin5 0 rfl rfl 43 (by decide) rfl (by decide +kernel) (v := .int (iZ z43)) rfl dX5_isAlike_49 ?_
    refine g_icmp_ge X 64 dX5_isAlike_52 (by decide) (by omega) (by omega) (fun c_52 => ?_) (fun c_52 => ?_)
    · skip
      refine g_aload_n X 3 dX5_isAlike_64 rfl rfl ?_
      refine g_get X (index := 107) (ref := "GuideWordsModel") hin5 0 rfl rfl 43 (by decide) rfl (by decide +kernel) (v := .int (iZ z43)) rfl dX5_isAlike_65 ?_
      refine g_istore (lv2 := [(5, .int (iZ z43)), (4, .int (iZ z34)), (3, .int (iZ (pg * z43))), (2, .int (iZ (pg * z34))), (0, .ref m0), (1, .int (iZ pg))]) X dX5_isAlike_68 (by decide) rfl ?_
      have hn : z34 = mnM (z31 - pg * z34) z34 := by unfold mnM; first | rw [if_pos (by omega)] | rw [if_neg (by omega)]
      have hm : z43 = mnM (z42 - pg * z43) z43 := by unfold mnM; first | rw [if_pos (by omega)] | rw [if_neg (by omega)]
      have mb1 := mnM_b (z31 - pg * z34) z34
      have mb2 := mnM_b (z42 - pg * z43) z43
      refine g_iload X 1 dX5_isAlike_70 rfl ?_
      refine g_iload X 0 dX5_isAlike_72 rfl ?_
      refine g_icmp_eq X 79 dX5_isAlike_74 (by decide) (by omega) (by omega) (fun c_74 => ?_) (fun c_74 => ?_)
      · skip
        refine g_iconst X dX5_isAlike_79 ?_
        refine g_istore (lv2 := [(6, .int (iZ 0)), (5, .int (iZ z43)), (4, .int (iZ z34)), (3, .int (iZ (pg * z43))), (2, .int (iZ (pg * z34))), (0, .ref m0), (1, .int (iZ pg))]) X dX5_isAlike_80 (by decide) rfl ?_
        refine g_lv (lv' := [(0, .ref m0), (2, .int (iZ (pg * z34))), (3, .int (iZ (pg * z43))), (4, .int (iZ z34)), (6, .int (iZ 0))]) [5, 4, 3, 2, 0] rfl ?_
        have loop_82 : ∀ (kf : Nat) (c9 : Int), (hc9 : 0 ≤ c9 ∧ c9 ≤ mnM (z31 - pg * z34) z34) → (hin : ∀ c : Int, 0 ≤ c → c < c9 → clE g35 g36 g37 g39 g40 g41 (pg * z34) (pg * z43) c) → (mnM (z31 - pg * z34) z34 - c9).toNat < kf → gW p l e { frames := 0, cells := 0, slots := 0, locals := 0 } s m args below meth c D A 11 0 0 (MQ below (gQ D (gT cB cI cJ cY) (qX5_isAlike cB cI cJ cY m0 a6 a8 a10 a11 a12 a13 a14 a15 a17 a19 a20 a21 a22 a23 a24 a26 a27 a28 a35 a36 a37 a38 a39 a40 a41 a44 a45 z0 z1 z2 z3 z4 z5 z7 z9 z16 z18 z25 z29 z30 z31 z32 z33 z34 z42 z43 g35 g36 g37 g39 g40 g41 pg) A) args s 0 0 A) [(m0, .inr (5, [.int (iZ z0), .int (iZ z1), .int (iZ z2), .int (iZ z3), .int (iZ z4), .int (iZ z5), .ref a6, .int (iZ z7), .ref a8, .int (iZ z9), .ref a10, .ref a11, .ref a12, .ref a13, .ref a14, .ref a15, .int (iZ z16), .ref a17, .int (iZ z18), .ref a19, .ref a20, .ref a21, .ref a22, .ref a23, .ref a24, .int (iZ z25), .ref a26, .ref a27, .ref a28, .int (iZ z29), .int (iZ z30), .int (iZ z31), .int (iZ z32), .int (iZ z33), .int (iZ z34), .ref a35, .ref a36, .ref a37, .ref a38, .ref a39, .ref a40, .ref a41, .int (iZ z42), .int (iZ z43), .ref a44, .ref a45])), (a35, .inl (cI, 900, .inl (zA g35))), (a36, .inl (cI, 900, .inl (zA g36))), (a37, .inl (cI, 901, .inl (zA g37))), (a39, .inl (cI, 900, .inl (zA g39))), (a40, .inl (cI, 900, .inl (zA g40))), (a41, .inl (cI, 901, .inl (zA g41)))] 82 [(0, .ref m0), (2, .int (iZ (pg * z34))), (3, .int (iZ (pg * z43))), (4, .int (iZ z34)), (6, .int (iZ c9))] [] := by
          intro kf
          induction kf with
          | zero => intro c9 hc9 hin hm; exact absurd hm (Nat.not_lt_zero _)
          | succ kf ih_82 =>
            intro c9 hc9 hin hm
            refine g_iload X 4 dX5_isAlike_82 rfl ?_
            refine g_iload X 3 dX5_isAlike_84 rfl ?_
            refine g_icmp_ge X 218 dX5_isAlike_86 (by decide) (by omega) (by omega) (fun c_86 => ?_) (fun c_86 => ?_)
            · skip
              refine g_iconst X dX5_isAlike_218 ?_
              exact g_zret X (by omega) hr (by decide) (by decide) dX5_isAlike_219 ⟨_, rfl, Or.inl ⟨rfl, by omega, fun c h1 h2 => hin c h1 (by omega)⟩, rfl⟩
            · skip
              refine g_aload_n X 0 dX5_isAlike_89 rfl rfl ?_
              refine g_get X (index := 92) (ref := "GuideWordsModel") hin5 0 rfl rfl 37 (by decide) rfl (by decide +kernel) (v := .ref a37) rfl dX5_isAlike_90 ?_
              refine g_iload_n X 1 dX5_isAlike_93 rfl rfl ?_
              refine g_iload X 4 dX5_isAlike_94 rfl ?_
              refine g_iadd X dX5_isAlike_96 ?_
              refine g_iald X 3 1 rfl rfl (by omega) (by decide) dX5_isAlike_97 ?_
              have r_97 := h37 ((pg * z34) + c9) (by omega)
              refine g_istore (lv2 := [(7, .int (iZ (g37 ((pg * z34) + c9)))), (0, .ref m0), (2, .int (iZ (pg * z34))), (3, .int (iZ (pg * z43))), (4, .int (iZ z34)), (6, .int (iZ c9))]) X dX5_isAlike_98 (by decide) rfl ?_
              refine g_aload_n X 1 dX5_isAlike_100 rfl rfl ?_
              refine g_get X (index := 104) (ref := "GuideWordsModel") hin5 0 rfl rfl 41 (by decide) rfl (by decide +kernel) (v := .ref a41) rfl dX5_isAlike_101 ?_
              refine g_iload_n X 3 dX5_isAlike_104 rfl rfl ?_
              refine g_iload X 5 dX5_isAlike_105 rfl ?_
              refine g_iadd X dX5_isAlike_107 ?_
              refine g_iald X 6 1 rfl rfl (by omega) (by decide) dX5_isAlike_108 ?_
              have r_108 := h41 ((pg * z43) + c9) (by omega)
              refine g_istore (lv2 := [(8, .int (iZ (g41 ((pg * z43) + c9)))), (7, .int (iZ (g37 ((pg * z34) + c9)))), (0, .ref m0), (2, .int (iZ (pg * z34))), (3, .int (iZ (pg * z43))), (4, .int (iZ z34)), (6, .int (iZ c9))]) X dX5_isAlike_109 (by decide) rfl ?_
              refine g_aload_n X 2 dX5_isAlike_111 rfl rfl ?_
              refine g_get X (index := 92) (ref := "GuideWordsModel") hin5 0 rfl rfl 37 (by decide) rfl (by decide +kernel) (v := .ref a37) rfl dX5_isAlike_112 ?_
              refine g_iload_n X 3 dX5_isAlike_115 rfl rfl ?_
              refine g_iload X 6 dX5_isAlike_116 rfl ?_
              refine g_iadd X dX5_isAlike_118 ?_
              refine g_iconst X dX5_isAlike_119 ?_
              refine g_iadd X dX5_isAlike_120 ?_
              refine g_iald X 3 1 rfl rfl (by omega) (by decide) dX5_isAlike_121 ?_
              have r_121 := h37 (((pg * z34) + c9) + 1) (by omega)
              refine g_iload X 1 dX5_isAlike_122 rfl ?_
              refine g_isub X dX5_isAlike_124 ?_
              refine g_istore (lv2 := [(9, .int (iZ ((g37 (((pg * z34) + c9) + 1)) - (g37 ((pg * z34) + c9))))), (8, .int (iZ (g41 ((pg * z43) + c9)))), (7, .int (iZ (g37 ((pg * z34) + c9)))), (0, .ref m0), (2, .int (iZ (pg * z34))), (3, .int (iZ (pg * z43))), (4, .int (iZ z34)), (6, .int (iZ c9))]) X dX5_isAlike_125 (by decide) rfl ?_
              refine g_iload X 0 dX5_isAlike_127 rfl ?_
              refine g_aload_n X 3 dX5_isAlike_129 rfl rfl ?_
              refine g_get X (index := 104) (ref := "GuideWordsModel") hin5 0 rfl rfl 41 (by decide) rfl (by decide +kernel) (v := .ref a41) rfl dX5_isAlike_130 ?_
              refine g_iload_n X 5 dX5_isAlike_133 rfl rfl ?_
              refine g_iload X 7 dX5_isAlike_134 rfl ?_
              refine g_iadd X dX5_isAlike_136 ?_
              refine g_iconst X dX5_isAlike_137 ?_
              refine g_iadd X dX5_isAlike_138 ?_
              refine g_iald X 6 1 rfl rfl (by omega) (by decide) dX5_isAlike_139 ?_
              have r_139 := h41 (((pg * z43) + c9) + 1) (by omega)
              refine g_iload X 1 dX5_isAlike_140 rfl ?_
              refine g_isub X dX5_isAlike_142 ?_
              refine g_icmp_eq X 148 dX5_isAlike_143 (by decide) (by omega) (by omega) (fun c_143 => ?_) (fun c_143 => ?_)
              · skip
                refine g_iconst X dX5_isAlike_148 ?_
                refine g_istore (lv2 := [(10, .int (iZ 0)), (9, .int (iZ ((g37 (((pg * z34) + c9) + 1)) - (g37 ((pg * z34) + c9))))), (8, .int (iZ (g41 ((pg * z43) + c9)))), (7, .int (iZ (g37 ((pg * z34) + c9)))), (0, .ref m0), (2, .int (iZ (pg * z34))), (3, .int (iZ (pg * z43))), (4, .int (iZ z34)), (6, .int (iZ c9))]) X dX5_isAlike_149 (by decide) rfl ?_
                refine g_lv (lv' := [(0, .ref m0), (2, .int (iZ (pg * z34))), (3, .int (iZ (pg * z43))), (4, .int (iZ z34)), (6, .int (iZ c9)), (7, .int (iZ (g37 ((pg * z34) + c9)))), (8, .int (iZ (g41 ((pg * z43) + c9)))), (9, .int (iZ ((g37 (((pg * z34) + c9) + 1)) - (g37 ((pg * z34) + c9))))), (10, .int (iZ 0))]) [4, 5, 6, 7, 8, 3, 2, 1, 0] rfl ?_
                have loop_151 : ∀ (kf : Nat) (k : Int), (hk : 0 ≤ k ∧ k ≤ 900) → (hkk : ∀ i : Int, 0 ≤ i → i < k → (g35 (g37 (pg * z34 + c9) + i) = g39 (g41 (pg * z43 + c9) + i) ∧ g36 (g37 (pg * z34 + c9) + i) = g40 (g41 (pg * z43 + c9) + i))) → (900 - k).toNat < kf → gW p l e { frames := 0, cells := 0, slots := 0, locals := 0 } s m args below meth c D A 11 0 0 (MQ below (gQ D (gT cB cI cJ cY) (qX5_isAlike cB cI cJ cY m0 a6 a8 a10 a11 a12 a13 a14 a15 a17 a19 a20 a21 a22 a23 a24 a26 a27 a28 a35 a36 a37 a38 a39 a40 a41 a44 a45 z0 z1 z2 z3 z4 z5 z7 z9 z16 z18 z25 z29 z30 z31 z32 z33 z34 z42 z43 g35 g36 g37 g39 g40 g41 pg) A) args s 0 0 A) [(m0, .inr (5, [.int (iZ z0), .int (iZ z1), .int (iZ z2), .int (iZ z3), .int (iZ z4), .int (iZ z5), .ref a6, .int (iZ z7), .ref a8, .int (iZ z9), .ref a10, .ref a11, .ref a12, .ref a13, .ref a14, .ref a15, .int (iZ z16), .ref a17, .int (iZ z18), .ref a19, .ref a20, .ref a21, .ref a22, .ref a23, .ref a24, .int (iZ z25), .ref a26, .ref a27, .ref a28, .int (iZ z29), .int (iZ z30), .int (iZ z31), .int (iZ z32), .int (iZ z33), .int (iZ z34), .ref a35, .ref a36, .ref a37, .ref a38, .ref a39, .ref a40, .ref a41, .int (iZ z42), .int (iZ z43), .ref a44, .ref a45])), (a35, .inl (cI, 900, .inl (zA g35))), (a36, .inl (cI, 900, .inl (zA g36))), (a37, .inl (cI, 901, .inl (zA g37))), (a39, .inl (cI, 900, .inl (zA g39))), (a40, .inl (cI, 900, .inl (zA g40))), (a41, .inl (cI, 901, .inl (zA g41)))] 151 [(0, .ref m0), (2, .int (iZ (pg * z34))), (3, .int (iZ (pg * z43))), (4, .int (iZ z34)), (6, .int (iZ c9)), (7, .int (iZ (g37 ((pg * z34) + c9)))), (8, .int (iZ (g41 ((pg * z43) + c9)))), (9, .int (iZ ((g37 (((pg * z34) + c9) + 1)) - (g37 ((pg * z34) + c9))))), (10, .int (iZ k))] [] := by
                  intro kf
                  induction kf with
                  | zero => intro k hk hkk hm; exact absurd hm (Nat.not_lt_zero _)
                  | succ kf ih_151 =>
                    intro k hk hkk hm
                    refine g_iload X 8 dX5_isAlike_151 rfl ?_
                    refine g_iload X 7 dX5_isAlike_153 rfl ?_
                    refine g_icmp_ge X 212 dX5_isAlike_155 (by decide) (by omega) (by omega) (fun c_155 => ?_) (fun c_155 => ?_)
                    · skip
                      have hin2 : ∀ c : Int, 0 ≤ c → c < c9 + 1 → clE g35 g36 g37 g39 g40 g41 (pg * z34) (pg * z43) c := fun c h1 h2 => by
                        rcases (show c = c9 ∨ c < c9 by omega) with h | h
                        · rw [h]; exact ⟨c_143, fun i h3 h4 => hkk i h3 (by omega)⟩
                        · exact hin c h1 h
                      refine g_iinc (q := 4) (lv2 := [(6, .int (iZ (c9 + 1))), (0, .ref m0), (2, .int (iZ (pg * z34))), (3, .int (iZ (pg * z43))), (4, .int (iZ z34)), (7, .int (iZ (g37 ((pg * z34) + c9)))), (8, .int (iZ (g41 ((pg * z43) + c9)))), (9, .int (iZ ((g37 (((pg * z34) + c9) + 1)) - (g37 ((pg * z34) + c9))))), (10, .int (iZ k))]) X dX5_isAlike_212 rfl (by decide) rfl ?_
                      refine g_goto X 82 dX5_isAlike_215 (by decide) ?_
                      refine g_lv (lv' := [(0, .ref m0), (2, .int (iZ (pg * z34))), (3, .int (iZ (pg * z43))), (4, .int (iZ z34)), (6, .int (iZ (c9 + 1)))]) [1, 2, 3, 4, 0] rfl ?_
                      exact ih_82 (c9 + 1) (by omega) hin2 (by omega)
                    · skip
                      refine g_aload_n X 0 dX5_isAlike_158 rfl rfl ?_
                      refine g_get X (index := 86) (ref := "GuideWordsModel") hin5 0 rfl rfl 35 (by decide) rfl (by decide +kernel) (v := .ref a35) rfl dX5_isAlike_159 ?_
                      refine g_iload X 5 dX5_isAlike_162 rfl ?_
                      refine g_iload X 8 dX5_isAlike_164 rfl ?_
                      refine g_iadd X dX5_isAlike_166 ?_
                      refine g_iald X 1 1 rfl rfl (by omega) (by decide) dX5_isAlike_167 ?_
                      have r_167 := h35 ((g37 ((pg * z34) + c9)) + k) (by omega)
                      refine g_aload_n X 0 dX5_isAlike_168 rfl rfl ?_
                      refine g_get X (index := 98) (ref := "GuideWordsModel") hin5 0 rfl rfl 39 (by decide) rfl (by decide +kernel) (v := .ref a39) rfl dX5_isAlike_169 ?_
                      refine g_iload X 6 dX5_isAlike_172 rfl ?_
                      refine g_iload X 8 dX5_isAlike_174 rfl ?_
                      refine g_iadd X dX5_isAlike_176 ?_
                      refine g_iald X 4 1 rfl rfl (by omega) (by decide) dX5_isAlike_177 ?_
                      have r_177 := h39 ((g41 ((pg * z43) + c9)) + k) (by omega)
                      refine g_icmp_ne X 204 dX5_isAlike_178 (by decide) (by omega) (by omega) (fun c_178 => ?_) (fun c_178 => ?_)
                      · skip
                        refine g_iconst X dX5_isAlike_204 ?_
                        exact g_zret X (by omega) hr (by decide) (by decide) dX5_isAlike_205 ⟨_, rfl, Or.inr ⟨rfl, fun h9 => by have q := (h9.2 c9 (by omega) (by omega)).2 k (by omega) (by omega); first | exact c_178 q.1 | exact c_201 q.2⟩, rfl⟩
                      · skip
                        refine g_aload_n X 0 dX5_isAlike_181 rfl rfl ?_
                        refine g_get X (index := 89) (ref := "GuideWordsModel") hin5 0 rfl rfl 36 (by decide) rfl (by decide +kernel) (v := .ref a36) rfl dX5_isAlike_182 ?_
                        refine g_iload X 5 dX5_isAlike_185 rfl ?_
                        refine g_iload X 8 dX5_isAlike_187 rfl ?_
                        refine g_iadd X dX5_isAlike_189 ?_
                        refine g_iald X 2 1 rfl rfl (by omega) (by decide) dX5_isAlike_190 ?_
                        have r_190 := h36 ((g37 ((pg * z34) + c9)) + k) (by omega)
                        refine g_aload_n X 0 dX5_isAlike_191 rfl rfl ?_
                        refine g_get X (index := 101) (ref := "GuideWordsModel") hin5 0 rfl rfl 40 (by decide) rfl (by decide +kernel) (v := .ref a40) rfl dX5_isAlike_192 ?_
                        refine g_iload X 6 dX5_isAlike_195 rfl ?_
                        refine g_iload X 8 dX5_isAlike_197 rfl ?_
                        refine g_iadd X dX5_isAlike_199 ?_
                        refine g_iald X 5 1 rfl rfl (by omega) (by decide) dX5_isAlike_200 ?_
                        have r_200 := h40 ((g41 ((pg * z43) + c9)) + k) (by omega)
                        refine g_icmp_eq X 206 dX5_isAlike_201 (by decide) (by omega) (by omega) (fun c_201 => ?_) (fun c_201 => ?_)
                        · skip
                          refine g_iinc (q := 8) (lv2 := [(10, .int (iZ (k + 1))), (0, .ref m0), (2, .int (iZ (pg * z34))), (3, .int (iZ (pg * z43))), (4, .int (iZ z34)), (6, .int (iZ c9)), (7, .int (iZ (g37 ((pg * z34) + c9)))), (8, .int (iZ (g41 ((pg * z43) + c9)))), (9, .int (iZ ((g37 (((pg * z34) + c9) + 1)) - (g37 ((pg * z34) + c9)))))]) X dX5_isAlike_206 rfl (by decide) rfl ?_
                          refine g_goto X 151 dX5_isAlike_209 (by decide) ?_
                          refine g_lv (lv' := [(0, .ref m0), (2, .int (iZ (pg * z34))), (3, .int (iZ (pg * z43))), (4, .int (iZ z34)), (6, .int (iZ c9)), (7, .int (iZ (g37 ((pg * z34) + c9)))), (8, .int (iZ (g41 ((pg * z43) + c9)))), (9, .int (iZ ((g37 (((pg * z34) + c9) + 1)) - (g37 ((pg * z34) + c9))))), (10, .int (iZ (k + 1)))]) [1, 2, 3, 4, 5, 6, 7, 8, 0] rfl ?_
                          exact ih_151 (k + 1) (by omega) (fun i h1 h2 => by
                              rcases (show i = k ∨ i < k by omega) with h | h
                              · rw [h]; exact ⟨c_178, c_201⟩
                              · exact hkk i h1 h) (by omega)
                        · skip
                          refine g_iconst X dX5_isAlike_204 ?_
                          exact g_zret X (by omega) hr (by decide) (by decide) dX5_isAlike_205 ⟨_, rfl, Or.inr ⟨rfl, fun h9 => by have q := (h9.2 c9 (by omega) (by omega)).2 k (by omega) (by omega); first | exact c_178 q.1 | exact c_201 q.2⟩, rfl⟩
                exact loop_151 _ 0 (by omega) (fun i h1 h2 => by omega) (Nat.lt_succ_self _)
              · skip
                refine g_iconst X dX5_isAlike_146 ?_
                exact g_zret X (by omega) hr (by decide) (by decide) dX5_isAlike_147 ⟨_, rfl, Or.inr ⟨rfl, fun h9 => c_143 (h9.2 c9 (by omega) (by omega)).1⟩, rfl⟩
        exact loop_82 _ 0 (by omega) (fun c h1 h2 => by omega) (Nat.lt_succ_self _)
      · skip
        refine g_iconst X dX5_isAlike_77 ?_
        exact g_zret X (by omega) hr (by decide) (by decide) dX5_isAlike_78 ⟨_, rfl, Or.inr ⟨rfl, fun h9 => c_74 (by have := h9.1; omega)⟩, rfl⟩
    · skip
      refine g_aload_n X 3 dX5_isAlike_55 rfl rfl ?_
      refine g_get X (index := 176) (ref := "GuideWordsModel") hin5 0 rfl rfl 42 (by decide) rfl (by decide +kernel) (v := .int (iZ z42)) rfl dX5_isAlike_56 ?_
      refine g_iload_n X 1 dX5_isAlike_59 rfl rfl ?_
      refine g_isub X dX5_isAlike_60 ?_
      refine g_goto X 68 dX5_isAlike_61 (by decide) ?_
      refine g_istore (lv2 := [(5, .int (iZ (z42 - (pg * z43)))), (4, .int (iZ z34)), (3, .int (iZ (pg * z43))), (2, .int (iZ (pg * z34))), (0, .ref m0), (1, .int (iZ pg))]) X dX5_isAlike_68 (by decide) rfl ?_
      have hn : z34 = mnM (z31 - pg * z34) z34 := by unfold mnM; first | rw [if_pos (by omega)] | rw [if_neg (by omega)]
      have hm : z42 - (pg * z43) = mnM (z42 - pg * z43) z43 := by unfold mnM; first | rw [if_pos (by omega)] | rw [if_neg (by omega)]
      have mb1 := mnM_b (z31 - pg * z34) z34
      have mb2 := mnM_b (z42 - pg * z43) z43
      refine g_iload X 1 dX5_isAlike_70 rfl ?_
      refine g_iload X 0 dX5_isAlike_72 rfl ?_
      refine g_icmp_eq X 79 dX5_isAlike_74 (by decide) (by omega) (by omega) (fun c_74 => ?_) (fun c_74 => ?_)
      · skip
        refine g_iconst X dX5_isAlike_79 ?_
        refine g_istore (lv2 := [(6, .int (iZ 0)), (5, .int (iZ (z42 - (pg * z43)))), (4, .int (iZ z34)), (3, .int (iZ (pg * z43))), (2, .int (iZ (pg * z34))), (0, .ref m0), (1, .int (iZ pg))]) X dX5_isAlike_80 (by decide) rfl ?_
        refine g_lv (lv' := [(0, .ref m0), (2, .int (iZ (pg * z34))), (3, .int (iZ (pg * z43))), (4, .int (iZ z34)), (6, .int (iZ 0))]) [5, 4, 3, 2, 0] rfl ?_
        have loop_82 : ∀ (kf : Nat) (c9 : Int), (hc9 : 0 ≤ c9 ∧ c9 ≤ mnM (z31 - pg * z34) z34) → (hin : ∀ c : Int, 0 ≤ c → c < c9 → clE g35 g36 g37 g39 g40 g41 (pg * z34) (pg * z43) c) → (mnM (z31 - pg * z34) z34 - c9).toNat < kf → gW p l e { frames := 0, cells := 0, slots := 0, locals := 0 } s m args below meth c D A 11 0 0 (MQ below (gQ D (gT cB cI cJ cY) (qX5_isAlike cB cI cJ cY m0 a6 a8 a10 a11 a12 a13 a14 a15 a17 a19 a20 a21 a22 a23 a24 a26 a27 a28 a35 a36 a37 a38 a39 a40 a41 a44 a45 z0 z1 z2 z3 z4 z5 z7 z9 z16 z18 z25 z29 z30 z31 z32 z33 z34 z42 z43 g35 g36 g37 g39 g40 g41 pg) A) args s 0 0 A) [(m0, .inr (5, [.int (iZ z0), .int (iZ z1), .int (iZ z2), .int (iZ z3), .int (iZ z4), .int (iZ z5), .ref a6, .int (iZ z7), .ref a8, .int (iZ z9), .ref a10, .ref a11, .ref a12, .ref a13, .ref a14, .ref a15, .int (iZ z16), .ref a17, .int (iZ z18), .ref a19, .ref a20, .ref a21, .ref a22, .ref a23, .ref a24, .int (iZ z25), .ref a26, .ref a27, .ref a28, .int (iZ z29), .int (iZ z30), .int (iZ z31), .int (iZ z32), .int (iZ z33), .int (iZ z34), .ref a35, .ref a36, .ref a37, .ref a38, .ref a39, .ref a40, .ref a41, .int (iZ z42), .int (iZ z43), .ref a44, .ref a45])), (a35, .inl (cI, 900, .inl (zA g35))), (a36, .inl (cI, 900, .inl (zA g36))), (a37, .inl (cI, 901, .inl (zA g37))), (a39, .inl (cI, 900, .inl (zA g39))), (a40, .inl (cI, 900, .inl (zA g40))), (a41, .inl (cI, 901, .inl (zA g41)))] 82 [(0, .ref m0), (2, .int (iZ (pg * z34))), (3, .int (iZ (pg * z43))), (4, .int (iZ z34)), (6, .int (iZ c9))] [] := by
          intro kf
          induction kf with
          | zero => intro c9 hc9 hin hm; exact absurd hm (Nat.not_lt_zero _)
          | succ kf ih_82 =>
            intro c9 hc9 hin hm
            refine g_iload X 4 dX5_isAlike_82 rfl ?_
            refine g_iload X 3 dX5_isAlike_84 rfl ?_
            refine g_icmp_ge X 218 dX5_isAlike_86 (by decide) (by omega) (by omega) (fun c_86 => ?_) (fun c_86 => ?_)
            · skip
              refine g_iconst X dX5_isAlike_218 ?_
              exact g_zret X (by omega) hr (by decide) (by decide) dX5_isAlike_219 ⟨_, rfl, Or.inl ⟨rfl, by omega, fun c h1 h2 => hin c h1 (by omega)⟩, rfl⟩
            · skip
              refine g_aload_n X 0 dX5_isAlike_89 rfl rfl ?_
              refine g_get X (index := 92) (ref := "GuideWordsModel") hin5 0 rfl rfl 37 (by decide) rfl (by decide +kernel) (v := .ref a37) rfl dX5_isAlike_90 ?_
              refine g_iload_n X 1 dX5_isAlike_93 rfl rfl ?_
              refine g_iload X 4 dX5_isAlike_94 rfl ?_
              refine g_iadd X dX5_isAlike_96 ?_
              refine g_iald X 3 1 rfl rfl (by omega) (by decide) dX5_isAlike_97 ?_
              have r_97 := h37 ((pg * z34) + c9) (by omega)
              refine g_istore (lv2 := [(7, .int (iZ (g37 ((pg * z34) + c9)))), (0, .ref m0), (2, .int (iZ (pg * z34))), (3, .int (iZ (pg * z43))), (4, .int (iZ z34)), (6, .int (iZ c9))]) X dX5_isAlike_98 (by decide) rfl ?_
              refine g_aload_n X 1 dX5_isAlike_100 rfl rfl ?_
              refine g_get X (index := 104) (ref := "GuideWordsModel") hin5 0 rfl rfl 41 (by decide) rfl (by decide +kernel) (v := .ref a41) rfl dX5_isAlike_101 ?_
              refine g_iload_n X 3 dX5_isAlike_104 rfl rfl ?_
              refine g_iload X 5 dX5_isAlike_105 rfl ?_
              refine g_iadd X dX5_isAlike_107 ?_
              refine g_iald X 6 1 rfl rfl (by omega) (by decide) dX5_isAlike_108 ?_
              have r_108 := h41 ((pg * z43) + c9) (by omega)
              refine g_istore (lv2 := [(8, .int (iZ (g41 ((pg * z43) + c9)))), (7, .int (iZ (g37 ((pg * z34) + c9)))), (0, .ref m0), (2, .int (iZ (pg * z34))), (3, .int (iZ (pg * z43))), (4, .int (iZ z34)), (6, .int (iZ c9))]) X dX5_isAlike_109 (by decide) rfl ?_
              refine g_aload_n X 2 dX5_isAlike_111 rfl rfl ?_
              refine g_get X (index := 92) (ref := "GuideWordsModel") hin5 0 rfl rfl 37 (by decide) rfl (by decide +kernel) (v := .ref a37) rfl dX5_isAlike_112 ?_
              refine g_iload_n X 3 dX5_isAlike_115 rfl rfl ?_
              refine g_iload X 6 dX5_isAlike_116 rfl ?_
              refine g_iadd X dX5_isAlike_118 ?_
              refine g_iconst X dX5_isAlike_119 ?_
              refine g_iadd X dX5_isAlike_120 ?_
              refine g_iald X 3 1 rfl rfl (by omega) (by decide) dX5_isAlike_121 ?_
              have r_121 := h37 (((pg * z34) + c9) + 1) (by omega)
              refine g_iload X 1 dX5_isAlike_122 rfl ?_
              refine g_isub X dX5_isAlike_124 ?_
              refine g_istore (lv2 := [(9, .int (iZ ((g37 (((pg * z34) + c9) + 1)) - (g37 ((pg * z34) + c9))))), (8, .int (iZ (g41 ((pg * z43) + c9)))), (7, .int (iZ (g37 ((pg * z34) + c9)))), (0, .ref m0), (2, .int (iZ (pg * z34))), (3, .int (iZ (pg * z43))), (4, .int (iZ z34)), (6, .int (iZ c9))]) X dX5_isAlike_125 (by decide) rfl ?_
              refine g_iload X 0 dX5_isAlike_127 rfl ?_
              refine g_aload_n X 3 dX5_isAlike_129 rfl rfl ?_
              refine g_get X (index := 104) (ref := "GuideWordsModel") hin5 0 rfl rfl 41 (by decide) rfl (by decide +kernel) (v := .ref a41) rfl dX5_isAlike_130 ?_
              refine g_iload_n X 5 dX5_isAlike_133 rfl rfl ?_
              refine g_iload X 7 dX5_isAlike_134 rfl ?_
              refine g_iadd X dX5_isAlike_136 ?_
              refine g_iconst X dX5_isAlike_137 ?_
              refine g_iadd X dX5_isAlike_138 ?_
              refine g_iald X 6 1 rfl rfl (by omega) (by decide) dX5_isAlike_139 ?_
              have r_139 := h41 (((pg * z43) + c9) + 1) (by omega)
              refine g_iload X 1 dX5_isAlike_140 rfl ?_
              refine g_isub X dX5_isAlike_142 ?_
              refine g_icmp_eq X 148 dX5_isAlike_143 (by decide) (by omega) (by omega) (fun c_143 => ?_) (fun c_143 => ?_)
              · skip
                refine g_iconst X dX5_isAlike_148 ?_
                refine g_istore (lv2 := [(10, .int (iZ 0)), (9, .int (iZ ((g37 (((pg * z34) + c9) + 1)) - (g37 ((pg * z34) + c9))))), (8, .int (iZ (g41 ((pg * z43) + c9)))), (7, .int (iZ (g37 ((pg * z34) + c9)))), (0, .ref m0), (2, .int (iZ (pg * z34))), (3, .int (iZ (pg * z43))), (4, .int (iZ z34)), (6, .int (iZ c9))]) X dX5_isAlike_149 (by decide) rfl ?_
                refine g_lv (lv' := [(0, .ref m0), (2, .int (iZ (pg * z34))), (3, .int (iZ (pg * z43))), (4, .int (iZ z34)), (6, .int (iZ c9)), (7, .int (iZ (g37 ((pg * z34) + c9)))), (8, .int (iZ (g41 ((pg * z43) + c9)))), (9, .int (iZ ((g37 (((pg * z34) + c9) + 1)) - (g37 ((pg * z34) + c9))))), (10, .int (iZ 0))]) [4, 5, 6, 7, 8, 3, 2, 1, 0] rfl ?_
                have loop_151 : ∀ (kf : Nat) (k : Int), (hk : 0 ≤ k ∧ k ≤ 900) → (hkk : ∀ i : Int, 0 ≤ i → i < k → (g35 (g37 (pg * z34 + c9) + i) = g39 (g41 (pg * z43 + c9) + i) ∧ g36 (g37 (pg * z34 + c9) + i) = g40 (g41 (pg * z43 + c9) + i))) → (900 - k).toNat < kf → gW p l e { frames := 0, cells := 0, slots := 0, locals := 0 } s m args below meth c D A 11 0 0 (MQ below (gQ D (gT cB cI cJ cY) (qX5_isAlike cB cI cJ cY m0 a6 a8 a10 a11 a12 a13 a14 a15 a17 a19 a20 a21 a22 a23 a24 a26 a27 a28 a35 a36 a37 a38 a39 a40 a41 a44 a45 z0 z1 z2 z3 z4 z5 z7 z9 z16 z18 z25 z29 z30 z31 z32 z33 z34 z42 z43 g35 g36 g37 g39 g40 g41 pg) A) args s 0 0 A) [(m0, .inr (5, [.int (iZ z0), .int (iZ z1), .int (iZ z2), .int (iZ z3), .int (iZ z4), .int (iZ z5), .ref a6, .int (iZ z7), .ref a8, .int (iZ z9), .ref a10, .ref a11, .ref a12, .ref a13, .ref a14, .ref a15, .int (iZ z16), .ref a17, .int (iZ z18), .ref a19, .ref a20, .ref a21, .ref a22, .ref a23, .ref a24, .int (iZ z25), .ref a26, .ref a27, .ref a28, .int (iZ z29), .int (iZ z30), .int (iZ z31), .int (iZ z32), .int (iZ z33), .int (iZ z34), .ref a35, .ref a36, .ref a37, .ref a38, .ref a39, .ref a40, .ref a41, .int (iZ z42), .int (iZ z43), .ref a44, .ref a45])), (a35, .inl (cI, 900, .inl (zA g35))), (a36, .inl (cI, 900, .inl (zA g36))), (a37, .inl (cI, 901, .inl (zA g37))), (a39, .inl (cI, 900, .inl (zA g39))), (a40, .inl (cI, 900, .inl (zA g40))), (a41, .inl (cI, 901, .inl (zA g41)))] 151 [(0, .ref m0), (2, .int (iZ (pg * z34))), (3, .int (iZ (pg * z43))), (4, .int (iZ z34)), (6, .int (iZ c9)), (7, .int (iZ (g37 ((pg * z34) + c9)))), (8, .int (iZ (g41 ((pg * z43) + c9)))), (9, .int (iZ ((g37 (((pg * z34) + c9) + 1)) - (g37 ((pg * z34) + c9))))), (10, .int (iZ k))] [] := by
                  intro kf
                  induction kf with
                  | zero => intro k hk hkk hm; exact absurd hm (Nat.not_lt_zero _)
                  | succ kf ih_151 =>
                    intro k hk hkk hm
                    refine g_iload X 8 dX5_isAlike_151 rfl ?_
                    refine g_iload X 7 dX5_isAlike_153 rfl ?_
                    refine g_icmp_ge X 212 dX5_isAlike_155 (by decide) (by omega) (by omega) (fun c_155 => ?_) (fun c_155 => ?_)
                    · skip
                      have hin2 : ∀ c : Int, 0 ≤ c → c < c9 + 1 → clE g35 g36 g37 g39 g40 g41 (pg * z34) (pg * z43) c := fun c h1 h2 => by
                        rcases (show c = c9 ∨ c < c9 by omega) with h | h
                        · rw [h]; exact ⟨c_143, fun i h3 h4 => hkk i h3 (by omega)⟩
                        · exact hin c h1 h
                      refine g_iinc (q := 4) (lv2 := [(6, .int (iZ (c9 + 1))), (0, .ref m0), (2, .int (iZ (pg * z34))), (3, .int (iZ (pg * z43))), (4, .int (iZ z34)), (7, .int (iZ (g37 ((pg * z34) + c9)))), (8, .int (iZ (g41 ((pg * z43) + c9)))), (9, .int (iZ ((g37 (((pg * z34) + c9) + 1)) - (g37 ((pg * z34) + c9))))), (10, .int (iZ k))]) X dX5_isAlike_212 rfl (by decide) rfl ?_
                      refine g_goto X 82 dX5_isAlike_215 (by decide) ?_
                      refine g_lv (lv' := [(0, .ref m0), (2, .int (iZ (pg * z34))), (3, .int (iZ (pg * z43))), (4, .int (iZ z34)), (6, .int (iZ (c9 + 1)))]) [1, 2, 3, 4, 0] rfl ?_
                      exact ih_82 (c9 + 1) (by omega) hin2 (by omega)
                    · skip
                      refine g_aload_n X 0 dX5_isAlike_158 rfl rfl ?_
                      refine g_get X (index := 86) (ref := "GuideWordsModel") hin5 0 rfl rfl 35 (by decide) rfl (by decide +kernel) (v := .ref a35) rfl dX5_isAlike_159 ?_
                      refine g_iload X 5 dX5_isAlike_162 rfl ?_
                      refine g_iload X 8 dX5_isAlike_164 rfl ?_
                      refine g_iadd X dX5_isAlike_166 ?_
                      refine g_iald X 1 1 rfl rfl (by omega) (by decide) dX5_isAlike_167 ?_
                      have r_167 := h35 ((g37 ((pg * z34) + c9)) + k) (by omega)
                      refine g_aload_n X 0 dX5_isAlike_168 rfl rfl ?_
                      refine g_get X (index := 98) (ref := "GuideWordsModel") hin5 0 rfl rfl 39 (by decide) rfl (by decide +kernel) (v := .ref a39) rfl dX5_isAlike_169 ?_
                      refine g_iload X 6 dX5_isAlike_172 rfl ?_
                      refine g_iload X 8 dX5_isAlike_174 rfl ?_
                      refine g_iadd X dX5_isAlike_176 ?_
                      refine g_iald X 4 1 rfl rfl (by omega) (by decide) dX5_isAlike_177 ?_
                      have r_177 := h39 ((g41 ((pg * z43) + c9)) + k) (by omega)
                      refine g_icmp_ne X 204 dX5_isAlike_178 (by decide) (by omega) (by omega) (fun c_178 => ?_) (fun c_178 => ?_)
                      · skip
                        refine g_iconst X dX5_isAlike_204 ?_
                        exact g_zret X (by omega) hr (by decide) (by decide) dX5_isAlike_205 ⟨_, rfl, Or.inr ⟨rfl, fun h9 => by have q := (h9.2 c9 (by omega) (by omega)).2 k (by omega) (by omega); first | exact c_178 q.1 | exact c_201 q.2⟩, rfl⟩
                      · skip
                        refine g_aload_n X 0 dX5_isAlike_181 rfl rfl ?_
                        refine g_get X (index := 89) (ref := "GuideWordsModel") hin5 0 rfl rfl 36 (by decide) rfl (by decide +kernel) (v := .ref a36) rfl dX5_isAlike_182 ?_
                        refine g_iload X 5 dX5_isAlike_185 rfl ?_
                        refine g_iload X 8 dX5_isAlike_187 rfl ?_
                        refine g_iadd X dX5_isAlike_189 ?_
                        refine g_iald X 2 1 rfl rfl (by omega) (by decide) dX5_isAlike_190 ?_
                        have r_190 := h36 ((g37 ((pg * z34) + c9)) + k) (by omega)
                        refine g_aload_n X 0 dX5_isAlike_191 rfl rfl ?_
                        refine g_get X (index := 101) (ref := "GuideWordsModel") hin5 0 rfl rfl 40 (by decide) rfl (by decide +kernel) (v := .ref a40) rfl dX5_isAlike_192 ?_
                        refine g_iload X 6 dX5_isAlike_195 rfl ?_
                        refine g_iload X 8 dX5_isAlike_197 rfl ?_
                        refine g_iadd X dX5_isAlike_199 ?_
                        refine g_iald X 5 1 rfl rfl (by omega) (by decide) dX5_isAlike_200 ?_
                        have r_200 := h40 ((g41 ((pg * z43) + c9)) + k) (by omega)
                        refine g_icmp_eq X 206 dX5_isAlike_201 (by decide) (by omega) (by omega) (fun c_201 => ?_) (fun c_201 => ?_)
                        · skip
                          refine g_iinc (q := 8) (lv2 := [(10, .int (iZ (k + 1))), (0, .ref m0), (2, .int (iZ (pg * z34))), (3, .int (iZ (pg * z43))), (4, .int (iZ z34)), (6, .int (iZ c9)), (7, .int (iZ (g37 ((pg * z34) + c9)))), (8, .int (iZ (g41 ((pg * z43) + c9)))), (9, .int (iZ ((g37 (((pg * z34) + c9) + 1)) - (g37 ((pg * z34) + c9)))))]) X dX5_isAlike_206 rfl (by decide) rfl ?_
                          refine g_goto X 151 dX5_isAlike_209 (by decide) ?_
                          refine g_lv (lv' := [(0, .ref m0), (2, .int (iZ (pg * z34))), (3, .int (iZ (pg * z43))), (4, .int (iZ z34)), (6, .int (iZ c9)), (7, .int (iZ (g37 ((pg * z34) + c9)))), (8, .int (iZ (g41 ((pg * z43) + c9)))), (9, .int (iZ ((g37 (((pg * z34) + c9) + 1)) - (g37 ((pg * z34) + c9))))), (10, .int (iZ (k + 1)))]) [1, 2, 3, 4, 5, 6, 7, 8, 0] rfl ?_
                          exact ih_151 (k + 1) (by omega) (fun i h1 h2 => by
                              rcases (show i = k ∨ i < k by omega) with h | h
                              · rw [h]; exact ⟨c_178, c_201⟩
                              · exact hkk i h1 h) (by omega)
                        · skip
                          refine g_iconst X dX5_isAlike_204 ?_
                          exact g_zret X (by omega) hr (by decide) (by decide) dX5_isAlike_205 ⟨_, rfl, Or.inr ⟨rfl, fun h9 => by have q := (h9.2 c9 (by omega) (by omega)).2 k (by omega) (by omega); first | exact c_178 q.1 | exact c_201 q.2⟩, rfl⟩
                exact loop_151 _ 0 (by omega) (fun i h1 h2 => by omega) (Nat.lt_succ_self _)
              · skip
                refine g_iconst X dX5_isAlike_146 ?_
                exact g_zret X (by omega) hr (by decide) (by decide) dX5_isAlike_147 ⟨_, rfl, Or.inr ⟨rfl, fun h9 => c_143 (h9.2 c9 (by omega) (by omega)).1⟩, rfl⟩
        exact loop_82 _ 0 (by omega) (fun c h1 h2 => by omega) (Nat.lt_succ_self _)
      · skip
        refine g_iconst X dX5_isAlike_77 ?_
        exact g_zret X (by omega) hr (by decide) (by decide) dX5_isAlike_78 ⟨_, rfl, Or.inr ⟨rfl, fun h9 => c_74 (by have := h9.1; omega)⟩, rfl⟩
  · skip
    refine g_aload_n X 2 dX5_isAlike_27 rfl rfl ?_
    refine g_get X (index := 173) (ref := "GuideWordsModel") hin5 0 rfl rfl 31 (by decide) rfl (by decide +kernel) (v := .int (iZ z31)) rfl dX5_isAlike_28 ?_
    refine g_iload_n X 1 dX5_isAlike_31 rfl rfl ?_
    refine g_isub X dX5_isAlike_32 ?_
    refine g_goto X 40 dX5_isAlike_33 (by decide) ?_
    refine g_istore (lv2 := [(4, .int (iZ (z31 - (pg * z34)))), (3, .int (iZ (pg * z43))), (2, .int (iZ (pg * z34))), (0, .ref m0), (1, .int (iZ pg))]) X dX5_isAlike_40 (by decide) rfl ?_
    refine g_aload_n X 3 dX5_isAlike_42 rfl rfl ?_
    refine g_get X (index := 176) (ref := "GuideWordsModel") hin5 0 rfl rfl 42 (by decide) rfl (by decide +kernel) (v := .int (iZ z42)) rfl dX5_isAlike_43 ?_
    refine g_iload_n X 1 dX5_isAlike_46 rfl rfl ?_
    refine g_isub X dX5_isAlike_47 ?_
    refine g_aload_n X 3 dX5_isAlike_48 rfl rfl ?_
    refine g_get X (index := 107) (ref := "GuideWordsModel") hin5 0 rfl rfl 43 (by decide) rfl (by decide +kernel) (v := .int (iZ z43)) rfl dX5_isAlike_49 ?_
    refine g_icmp_ge X 64 dX5_isAlike_52 (by decide) (by omega) (by omega) (fun c_52 => ?_) (fun c_52 => ?_)
    · skip
      refine g_aload_n X 3 dX5_isAlike_64 rfl rfl ?_
      refine g_get X (index := 107) (ref := "GuideWordsModel") hin5 0 rfl rfl 43 (by decide) rfl (by decide +kernel) (v := .int (iZ z43)) rfl dX5_isAlike_65 ?_
      refine g_istore (lv2 := [(5, .int (iZ z43)), (4, .int (iZ (z31 - (pg * z34)))), (3, .int (iZ (pg * z43))), (2, .int (iZ (pg * z34))), (0, .ref m0), (1, .int (iZ pg))]) X dX5_isAlike_68 (by decide) rfl ?_
      have hn : z31 - (pg * z34) = mnM (z31 - pg * z34) z34 := by unfold mnM; first | rw [if_pos (by omega)] | rw [if_neg (by omega)]
      have hm : z43 = mnM (z42 - pg * z43) z43 := by unfold mnM; first | rw [if_pos (by omega)] | rw [if_neg (by omega)]
      have mb1 := mnM_b (z31 - pg * z34) z34
      have mb2 := mnM_b (z42 - pg * z43) z43
      refine g_iload X 1 dX5_isAlike_70 rfl ?_
      refine g_iload X 0 dX5_isAlike_72 rfl ?_
      refine g_icmp_eq X 79 dX5_isAlike_74 (by decide) (by omega) (by omega) (fun c_74 => ?_) (fun c_74 => ?_)
      · skip
        refine g_iconst X dX5_isAlike_79 ?_
        refine g_istore (lv2 := [(6, .int (iZ 0)), (5, .int (iZ z43)), (4, .int (iZ (z31 - (pg * z34)))), (3, .int (iZ (pg * z43))), (2, .int (iZ (pg * z34))), (0, .ref m0), (1, .int (iZ pg))]) X dX5_isAlike_80 (by decide) rfl ?_
        refine g_lv (lv' := [(0, .ref m0), (2, .int (iZ (pg * z34))), (3, .int (iZ (pg * z43))), (4, .int (iZ (z31 - (pg * z34)))), (6, .int (iZ 0))]) [5, 4, 3, 2, 0] rfl ?_
        have loop_82 : ∀ (kf : Nat) (c9 : Int), (hc9 : 0 ≤ c9 ∧ c9 ≤ mnM (z31 - pg * z34) z34) → (hin : ∀ c : Int, 0 ≤ c → c < c9 → clE g35 g36 g37 g39 g40 g41 (pg * z34) (pg * z43) c) → (mnM (z31 - pg * z34) z34 - c9).toNat < kf → gW p l e { frames := 0, cells := 0, slots := 0, locals := 0 } s m args below meth c D A 11 0 0 (MQ below (gQ D (gT cB cI cJ cY) (qX5_isAlike cB cI cJ cY m0 a6 a8 a10 a11 a12 a13 a14 a15 a17 a19 a20 a21 a22 a23 a24 a26 a27 a28 a35 a36 a37 a38 a39 a40 a41 a44 a45 z0 z1 z2 z3 z4 z5 z7 z9 z16 z18 z25 z29 z30 z31 z32 z33 z34 z42 z43 g35 g36 g37 g39 g40 g41 pg) A) args s 0 0 A) [(m0, .inr (5, [.int (iZ z0), .int (iZ z1), .int (iZ z2), .int (iZ z3), .int (iZ z4), .int (iZ z5), .ref a6, .int (iZ z7), .ref a8, .int (iZ z9), .ref a10, .ref a11, .ref a12, .ref a13, .ref a14, .ref a15, .int (iZ z16), .ref a17, .int (iZ z18), .ref a19, .ref a20, .ref a21, .ref a22, .ref a23, .ref a24, .int (iZ z25), .ref a26, .ref a27, .ref a28, .int (iZ z29), .int (iZ z30), .int (iZ z31), .int (iZ z32), .int (iZ z33), .int (iZ z34), .ref a35, .ref a36, .ref a37, .ref a38, .ref a39, .ref a40, .ref a41, .int (iZ z42), .int (iZ z43), .ref a44, .ref a45])), (a35, .inl (cI, 900, .inl (zA g35))), (a36, .inl (cI, 900, .inl (zA g36))), (a37, .inl (cI, 901, .inl (zA g37))), (a39, .inl (cI, 900, .inl (zA g39))), (a40, .inl (cI, 900, .inl (zA g40))), (a41, .inl (cI, 901, .inl (zA g41)))] 82 [(0, .ref m0), (2, .int (iZ (pg * z34))), (3, .int (iZ (pg * z43))), (4, .int (iZ (z31 - (pg * z34)))), (6, .int (iZ c9))] [] := by
          intro kf
          induction kf with
          | zero => intro c9 hc9 hin hm; exact absurd hm (Nat.not_lt_zero _)
          | succ kf ih_82 =>
            intro c9 hc9 hin hm
            refine g_iload X 4 dX5_isAlike_82 rfl ?_
            refine g_iload X 3 dX5_isAlike_84 rfl ?_
            refine g_icmp_ge X 218 dX5_isAlike_86 (by decide) (by omega) (by omega) (fun c_86 => ?_) (fun c_86 => ?_)
            · skip
              refine g_iconst X dX5_isAlike_218 ?_
              exact g_zret X (by omega) hr (by decide) (by decide) dX5_isAlike_219 ⟨_, rfl, Or.inl ⟨rfl, by omega, fun c h1 h2 => hin c h1 (by omega)⟩, rfl⟩
            · skip
              refine g_aload_n X 0 dX5_isAlike_89 rfl rfl ?_
              refine g_get X (index := 92) (ref := "GuideWordsModel") hin5 0 rfl rfl 37 (by decide) rfl (by decide +kernel) (v := .ref a37) rfl dX5_isAlike_90 ?_
              refine g_iload_n X 1 dX5_isAlike_93 rfl rfl ?_
              refine g_iload X 4 dX5_isAlike_94 rfl ?_
              refine g_iadd X dX5_isAlike_96 ?_
              refine g_iald X 3 1 rfl rfl (by omega) (by decide) dX5_isAlike_97 ?_
              have r_97 := h37 ((pg * z34) + c9) (by omega)
              refine g_istore (lv2 := [(7, .int (iZ (g37 ((pg * z34) + c9)))), (0, .ref m0), (2, .int (iZ (pg * z34))), (3, .int (iZ (pg * z43))), (4, .int (iZ (z31 - (pg * z34)))), (6, .int (iZ c9))]) X dX5_isAlike_98 (by decide) rfl ?_
              refine g_aload_n X 1 dX5_isAlike_100 rfl rfl ?_
              refine g_get X (index := 104) (ref := "GuideWordsModel") hin5 0 rfl rfl 41 (by decide) rfl (by decide +kernel) (v := .ref a41) rfl dX5_isAlike_101 ?_
              refine g_iload_n X 3 dX5_isAlike_104 rfl rfl ?_
              refine g_iload X 5 dX5_isAlike_105 rfl ?_
              refine g_iadd X dX5_isAlike_107 ?_
              refine g_iald X 6 1 rfl rfl (by omega) (by decide) dX5_isAlike_108 ?_
              have r_108 := h41 ((pg * z43) + c9) (by omega)
              refine g_istore (lv2 := [(8, .int (iZ (g41 ((pg * z43) + c9)))), (7, .int (iZ (g37 ((pg * z34) + c9)))), (0, .ref m0), (2, .int (iZ (pg * z34))), (3, .int (iZ (pg * z43))), (4, .int (iZ (z31 - (pg * z34)))), (6, .int (iZ c9))]) X dX5_isAlike_109 (by decide) rfl ?_
              refine g_aload_n X 2 dX5_isAlike_111 rfl rfl ?_
              refine g_get X (index := 92) (ref := "GuideWordsModel") hin5 0 rfl rfl 37 (by decide) rfl (by decide +kernel) (v := .ref a37) rfl dX5_isAlike_112 ?_
              refine g_iload_n X 3 dX5_isAlike_115 rfl rfl ?_
              refine g_iload X 6 dX5_isAlike_116 rfl ?_
              refine g_iadd X dX5_isAlike_118 ?_
              refine g_iconst X dX5_isAlike_119 ?_
              refine g_iadd X dX5_isAlike_120 ?_
              refine g_iald X 3 1 rfl rfl (by omega) (by decide) dX5_isAlike_121 ?_
              have r_121 := h37 (((pg * z34) + c9) + 1) (by omega)
              refine g_iload X 1 dX5_isAlike_122 rfl ?_
              refine g_isub X dX5_isAlike_124 ?_
              refine g_istore (lv2 := [(9, .int (iZ ((g37 (((pg * z34) + c9) + 1)) - (g37 ((pg * z34) + c9))))), (8, .int (iZ (g41 ((pg * z43) + c9)))), (7, .int (iZ (g37 ((pg * z34) + c9)))), (0, .ref m0), (2, .int (iZ (pg * z34))), (3, .int (iZ (pg * z43))), (4, .int (iZ (z31 - (pg * z34)))), (6, .int (iZ c9))]) X dX5_isAlike_125 (by decide) rfl ?_
              refine g_iload X 0 dX5_isAlike_127 rfl ?_
              refine g_aload_n X 3 dX5_isAlike_129 rfl rfl ?_
              refine g_get X (index := 104) (ref := "GuideWordsModel") hin5 0 rfl rfl 41 (by decide) rfl (by decide +kernel) (v := .ref a41) rfl dX5_isAlike_130 ?_
              refine g_iload_n X 5 dX5_isAlike_133 rfl rfl ?_
              refine g_iload X 7 dX5_isAlike_134 rfl ?_
              refine g_iadd X dX5_isAlike_136 ?_
              refine g_iconst X dX5_isAlike_137 ?_
              refine g_iadd X dX5_isAlike_138 ?_
              refine g_iald X 6 1 rfl rfl (by omega) (by decide) dX5_isAlike_139 ?_
              have r_139 := h41 (((pg * z43) + c9) + 1) (by omega)
              refine g_iload X 1 dX5_isAlike_140 rfl ?_
              refine g_isub X dX5_isAlike_142 ?_
              refine g_icmp_eq X 148 dX5_isAlike_143 (by decide) (by omega) (by omega) (fun c_143 => ?_) (fun c_143 => ?_)
              · skip
                refine g_iconst X dX5_isAlike_148 ?_
                refine g_istore (lv2 := [(10, .int (iZ 0)), (9, .int (iZ ((g37 (((pg * z34) + c9) + 1)) - (g37 ((pg * z34) + c9))))), (8, .int (iZ (g41 ((pg * z43) + c9)))), (7, .int (iZ (g37 ((pg * z34) + c9)))), (0, .ref m0), (2, .int (iZ (pg * z34))), (3, .int (iZ (pg * z43))), (4, .int (iZ (z31 - (pg * z34)))), (6, .int (iZ c9))]) X dX5_isAlike_149 (by decide) rfl ?_
                refine g_lv (lv' := [(0, .ref m0), (2, .int (iZ (pg * z34))), (3, .int (iZ (pg * z43))), (4, .int (iZ (z31 - (pg * z34)))), (6, .int (iZ c9)), (7, .int (iZ (g37 ((pg * z34) + c9)))), (8, .int (iZ (g41 ((pg * z43) + c9)))), (9, .int (iZ ((g37 (((pg * z34) + c9) + 1)) - (g37 ((pg * z34) + c9))))), (10, .int (iZ 0))]) [4, 5, 6, 7, 8, 3, 2, 1, 0] rfl ?_
                have loop_151 : ∀ (kf : Nat) (k : Int), (hk : 0 ≤ k ∧ k ≤ 900) → (hkk : ∀ i : Int, 0 ≤ i → i < k → (g35 (g37 (pg * z34 + c9) + i) = g39 (g41 (pg * z43 + c9) + i) ∧ g36 (g37 (pg * z34 + c9) + i) = g40 (g41 (pg * z43 + c9) + i))) → (900 - k).toNat < kf → gW p l e { frames := 0, cells := 0, slots := 0, locals := 0 } s m args below meth c D A 11 0 0 (MQ below (gQ D (gT cB cI cJ cY) (qX5_isAlike cB cI cJ cY m0 a6 a8 a10 a11 a12 a13 a14 a15 a17 a19 a20 a21 a22 a23 a24 a26 a27 a28 a35 a36 a37 a38 a39 a40 a41 a44 a45 z0 z1 z2 z3 z4 z5 z7 z9 z16 z18 z25 z29 z30 z31 z32 z33 z34 z42 z43 g35 g36 g37 g39 g40 g41 pg) A) args s 0 0 A) [(m0, .inr (5, [.int (iZ z0), .int (iZ z1), .int (iZ z2), .int (iZ z3), .int (iZ z4), .int (iZ z5), .ref a6, .int (iZ z7), .ref a8, .int (iZ z9), .ref a10, .ref a11, .ref a12, .ref a13, .ref a14, .ref a15, .int (iZ z16), .ref a17, .int (iZ z18), .ref a19, .ref a20, .ref a21, .ref a22, .ref a23, .ref a24, .int (iZ z25), .ref a26, .ref a27, .ref a28, .int (iZ z29), .int (iZ z30), .int (iZ z31), .int (iZ z32), .int (iZ z33), .int (iZ z34), .ref a35, .ref a36, .ref a37, .ref a38, .ref a39, .ref a40, .ref a41, .int (iZ z42), .int (iZ z43), .ref a44, .ref a45])), (a35, .inl (cI, 900, .inl (zA g35))), (a36, .inl (cI, 900, .inl (zA g36))), (a37, .inl (cI, 901, .inl (zA g37))), (a39, .inl (cI, 900, .inl (zA g39))), (a40, .inl (cI, 900, .inl (zA g40))), (a41, .inl (cI, 901, .inl (zA g41)))] 151 [(0, .ref m0), (2, .int (iZ (pg * z34))), (3, .int (iZ (pg * z43))), (4, .int (iZ (z31 - (pg * z34)))), (6, .int (iZ c9)), (7, .int (iZ (g37 ((pg * z34) + c9)))), (8, .int (iZ (g41 ((pg * z43) + c9)))), (9, .int (iZ ((g37 (((pg * z34) + c9) + 1)) - (g37 ((pg * z34) + c9))))), (10, .int (iZ k))] [] := by
                  intro kf
                  induction kf with
                  | zero => intro k hk hkk hm; exact absurd hm (Nat.not_lt_zero _)
                  | succ kf ih_151 =>
                    intro k hk hkk hm
                    refine g_iload X 8 dX5_isAlike_151 rfl ?_
                    refine g_iload X 7 dX5_isAlike_153 rfl ?_
                    refine g_icmp_ge X 212 dX5_isAlike_155 (by decide) (by omega) (by omega) (fun c_155 => ?_) (fun c_155 => ?_)
                    · skip
                      have hin2 : ∀ c : Int, 0 ≤ c → c < c9 + 1 → clE g35 g36 g37 g39 g40 g41 (pg * z34) (pg * z43) c := fun c h1 h2 => by
                        rcases (show c = c9 ∨ c < c9 by omega) with h | h
                        · rw [h]; exact ⟨c_143, fun i h3 h4 => hkk i h3 (by omega)⟩
                        · exact hin c h1 h
                      refine g_iinc (q := 4) (lv2 := [(6, .int (iZ (c9 + 1))), (0, .ref m0), (2, .int (iZ (pg * z34))), (3, .int (iZ (pg * z43))), (4, .int (iZ (z31 - (pg * z34)))), (7, .int (iZ (g37 ((pg * z34) + c9)))), (8, .int (iZ (g41 ((pg * z43) + c9)))), (9, .int (iZ ((g37 (((pg * z34) + c9) + 1)) - (g37 ((pg * z34) + c9))))), (10, .int (iZ k))]) X dX5_isAlike_212 rfl (by decide) rfl ?_
                      refine g_goto X 82 dX5_isAlike_215 (by decide) ?_
                      refine g_lv (lv' := [(0, .ref m0), (2, .int (iZ (pg * z34))), (3, .int (iZ (pg * z43))), (4, .int (iZ (z31 - (pg * z34)))), (6, .int (iZ (c9 + 1)))]) [1, 2, 3, 4, 0] rfl ?_
                      exact ih_82 (c9 + 1) (by omega) hin2 (by omega)
                    · skip
                      refine g_aload_n X 0 dX5_isAlike_158 rfl rfl ?_
                      refine g_get X (index := 86) (ref := "GuideWordsModel") hin5 0 rfl rfl 35 (by decide) rfl (by decide +kernel) (v := .ref a35) rfl dX5_isAlike_159 ?_
                      refine g_iload X 5 dX5_isAlike_162 rfl ?_
                      refine g_iload X 8 dX5_isAlike_164 rfl ?_
                      refine g_iadd X dX5_isAlike_166 ?_
                      refine g_iald X 1 1 rfl rfl (by omega) (by decide) dX5_isAlike_167 ?_
                      have r_167 := h35 ((g37 ((pg * z34) + c9)) + k) (by omega)
                      refine g_aload_n X 0 dX5_isAlike_168 rfl rfl ?_
                      refine g_get X (index := 98) (ref := "GuideWordsModel") hin5 0 rfl rfl 39 (by decide) rfl (by decide +kernel) (v := .ref a39) rfl dX5_isAlike_169 ?_
                      refine g_iload X 6 dX5_isAlike_172 rfl ?_
                      refine g_iload X 8 dX5_isAlike_174 rfl ?_
                      refine g_iadd X dX5_isAlike_176 ?_
                      refine g_iald X 4 1 rfl rfl (by omega) (by decide) dX5_isAlike_177 ?_
                      have r_177 := h39 ((g41 ((pg * z43) + c9)) + k) (by omega)
                      refine g_icmp_ne X 204 dX5_isAlike_178 (by decide) (by omega) (by omega) (fun c_178 => ?_) (fun c_178 => ?_)
                      · skip
                        refine g_iconst X dX5_isAlike_204 ?_
                        exact g_zret X (by omega) hr (by decide) (by decide) dX5_isAlike_205 ⟨_, rfl, Or.inr ⟨rfl, fun h9 => by have q := (h9.2 c9 (by omega) (by omega)).2 k (by omega) (by omega); first | exact c_178 q.1 | exact c_201 q.2⟩, rfl⟩
                      · skip
                        refine g_aload_n X 0 dX5_isAlike_181 rfl rfl ?_
                        refine g_get X (index := 89) (ref := "GuideWordsModel") hin5 0 rfl rfl 36 (by decide) rfl (by decide +kernel) (v := .ref a36) rfl dX5_isAlike_182 ?_
                        refine g_iload X 5 dX5_isAlike_185 rfl ?_
                        refine g_iload X 8 dX5_isAlike_187 rfl ?_
                        refine g_iadd X dX5_isAlike_189 ?_
                        refine g_iald X 2 1 rfl rfl (by omega) (by decide) dX5_isAlike_190 ?_
                        have r_190 := h36 ((g37 ((pg * z34) + c9)) + k) (by omega)
                        refine g_aload_n X 0 dX5_isAlike_191 rfl rfl ?_
                        refine g_get X (index := 101) (ref := "GuideWordsModel") hin5 0 rfl rfl 40 (by decide) rfl (by decide +kernel) (v := .ref a40) rfl dX5_isAlike_192 ?_
                        refine g_iload X 6 dX5_isAlike_195 rfl ?_
                        refine g_iload X 8 dX5_isAlike_197 rfl ?_
                        refine g_iadd X dX5_isAlike_199 ?_
                        refine g_iald X 5 1 rfl rfl (by omega) (by decide) dX5_isAlike_200 ?_
                        have r_200 := h40 ((g41 ((pg * z43) + c9)) + k) (by omega)
                        refine g_icmp_eq X 206 dX5_isAlike_201 (by decide) (by omega) (by omega) (fun c_201 => ?_) (fun c_201 => ?_)
                        · skip
                          refine g_iinc (q := 8) (lv2 := [(10, .int (iZ (k + 1))), (0, .ref m0), (2, .int (iZ (pg * z34))), (3, .int (iZ (pg * z43))), (4, .int (iZ (z31 - (pg * z34)))), (6, .int (iZ c9)), (7, .int (iZ (g37 ((pg * z34) + c9)))), (8, .int (iZ (g41 ((pg * z43) + c9)))), (9, .int (iZ ((g37 (((pg * z34) + c9) + 1)) - (g37 ((pg * z34) + c9)))))]) X dX5_isAlike_206 rfl (by decide) rfl ?_
                          refine g_goto X 151 dX5_isAlike_209 (by decide) ?_
                          refine g_lv (lv' := [(0, .ref m0), (2, .int (iZ (pg * z34))), (3, .int (iZ (pg * z43))), (4, .int (iZ (z31 - (pg * z34)))), (6, .int (iZ c9)), (7, .int (iZ (g37 ((pg * z34) + c9)))), (8, .int (iZ (g41 ((pg * z43) + c9)))), (9, .int (iZ ((g37 (((pg * z34) + c9) + 1)) - (g37 ((pg * z34) + c9))))), (10, .int (iZ (k + 1)))]) [1, 2, 3, 4, 5, 6, 7, 8, 0] rfl ?_
                          exact ih_151 (k + 1) (by omega) (fun i h1 h2 => by
                              rcases (show i = k ∨ i < k by omega) with h | h
                              · rw [h]; exact ⟨c_178, c_201⟩
                              · exact hkk i h1 h) (by omega)
                        · skip
                          refine g_iconst X dX5_isAlike_204 ?_
                          exact g_zret X (by omega) hr (by decide) (by decide) dX5_isAlike_205 ⟨_, rfl, Or.inr ⟨rfl, fun h9 => by have q := (h9.2 c9 (by omega) (by omega)).2 k (by omega) (by omega); first | exact c_178 q.1 | exact c_201 q.2⟩, rfl⟩
                exact loop_151 _ 0 (by omega) (fun i h1 h2 => by omega) (Nat.lt_succ_self _)
              · skip
                refine g_iconst X dX5_isAlike_146 ?_
                exact g_zret X (by omega) hr (by decide) (by decide) dX5_isAlike_147 ⟨_, rfl, Or.inr ⟨rfl, fun h9 => c_143 (h9.2 c9 (by omega) (by omega)).1⟩, rfl⟩
        exact loop_82 _ 0 (by omega) (fun c h1 h2 => by omega) (Nat.lt_succ_self _)
      · skip
        refine g_iconst X dX5_isAlike_77 ?_
        exact g_zret X (by omega) hr (by decide) (by decide) dX5_isAlike_78 ⟨_, rfl, Or.inr ⟨rfl, fun h9 => c_74 (by have := h9.1; omega)⟩, rfl⟩
    · skip
      refine g_aload_n X 3 dX5_isAlike_55 rfl rfl ?_
      refine g_get X (index := 176) (ref := "GuideWordsModel") hin5 0 rfl rfl 42 (by decide) rfl (by decide +kernel) (v := .int (iZ z42)) rfl dX5_isAlike_56 ?_
      refine g_iload_n X 1 dX5_isAlike_59 rfl rfl ?_
      refine g_isub X dX5_isAlike_60 ?_
      refine g_goto X 68 dX5_isAlike_61 (by decide) ?_
      refine g_istore (lv2 := [(5, .int (iZ (z42 - (pg * z43)))), (4, .int (iZ (z31 - (pg * z34)))), (3, .int (iZ (pg * z43))), (2, .int (iZ (pg * z34))), (0, .ref m0), (1, .int (iZ pg))]) X dX5_isAlike_68 (by decide) rfl ?_
      have hn : z31 - (pg * z34) = mnM (z31 - pg * z34) z34 := by unfold mnM; first | rw [if_pos (by omega)] | rw [if_neg (by omega)]
      have hm : z42 - (pg * z43) = mnM (z42 - pg * z43) z43 := by unfold mnM; first | rw [if_pos (by omega)] | rw [if_neg (by omega)]
      have mb1 := mnM_b (z31 - pg * z34) z34
      have mb2 := mnM_b (z42 - pg * z43) z43
      refine g_iload X 1 dX5_isAlike_70 rfl ?_
      refine g_iload X 0 dX5_isAlike_72 rfl ?_
      refine g_icmp_eq X 79 dX5_isAlike_74 (by decide) (by omega) (by omega) (fun c_74 => ?_) (fun c_74 => ?_)
      · skip
        refine g_iconst X dX5_isAlike_79 ?_
        refine g_istore (lv2 := [(6, .int (iZ 0)), (5, .int (iZ (z42 - (pg * z43)))), (4, .int (iZ (z31 - (pg * z34)))), (3, .int (iZ (pg * z43))), (2, .int (iZ (pg * z34))), (0, .ref m0), (1, .int (iZ pg))]) X dX5_isAlike_80 (by decide) rfl ?_
        refine g_lv (lv' := [(0, .ref m0), (2, .int (iZ (pg * z34))), (3, .int (iZ (pg * z43))), (4, .int (iZ (z31 - (pg * z34)))), (6, .int (iZ 0))]) [5, 4, 3, 2, 0] rfl ?_
        have loop_82 : ∀ (kf : Nat) (c9 : Int), (hc9 : 0 ≤ c9 ∧ c9 ≤ mnM (z31 - pg * z34) z34) → (hin : ∀ c : Int, 0 ≤ c → c < c9 → clE g35 g36 g37 g39 g40 g41 (pg * z34) (pg * z43) c) → (mnM (z31 - pg * z34) z34 - c9).toNat < kf → gW p l e { frames := 0, cells := 0, slots := 0, locals := 0 } s m args below meth c D A 11 0 0 (MQ below (gQ D (gT cB cI cJ cY) (qX5_isAlike cB cI cJ cY m0 a6 a8 a10 a11 a12 a13 a14 a15 a17 a19 a20 a21 a22 a23 a24 a26 a27 a28 a35 a36 a37 a38 a39 a40 a41 a44 a45 z0 z1 z2 z3 z4 z5 z7 z9 z16 z18 z25 z29 z30 z31 z32 z33 z34 z42 z43 g35 g36 g37 g39 g40 g41 pg) A) args s 0 0 A) [(m0, .inr (5, [.int (iZ z0), .int (iZ z1), .int (iZ z2), .int (iZ z3), .int (iZ z4), .int (iZ z5), .ref a6, .int (iZ z7), .ref a8, .int (iZ z9), .ref a10, .ref a11, .ref a12, .ref a13, .ref a14, .ref a15, .int (iZ z16), .ref a17, .int (iZ z18), .ref a19, .ref a20, .ref a21, .ref a22, .ref a23, .ref a24, .int (iZ z25), .ref a26, .ref a27, .ref a28, .int (iZ z29), .int (iZ z30), .int (iZ z31), .int (iZ z32), .int (iZ z33), .int (iZ z34), .ref a35, .ref a36, .ref a37, .ref a38, .ref a39, .ref a40, .ref a41, .int (iZ z42), .int (iZ z43), .ref a44, .ref a45])), (a35, .inl (cI, 900, .inl (zA g35))), (a36, .inl (cI, 900, .inl (zA g36))), (a37, .inl (cI, 901, .inl (zA g37))), (a39, .inl (cI, 900, .inl (zA g39))), (a40, .inl (cI, 900, .inl (zA g40))), (a41, .inl (cI, 901, .inl (zA g41)))] 82 [(0, .ref m0), (2, .int (iZ (pg * z34))), (3, .int (iZ (pg * z43))), (4, .int (iZ (z31 - (pg * z34)))), (6, .int (iZ c9))] [] := by
          intro kf
          induction kf with
          | zero => intro c9 hc9 hin hm; exact absurd hm (Nat.not_lt_zero _)
          | succ kf ih_82 =>
            intro c9 hc9 hin hm
            refine g_iload X 4 dX5_isAlike_82 rfl ?_
            refine g_iload X 3 dX5_isAlike_84 rfl ?_
            refine g_icmp_ge X 218 dX5_isAlike_86 (by decide) (by omega) (by omega) (fun c_86 => ?_) (fun c_86 => ?_)
            · skip
              refine g_iconst X dX5_isAlike_218 ?_
              exact g_zret X (by omega) hr (by decide) (by decide) dX5_isAlike_219 ⟨_, rfl, Or.inl ⟨rfl, by omega, fun c h1 h2 => hin c h1 (by omega)⟩, rfl⟩
            · skip
              refine g_aload_n X 0 dX5_isAlike_89 rfl rfl ?_
              refine g_get X (index := 92) (ref := "GuideWordsModel") hin5 0 rfl rfl 37 (by decide) rfl (by decide +kernel) (v := .ref a37) rfl dX5_isAlike_90 ?_
              refine g_iload_n X 1 dX5_isAlike_93 rfl rfl ?_
              refine g_iload X 4 dX5_isAlike_94 rfl ?_
              refine g_iadd X dX5_isAlike_96 ?_
              refine g_iald X 3 1 rfl rfl (by omega) (by decide) dX5_isAlike_97 ?_
              have r_97 := h37 ((pg * z34) + c9) (by omega)
              refine g_istore (lv2 := [(7, .int (iZ (g37 ((pg * z34) + c9)))), (0, .ref m0), (2, .int (iZ (pg * z34))), (3, .int (iZ (pg * z43))), (4, .int (iZ (z31 - (pg * z34)))), (6, .int (iZ c9))]) X dX5_isAlike_98 (by decide) rfl ?_
              refine g_aload_n X 1 dX5_isAlike_100 rfl rfl ?_
              refine g_get X (index := 104) (ref := "GuideWordsModel") hin5 0 rfl rfl 41 (by decide) rfl (by decide +kernel) (v := .ref a41) rfl dX5_isAlike_101 ?_
              refine g_iload_n X 3 dX5_isAlike_104 rfl rfl ?_
              refine g_iload X 5 dX5_isAlike_105 rfl ?_
              refine g_iadd X dX5_isAlike_107 ?_
              refine g_iald X 6 1 rfl rfl (by omega) (by decide) dX5_isAlike_108 ?_
              have r_108 := h41 ((pg * z43) + c9) (by omega)
              refine g_istore (lv2 := [(8, .int (iZ (g41 ((pg * z43) + c9)))), (7, .int (iZ (g37 ((pg * z34) + c9)))), (0, .ref m0), (2, .int (iZ (pg * z34))), (3, .int (iZ (pg * z43))), (4, .int (iZ (z31 - (pg * z34)))), (6, .int (iZ c9))]) X dX5_isAlike_109 (by decide) rfl ?_
              refine g_aload_n X 2 dX5_isAlike_111 rfl rfl ?_
              refine g_get X (index := 92) (ref := "GuideWordsModel") hin5 0 rfl rfl 37 (by decide) rfl (by decide +kernel) (v := .ref a37) rfl dX5_isAlike_112 ?_
              refine g_iload_n X 3 dX5_isAlike_115 rfl rfl ?_
              refine g_iload X 6 dX5_isAlike_116 rfl ?_
              refine g_iadd X dX5_isAlike_118 ?_
              refine g_iconst X dX5_isAlike_119 ?_
              refine g_iadd X dX5_isAlike_120 ?_
              refine g_iald X 3 1 rfl rfl (by omega) (by decide) dX5_isAlike_121 ?_
              have r_121 := h37 (((pg * z34) + c9) + 1) (by omega)
              refine g_iload X 1 dX5_isAlike_122 rfl ?_
              refine g_isub X dX5_isAlike_124 ?_
              refine g_istore (lv2 := [(9, .int (iZ ((g37 (((pg * z34) + c9) + 1)) - (g37 ((pg * z34) + c9))))), (8, .int (iZ (g41 ((pg * z43) + c9)))), (7, .int (iZ (g37 ((pg * z34) + c9)))), (0, .ref m0), (2, .int (iZ (pg * z34))), (3, .int (iZ (pg * z43))), (4, .int (iZ (z31 - (pg * z34)))), (6, .int (iZ c9))]) X dX5_isAlike_125 (by decide) rfl ?_
              refine g_iload X 0 dX5_isAlike_127 rfl ?_
              refine g_aload_n X 3 dX5_isAlike_129 rfl rfl ?_
              refine g_get X (index := 104) (ref := "GuideWordsModel") hin5 0 rfl rfl 41 (by decide) rfl (by decide +kernel) (v := .ref a41) rfl dX5_isAlike_130 ?_
              refine g_iload_n X 5 dX5_isAlike_133 rfl rfl ?_
              refine g_iload X 7 dX5_isAlike_134 rfl ?_
              refine g_iadd X dX5_isAlike_136 ?_
              refine g_iconst X dX5_isAlike_137 ?_
              refine g_iadd X dX5_isAlike_138 ?_
              refine g_iald X 6 1 rfl rfl (by omega) (by decide) dX5_isAlike_139 ?_
              have r_139 := h41 (((pg * z43) + c9) + 1) (by omega)
              refine g_iload X 1 dX5_isAlike_140 rfl ?_
              refine g_isub X dX5_isAlike_142 ?_
              refine g_icmp_eq X 148 dX5_isAlike_143 (by decide) (by omega) (by omega) (fun c_143 => ?_) (fun c_143 => ?_)
              · skip
                refine g_iconst X dX5_isAlike_148 ?_
                refine g_istore (lv2 := [(10, .int (iZ 0)), (9, .int (iZ ((g37 (((pg * z34) + c9) + 1)) - (g37 ((pg * z34) + c9))))), (8, .int (iZ (g41 ((pg * z43) + c9)))), (7, .int (iZ (g37 ((pg * z34) + c9)))), (0, .ref m0), (2, .int (iZ (pg * z34))), (3, .int (iZ (pg * z43))), (4, .int (iZ (z31 - (pg * z34)))), (6, .int (iZ c9))]) X dX5_isAlike_149 (by decide) rfl ?_
                refine g_lv (lv' := [(0, .ref m0), (2, .int (iZ (pg * z34))), (3, .int (iZ (pg * z43))), (4, .int (iZ (z31 - (pg * z34)))), (6, .int (iZ c9)), (7, .int (iZ (g37 ((pg * z34) + c9)))), (8, .int (iZ (g41 ((pg * z43) + c9)))), (9, .int (iZ ((g37 (((pg * z34) + c9) + 1)) - (g37 ((pg * z34) + c9))))), (10, .int (iZ 0))]) [4, 5, 6, 7, 8, 3, 2, 1, 0] rfl ?_
                have loop_151 : ∀ (kf : Nat) (k : Int), (hk : 0 ≤ k ∧ k ≤ 900) → (hkk : ∀ i : Int, 0 ≤ i → i < k → (g35 (g37 (pg * z34 + c9) + i) = g39 (g41 (pg * z43 + c9) + i) ∧ g36 (g37 (pg * z34 + c9) + i) = g40 (g41 (pg * z43 + c9) + i))) → (900 - k).toNat < kf → gW p l e { frames := 0, cells := 0, slots := 0, locals := 0 } s m args below meth c D A 11 0 0 (MQ below (gQ D (gT cB cI cJ cY) (qX5_isAlike cB cI cJ cY m0 a6 a8 a10 a11 a12 a13 a14 a15 a17 a19 a20 a21 a22 a23 a24 a26 a27 a28 a35 a36 a37 a38 a39 a40 a41 a44 a45 z0 z1 z2 z3 z4 z5 z7 z9 z16 z18 z25 z29 z30 z31 z32 z33 z34 z42 z43 g35 g36 g37 g39 g40 g41 pg) A) args s 0 0 A) [(m0, .inr (5, [.int (iZ z0), .int (iZ z1), .int (iZ z2), .int (iZ z3), .int (iZ z4), .int (iZ z5), .ref a6, .int (iZ z7), .ref a8, .int (iZ z9), .ref a10, .ref a11, .ref a12, .ref a13, .ref a14, .ref a15, .int (iZ z16), .ref a17, .int (iZ z18), .ref a19, .ref a20, .ref a21, .ref a22, .ref a23, .ref a24, .int (iZ z25), .ref a26, .ref a27, .ref a28, .int (iZ z29), .int (iZ z30), .int (iZ z31), .int (iZ z32), .int (iZ z33), .int (iZ z34), .ref a35, .ref a36, .ref a37, .ref a38, .ref a39, .ref a40, .ref a41, .int (iZ z42), .int (iZ z43), .ref a44, .ref a45])), (a35, .inl (cI, 900, .inl (zA g35))), (a36, .inl (cI, 900, .inl (zA g36))), (a37, .inl (cI, 901, .inl (zA g37))), (a39, .inl (cI, 900, .inl (zA g39))), (a40, .inl (cI, 900, .inl (zA g40))), (a41, .inl (cI, 901, .inl (zA g41)))] 151 [(0, .ref m0), (2, .int (iZ (pg * z34))), (3, .int (iZ (pg * z43))), (4, .int (iZ (z31 - (pg * z34)))), (6, .int (iZ c9)), (7, .int (iZ (g37 ((pg * z34) + c9)))), (8, .int (iZ (g41 ((pg * z43) + c9)))), (9, .int (iZ ((g37 (((pg * z34) + c9) + 1)) - (g37 ((pg * z34) + c9))))), (10, .int (iZ k))] [] := by
                  intro kf
                  induction kf with
                  | zero => intro k hk hkk hm; exact absurd hm (Nat.not_lt_zero _)
                  | succ kf ih_151 =>
                    intro k hk hkk hm
                    refine g_iload X 8 dX5_isAlike_151 rfl ?_
                    refine g_iload X 7 dX5_isAlike_153 rfl ?_
                    refine g_icmp_ge X 212 dX5_isAlike_155 (by decide) (by omega) (by omega) (fun c_155 => ?_) (fun c_155 => ?_)
                    · skip
                      have hin2 : ∀ c : Int, 0 ≤ c → c < c9 + 1 → clE g35 g36 g37 g39 g40 g41 (pg * z34) (pg * z43) c := fun c h1 h2 => by
                        rcases (show c = c9 ∨ c < c9 by omega) with h | h
                        · rw [h]; exact ⟨c_143, fun i h3 h4 => hkk i h3 (by omega)⟩
                        · exact hin c h1 h
                      refine g_iinc (q := 4) (lv2 := [(6, .int (iZ (c9 + 1))), (0, .ref m0), (2, .int (iZ (pg * z34))), (3, .int (iZ (pg * z43))), (4, .int (iZ (z31 - (pg * z34)))), (7, .int (iZ (g37 ((pg * z34) + c9)))), (8, .int (iZ (g41 ((pg * z43) + c9)))), (9, .int (iZ ((g37 (((pg * z34) + c9) + 1)) - (g37 ((pg * z34) + c9))))), (10, .int (iZ k))]) X dX5_isAlike_212 rfl (by decide) rfl ?_
                      refine g_goto X 82 dX5_isAlike_215 (by decide) ?_
                      refine g_lv (lv' := [(0, .ref m0), (2, .int (iZ (pg * z34))), (3, .int (iZ (pg * z43))), (4, .int (iZ (z31 - (pg * z34)))), (6, .int (iZ (c9 + 1)))]) [1, 2, 3, 4, 0] rfl ?_
                      exact ih_82 (c9 + 1) (by omega) hin2 (by omega)
                    · skip
                      refine g_aload_n X 0 dX5_isAlike_158 rfl rfl ?_
                      refine g_get X (index := 86) (ref := "GuideWordsModel") hin5 0 rfl rfl 35 (by decide) rfl (by decide +kernel) (v := .ref a35) rfl dX5_isAlike_159 ?_
                      refine g_iload X 5 dX5_isAlike_162 rfl ?_
                      refine g_iload X 8 dX5_isAlike_164 rfl ?_
                      refine g_iadd X dX5_isAlike_166 ?_
                      refine g_iald X 1 1 rfl rfl (by omega) (by decide) dX5_isAlike_167 ?_
                      have r_167 := h35 ((g37 ((pg * z34) + c9)) + k) (by omega)
                      refine g_aload_n X 0 dX5_isAlike_168 rfl rfl ?_
                      refine g_get X (index := 98) (ref := "GuideWordsModel") hin5 0 rfl rfl 39 (by decide) rfl (by decide +kernel) (v := .ref a39) rfl dX5_isAlike_169 ?_
                      refine g_iload X 6 dX5_isAlike_172 rfl ?_
                      refine g_iload X 8 dX5_isAlike_174 rfl ?_
                      refine g_iadd X dX5_isAlike_176 ?_
                      refine g_iald X 4 1 rfl rfl (by omega) (by decide) dX5_isAlike_177 ?_
                      have r_177 := h39 ((g41 ((pg * z43) + c9)) + k) (by omega)
                      refine g_icmp_ne X 204 dX5_isAlike_178 (by decide) (by omega) (by omega) (fun c_178 => ?_) (fun c_178 => ?_)
                      · skip
                        refine g_iconst X dX5_isAlike_204 ?_
                        exact g_zret X (by omega) hr (by decide) (by decide) dX5_isAlike_205 ⟨_, rfl, Or.inr ⟨rfl, fun h9 => by have q := (h9.2 c9 (by omega) (by omega)).2 k (by omega) (by omega); first | exact c_178 q.1 | exact c_201 q.2⟩, rfl⟩
                      · skip
                        refine g_aload_n X 0 dX5_isAlike_181 rfl rfl ?_
                        refine g_get X (index := 89) (ref := "GuideWordsModel") hin5 0 rfl rfl 36 (by decide) rfl (by decide +kernel) (v := .ref a36) rfl dX5_isAlike_182 ?_
                        refine g_iload X 5 dX5_isAlike_185 rfl ?_
                        refine g_iload X 8 dX5_isAlike_187 rfl ?_
                        refine g_iadd X dX5_isAlike_189 ?_
                        refine g_iald X 2 1 rfl rfl (by omega) (by decide) dX5_isAlike_190 ?_
                        have r_190 := h36 ((g37 ((pg * z34) + c9)) + k) (by omega)
                        refine g_aload_n X 0 dX5_isAlike_191 rfl rfl ?_
                        refine g_get X (index := 101) (ref := "GuideWordsModel") hin5 0 rfl rfl 40 (by decide) rfl (by decide +kernel) (v := .ref a40) rfl dX5_isAlike_192 ?_
                        refine g_iload X 6 dX5_isAlike_195 rfl ?_
                        refine g_iload X 8 dX5_isAlike_197 rfl ?_
                        refine g_iadd X dX5_isAlike_199 ?_
                        refine g_iald X 5 1 rfl rfl (by omega) (by decide) dX5_isAlike_200 ?_
                        have r_200 := h40 ((g41 ((pg * z43) + c9)) + k) (by omega)
                        refine g_icmp_eq X 206 dX5_isAlike_201 (by decide) (by omega) (by omega) (fun c_201 => ?_) (fun c_201 => ?_)
                        · skip
                          refine g_iinc (q := 8) (lv2 := [(10, .int (iZ (k + 1))), (0, .ref m0), (2, .int (iZ (pg * z34))), (3, .int (iZ (pg * z43))), (4, .int (iZ (z31 - (pg * z34)))), (6, .int (iZ c9)), (7, .int (iZ (g37 ((pg * z34) + c9)))), (8, .int (iZ (g41 ((pg * z43) + c9)))), (9, .int (iZ ((g37 (((pg * z34) + c9) + 1)) - (g37 ((pg * z34) + c9)))))]) X dX5_isAlike_206 rfl (by decide) rfl ?_
                          refine g_goto X 151 dX5_isAlike_209 (by decide) ?_
                          refine g_lv (lv' := [(0, .ref m0), (2, .int (iZ (pg * z34))), (3, .int (iZ (pg * z43))), (4, .int (iZ (z31 - (pg * z34)))), (6, .int (iZ c9)), (7, .int (iZ (g37 ((pg * z34) + c9)))), (8, .int (iZ (g41 ((pg * z43) + c9)))), (9, .int (iZ ((g37 (((pg * z34) + c9) + 1)) - (g37 ((pg * z34) + c9))))), (10, .int (iZ (k + 1)))]) [1, 2, 3, 4, 5, 6, 7, 8, 0] rfl ?_
                          exact ih_151 (k + 1) (by omega) (fun i h1 h2 => by
                              rcases (show i = k ∨ i < k by omega) with h | h
                              · rw [h]; exact ⟨c_178, c_201⟩
                              · exact hkk i h1 h) (by omega)
                        · skip
                          refine g_iconst X dX5_isAlike_204 ?_
                          exact g_zret X (by omega) hr (by decide) (by decide) dX5_isAlike_205 ⟨_, rfl, Or.inr ⟨rfl, fun h9 => by have q := (h9.2 c9 (by omega) (by omega)).2 k (by omega) (by omega); first | exact c_178 q.1 | exact c_201 q.2⟩, rfl⟩
                exact loop_151 _ 0 (by omega) (fun i h1 h2 => by omega) (Nat.lt_succ_self _)
              · skip
                refine g_iconst X dX5_isAlike_146 ?_
                exact g_zret X (by omega) hr (by decide) (by decide) dX5_isAlike_147 ⟨_, rfl, Or.inr ⟨rfl, fun h9 => c_143 (h9.2 c9 (by omega) (by omega)).1⟩, rfl⟩
        exact loop_82 _ 0 (by omega) (fun c h1 h2 => by omega) (Nat.lt_succ_self _)
      · skip
        refine g_iconst X dX5_isAlike_77 ?_
        exact g_zret X (by omega) hr (by decide) (by decide) dX5_isAlike_78 ⟨_, rfl, Or.inr ⟨rfl, fun h9 => c_74 (by have := h9.1; omega)⟩, rfl⟩
def qX5_leads (cB cI cJ cY : ClassId) (m0 : Nat) (a6 : Nat) (a8 : Nat) (a10 : Nat) (a11 : Nat) (a12 : Nat) (a13 : Nat) (a14 : Nat) (a15 : Nat) (a17 : Nat) (a19 : Nat) (a20 : Nat) (a21 : Nat) (a22 : Nat) (a23 : Nat) (a24 : Nat) (a26 : Nat) (a27 : Nat) (a28 : Nat) (a35 : Nat) (a36 : Nat) (a37 : Nat) (a38 : Nat) (a39 : Nat) (a40 : Nat) (a41 : Nat) (a44 : Nat) (a45 : Nat) (z0 : Int) (z1 : Int) (z2 : Int) (z3 : Int) (z4 : Int) (z5 : Int) (z7 : Int) (z9 : Int) (z16 : Int) (z18 : Int) (z25 : Int) (z29 : Int) (z30 : Int) (z31 : Int) (z32 : Int) (z33 : Int) (z34 : Int) (z42 : Int) (z43 : Int) (g10 : Int → Int) (g11 : Int → Int) (g14 : Int → Int) (g15 : Int → Int) (g17 : Int → Int) (g19 : Int → Int) (nx : Int → Int) (e9 : Int) : Option Value → va_W → Prop := fun rv w1 => ∃ (r : Int) (t : Int) (R9 : Int) (ro : Int → Int) (h19 : Int → Int), rv = some (.int (iZ r)) ∧ ((¬ (0 ≤ e9 ∧ e9 < z16) ∧ t = 1 ∧ r = 0 ∧ R9 = z18 ∧ ro = g17 ∧ h19 = g19) ∨ ((0 ≤ e9 ∧ e9 < z16) ∧ t = 0 ∧ srtZ (hmZ g10) g15 z16 ro R9 ∧ r = leadR nx g14 151 (fillZ g19 0 z16) e9)) ∧ w1 = [(m0, .inr (5, [.int (iZ t), .int (iZ z1), .int (iZ z2), .int (iZ z3), .int (iZ z4), .int (iZ z5), .ref a6, .int (iZ z7), .ref a8, .int (iZ z9), .ref a10, .ref a11, .ref a12, .ref a13, .ref a14, .ref a15, .int (iZ z16), .ref a17, .int (iZ R9), .ref a19, .ref a20, .ref a21, .ref a22, .ref a23, .ref a24, .int (iZ z25), .ref a26, .ref a27, .ref a28, .int (iZ z29), .int (iZ z30), .int (iZ z31), .int (iZ z32), .int (iZ z33), .int (iZ z34), .ref a35, .ref a36, .ref a37, .ref a38, .ref a39, .ref a40, .ref a41, .int (iZ z42), .int (iZ z43), .ref a44, .ref a45])), (a10, .inl (cI, 1800, .inl (zA g10))), (a11, .inl (cI, 1800, .inl (zA g11))), (a14, .inl (cY, 150, .inl (zA g14))), (a15, .inl (cY, 150, .inl (zA g15))), (a17, .inl (cI, 150, .inl (zA ro))), (a19, .inl (cY, 150, .inl (zA h19)))]
set_option maxHeartbeats 4000000 in
set_option maxRecDepth 100000 in
theorem ctX5_leads (l : Launch) (D : va_G) (cB cI cJ cY : ClassId) (m0 : Nat) (a6 : Nat) (a8 : Nat) (a10 : Nat) (a11 : Nat) (a12 : Nat) (a13 : Nat) (a14 : Nat) (a15 : Nat) (a17 : Nat) (a19 : Nat) (a20 : Nat) (a21 : Nat) (a22 : Nat) (a23 : Nat) (a24 : Nat) (a26 : Nat) (a27 : Nat) (a28 : Nat) (a35 : Nat) (a36 : Nat) (a37 : Nat) (a38 : Nat) (a39 : Nat) (a40 : Nat) (a41 : Nat) (a44 : Nat) (a45 : Nat) (z0 : Int) (z1 : Int) (z2 : Int) (z3 : Int) (z4 : Int) (z5 : Int) (z7 : Int) (z9 : Int) (z16 : Int) (z18 : Int) (z25 : Int) (z29 : Int) (z30 : Int) (z31 : Int) (z32 : Int) (z33 : Int) (z34 : Int) (z42 : Int) (z43 : Int) (g10 : Int → Int) (g11 : Int → Int) (g14 : Int → Int) (g15 : Int → Int) (g17 : Int → Int) (g19 : Int → Int) (nx : Int → Int) (e9 : Int) (h16 : 0 ≤ z16 ∧ z16 ≤ 150) (hok10 : ∀ j : Int, 0 ≤ j ∧ j < 1800 → okV (g10 j)) (hok11 : ∀ j : Int, 0 ≤ j ∧ j < 1800 → okV (g11 j)) (h14 : ∀ j : Int, 0 ≤ j ∧ j < 150 → g14 j = 0 ∨ g14 j = 1) (h15 : ∀ j : Int, 0 ≤ j ∧ j < 150 → g15 j = 0 ∨ g15 j = 1) (hnx : ∀ (ro : Int → Int) (R9 : Int), srtZ (hmZ g10) g15 z16 ro R9 → ∀ a : Int, 0 ≤ a ∧ a < z16 → g14 a ≠ 0 → fwZ (hmZ g10) ro R9 (hmZ g11 a) (nx a)) (h_e9 : -2147483648 ≤ e9 ∧ e9 ≤ 2147483647) : gM l yX5_leads wsX5_leads { frames := 2, cells := 0, slots := 0, locals := 46 } D (gT cB cI cJ cY) [.ref m0, .int (iZ e9)] [(m0, .inr (5, [.int (iZ z0), .int (iZ z1), .int (iZ z2), .int (iZ z3), .int (iZ z4), .int (iZ z5), .ref a6, .int (iZ z7), .ref a8, .int (iZ z9), .ref a10, .ref a11, .ref a12, .ref a13, .ref a14, .ref a15, .int (iZ z16), .ref a17, .int (iZ z18), .ref a19, .ref a20, .ref a21, .ref a22, .ref a23, .ref a24, .int (iZ z25), .ref a26, .ref a27, .ref a28, .int (iZ z29), .int (iZ z30), .int (iZ z31), .int (iZ z32), .int (iZ z33), .int (iZ z34), .ref a35, .ref a36, .ref a37, .ref a38, .ref a39, .ref a40, .ref a41, .int (iZ z42), .int (iZ z43), .ref a44, .ref a45])), (a10, .inl (cI, 1800, .inl (zA g10))), (a11, .inl (cI, 1800, .inl (zA g11))), (a14, .inl (cY, 150, .inl (zA g14))), (a15, .inl (cY, 150, .inl (zA g15))), (a17, .inl (cI, 150, .inl (zA g17))), (a19, .inl (cY, 150, .inl (zA g19)))] 0 0 (qX5_leads cB cI cJ cY m0 a6 a8 a10 a11 a12 a13 a14 a15 a17 a19 a20 a21 a22 a23 a24 a26 a27 a28 a35 a36 a37 a38 a39 a40 a41 a44 a45 z0 z1 z2 z3 z4 z5 z7 z9 z16 z18 z25 z29 z30 z31 z32 z33 z34 z42 z43 g10 g11 g14 g15 g17 g19 nx e9) := by
  refine g_start (cc := cX5_leads) (maxL := 4) (ret := some .int) (lv := [(0, .ref m0), (1, .int (iZ e9))]) (by decide) rfl (Nat.le_of_ble_eq_true rfl) rfl ?_
  intro p e s m args below meth c A X hr hnm
  have hin5 : ∀ w ∈ u_ws RX5 TX5 46, w ∈ wsX5_leads := by decide +kernel
  have h10r : ∀ j : Int, 0 ≤ j ∧ j < 1800 → 0 ≤ g10 j ∧ g10 j ≤ 122 := fun j hj => by rcases hok10 j hj with h | h <;> omega
  have h11r : ∀ j : Int, 0 ≤ j ∧ j < 1800 → 0 ≤ g11 j ∧ g11 j ≤ 122 := fun j hj => by rcases hok11 j hj with h | h <;> omega
  refine g_aload_n X 0 dX5_leads_0 rfl rfl ?_
  refine g_iload_n X 1 dX5_leads_1 rfl rfl ?_
  refine g_callV0 X (As := [.int (iZ e9)]) (rest := []) (ctX5_isEntry l D cB cI cJ cY m0 a6 a8 a10 a11 a12 a13 a14 a15 a17 a19 a20 a21 a22 a23 a24 a26 a27 a28 a35 a36 a37 a38 a39 a40 a41 a44 a45 z0 z1 z2 z3 z4 z5 z7 z9 z16 z18 z25 z29 z30 z31 z32 z33 z34 z42 z43 e9 (by first | assumption | omega) (by first | assumption | omega)) (cwV 1 X.2.2.2.2.1 gX5_leads_X5_isEntry rfl rfl rfl (by decide +kernel) ⟨by decide, by decide⟩) 0 rfl rfl (wc := [(m0, .inr (5, [.int (iZ z0), .int (iZ z1), .int (iZ z2), .int (iZ z3), .int (iZ z4), .int (iZ z5), .ref a6, .int (iZ z7), .ref a8, .int (iZ z9), .ref a10, .ref a11, .ref a12, .ref a13, .ref a14, .ref a15, .int (iZ z16), .ref a17, .int (iZ z18), .ref a19, .ref a20, .ref a21, .ref a22, .ref a23, .ref a24, .int (iZ z25), .ref a26, .ref a27, .ref a28, .int (iZ z29), .int (iZ z30), .int (iZ z31), .int (iZ z32), .int (iZ z33), .int (iZ z34), .ref a35, .ref a36, .ref a37, .ref a38, .ref a39, .ref a40, .ref a41, .int (iZ z42), .int (iZ z43), .ref a44, .ref a45]))]) (wr := [(a10, .inl (cI, 1800, .inl (zA g10))), (a11, .inl (cI, 1800, .inl (zA g11))), (a14, .inl (cY, 150, .inl (zA g14))), (a15, .inl (cY, 150, .inl (zA g15))), (a17, .inl (cI, 150, .inl (zA g17))), (a19, .inl (cY, 150, .inl (zA g19)))]) [0] [1, 2, 3, 4, 5, 6] rfl rfl (by decide) (by decide) (by decide) rfl rfl (Nat.le_of_ble_eq_true rfl) ⟨by decide, by decide⟩ dX5_leads_2 (fun v w1 hq => ?_)
  obtain ⟨r0, t, rfl, hrt, rfl⟩ := hq
  refine g_eq (ws' := [(a10, .inl (cI, 1800, .inl (zA g10))), (a11, .inl (cI, 1800, .inl (zA g11))), (a14, .inl (cY, 150, .inl (zA g14))), (a15, .inl (cY, 150, .inl (zA g15))), (a17, .inl (cI, 150, .inl (zA g17))), (a19, .inl (cY, 150, .inl (zA g19))), (m0, .inr (5, [.int (iZ t), .int (iZ z1), .int (iZ z2), .int (iZ z3), .int (iZ z4), .int (iZ z5), .ref a6, .int (iZ z7), .ref a8, .int (iZ z9), .ref a10, .ref a11, .ref a12, .ref a13, .ref a14, .ref a15, .int (iZ z16), .ref a17, .int (iZ z18), .ref a19, .ref a20, .ref a21, .ref a22, .ref a23, .ref a24, .int (iZ z25), .ref a26, .ref a27, .ref a28, .int (iZ z29), .int (iZ z30), .int (iZ z31), .int (iZ z32), .int (iZ z33), .int (iZ z34), .ref a35, .ref a36, .ref a37, .ref a38, .ref a39, .ref a40, .ref a41, .int (iZ z42), .int (iZ z43), .ref a44, .ref a45]))]) (pc' := 5) (st' := [.int (iZ r0)]) rfl rfl rfl rfl ?_
  refine g_perm (ws' := [(m0, .inr (5, [.int (iZ t), .int (iZ z1), .int (iZ z2), .int (iZ z3), .int (iZ z4), .int (iZ z5), .ref a6, .int (iZ z7), .ref a8, .int (iZ z9), .ref a10, .ref a11, .ref a12, .ref a13, .ref a14, .ref a15, .int (iZ z16), .ref a17, .int (iZ z18), .ref a19, .ref a20, .ref a21, .ref a22, .ref a23, .ref a24, .int (iZ z25), .ref a26, .ref a27, .ref a28, .int (iZ z29), .int (iZ z30), .int (iZ z31), .int (iZ z32), .int (iZ z33), .int (iZ z34), .ref a35, .ref a36, .ref a37, .ref a38, .ref a39, .ref a40, .ref a41, .int (iZ z42), .int (iZ z43), .ref a44, .ref a45])), (a10, .inl (cI, 1800, .inl (zA g10))), (a11, .inl (cI, 1800, .inl (zA g11))), (a14, .inl (cY, 150, .inl (zA g14))), (a15, .inl (cY, 150, .inl (zA g15))), (a17, .inl (cI, 150, .inl (zA g17))), (a19, .inl (cY, 150, .inl (zA g19)))]) [6, 0, 1, 2, 3, 4, 5] (by decide) rfl ?_
  have hr01 : r0 = 0 ∨ r0 = 1 := by omega
  refine g_if_ne X 10 dX5_leads_5 (by decide) (by omega) (fun c_5 => ?_) (fun c_5 => ?_)
  · skip
    refine g_aload_n X 0 dX5_leads_10 rfl rfl ?_
    refine g_callV0 X (As := []) (rest := []) (ctX5_sorts l D cB cI cJ cY m0 a6 a8 a10 a11 a12 a13 a14 a15 a17 a19 a20 a21 a22 a23 a24 a26 a27 a28 a35 a36 a37 a38 a39 a40 a41 a44 a45 t z1 z2 z3 z4 z5 z7 z9 z16 z18 z25 z29 z30 z31 z32 z33 z34 z42 z43 g10 g15 g17 (by first | assumption | omega) (by first | assumption | omega) (by first | assumption | omega)) (cwV 0 X.2.2.2.2.1 gX5_leads_X5_sorts rfl rfl rfl (by decide +kernel) ⟨by decide, by decide⟩) 0 rfl rfl (wc := [(m0, .inr (5, [.int (iZ t), .int (iZ z1), .int (iZ z2), .int (iZ z3), .int (iZ z4), .int (iZ z5), .ref a6, .int (iZ z7), .ref a8, .int (iZ z9), .ref a10, .ref a11, .ref a12, .ref a13, .ref a14, .ref a15, .int (iZ z16), .ref a17, .int (iZ z18), .ref a19, .ref a20, .ref a21, .ref a22, .ref a23, .ref a24, .int (iZ z25), .ref a26, .ref a27, .ref a28, .int (iZ z29), .int (iZ z30), .int (iZ z31), .int (iZ z32), .int (iZ z33), .int (iZ z34), .ref a35, .ref a36, .ref a37, .ref a38, .ref a39, .ref a40, .ref a41, .int (iZ z42), .int (iZ z43), .ref a44, .ref a45])), (a10, .inl (cI, 1800, .inl (zA g10))), (a15, .inl (cY, 150, .inl (zA g15))), (a17, .inl (cI, 150, .inl (zA g17)))]) (wr := [(a11, .inl (cI, 1800, .inl (zA g11))), (a14, .inl (cY, 150, .inl (zA g14))), (a19, .inl (cY, 150, .inl (zA g19)))]) [0, 1, 4, 5] [2, 3, 6] rfl rfl (by decide) (by decide) (by decide) rfl rfl (Nat.le_of_ble_eq_true rfl) ⟨by decide, by decide⟩ dX5_leads_11 (fun v w1 hq => ?_)
    obtain ⟨R9, ro, rfl, hs, rfl⟩ := hq
    refine g_eq (ws' := [(a11, .inl (cI, 1800, .inl (zA g11))), (a14, .inl (cY, 150, .inl (zA g14))), (a19, .inl (cY, 150, .inl (zA g19))), (m0, .inr (5, [.int (iZ t), .int (iZ z1), .int (iZ z2), .int (iZ z3), .int (iZ z4), .int (iZ z5), .ref a6, .int (iZ z7), .ref a8, .int (iZ z9), .ref a10, .ref a11, .ref a12, .ref a13, .ref a14, .ref a15, .int (iZ z16), .ref a17, .int (iZ R9), .ref a19, .ref a20, .ref a21, .ref a22, .ref a23, .ref a24, .int (iZ z25), .ref a26, .ref a27, .ref a28, .int (iZ z29), .int (iZ z30), .int (iZ z31), .int (iZ z32), .int (iZ z33), .int (iZ z34), .ref a35, .ref a36, .ref a37, .ref a38, .ref a39, .ref a40, .ref a41, .int (iZ z42), .int (iZ z43), .ref a44, .ref a45])), (a10, .inl (cI, 1800, .inl (zA g10))), (a15, .inl (cY, 150, .inl (zA g15))), (a17, .inl (cI, 150, .inl (zA ro)))]) (pc' := 14) (st' := []) rfl rfl rfl rfl ?_
    refine g_perm (ws' := [(m0, .inr (5, [.int (iZ t), .int (iZ z1), .int (iZ z2), .int (iZ z3), .int (iZ z4), .int (iZ z5), .ref a6, .int (iZ z7), .ref a8, .int (iZ z9), .ref a10, .ref a11, .ref a12, .ref a13, .ref a14, .ref a15, .int (iZ z16), .ref a17, .int (iZ R9), .ref a19, .ref a20, .ref a21, .ref a22, .ref a23, .ref a24, .int (iZ z25), .ref a26, .ref a27, .ref a28, .int (iZ z29), .int (iZ z30), .int (iZ z31), .int (iZ z32), .int (iZ z33), .int (iZ z34), .ref a35, .ref a36, .ref a37, .ref a38, .ref a39, .ref a40, .ref a41, .int (iZ z42), .int (iZ z43), .ref a44, .ref a45])), (a10, .inl (cI, 1800, .inl (zA g10))), (a11, .inl (cI, 1800, .inl (zA g11))), (a14, .inl (cY, 150, .inl (zA g14))), (a15, .inl (cY, 150, .inl (zA g15))), (a17, .inl (cI, 150, .inl (zA ro))), (a19, .inl (cY, 150, .inl (zA g19)))]) [3, 4, 0, 1, 5, 6, 2] (by decide) rfl ?_
    have hs0 := hs.1
    refine g_iconst X dX5_leads_14 ?_
    refine g_istore_n (lv2 := [(2, .int (iZ 0)), (0, .ref m0), (1, .int (iZ e9))]) X dX5_leads_15 rfl (by decide) rfl ?_
    refine g_lv (lv' := [(0, .ref m0), (1, .int (iZ e9)), (2, .int (iZ 0))]) [1, 2, 0] rfl ?_
    have loop_16 : ∀ (kf : Nat) (k : Int) (p1 : Int → Int), (hk : 0 ≤ k ∧ k ≤ z16) → (hp1 : p1 = fillZ g19 0 k) → (z16 - k).toNat < kf → gW p l e { frames := 2, cells := 0, slots := 0, locals := 46 } s m args below meth c D A 4 0 0 (MQ below (gQ D (gT cB cI cJ cY) (qX5_leads cB cI cJ cY m0 a6 a8 a10 a11 a12 a13 a14 a15 a17 a19 a20 a21 a22 a23 a24 a26 a27 a28 a35 a36 a37 a38 a39 a40 a41 a44 a45 z0 z1 z2 z3 z4 z5 z7 z9 z16 z18 z25 z29 z30 z31 z32 z33 z34 z42 z43 g10 g11 g14 g15 g17 g19 nx e9) A) args s 0 0 A) [(m0, .inr (5, [.int (iZ t), .int (iZ z1), .int (iZ z2), .int (iZ z3), .int (iZ z4), .int (iZ z5), .ref a6, .int (iZ z7), .ref a8, .int (iZ z9), .ref a10, .ref a11, .ref a12, .ref a13, .ref a14, .ref a15, .int (iZ z16), .ref a17, .int (iZ R9), .ref a19, .ref a20, .ref a21, .ref a22, .ref a23, .ref a24, .int (iZ z25), .ref a26, .ref a27, .ref a28, .int (iZ z29), .int (iZ z30), .int (iZ z31), .int (iZ z32), .int (iZ z33), .int (iZ z34), .ref a35, .ref a36, .ref a37, .ref a38, .ref a39, .ref a40, .ref a41, .int (iZ z42), .int (iZ z43), .ref a44, .ref a45])), (a10, .inl (cI, 1800, .inl (zA g10))), (a11, .inl (cI, 1800, .inl (zA g11))), (a14, .inl (cY, 150, .inl (zA g14))), (a15, .inl (cY, 150, .inl (zA g15))), (a17, .inl (cI, 150, .inl (zA ro))), (a19, .inl (cY, 150, .inl (zA p1)))] 16 [(0, .ref m0), (1, .int (iZ e9)), (2, .int (iZ k))] [] := by
      intro kf
      induction kf with
      | zero => intro k p1 hk hp1 hm; exact absurd hm (Nat.not_lt_zero _)
      | succ kf ih_16 =>
        intro k p1 hk hp1 hm
        refine g_iload_n X 2 dX5_leads_16 rfl rfl ?_
        refine g_aload_n X 0 dX5_leads_17 rfl rfl ?_
        refine g_get X (index := 133) (ref := "GuideWordsModel") hin5 0 rfl rfl 16 (by decide) rfl (by decide +kernel) (v := .int (iZ z16)) rfl dX5_leads_18 ?_
        refine g_icmp_ge X 37 dX5_leads_21 (by decide) (by omega) (by omega) (fun c_21 => ?_) (fun c_21 => ?_)
        · skip
          refine g_iload_n X 1 dX5_leads_37 rfl rfl ?_
          refine g_istore_n (lv2 := [(2, .int (iZ e9)), (0, .ref m0), (1, .int (iZ e9))]) X dX5_leads_38 rfl (by decide) rfl ?_
          have hp2 : p1 = fillZ g19 0 z16 := by rw [hp1, show k = z16 by omega]
          refine g_lv (lv' := [(0, .ref m0), (2, .int (iZ e9))]) [1, 0] rfl ?_
          have loop_39 : ∀ (kf : Nat) (at1 : Int) (pa : Int → Int) (K : Nat), (hat : 0 ≤ at1 ∧ at1 < z16) → (hpz : pa at1 = 0) → (hps : ∀ j : Int, 0 ≤ j → j < z16 → pa j ≠ 0 → g14 j ≠ 0) → (hpb : ∀ j : Int, 0 ≤ j → j < z16 → pa j = 0 ∨ pa j = 1) → (hK : cntU pa z16.toNat + 1 ≤ K) → (hr1 : leadR nx g14 K pa at1 = leadR nx g14 151 (fillZ g19 0 z16) e9) → K < kf → gW p l e { frames := 2, cells := 0, slots := 0, locals := 46 } s m args below meth c D A 4 0 0 (MQ below (gQ D (gT cB cI cJ cY) (qX5_leads cB cI cJ cY m0 a6 a8 a10 a11 a12 a13 a14 a15 a17 a19 a20 a21 a22 a23 a24 a26 a27 a28 a35 a36 a37 a38 a39 a40 a41 a44 a45 z0 z1 z2 z3 z4 z5 z7 z9 z16 z18 z25 z29 z30 z31 z32 z33 z34 z42 z43 g10 g11 g14 g15 g17 g19 nx e9) A) args s 0 0 A) [(m0, .inr (5, [.int (iZ t), .int (iZ z1), .int (iZ z2), .int (iZ z3), .int (iZ z4), .int (iZ z5), .ref a6, .int (iZ z7), .ref a8, .int (iZ z9), .ref a10, .ref a11, .ref a12, .ref a13, .ref a14, .ref a15, .int (iZ z16), .ref a17, .int (iZ R9), .ref a19, .ref a20, .ref a21, .ref a22, .ref a23, .ref a24, .int (iZ z25), .ref a26, .ref a27, .ref a28, .int (iZ z29), .int (iZ z30), .int (iZ z31), .int (iZ z32), .int (iZ z33), .int (iZ z34), .ref a35, .ref a36, .ref a37, .ref a38, .ref a39, .ref a40, .ref a41, .int (iZ z42), .int (iZ z43), .ref a44, .ref a45])), (a10, .inl (cI, 1800, .inl (zA g10))), (a11, .inl (cI, 1800, .inl (zA g11))), (a14, .inl (cY, 150, .inl (zA g14))), (a15, .inl (cY, 150, .inl (zA g15))), (a17, .inl (cI, 150, .inl (zA ro))), (a19, .inl (cY, 150, .inl (zA pa)))] 39 [(0, .ref m0), (2, .int (iZ at1))] [] := by
            intro kf
            induction kf with
            | zero => intro at1 pa K hat hpz hps hpb hK hr1 hm; exact absurd hm (Nat.not_lt_zero _)
            | succ kf ih_39 =>
              intro at1 pa K hat hpz hps hpb hK hr1 hm
              have hcb := cntU_b pa z16.toNat
              obtain ⟨K1, rfl⟩ : ∃ K1, K = K1 + 1 := ⟨K - 1, by omega⟩
              rw [leadR_s nx g14 K1 pa at1] at hr1
              refine g_aload_n X 0 dX5_leads_39 rfl rfl ?_
              refine g_get X (index := 45) (ref := "GuideWordsModel") hin5 0 rfl rfl 14 (by decide) rfl (by decide +kernel) (v := .ref a14) rfl dX5_leads_40 ?_
              refine g_iload_n X 1 dX5_leads_43 rfl rfl ?_
              refine g_zald X 3 3 rfl rfl (by omega) (by decide) dX5_leads_44 ?_
              have r_44 := h14 at1 (by omega)
              refine g_if_eq X 130 dX5_leads_45 (by decide) (by have := h14 at1 (by omega); omega) (fun c_45 => ?_) (fun c_45 => ?_)
              · skip
                refine g_iload_n X 1 dX5_leads_130 rfl rfl ?_
                exact g_iret X hr (by decide) (by decide) dX5_leads_131 ⟨_, t, R9, ro, _, rfl, Or.inr ⟨by omega, by omega, hs, by rw [← hr1, if_pos c_45]⟩, rfl⟩
              · skip
                refine g_aload_n X 0 dX5_leads_48 rfl rfl ?_
                refine g_get X (index := 55) (ref := "GuideWordsModel") hin5 0 rfl rfl 19 (by decide) rfl (by decide +kernel) (v := .ref a19) rfl dX5_leads_49 ?_
                refine g_iload_n X 1 dX5_leads_52 rfl rfl ?_
                refine g_iconst X dX5_leads_53 ?_
                refine g_zast X 6 3 rfl rfl (by omega) (by decide) (Or.inr rfl) (ws2 := [(m0, .inr (5, [.int (iZ t), .int (iZ z1), .int (iZ z2), .int (iZ z3), .int (iZ z4), .int (iZ z5), .ref a6, .int (iZ z7), .ref a8, .int (iZ z9), .ref a10, .ref a11, .ref a12, .ref a13, .ref a14, .ref a15, .int (iZ z16), .ref a17, .int (iZ R9), .ref a19, .ref a20, .ref a21, .ref a22, .ref a23, .ref a24, .int (iZ z25), .ref a26, .ref a27, .ref a28, .int (iZ z29), .int (iZ z30), .int (iZ z31), .int (iZ z32), .int (iZ z33), .int (iZ z34), .ref a35, .ref a36, .ref a37, .ref a38, .ref a39, .ref a40, .ref a41, .int (iZ z42), .int (iZ z43), .ref a44, .ref a45])), (a10, .inl (cI, 1800, .inl (zA g10))), (a11, .inl (cI, 1800, .inl (zA g11))), (a14, .inl (cY, 150, .inl (zA g14))), (a15, .inl (cY, 150, .inl (zA g15))), (a17, .inl (cI, 150, .inl (zA ro))), (a19, .inl (cY, 150, .inl (zA (upZ pa at1 1))))]) rfl dX5_leads_54 ?_
                have hps2 : ∀ j : Int, 0 ≤ j → j < z16 → upZ pa at1 1 j ≠ 0 → g14 j ≠ 0 := fun j h1 h2 h3 => by
                  rcases Int.decEq j at1 with h | h
                  · rw [upZ_n h] at h3; exact hps j h1 h2 h3
                  · rw [h]; exact c_45
                have hpb2 : ∀ j : Int, 0 ≤ j → j < z16 → upZ pa at1 1 j = 0 ∨ upZ pa at1 1 j = 1 := fun j h1 h2 => by
                  unfold upZ; split
                  · exact Or.inr rfl
                  · exact hpb j h1 h2
                have hcu := cntU_up pa at1 z16.toNat hat.1 hpz
                rw [if_pos (by omega)] at hcu
                have hcb2 := cntU_b (upZ pa at1 1) z16.toNat
                have hK2 : cntU (upZ pa at1 1) z16.toNat + 1 ≤ K1 := by omega
                rw [if_neg c_45, if_neg (by omega)] at hr1
                refine g_iconst X dX5_leads_55 ?_
                refine g_istore_n (lv2 := [(3, .int (iZ 0)), (0, .ref m0), (2, .int (iZ at1))]) X dX5_leads_56 rfl (by decide) rfl ?_
                refine g_lv (lv' := [(0, .ref m0), (2, .int (iZ at1)), (3, .int (iZ 0))]) [1, 2, 0] rfl ?_
                have loop_57 : ∀ (kf : Nat) (k3 : Int), (hk3 : 0 ≤ k3 ∧ k3 ≤ R9) → (hnot : ∀ i : Int, 0 ≤ i → i < k3 → hmZ g10 (ro i) ≠ hmZ g11 at1) → (R9 - k3).toNat < kf → gW p l e { frames := 2, cells := 0, slots := 0, locals := 46 } s m args below meth c D A 4 0 0 (MQ below (gQ D (gT cB cI cJ cY) (qX5_leads cB cI cJ cY m0 a6 a8 a10 a11 a12 a13 a14 a15 a17 a19 a20 a21 a22 a23 a24 a26 a27 a28 a35 a36 a37 a38 a39 a40 a41 a44 a45 z0 z1 z2 z3 z4 z5 z7 z9 z16 z18 z25 z29 z30 z31 z32 z33 z34 z42 z43 g10 g11 g14 g15 g17 g19 nx e9) A) args s 0 0 A) [(m0, .inr (5, [.int (iZ t), .int (iZ z1), .int (iZ z2), .int (iZ z3), .int (iZ z4), .int (iZ z5), .ref a6, .int (iZ z7), .ref a8, .int (iZ z9), .ref a10, .ref a11, .ref a12, .ref a13, .ref a14, .ref a15, .int (iZ z16), .ref a17, .int (iZ R9), .ref a19, .ref a20, .ref a21, .ref a22, .ref a23, .ref a24, .int (iZ z25), .ref a26, .ref a27, .ref a28, .int (iZ z29), .int (iZ z30), .int (iZ z31), .int (iZ z32), .int (iZ z33), .int (iZ z34), .ref a35, .ref a36, .ref a37, .ref a38, .ref a39, .ref a40, .ref a41, .int (iZ z42), .int (iZ z43), .ref a44, .ref a45])), (a10, .inl (cI, 1800, .inl (zA g10))), (a11, .inl (cI, 1800, .inl (zA g11))), (a14, .inl (cY, 150, .inl (zA g14))), (a15, .inl (cY, 150, .inl (zA g15))), (a17, .inl (cI, 150, .inl (zA ro))), (a19, .inl (cY, 150, .inl (zA (upZ pa at1 1))))] 57 [(0, .ref m0), (2, .int (iZ at1)), (3, .int (iZ k3))] [] := by
                  intro kf
                  induction kf with
                  | zero => intro k3 hk3 hnot hm; exact absurd hm (Nat.not_lt_zero _)
                  | succ kf ih_57 =>
                    intro k3 hk3 hnot hm
                    refine g_iload_n X 2 dX5_leads_57 rfl rfl ?_
                    refine g_aload_n X 0 dX5_leads_58 rfl rfl ?_
                    refine g_get X (index := 148) (ref := "GuideWordsModel") hin5 0 rfl rfl 18 (by decide) rfl (by decide +kernel) (v := .int (iZ R9)) rfl dX5_leads_59 ?_
                    refine g_icmp_ge X 98 dX5_leads_62 (by decide) (by omega) (by omega) (fun c_62 => ?_) (fun c_62 => ?_)
                    · skip
                      refine g_iload_n X 2 dX5_leads_98 rfl rfl ?_
                      refine g_aload_n X 0 dX5_leads_99 rfl rfl ?_
                      refine g_get X (index := 148) (ref := "GuideWordsModel") hin5 0 rfl rfl 18 (by decide) rfl (by decide +kernel) (v := .int (iZ R9)) rfl dX5_leads_100 ?_
                      refine g_icmp_ne X 108 dX5_leads_103 (by decide) (by omega) (by omega) (fun c_103 => ?_) (fun c_103 => ?_)
                      · skip
                        have hfw := hnx ro R9 hs at1 hat c_45
                        have hek : hmZ g10 (ro k3) = hmZ g11 at1 := by unfold hmZ; omega
                        have hnn : nx at1 = ro k3 := fwZ_fun hfw (Or.inl ⟨k3, by omega, by omega, hek, fun i h1 h2 => by
                            have q1 := srt_le hs i k3 h1 h2 (by omega); have q2 := hnot i h1 h2; omega, rfl⟩)
                        have r_k := hs.2.1 k3 (by omega) (by omega)
                        rw [hnn, if_neg (by omega)] at hr1
                        have hr2 := hr1
                        omega
                      · skip
                        have hfw := hnx ro R9 hs at1 hat c_45
                        have hnn : nx at1 = -1 := by
                          rcases hfw with ⟨q, q1, q2, q3, q4, q5⟩ | ⟨q1, q2⟩
                          · exact absurd q3 (hnot q q1 (by omega))
                          · exact q2
                        refine g_iconst X dX5_leads_106 ?_
                        exact g_iret X hr (by decide) (by decide) dX5_leads_107 ⟨_, t, R9, ro, _, rfl, Or.inr ⟨by omega, by omega, hs, by rw [← hr1, if_pos hnn]⟩, rfl⟩
                    · skip
                      refine g_aload_n X 0 dX5_leads_65 rfl rfl ?_
                      refine g_get X (index := 36) (ref := "GuideWordsModel") hin5 0 rfl rfl 11 (by decide) rfl (by decide +kernel) (v := .ref a11) rfl dX5_leads_66 ?_
                      refine g_bipush X dX5_leads_69 (by decide) ?_
                      refine g_iload_n X 1 dX5_leads_71 rfl rfl ?_
                      refine g_imul X dX5_leads_72 ?_
                      refine g_aload_n X 0 dX5_leads_73 rfl rfl ?_
                      refine g_get X (index := 33) (ref := "GuideWordsModel") hin5 0 rfl rfl 10 (by decide) rfl (by decide +kernel) (v := .ref a10) rfl dX5_leads_74 ?_
                      refine g_bipush X dX5_leads_77 (by decide) ?_
                      refine g_aload_n X 0 dX5_leads_79 rfl rfl ?_
                      refine g_get X (index := 52) (ref := "GuideWordsModel") hin5 0 rfl rfl 17 (by decide) rfl (by decide +kernel) (v := .ref a17) rfl dX5_leads_80 ?_
                      refine g_iload_n X 2 dX5_leads_83 rfl rfl ?_
                      refine g_iald X 5 1 rfl rfl (by omega) (by decide) dX5_leads_84 ?_
                      have r_84 := hs.2.1 k3 (by omega) (by omega)
                      refine g_imul X dX5_leads_85 ?_
                      refine g_callS0 X (As := [.ref a11, .int (iZ (12 * at1)), .ref a10, .int (iZ (12 * (ro k3)))]) (rest := []) (ctX5_compare_mh l D cB cI cJ cY a11 a10 g11 g10 (12 * at1) (12 * (ro k3)) h10r h11r (by omega)) (va_cwS 4 X.2.2.2.2.1 gX5_leads_X5_compare rfl rfl rfl (by decide +kernel) ⟨by decide, by decide⟩) (wc := [(a11, .inl (cI, 1800, .inl (zA g11))), (a10, .inl (cI, 1800, .inl (zA g10)))]) (wr := [(m0, .inr (5, [.int (iZ t), .int (iZ z1), .int (iZ z2), .int (iZ z3), .int (iZ z4), .int (iZ z5), .ref a6, .int (iZ z7), .ref a8, .int (iZ z9), .ref a10, .ref a11, .ref a12, .ref a13, .ref a14, .ref a15, .int (iZ z16), .ref a17, .int (iZ R9), .ref a19, .ref a20, .ref a21, .ref a22, .ref a23, .ref a24, .int (iZ z25), .ref a26, .ref a27, .ref a28, .int (iZ z29), .int (iZ z30), .int (iZ z31), .int (iZ z32), .int (iZ z33), .int (iZ z34), .ref a35, .ref a36, .ref a37, .ref a38, .ref a39, .ref a40, .ref a41, .int (iZ z42), .int (iZ z43), .ref a44, .ref a45])), (a14, .inl (cY, 150, .inl (zA g14))), (a15, .inl (cY, 150, .inl (zA g15))), (a17, .inl (cI, 150, .inl (zA ro))), (a19, .inl (cY, 150, .inl (zA (upZ pa at1 1))))]) [2, 1] [0, 3, 4, 5, 6] rfl rfl (by decide) (by decide) (by decide) rfl rfl (Nat.le_of_ble_eq_true rfl) ⟨by decide, by decide⟩ dX5_leads_86 (fun v w1 hq => ?_)
                      obtain ⟨cr, rfl, hcr, hcb, rfl⟩ := hq
                      refine g_eq (ws' := [(m0, .inr (5, [.int (iZ t), .int (iZ z1), .int (iZ z2), .int (iZ z3), .int (iZ z4), .int (iZ z5), .ref a6, .int (iZ z7), .ref a8, .int (iZ z9), .ref a10, .ref a11, .ref a12, .ref a13, .ref a14, .ref a15, .int (iZ z16), .ref a17, .int (iZ R9), .ref a19, .ref a20, .ref a21, .ref a22, .ref a23, .ref a24, .int (iZ z25), .ref a26, .ref a27, .ref a28, .int (iZ z29), .int (iZ z30), .int (iZ z31), .int (iZ z32), .int (iZ z33), .int (iZ z34), .ref a35, .ref a36, .ref a37, .ref a38, .ref a39, .ref a40, .ref a41, .int (iZ z42), .int (iZ z43), .ref a44, .ref a45])), (a14, .inl (cY, 150, .inl (zA g14))), (a15, .inl (cY, 150, .inl (zA g15))), (a17, .inl (cI, 150, .inl (zA ro))), (a19, .inl (cY, 150, .inl (zA (upZ pa at1 1)))), (a11, .inl (cI, 1800, .inl (zA g11))), (a10, .inl (cI, 1800, .inl (zA g10)))]) (pc' := 89) (st' := [.int (iZ cr)]) rfl rfl rfl rfl ?_
                      refine g_perm (ws' := [(m0, .inr (5, [.int (iZ t), .int (iZ z1), .int (iZ z2), .int (iZ z3), .int (iZ z4), .int (iZ z5), .ref a6, .int (iZ z7), .ref a8, .int (iZ z9), .ref a10, .ref a11, .ref a12, .ref a13, .ref a14, .ref a15, .int (iZ z16), .ref a17, .int (iZ R9), .ref a19, .ref a20, .ref a21, .ref a22, .ref a23, .ref a24, .int (iZ z25), .ref a26, .ref a27, .ref a28, .int (iZ z29), .int (iZ z30), .int (iZ z31), .int (iZ z32), .int (iZ z33), .int (iZ z34), .ref a35, .ref a36, .ref a37, .ref a38, .ref a39, .ref a40, .ref a41, .int (iZ z42), .int (iZ z43), .ref a44, .ref a45])), (a10, .inl (cI, 1800, .inl (zA g10))), (a11, .inl (cI, 1800, .inl (zA g11))), (a14, .inl (cY, 150, .inl (zA g14))), (a15, .inl (cY, 150, .inl (zA g15))), (a17, .inl (cI, 150, .inl (zA ro))), (a19, .inl (cY, 150, .inl (zA (upZ pa at1 1))))]) [0, 6, 5, 1, 2, 3, 4] (by decide) rfl ?_
                      have hsg := cmp_sgn (ok_at hok11 (by omega)) (ok_at hok10 (by omega)) hcr
                      refine g_if_eq X 98 dX5_leads_89 (by decide) (by omega) (fun c_89 => ?_) (fun c_89 => ?_)
                      · skip
                        refine g_iload_n X 2 dX5_leads_98 rfl rfl ?_
                        refine g_aload_n X 0 dX5_leads_99 rfl rfl ?_
                        refine g_get X (index := 148) (ref := "GuideWordsModel") hin5 0 rfl rfl 18 (by decide) rfl (by decide +kernel) (v := .int (iZ R9)) rfl dX5_leads_100 ?_
                        refine g_icmp_ne X 108 dX5_leads_103 (by decide) (by omega) (by omega) (fun c_103 => ?_) (fun c_103 => ?_)
                        · skip
                          have hfw := hnx ro R9 hs at1 hat c_45
                          have hek : hmZ g10 (ro k3) = hmZ g11 at1 := by unfold hmZ; omega
                          have hnn : nx at1 = ro k3 := fwZ_fun hfw (Or.inl ⟨k3, by omega, by omega, hek, fun i h1 h2 => by
                              have q1 := srt_le hs i k3 h1 h2 (by omega); have q2 := hnot i h1 h2; omega, rfl⟩)
                          have r_k := hs.2.1 k3 (by omega) (by omega)
                          rw [hnn, if_neg (by omega)] at hr1
                          have hr2 := hr1
                          refine g_aload_n X 0 dX5_leads_108 rfl rfl ?_
                          refine g_get X (index := 52) (ref := "GuideWordsModel") hin5 0 rfl rfl 17 (by decide) rfl (by decide +kernel) (v := .ref a17) rfl dX5_leads_109 ?_
                          refine g_iload_n X 2 dX5_leads_112 rfl rfl ?_
                          refine g_iald X 5 1 rfl rfl (by omega) (by decide) dX5_leads_113 ?_
                          have r_113 := hs.2.1 k3 (by omega) (by omega)
                          refine g_istore_n (lv2 := [(2, .int (iZ (ro k3))), (0, .ref m0), (3, .int (iZ k3))]) X dX5_leads_114 rfl (by decide) rfl ?_
                          refine g_aload_n X 1 dX5_leads_115 rfl rfl ?_
                          refine g_get X (index := 55) (ref := "GuideWordsModel") hin5 0 rfl rfl 19 (by decide) rfl (by decide +kernel) (v := .ref a19) rfl dX5_leads_116 ?_
                          refine g_iload_n X 0 dX5_leads_119 rfl rfl ?_
                          refine g_zald X 6 3 rfl rfl (by omega) (by decide) dX5_leads_120 ?_
                          skip
                          refine g_if_eq X 127 dX5_leads_121 (by decide) (by have := hpb2 (ro k3) (by omega) (by omega); omega) (fun c_121 => ?_) (fun c_121 => ?_)
                          · skip
                            refine g_goto X 39 dX5_leads_127 (by decide) ?_
                            refine g_lv (lv' := [(0, .ref m0), (2, .int (iZ (ro k3)))]) [1, 0] rfl ?_
                            exact ih_39 (ro k3) (upZ pa at1 1) K1 (by omega) c_121 hps2 hpb2 hK2 hr2 (by omega)
                          · skip
                            obtain ⟨K2, rfl⟩ : ∃ K2, K1 = K2 + 1 := ⟨K1 - 1, by omega⟩
                            rw [leadR_s nx g14 K2, if_neg (hps2 (ro k3) (by omega) (by omega) c_121), if_pos c_121] at hr1
                            refine g_bipush X dX5_leads_124 (by decide) ?_
                            exact g_iret X hr (by decide) (by decide) dX5_leads_126 ⟨_, t, R9, ro, _, rfl, Or.inr ⟨by omega, by omega, hs, hr1⟩, rfl⟩
                        · skip
                          have hfw := hnx ro R9 hs at1 hat c_45
                          have hnn : nx at1 = -1 := by
                            rcases hfw with ⟨q, q1, q2, q3, q4, q5⟩ | ⟨q1, q2⟩
                            · exact absurd q3 (hnot q q1 (by omega))
                            · exact q2
                          omega
                      · skip
                        refine g_iinc (q := 2) (lv2 := [(3, .int (iZ (k3 + 1))), (0, .ref m0), (2, .int (iZ at1))]) X dX5_leads_92 rfl (by decide) rfl ?_
                        refine g_goto X 57 dX5_leads_95 (by decide) ?_
                        refine g_lv (lv' := [(0, .ref m0), (2, .int (iZ at1)), (3, .int (iZ (k3 + 1)))]) [1, 2, 0] rfl ?_
                        exact ih_57 (k3 + 1) (by omega) (fun i h1 h2 => by
                            rcases (show i = k3 ∨ i < k3 by omega) with h | h
                            · rw [h]; unfold hmZ; omega
                            · exact hnot i h1 h) (by omega)
                exact loop_57 _ 0 (by omega) (fun i h1 h2 => by omega) (Nat.lt_succ_self _)
          exact loop_39 _ e9 p1 151 (by omega) (by rw [hp2]; exact fillZ_in (by omega)) (fun j h1 h2 h3 => absurd (by rw [hp2]; exact fillZ_in (by omega)) h3) (fun j h1 h2 => Or.inl (by rw [hp2]; exact fillZ_in (by omega))) (by have := cntU_b p1 z16.toNat; omega) (by rw [hp2]) (Nat.lt_succ_self _)
        · skip
          refine g_aload_n X 0 dX5_leads_24 rfl rfl ?_
          refine g_get X (index := 55) (ref := "GuideWordsModel") hin5 0 rfl rfl 19 (by decide) rfl (by decide +kernel) (v := .ref a19) rfl dX5_leads_25 ?_
          refine g_iload_n X 2 dX5_leads_28 rfl rfl ?_
          refine g_iconst X dX5_leads_29 ?_
          refine g_zast X 6 3 rfl rfl (by omega) (by decide) (Or.inl rfl) (ws2 := [(m0, .inr (5, [.int (iZ t), .int (iZ z1), .int (iZ z2), .int (iZ z3), .int (iZ z4), .int (iZ z5), .ref a6, .int (iZ z7), .ref a8, .int (iZ z9), .ref a10, .ref a11, .ref a12, .ref a13, .ref a14, .ref a15, .int (iZ z16), .ref a17, .int (iZ R9), .ref a19, .ref a20, .ref a21, .ref a22, .ref a23, .ref a24, .int (iZ z25), .ref a26, .ref a27, .ref a28, .int (iZ z29), .int (iZ z30), .int (iZ z31), .int (iZ z32), .int (iZ z33), .int (iZ z34), .ref a35, .ref a36, .ref a37, .ref a38, .ref a39, .ref a40, .ref a41, .int (iZ z42), .int (iZ z43), .ref a44, .ref a45])), (a10, .inl (cI, 1800, .inl (zA g10))), (a11, .inl (cI, 1800, .inl (zA g11))), (a14, .inl (cY, 150, .inl (zA g14))), (a15, .inl (cY, 150, .inl (zA g15))), (a17, .inl (cI, 150, .inl (zA ro))), (a19, .inl (cY, 150, .inl (zA (upZ p1 k 0))))]) rfl dX5_leads_30 ?_
          refine g_iinc (q := 2) (lv2 := [(2, .int (iZ (k + 1))), (0, .ref m0), (1, .int (iZ e9))]) X dX5_leads_31 rfl (by decide) rfl ?_
          refine g_goto X 16 dX5_leads_34 (by decide) ?_
          refine g_lv (lv' := [(0, .ref m0), (1, .int (iZ e9)), (2, .int (iZ (k + 1)))]) [1, 2, 0] rfl ?_
          exact ih_16 (k + 1) (upZ p1 k 0) (by omega) (by rw [hp1]; exact fillZ_s g19 0 k hk.1) (by omega)
    exact loop_16 _ 0 g19 (by omega) (fillZ_0 g19 0).symm (Nat.lt_succ_self _)
  · skip
    refine g_iconst X dX5_leads_8 ?_
    exact g_iret X hr (by decide) (by decide) dX5_leads_9 ⟨_, t, z18, g17, g19, rfl, Or.inl ⟨by omega, by omega, rfl, rfl, rfl, rfl⟩, rfl⟩
