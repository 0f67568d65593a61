theorem cnH_0 {g10 e g45 : Int → Int} {l9 : Int} (hl : 0 ≤ l9 ∧ l9 < 26) : ∀ n : Nat, cnH g10 e (fillZ g45 0 26) n l9 ≠ 0 → 0 < n
  | 0, h => absurd (fillZ_in hl) h
  | n + 1, _ => Nat.succ_pos n
theorem sumN_le {g : Int → Int} {B : Int} : ∀ n : Nat, (∀ j : Int, 0 ≤ j ∧ j < n → 0 ≤ g j ∧ g j ≤ B) → 0 ≤ sumN g 0 n ∧ sumN g 0 n ≤ n * B
  | 0, _ => by simp [sumN]
  | n + 1, h => by
    have h1 := sumN_le (g := g) (B := B) n (fun j hj => h j (by omega))
    have h2 := h n (by omega)
    rw [sumN, Int.zero_add]
    have e : ((n + 1 : Nat) : Int) * B = n * B + B := by rw [Int.natCast_add, Int.add_mul]; simp
    omega
def thM (h44 h45 : Int → Int) (al l9 len r : Int) : Prop := (h45 l9 = 0 ∧ r = -1) ∨ (¬ h45 l9 = 0 ∧ r = len * (2 * sumN h44 0 l9.toNat + h44 l9) / (2 * al))
def vlM (h44 h45 : Int → Int) (al : Int) : Nat → Int → Int → Int → Int → Int → Int
  | 0, _, be, _, _, _ => be
  | n + 1, l9, be, un, ah, fs => if h45 l9 = 0 then vlM h44 h45 al n (l9 + 1) be un ah fs else if fs = 0 ∧ (be < 0 ∨ absZ (2 * ah - al) < un) then vlM h44 h45 al n (l9 + 1) l9 (absZ (2 * ah - al)) (ah + h44 l9) 0 else vlM h44 h45 al n (l9 + 1) be un (ah + h44 l9) 0
theorem vlM_s (h44 h45 : Int → Int) (al : Int) (n : Nat) (l9 be un ah fs : Int) : vlM h44 h45 al (n + 1) l9 be un ah fs = if h45 l9 = 0 then vlM h44 h45 al n (l9 + 1) be un ah fs else if fs = 0 ∧ (be < 0 ∨ absZ (2 * ah - al) < un) then vlM h44 h45 al n (l9 + 1) l9 (absZ (2 * ah - al)) (ah + h44 l9) 0 else vlM h44 h45 al n (l9 + 1) be un (ah + h44 l9) 0 := rfl
def qX5_thumb (cB cI cJ cY : ClassId) (m0 : Nat) (a6 : Nat) (a8 : Nat) (a10 : Nat) (a11 : Nat) (a12 : Nat) (a13 : Nat) (a14 : Nat) (a15 : Nat) (a17 : Nat) (a19 : Nat) (a20 : Nat) (a21 : Nat) (a22 : Nat) (a23 : Nat) (a24 : Nat) (a26 : Nat) (a27 : Nat) (a28 : Nat) (a35 : Nat) (a36 : Nat) (a37 : Nat) (a38 : Nat) (a39 : Nat) (a40 : Nat) (a41 : Nat) (a44 : Nat) (a45 : Nat) (z0 : Int) (z1 : Int) (z2 : Int) (z3 : Int) (z4 : Int) (z5 : Int) (z7 : Int) (z9 : Int) (z16 : Int) (z18 : Int) (z25 : Int) (z29 : Int) (z30 : Int) (z31 : Int) (z32 : Int) (z33 : Int) (z34 : Int) (z42 : Int) (z43 : Int) (g10 : Int → Int) (g12 : Int → Int) (g13 : Int → Int) (g15 : Int → Int) (g17 : Int → Int) (g20 : Int → Int) (g21 : Int → Int) (g22 : Int → Int) (g23 : Int → Int) (g24 : Int → Int) (g44 : Int → Int) (g45 : Int → Int) (l9 : Int) (len : Int) : Option Value → va_W → Prop := fun rv w1 => ∃ (r : Int) (t : Int) (r0 : Int) (R9 : Int) (ro : Int → Int) (nb : Int) (h20 : Int → Int) (h21 : Int → Int) (h22 : Int → Int) (h23 : Int → Int) (h24 : Int → Int) (h44 : Int → Int) (h45 : Int → Int), rv = some (.int (iZ r)) ∧ ((¬ ((0 ≤ l9 ∧ l9 < 26) ∧ 1 ≤ len ∧ len ≤ 10000) ∧ t = 1 ∧ r = 0 ∧ R9 = z18 ∧ ro = g17 ∧ nb = z25 ∧ h20 = g20 ∧ h21 = g21 ∧ h22 = g22 ∧ h23 = g23 ∧ h24 = g24 ∧ h44 = g44 ∧ h45 = g45) ∨ (((0 ≤ l9 ∧ l9 < 26) ∧ 1 ≤ len ∧ len ≤ 10000) ∧ t = 0 ∧ ((srtZ (hmZ g10) g15 z16 ro R9) ∧ (nb = offZ g13 ro R9.toNat) ∧ (0 ≤ nb ∧ nb ≤ 900) ∧ (gatMA h20 h21 h22 h23 h24 g10 g12 g13 ro z3 R9) ∧ (∀ j : Int, 0 ≤ j ∧ j < 900 → 0 ≤ h20 j ∧ h20 j < 150) ∧ (∀ j : Int, 0 ≤ j ∧ j < 900 → 0 ≤ h21 j ∧ h21 j < 6) ∧ (∀ j : Int, 0 ≤ j ∧ j < 900 → 0 ≤ h22 j ∧ h22 j ≤ 23) ∧ (∀ j : Int, 0 ≤ j ∧ j < 900 → h23 j = 0 ∨ h23 j = 1) ∧ (∀ j : Int, 0 ≤ j ∧ j < 900 → h24 j = 0 ∨ h24 j = 1) ∧ (h44 = cnG g10 h20 h22 (fillZ g44 0 26) nb.toNat) ∧ (h45 = cnH g10 h20 (fillZ g45 0 26) nb.toNat) ∧ (r0 = sumN h22 0 nb.toNat) ∧ (∀ l9 : Int, 0 ≤ l9 ∧ l9 < 26 → 0 ≤ h44 l9 ∧ h44 l9 ≤ 23 * nb) ∧ (∀ l9 : Int, 0 ≤ l9 ∧ l9 < 26 → h45 l9 = 0 ∨ h45 l9 = 1) ∧ (0 ≤ r0 ∧ r0 ≤ 23 * nb) ∧ (nb ≤ r0)) ∧ thM h44 h45 r0 l9 len r)) ∧ w1 = [(m0, .inr (5, [.int (iZ t), .int (iZ z1), .int (iZ z2), .int (iZ z3), .int (iZ z4), .int (iZ z5), .ref a6, .int (iZ z7), .ref a8, .int (iZ z9), .ref a10, .ref a11, .ref a12, .ref a13, .ref a14, .ref a15, .int (iZ z16), .ref a17, .int (iZ R9), .ref a19, .ref a20, .ref a21, .ref a22, .ref a23, .ref a24, .int (iZ nb), .ref a26, .ref a27, .ref a28, .int (iZ z29), .int (iZ z30), .int (iZ z31), .int (iZ z32), .int (iZ z33), .int (iZ z34), .ref a35, .ref a36, .ref a37, .ref a38, .ref a39, .ref a40, .ref a41, .int (iZ z42), .int (iZ z43), .ref a44, .ref a45])), (a10, .inl (cI, 1800, .inl (zA g10))), (a12, .inl (cI, 900, .inl (zA g12))), (a13, .inl (cI, 150, .inl (zA g13))), (a15, .inl (cY, 150, .inl (zA g15))), (a17, .inl (cI, 150, .inl (zA ro))), (a20, .inl (cI, 900, .inl (zA h20))), (a21, .inl (cI, 900, .inl (zA h21))), (a22, .inl (cI, 900, .inl (zA h22))), (a23, .inl (cY, 900, .inl (zA h23))), (a24, .inl (cY, 900, .inl (zA h24))), (a44, .inl (cI, 26, .inl (zA h44))), (a45, .inl (cY, 26, .inl (zA h45)))]
set_option maxHeartbeats 4000000 in
set_option maxRecDepth 100000 in
theorem ctX5_thumb (l : Launch) (D : va_G) (cB cI cJ cY : ClassId) (m0 : Nat) (a6 : Nat) (a8 : Nat) (a10 : Nat) (a11 : Nat) (a12 : Nat) (a13 : Nat) (a14 : Nat) (a15 : Nat) (a17 : Nat) (a19 : Nat) (a20 : Nat) (a21 : Nat) (a22 : Nat) (a23 : Nat) (a24 : Nat) (a26 : Nat) (a27 : Nat) (a28 : Nat) (a35 : Nat) (a36 : Nat) (a37 : Nat) (a38 : Nat) (a39 : Nat) (a40 : Nat) (a41 : Nat) (a44 : Nat) (a45 : Nat) (z0 : Int) (z1 : Int) (z2 : Int) (z3 : Int) (z4 : Int) (z5 : Int) (z7 : Int) (z9 : Int) (z16 : Int) (z18 : Int) (z25 : Int) (z29 : Int) (z30 : Int) (z31 : Int) (z32 : Int) (z33 : Int) (z34 : Int) (z42 : Int) (z43 : Int) (g10 : Int → Int) (g12 : Int → Int) (g13 : Int → Int) (g15 : Int → Int) (g17 : Int → Int) (g20 : Int → Int) (g21 : Int → Int) (g22 : Int → Int) (g23 : Int → Int) (g24 : Int → Int) (g44 : Int → Int) (g45 : Int → Int) (l9 : Int) (len : Int) (h16 : 0 ≤ z16 ∧ z16 ≤ 150) (hok10 : ∀ j : Int, 0 ≤ j ∧ j < 1800 → okV (g10 j)) (h15 : ∀ j : Int, 0 ≤ j ∧ j < 150 → g15 j = 0 ∨ g15 j = 1) (h13 : ∀ a : Int, 0 ≤ a ∧ a < z16 → 1 ≤ g13 a ∧ g13 a ≤ 6) (h12 : ∀ j : Int, 0 ≤ j ∧ j < 900 → 0 ≤ g12 j ∧ g12 j ≤ 20) (h3 : 0 ≤ z3 ∧ z3 ≤ 3) (hl1 : ∀ a : Int, 0 ≤ a ∧ a < z16 → 97 ≤ g10 (12 * a)) (hg20 : ∀ j : Int, 0 ≤ j ∧ j < 900 → 0 ≤ g20 j ∧ g20 j < 150) (hg21 : ∀ j : Int, 0 ≤ j ∧ j < 900 → 0 ≤ g21 j ∧ g21 j < 6) (hg22 : ∀ j : Int, 0 ≤ j ∧ j < 900 → 0 ≤ g22 j ∧ g22 j ≤ 23) (hg23 : ∀ j : Int, 0 ≤ j ∧ j < 900 → g23 j = 0 ∨ g23 j = 1) (hg24 : ∀ j : Int, 0 ≤ j ∧ j < 900 → g24 j = 0 ∨ g24 j = 1) (h12p : ∀ a t : Int, 0 ≤ a → a < z16 → 0 ≤ t → t < g13 a → 1 ≤ g12 (6 * a + t)) (h_l9 : -2147483648 ≤ l9 ∧ l9 ≤ 2147483647) (h_len : -2147483648 ≤ len ∧ len ≤ 2147483647) : gM l yX5_thumb wsX5_thumb { frames := 4, cells := 0, slots := 0, locals := 94 } D (gT cB cI cJ cY) [.ref m0, .int (iZ l9), .int (iZ len)] [(m0, .inr (5, [.int (iZ z0), .int (iZ z1), .int (iZ z2), .int (iZ z3), .int (iZ z4), .int (iZ z5), .ref a6, .int (iZ z7), .ref a8, .int (iZ z9), .ref a10, .ref a11, .ref a12, .ref a13, .ref a14, .ref a15, .int (iZ z16), .ref a17, .int (iZ z18), .ref a19, .ref a20, .ref a21, .ref a22, .ref a23, .ref a24, .int (iZ z25), .ref a26, .ref a27, .ref a28, .int (iZ z29), .int (iZ z30), .int (iZ z31), .int (iZ z32), .int (iZ z33), .int (iZ z34), .ref a35, .ref a36, .ref a37, .ref a38, .ref a39, .ref a40, .ref a41, .int (iZ z42), .int (iZ z43), .ref a44, .ref a45])), (a10, .inl (cI, 1800, .inl (zA g10))), (a12, .inl (cI, 900, .inl (zA g12))), (a13, .inl (cI, 150, .inl (zA g13))), (a15, .inl (cY, 150, .inl (zA g15))), (a17, .inl (cI, 150, .inl (zA g17))), (a20, .inl (cI, 900, .inl (zA g20))), (a21, .inl (cI, 900, .inl (zA g21))), (a22, .inl (cI, 900, .inl (zA g22))), (a23, .inl (cY, 900, .inl (zA g23))), (a24, .inl (cY, 900, .inl (zA g24))), (a44, .inl (cI, 26, .inl (zA g44))), (a45, .inl (cY, 26, .inl (zA g45)))] 0 0 (qX5_thumb cB cI cJ cY m0 a6 a8 a10 a11 a12 a13 a14 a15 a17 a19 a20 a21 a22 a23 a24 a26 a27 a28 a35 a36 a37 a38 a39 a40 a41 a44 a45 z0 z1 z2 z3 z4 z5 z7 z9 z16 z18 z25 z29 z30 z31 z32 z33 z34 z42 z43 g10 g12 g13 g15 g17 g20 g21 g22 g23 g24 g44 g45 l9 len) := by
  refine g_start (cc := cX5_thumb) (maxL := 6) (ret := some .int) (lv := [(0, .ref m0), (1, .int (iZ l9)), (2, .int (iZ len))]) (by decide) rfl (Nat.le_of_ble_eq_true rfl) rfl ?_
  intro p e s m args below meth c A X hr hnm
  have hin5 : ∀ w ∈ u_ws RX5 TX5 46, w ∈ wsX5_thumb := by decide +kernel
  refine g_aload_n X 0 dX5_thumb_0 rfl rfl ?_
  refine g_iconst X dX5_thumb_1 ?_
  refine g_put X (index := 116) (ref := "GuideWordsModel") hin5 0 rfl rfl 0 (by decide) rfl tyX5 tyX5_ok nmX5 (by decide +kernel) rfl rfl rfl rfl (Nat.le_of_ble_eq_true rfl) (ws2 := [(m0, .inr (5, [.int (iZ 0), .int (iZ z1), .int (iZ z2), .int (iZ z3), .int (iZ z4), .int (iZ z5), .ref a6, .int (iZ z7), .ref a8, .int (iZ z9), .ref a10, .ref a11, .ref a12, .ref a13, .ref a14, .ref a15, .int (iZ z16), .ref a17, .int (iZ z18), .ref a19, .ref a20, .ref a21, .ref a22, .ref a23, .ref a24, .int (iZ z25), .ref a26, .ref a27, .ref a28, .int (iZ z29), .int (iZ z30), .int (iZ z31), .int (iZ z32), .int (iZ z33), .int (iZ z34), .ref a35, .ref a36, .ref a37, .ref a38, .ref a39, .ref a40, .ref a41, .int (iZ z42), .int (iZ z43), .ref a44, .ref a45])), (a10, .inl (cI, 1800, .inl (zA g10))), (a12, .inl (cI, 900, .inl (zA g12))), (a13, .inl (cI, 150, .inl (zA g13))), (a15, .inl (cY, 150, .inl (zA g15))), (a17, .inl (cI, 150, .inl (zA g17))), (a20, .inl (cI, 900, .inl (zA g20))), (a21, .inl (cI, 900, .inl (zA g21))), (a22, .inl (cI, 900, .inl (zA g22))), (a23, .inl (cY, 900, .inl (zA g23))), (a24, .inl (cY, 900, .inl (zA g24))), (a44, .inl (cI, 26, .inl (zA g44))), (a45, .inl (cY, 26, .inl (zA g45)))]) rfl dX5_thumb_2 ?_
  refine g_aload_n X 0 dX5_thumb_5 rfl rfl ?_
  refine g_iload_n X 1 dX5_thumb_6 rfl rfl ?_
  refine g_if_lt X 28 dX5_thumb_7 (by decide) (by omega) (fun c_7 => ?_) (fun c_7 => ?_)
  · skip
    refine g_iconst X dX5_thumb_28 ?_
    refine g_goto X 33 dX5_thumb_29 (by decide) ?_
    refine g_iconst X dX5_thumb_33 ?_
    refine g_callV0 X (As := [.int (iZ 1), .int (iZ 1)]) (rest := []) (ctX5_bad l D cB cI cJ cY m0 a6 a8 a10 a11 a12 a13 a14 a15 a17 a19 a20 a21 a22 a23 a24 a26 a27 a28 a35 a36 a37 a38 a39 a40 a41 a44 a45 0 z1 z2 z3 z4 z5 z7 z9 z16 z18 z25 z29 z30 z31 z32 z33 z34 z42 z43 1 1 (by omega)) (cwV 2 X.2.2.2.2.1 gX5_thumb_X5_bad rfl rfl rfl (by decide +kernel) ⟨by decide, by decide⟩) 0 rfl rfl (wc := [(m0, .inr (5, [.int (iZ 0), .int (iZ z1), .int (iZ z2), .int (iZ z3), .int (iZ z4), .int (iZ z5), .ref a6, .int (iZ z7), .ref a8, .int (iZ z9), .ref a10, .ref a11, .ref a12, .ref a13, .ref a14, .ref a15, .int (iZ z16), .ref a17, .int (iZ z18), .ref a19, .ref a20, .ref a21, .ref a22, .ref a23, .ref a24, .int (iZ z25), .ref a26, .ref a27, .ref a28, .int (iZ z29), .int (iZ z30), .int (iZ z31), .int (iZ z32), .int (iZ z33), .int (iZ z34), .ref a35, .ref a36, .ref a37, .ref a38, .ref a39, .ref a40, .ref a41, .int (iZ z42), .int (iZ z43), .ref a44, .ref a45]))]) (wr := [(a10, .inl (cI, 1800, .inl (zA g10))), (a12, .inl (cI, 900, .inl (zA g12))), (a13, .inl (cI, 150, .inl (zA g13))), (a15, .inl (cY, 150, .inl (zA g15))), (a17, .inl (cI, 150, .inl (zA g17))), (a20, .inl (cI, 900, .inl (zA g20))), (a21, .inl (cI, 900, .inl (zA g21))), (a22, .inl (cI, 900, .inl (zA g22))), (a23, .inl (cY, 900, .inl (zA g23))), (a24, .inl (cY, 900, .inl (zA g24))), (a44, .inl (cI, 26, .inl (zA g44))), (a45, .inl (cY, 26, .inl (zA g45)))]) [0] [1, 2, 3, 4, 5, 6, 7, 8, 9, 10, 11, 12] rfl rfl (by decide) (by decide) (by decide) rfl rfl (Nat.le_of_ble_eq_true rfl) ⟨by decide, by decide⟩ dX5_thumb_34 (fun v w1 hq => ?_)
    obtain ⟨x9, rfl, p9, rfl⟩ := hq
    refine g_eq (ws' := [(a10, .inl (cI, 1800, .inl (zA g10))), (a12, .inl (cI, 900, .inl (zA g12))), (a13, .inl (cI, 150, .inl (zA g13))), (a15, .inl (cY, 150, .inl (zA g15))), (a17, .inl (cI, 150, .inl (zA g17))), (a20, .inl (cI, 900, .inl (zA g20))), (a21, .inl (cI, 900, .inl (zA g21))), (a22, .inl (cI, 900, .inl (zA g22))), (a23, .inl (cY, 900, .inl (zA g23))), (a24, .inl (cY, 900, .inl (zA g24))), (a44, .inl (cI, 26, .inl (zA g44))), (a45, .inl (cY, 26, .inl (zA g45))), (m0, .inr (5, [.int (iZ x9), .int (iZ z1), .int (iZ z2), .int (iZ z3), .int (iZ z4), .int (iZ z5), .ref a6, .int (iZ z7), .ref a8, .int (iZ z9), .ref a10, .ref a11, .ref a12, .ref a13, .ref a14, .ref a15, .int (iZ z16), .ref a17, .int (iZ z18), .ref a19, .ref a20, .ref a21, .ref a22, .ref a23, .ref a24, .int (iZ z25), .ref a26, .ref a27, .ref a28, .int (iZ z29), .int (iZ z30), .int (iZ z31), .int (iZ z32), .int (iZ z33), .int (iZ z34), .ref a35, .ref a36, .ref a37, .ref a38, .ref a39, .ref a40, .ref a41, .int (iZ z42), .int (iZ z43), .ref a44, .ref a45]))]) (pc' := 37) (st' := [.int (iZ 1)]) rfl rfl rfl rfl ?_
    refine g_perm (ws' := [(m0, .inr (5, [.int (iZ x9), .int (iZ z1), .int (iZ z2), .int (iZ z3), .int (iZ z4), .int (iZ z5), .ref a6, .int (iZ z7), .ref a8, .int (iZ z9), .ref a10, .ref a11, .ref a12, .ref a13, .ref a14, .ref a15, .int (iZ z16), .ref a17, .int (iZ z18), .ref a19, .ref a20, .ref a21, .ref a22, .ref a23, .ref a24, .int (iZ z25), .ref a26, .ref a27, .ref a28, .int (iZ z29), .int (iZ z30), .int (iZ z31), .int (iZ z32), .int (iZ z33), .int (iZ z34), .ref a35, .ref a36, .ref a37, .ref a38, .ref a39, .ref a40, .ref a41, .int (iZ z42), .int (iZ z43), .ref a44, .ref a45])), (a10, .inl (cI, 1800, .inl (zA g10))), (a12, .inl (cI, 900, .inl (zA g12))), (a13, .inl (cI, 150, .inl (zA g13))), (a15, .inl (cY, 150, .inl (zA g15))), (a17, .inl (cI, 150, .inl (zA g17))), (a20, .inl (cI, 900, .inl (zA g20))), (a21, .inl (cI, 900, .inl (zA g21))), (a22, .inl (cI, 900, .inl (zA g22))), (a23, .inl (cY, 900, .inl (zA g23))), (a24, .inl (cY, 900, .inl (zA g24))), (a44, .inl (cI, 26, .inl (zA g44))), (a45, .inl (cY, 26, .inl (zA g45)))]) [12, 0, 1, 2, 3, 4, 5, 6, 7, 8, 9, 10, 11] (by decide) rfl ?_
    simp at p9
    subst p9
    refine g_if_eq X 42 dX5_thumb_37 (by decide) (by omega) (fun c_37 => ?_) (fun c_37 => ?_)
    · omega
    · skip
      refine g_iconst X dX5_thumb_40 ?_
      exact g_iret X hr (by decide) (by decide) dX5_thumb_41 ⟨_, _, 0, z18, g17, z25, g20, g21, g22, g23, g24, g44, g45, rfl, Or.inl ⟨by omega, rfl, rfl, rfl, rfl, rfl, rfl, rfl, rfl, rfl, rfl, rfl, rfl⟩, rfl⟩
  · skip
    refine g_iload_n X 1 dX5_thumb_10 rfl rfl ?_
    refine g_bipush X dX5_thumb_11 (by decide) ?_
    refine g_icmp_gt X 28 dX5_thumb_13 (by decide) (by omega) (by omega) (fun c_13 => ?_) (fun c_13 => ?_)
    · skip
      refine g_iconst X dX5_thumb_28 ?_
      refine g_goto X 33 dX5_thumb_29 (by decide) ?_
      refine g_iconst X dX5_thumb_33 ?_
      refine g_callV0 X (As := [.int (iZ 1), .int (iZ 1)]) (rest := []) (ctX5_bad l D cB cI cJ cY m0 a6 a8 a10 a11 a12 a13 a14 a15 a17 a19 a20 a21 a22 a23 a24 a26 a27 a28 a35 a36 a37 a38 a39 a40 a41 a44 a45 0 z1 z2 z3 z4 z5 z7 z9 z16 z18 z25 z29 z30 z31 z32 z33 z34 z42 z43 1 1 (by omega)) (cwV 2 X.2.2.2.2.1 gX5_thumb_X5_bad rfl rfl rfl (by decide +kernel) ⟨by decide, by decide⟩) 0 rfl rfl (wc := [(m0, .inr (5, [.int (iZ 0), .int (iZ z1), .int (iZ z2), .int (iZ z3), .int (iZ z4), .int (iZ z5), .ref a6, .int (iZ z7), .ref a8, .int (iZ z9), .ref a10, .ref a11, .ref a12, .ref a13, .ref a14, .ref a15, .int (iZ z16), .ref a17, .int (iZ z18), .ref a19, .ref a20, .ref a21, .ref a22, .ref a23, .ref a24, .int (iZ z25), .ref a26, .ref a27, .ref a28, .int (iZ z29), .int (iZ z30), .int (iZ z31), .int (iZ z32), .int (iZ z33), .int (iZ z34), .ref a35, .ref a36, .ref a37, .ref a38, .ref a39, .ref a40, .ref a41, .int (iZ z42), .int (iZ z43), .ref a44, .ref a45]))]) (wr := [(a10, .inl (cI, 1800, .inl (zA g10))), (a12, .inl (cI, 900, .inl (zA g12))), (a13, .inl (cI, 150, .inl (zA g13))), (a15, .inl (cY, 150, .inl (zA g15))), (a17, .inl (cI, 150, .inl (zA g17))), (a20, .inl (cI, 900, .inl (zA g20))), (a21, .inl (cI, 900, .inl (zA g21))), (a22, .inl (cI, 900, .inl (zA g22))), (a23, .inl (cY, 900, .inl (zA g23))), (a24, .inl (cY, 900, .inl (zA g24))), (a44, .inl (cI, 26, .inl (zA g44))), (a45, .inl (cY, 26, .inl (zA g45)))]) [0] [1, 2, 3, 4, 5, 6, 7, 8, 9, 10, 11, 12] rfl rfl (by decide) (by decide) (by decide) rfl rfl (Nat.le_of_ble_eq_true rfl) ⟨by decide, by decide⟩ dX5_thumb_34 (fun v w1 hq => ?_)
      obtain ⟨x9, rfl, p9, rfl⟩ := hq
      refine g_eq (ws' := [(a10, .inl (cI, 1800, .inl (zA g10))), (a12, .inl (cI, 900, .inl (zA g12))), (a13, .inl (cI, 150, .inl (zA g13))), (a15, .inl (cY, 150, .inl (zA g15))), (a17, .inl (cI, 150, .inl (zA g17))), (a20, .inl (cI, 900, .inl (zA g20))), (a21, .inl (cI, 900, .inl (zA g21))), (a22, .inl (cI, 900, .inl (zA g22))), (a23, .inl (cY, 900, .inl (zA g23))), (a24, .inl (cY, 900, .inl (zA g24))), (a44, .inl (cI, 26, .inl (zA g44))), (a45, .inl (cY, 26, .inl (zA g45))), (m0, .inr (5, [.int (iZ x9), .int (iZ z1), .int (iZ z2), .int (iZ z3), .int (iZ z4), .int (iZ z5), .ref a6, .int (iZ z7), .ref a8, .int (iZ z9), .ref a10, .ref a11, .ref a12, .ref a13, .ref a14, .ref a15, .int (iZ z16), .ref a17, .int (iZ z18), .ref a19, .ref a20, .ref a21, .ref a22, .ref a23, .ref a24, .int (iZ z25), .ref a26, .ref a27, .ref a28, .int (iZ z29), .int (iZ z30), .int (iZ z31), .int (iZ z32), .int (iZ z33), .int (iZ z34), .ref a35, .ref a36, .ref a37, .ref a38, .ref a39, .ref a40, .ref a41, .int (iZ z42), .int (iZ z43), .ref a44, .ref a45]))]) (pc' := 37) (st' := [.int (iZ 1)]) rfl rfl rfl rfl ?_
      refine g_perm (ws' := [(m0, .inr (5, [.int (iZ x9), .int (iZ z1), .int (iZ z2), .int (iZ z3), .int (iZ z4), .int (iZ z5), .ref a6, .int (iZ z7), .ref a8, .int (iZ z9), .ref a10, .ref a11, .ref a12, .ref a13, .ref a14, .ref a15, .int (iZ z16), .ref a17, .int (iZ z18), .ref a19, .ref a20, .ref a21, .ref a22, .ref a23, .ref a24, .int (iZ z25), .ref a26, .ref a27, .ref a28, .int (iZ z29), .int (iZ z30), .int (iZ z31), .int (iZ z32), .int (iZ z33), .int (iZ z34), .ref a35, .ref a36, .ref a37, .ref a38, .ref a39, .ref a40, .ref a41, .int (iZ z42), .int (iZ z43), .ref a44, .ref a45])), (a10, .inl (cI, 1800, .inl (zA g10))), (a12, .inl (cI, 900, .inl (zA g12))), (a13, .inl (cI, 150, .inl (zA g13))), (a15, .inl (cY, 150, .inl (zA g15))), (a17, .inl (cI, 150, .inl (zA g17))), (a20, .inl (cI, 900, .inl (zA g20))), (a21, .inl (cI, 900, .inl (zA g21))), (a22, .inl (cI, 900, .inl (zA g22))), (a23, .inl (cY, 900, .inl (zA g23))), (a24, .inl (cY, 900, .inl (zA g24))), (a44, .inl (cI, 26, .inl (zA g44))), (a45, .inl (cY, 26, .inl (zA g45)))]) [12, 0, 1, 2, 3, 4, 5, 6, 7, 8, 9, 10, 11] (by decide) rfl ?_
      simp at p9
      subst p9
      refine g_if_eq X 42 dX5_thumb_37 (by decide) (by omega) (fun c_37 => ?_) (fun c_37 => ?_)
      · omega
      · skip
        refine g_iconst X dX5_thumb_40 ?_
        exact g_iret X hr (by decide) (by decide) dX5_thumb_41 ⟨_, _, 0, z18, g17, z25, g20, g21, g22, g23, g24, g44, g45, rfl, Or.inl ⟨by omega, rfl, rfl, rfl, rfl, rfl, rfl, rfl, rfl, rfl, rfl, rfl, rfl⟩, rfl⟩
    · skip
      refine g_iload_n X 2 dX5_thumb_16 rfl rfl ?_
      refine g_iconst X dX5_thumb_17 ?_
      refine g_icmp_lt X 28 dX5_thumb_18 (by decide) (by omega) (by omega) (fun c_18 => ?_) (fun c_18 => ?_)
      · skip
        refine g_iconst X dX5_thumb_28 ?_
        refine g_goto X 33 dX5_thumb_29 (by decide) ?_
        refine g_iconst X dX5_thumb_33 ?_
        refine g_callV0 X (As := [.int (iZ 1), .int (iZ 1)]) (rest := []) (ctX5_bad l D cB cI cJ cY m0 a6 a8 a10 a11 a12 a13 a14 a15 a17 a19 a20 a21 a22 a23 a24 a26 a27 a28 a35 a36 a37 a38 a39 a40 a41 a44 a45 0 z1 z2 z3 z4 z5 z7 z9 z16 z18 z25 z29 z30 z31 z32 z33 z34 z42 z43 1 1 (by omega)) (cwV 2 X.2.2.2.2.1 gX5_thumb_X5_bad rfl rfl rfl (by decide +kernel) ⟨by decide, by decide⟩) 0 rfl rfl (wc := [(m0, .inr (5, [.int (iZ 0), .int (iZ z1), .int (iZ z2), .int (iZ z3), .int (iZ z4), .int (iZ z5), .ref a6, .int (iZ z7), .ref a8, .int (iZ z9), .ref a10, .ref a11, .ref a12, .ref a13, .ref a14, .ref a15, .int (iZ z16), .ref a17, .int (iZ z18), .ref a19, .ref a20, .ref a21, .ref a22, .ref a23, .ref a24, .int (iZ z25), .ref a26, .ref a27, .ref a28, .int (iZ z29), .int (iZ z30), .int (iZ z31), .int (iZ z32), .int (iZ z33), .int (iZ z34), .ref a35, .ref a36, .ref a37, .ref a38, .ref a39, .ref a40, .ref a41, .int (iZ z42), .int (iZ z43), .ref a44, .ref a45]))]) (wr := [(a10, .inl (cI, 1800, .inl (zA g10))), (a12, .inl (cI, 900, .inl (zA g12))), (a13, .inl (cI, 150, .inl (zA g13))), (a15, .inl (cY, 150, .inl (zA g15))), (a17, .inl (cI, 150, .inl (zA g17))), (a20, .inl (cI, 900, .inl (zA g20))), (a21, .inl (cI, 900, .inl (zA g21))), (a22, .inl (cI, 900, .inl (zA g22))), (a23, .inl (cY, 900, .inl (zA g23))), (a24, .inl (cY, 900, .inl (zA g24))), (a44, .inl (cI, 26, .inl (zA g44))), (a45, .inl (cY, 26, .inl (zA g45)))]) [0] [1, 2, 3, 4, 5, 6, 7, 8, 9, 10, 11, 12] rfl rfl (by decide) (by decide) (by decide) rfl rfl (Nat.le_of_ble_eq_true rfl) ⟨by decide, by decide⟩ dX5_thumb_34 (fun v w1 hq => ?_)
        obtain ⟨x9, rfl, p9, rfl⟩ := hq
        refine g_eq (ws' := [(a10, .inl (cI, 1800, .inl (zA g10))), (a12, .inl (cI, 900, .inl (zA g12))), (a13, .inl (cI, 150, .inl (zA g13))), (a15, .inl (cY, 150, .inl (zA g15))), (a17, .inl (cI, 150, .inl (zA g17))), (a20, .inl (cI, 900, .inl (zA g20))), (a21, .inl (cI, 900, .inl (zA g21))), (a22, .inl (cI, 900, .inl (zA g22))), (a23, .inl (cY, 900, .inl (zA g23))), (a24, .inl (cY, 900, .inl (zA g24))), (a44, .inl (cI, 26, .inl (zA g44))), (a45, .inl (cY, 26, .inl (zA g45))), (m0, .inr (5, [.int (iZ x9), .int (iZ z1), .int (iZ z2), .int (iZ z3), .int (iZ z4), .int (iZ z5), .ref a6, .int (iZ z7), .ref a8, .int (iZ z9), .ref a10, .ref a11, .ref a12, .ref a13, .ref a14, .ref a15, .int (iZ z16), .ref a17, .int (iZ z18), .ref a19, .ref a20, .ref a21, .ref a22, .ref a23, .ref a24, .int (iZ z25), .ref a26, .ref a27, .ref a28, .int (iZ z29), .int (iZ z30), .int (iZ z31), .int (iZ z32), .int (iZ z33), .int (iZ z34), .ref a35, .ref a36, .ref a37, .ref a38, .ref a39, .ref a40, .ref a41, .int (iZ z42), .int (iZ z43), .ref a44, .ref a45]))]) (pc' := 37) (st' := [.int (iZ 1)]) rfl rfl rfl rfl ?_
        refine g_perm (ws' := [(m0, .inr (5, [.int (iZ x9), .int (iZ z1), .int (iZ z2), .int (iZ z3), .int (iZ z4), .int (iZ z5), .ref a6, .int (iZ z7), .ref a8, .int (iZ z9), .ref a10, .ref a11, .ref a12, .ref a13, .ref a14, .ref a15, .int (iZ z16), .ref a17, .int (iZ z18), .ref a19, .ref a20, .ref a21, .ref a22, .ref a23, .ref a24, .int (iZ z25), .ref a26, .ref a27, .ref a28, .int (iZ z29), .int (iZ z30), .int (iZ z31), .int (iZ z32), .int (iZ z33), .int (iZ z34), .ref a35, .ref a36, .ref a37, .ref a38, .ref a39, .ref a40, .ref a41, .int (iZ z42), .int (iZ z43), .ref a44, .ref a45])), (a10, .inl (cI, 1800, .inl (zA g10))), (a12, .inl (cI, 900, .inl (zA g12))), (a13, .inl (cI, 150, .inl (zA g13))), (a15, .inl (cY, 150, .inl (zA g15))), (a17, .inl (cI, 150, .inl (zA g17))), (a20, .inl (cI, 900, .inl (zA g20))), (a21, .inl (cI, 900, .inl (zA g21))), (a22, .inl (cI, 900, .inl (zA g22))), (a23, .inl (cY, 900, .inl (zA g23))), (a24, .inl (cY, 900, .inl (zA g24))), (a44, .inl (cI, 26, .inl (zA g44))), (a45, .inl (cY, 26, .inl (zA g45)))]) [12, 0, 1, 2, 3, 4, 5, 6, 7, 8, 9, 10, 11] (by decide) rfl ?_
        simp at p9
        subst p9
        refine g_if_eq X 42 dX5_thumb_37 (by decide) (by omega) (fun c_37 => ?_) (fun c_37 => ?_)
        · omega
        · skip
          refine g_iconst X dX5_thumb_40 ?_
          exact g_iret X hr (by decide) (by decide) dX5_thumb_41 ⟨_, _, 0, z18, g17, z25, g20, g21, g22, g23, g24, g44, g45, rfl, Or.inl ⟨by omega, rfl, rfl, rfl, rfl, rfl, rfl, rfl, rfl, rfl, rfl, rfl, rfl⟩, rfl⟩
      · skip
        refine g_iload_n X 2 dX5_thumb_21 rfl rfl ?_
        refine g_sipush X dX5_thumb_22 (by decide) ?_
        refine g_icmp_le X 32 dX5_thumb_25 (by decide) (by omega) (by omega) (fun c_25 => ?_) (fun c_25 => ?_)
        · skip
          refine g_iconst X dX5_thumb_32 ?_
          refine g_iconst X dX5_thumb_33 ?_
          refine g_callV0 X (As := [.int (iZ 0), .int (iZ 1)]) (rest := []) (ctX5_bad l D cB cI cJ cY m0 a6 a8 a10 a11 a12 a13 a14 a15 a17 a19 a20 a21 a22 a23 a24 a26 a27 a28 a35 a36 a37 a38 a39 a40 a41 a44 a45 0 z1 z2 z3 z4 z5 z7 z9 z16 z18 z25 z29 z30 z31 z32 z33 z34 z42 z43 0 1 (by omega)) (cwV 2 X.2.2.2.2.1 gX5_thumb_X5_bad rfl rfl rfl (by decide +kernel) ⟨by decide, by decide⟩) 0 rfl rfl (wc := [(m0, .inr (5, [.int (iZ 0), .int (iZ z1), .int (iZ z2), .int (iZ z3), .int (iZ z4), .int (iZ z5), .ref a6, .int (iZ z7), .ref a8, .int (iZ z9), .ref a10, .ref a11, .ref a12, .ref a13, .ref a14, .ref a15, .int (iZ z16), .ref a17, .int (iZ z18), .ref a19, .ref a20, .ref a21, .ref a22, .ref a23, .ref a24, .int (iZ z25), .ref a26, .ref a27, .ref a28, .int (iZ z29), .int (iZ z30), .int (iZ z31), .int (iZ z32), .int (iZ z33), .int (iZ z34), .ref a35, .ref a36, .ref a37, .ref a38, .ref a39, .ref a40, .ref a41, .int (iZ z42), .int (iZ z43), .ref a44, .ref a45]))]) (wr := [(a10, .inl (cI, 1800, .inl (zA g10))), (a12, .inl (cI, 900, .inl (zA g12))), (a13, .inl (cI, 150, .inl (zA g13))), (a15, .inl (cY, 150, .inl (zA g15))), (a17, .inl (cI, 150, .inl (zA g17))), (a20, .inl (cI, 900, .inl (zA g20))), (a21, .inl (cI, 900, .inl (zA g21))), (a22, .inl (cI, 900, .inl (zA g22))), (a23, .inl (cY, 900, .inl (zA g23))), (a24, .inl (cY, 900, .inl (zA g24))), (a44, .inl (cI, 26, .inl (zA g44))), (a45, .inl (cY, 26, .inl (zA g45)))]) [0] [1, 2, 3, 4, 5, 6, 7, 8, 9, 10, 11, 12] rfl rfl (by decide) (by decide) (by decide) rfl rfl (Nat.le_of_ble_eq_true rfl) ⟨by decide, by decide⟩ dX5_thumb_34 (fun v w1 hq => ?_)
          obtain ⟨x9, rfl, p9, rfl⟩ := hq
          refine g_eq (ws' := [(a10, .inl (cI, 1800, .inl (zA g10))), (a12, .inl (cI, 900, .inl (zA g12))), (a13, .inl (cI, 150, .inl (zA g13))), (a15, .inl (cY, 150, .inl (zA g15))), (a17, .inl (cI, 150, .inl (zA g17))), (a20, .inl (cI, 900, .inl (zA g20))), (a21, .inl (cI, 900, .inl (zA g21))), (a22, .inl (cI, 900, .inl (zA g22))), (a23, .inl (cY, 900, .inl (zA g23))), (a24, .inl (cY, 900, .inl (zA g24))), (a44, .inl (cI, 26, .inl (zA g44))), (a45, .inl (cY, 26, .inl (zA g45))), (m0, .inr (5, [.int (iZ x9), .int (iZ z1), .int (iZ z2), .int (iZ z3), .int (iZ z4), .int (iZ z5), .ref a6, .int (iZ z7), .ref a8, .int (iZ z9), .ref a10, .ref a11, .ref a12, .ref a13, .ref a14, .ref a15, .int (iZ z16), .ref a17, .int (iZ z18), .ref a19, .ref a20, .ref a21, .ref a22, .ref a23, .ref a24, .int (iZ z25), .ref a26, .ref a27, .ref a28, .int (iZ z29), .int (iZ z30), .int (iZ z31), .int (iZ z32), .int (iZ z33), .int (iZ z34), .ref a35, .ref a36, .ref a37, .ref a38, .ref a39, .ref a40, .ref a41, .int (iZ z42), .int (iZ z43), .ref a44, .ref a45]))]) (pc' := 37) (st' := [.int (iZ 0)]) rfl rfl rfl rfl ?_
          refine g_perm (ws' := [(m0, .inr (5, [.int (iZ x9), .int (iZ z1), .int (iZ z2), .int (iZ z3), .int (iZ z4), .int (iZ z5), .ref a6, .int (iZ z7), .ref a8, .int (iZ z9), .ref a10, .ref a11, .ref a12, .ref a13, .ref a14, .ref a15, .int (iZ z16), .ref a17, .int (iZ z18), .ref a19, .ref a20, .ref a21, .ref a22, .ref a23, .ref a24, .int (iZ z25), .ref a26, .ref a27, .ref a28, .int (iZ z29), .int (iZ z30), .int (iZ z31), .int (iZ z32), .int (iZ z33), .int (iZ z34), .ref a35, .ref a36, .ref a37, .ref a38, .ref a39, .ref a40, .ref a41, .int (iZ z42), .int (iZ z43), .ref a44, .ref a45])), (a10, .inl (cI, 1800, .inl (zA g10))), (a12, .inl (cI, 900, .inl (zA g12))), (a13, .inl (cI, 150, .inl (zA g13))), (a15, .inl (cY, 150, .inl (zA g15))), (a17, .inl (cI, 150, .inl (zA g17))), (a20, .inl (cI, 900, .inl (zA g20))), (a21, .inl (cI, 900, .inl (zA g21))), (a22, .inl (cI, 900, .inl (zA g22))), (a23, .inl (cY, 900, .inl (zA g23))), (a24, .inl (cY, 900, .inl (zA g24))), (a44, .inl (cI, 26, .inl (zA g44))), (a45, .inl (cY, 26, .inl (zA g45)))]) [12, 0, 1, 2, 3, 4, 5, 6, 7, 8, 9, 10, 11] (by decide) rfl ?_
          simp at p9
          subst p9
          refine g_if_eq X 42 dX5_thumb_37 (by decide) (by omega) (fun c_37 => ?_) (fun c_37 => ?_)
          · skip
            refine g_aload_n X 0 dX5_thumb_42 rfl rfl ?_
            refine g_callV0 X (As := []) (rest := []) (ctX5_counts l D cB cI cJ cY m0 a6 a8 a10 a11 a12 a13 a14 a15 a17 a19 a20 a21 a22 a23 a24 a26 a27 a28 a35 a36 a37 a38 a39 a40 a41 a44 a45 0 z1 z2 z3 z4 z5 z7 z9 z16 z18 z25 z29 z30 z31 z32 z33 z34 z42 z43 g10 g12 g13 g15 g17 g20 g21 g22 g23 g24 g44 g45 (by first | assumption | omega) (by first | assumption | omega) (by first | assumption | omega) (by first | assumption | omega) (by first | assumption | omega) (by first | assumption | omega) (by first | assumption | omega) (by first | assumption | omega) (by first | assumption | omega) (by first | assumption | omega) (by first | assumption | omega) (by first | assumption | omega) (by first | assumption | omega)) (cwV 0 X.2.2.2.2.1 gX5_thumb_X5_counts rfl rfl rfl (by decide +kernel) ⟨by decide, by decide⟩) 0 rfl rfl (wc := [(m0, .inr (5, [.int (iZ 0), .int (iZ z1), .int (iZ z2), .int (iZ z3), .int (iZ z4), .int (iZ z5), .ref a6, .int (iZ z7), .ref a8, .int (iZ z9), .ref a10, .ref a11, .ref a12, .ref a13, .ref a14, .ref a15, .int (iZ z16), .ref a17, .int (iZ z18), .ref a19, .ref a20, .ref a21, .ref a22, .ref a23, .ref a24, .int (iZ z25), .ref a26, .ref a27, .ref a28, .int (iZ z29), .int (iZ z30), .int (iZ z31), .int (iZ z32), .int (iZ z33), .int (iZ z34), .ref a35, .ref a36, .ref a37, .ref a38, .ref a39, .ref a40, .ref a41, .int (iZ z42), .int (iZ z43), .ref a44, .ref a45])), (a10, .inl (cI, 1800, .inl (zA g10))), (a12, .inl (cI, 900, .inl (zA g12))), (a13, .inl (cI, 150, .inl (zA g13))), (a15, .inl (cY, 150, .inl (zA g15))), (a17, .inl (cI, 150, .inl (zA g17))), (a20, .inl (cI, 900, .inl (zA g20))), (a21, .inl (cI, 900, .inl (zA g21))), (a22, .inl (cI, 900, .inl (zA g22))), (a23, .inl (cY, 900, .inl (zA g23))), (a24, .inl (cY, 900, .inl (zA g24))), (a44, .inl (cI, 26, .inl (zA g44))), (a45, .inl (cY, 26, .inl (zA g45)))]) (wr := []) [0, 1, 2, 3, 4, 5, 6, 7, 8, 9, 10, 11, 12] [] rfl rfl (by decide) (by decide) (by decide) rfl rfl (Nat.le_of_ble_eq_true rfl) ⟨by decide, by decide⟩ dX5_thumb_43 (fun v w1 hq => ?_)
            obtain ⟨r0, R9, ro, nb, h20, h21, h22, h23, h24, h44, h45, rfl, hs, hn, hnb, hga, hr20, hr21, hr22, hr23, hr24, h44e, h45e, hr0, h44r, h45r, hr0r, hr0n, rfl⟩ := hq
            refine g_eq (ws' := [(m0, .inr (5, [.int (iZ 0), .int (iZ z1), .int (iZ z2), .int (iZ z3), .int (iZ z4), .int (iZ z5), .ref a6, .int (iZ z7), .ref a8, .int (iZ z9), .ref a10, .ref a11, .ref a12, .ref a13, .ref a14, .ref a15, .int (iZ z16), .ref a17, .int (iZ R9), .ref a19, .ref a20, .ref a21, .ref a22, .ref a23, .ref a24, .int (iZ nb), .ref a26, .ref a27, .ref a28, .int (iZ z29), .int (iZ z30), .int (iZ z31), .int (iZ z32), .int (iZ z33), .int (iZ z34), .ref a35, .ref a36, .ref a37, .ref a38, .ref a39, .ref a40, .ref a41, .int (iZ z42), .int (iZ z43), .ref a44, .ref a45])), (a10, .inl (cI, 1800, .inl (zA g10))), (a12, .inl (cI, 900, .inl (zA g12))), (a13, .inl (cI, 150, .inl (zA g13))), (a15, .inl (cY, 150, .inl (zA g15))), (a17, .inl (cI, 150, .inl (zA ro))), (a20, .inl (cI, 900, .inl (zA h20))), (a21, .inl (cI, 900, .inl (zA h21))), (a22, .inl (cI, 900, .inl (zA h22))), (a23, .inl (cY, 900, .inl (zA h23))), (a24, .inl (cY, 900, .inl (zA h24))), (a44, .inl (cI, 26, .inl (zA h44))), (a45, .inl (cY, 26, .inl (zA h45)))]) (pc' := 46) (st' := [.int (iZ r0)]) rfl rfl rfl rfl ?_
            refine g_istore_n (lv2 := [(3, .int (iZ r0)), (0, .ref m0), (1, .int (iZ l9)), (2, .int (iZ len))]) X dX5_thumb_46 rfl (by decide) rfl ?_
            refine g_aload_n X 1 dX5_thumb_47 rfl rfl ?_
            refine g_get X (index := 113) (ref := "GuideWordsModel") hin5 0 rfl rfl 45 (by decide) rfl (by decide +kernel) (v := .ref a45) rfl dX5_thumb_48 ?_
            refine g_iload_n X 2 dX5_thumb_51 rfl rfl ?_
            refine g_zald X 12 3 rfl rfl (by omega) (by decide) dX5_thumb_52 ?_
            have r_52 := h45r l9 (by omega)
            refine g_if_ne X 58 dX5_thumb_53 (by decide) (by have := h45r l9 (by omega); omega) (fun c_53 => ?_) (fun c_53 => ?_)
            · skip
              have hnz := cnH_0 (l9 := l9) (by omega) nb.toNat (by rw [← h45e]; exact c_53)
              refine g_iconst X dX5_thumb_58 ?_
              refine g_istore (lv2 := [(4, .int (iZ 0)), (3, .int (iZ r0)), (0, .ref m0), (1, .int (iZ l9)), (2, .int (iZ len))]) X dX5_thumb_59 (by decide) rfl ?_
              refine g_iconst X dX5_thumb_61 ?_
              refine g_istore (lv2 := [(5, .int (iZ 0)), (4, .int (iZ 0)), (3, .int (iZ r0)), (0, .ref m0), (1, .int (iZ l9)), (2, .int (iZ len))]) X dX5_thumb_62 (by decide) rfl ?_
              refine g_lv (lv' := [(0, .ref m0), (1, .int (iZ l9)), (2, .int (iZ len)), (3, .int (iZ r0)), (4, .int (iZ 0)), (5, .int (iZ 0))]) [3, 4, 5, 2, 1, 0] rfl ?_
              have loop_64 : ∀ (kf : Nat) (ah : Int) (k : Int), (hk : 0 ≤ k ∧ k ≤ l9) → (hah : ah = sumN h44 0 k.toNat) → (l9 - k).toNat < kf → gW p l e { frames := 4, cells := 0, slots := 0, locals := 94 } s m args below meth c D A 6 0 0 (MQ below (gQ D (gT cB cI cJ cY) (qX5_thumb cB cI cJ cY m0 a6 a8 a10 a11 a12 a13 a14 a15 a17 a19 a20 a21 a22 a23 a24 a26 a27 a28 a35 a36 a37 a38 a39 a40 a41 a44 a45 z0 z1 z2 z3 z4 z5 z7 z9 z16 z18 z25 z29 z30 z31 z32 z33 z34 z42 z43 g10 g12 g13 g15 g17 g20 g21 g22 g23 g24 g44 g45 l9 len) A) args s 0 0 A) [(m0, .inr (5, [.int (iZ 0), .int (iZ z1), .int (iZ z2), .int (iZ z3), .int (iZ z4), .int (iZ z5), .ref a6, .int (iZ z7), .ref a8, .int (iZ z9), .ref a10, .ref a11, .ref a12, .ref a13, .ref a14, .ref a15, .int (iZ z16), .ref a17, .int (iZ R9), .ref a19, .ref a20, .ref a21, .ref a22, .ref a23, .ref a24, .int (iZ nb), .ref a26, .ref a27, .ref a28, .int (iZ z29), .int (iZ z30), .int (iZ z31), .int (iZ z32), .int (iZ z33), .int (iZ z34), .ref a35, .ref a36, .ref a37, .ref a38, .ref a39, .ref a40, .ref a41, .int (iZ z42), .int (iZ z43), .ref a44, .ref a45])), (a10, .inl (cI, 1800, .inl (zA g10))), (a12, .inl (cI, 900, .inl (zA g12))), (a13, .inl (cI, 150, .inl (zA g13))), (a15, .inl (cY, 150, .inl (zA g15))), (a17, .inl (cI, 150, .inl (zA ro))), (a20, .inl (cI, 900, .inl (zA h20))), (a21, .inl (cI, 900, .inl (zA h21))), (a22, .inl (cI, 900, .inl (zA h22))), (a23, .inl (cY, 900, .inl (zA h23))), (a24, .inl (cY, 900, .inl (zA h24))), (a44, .inl (cI, 26, .inl (zA h44))), (a45, .inl (cY, 26, .inl (zA h45)))] 64 [(0, .ref m0), (1, .int (iZ l9)), (2, .int (iZ len)), (3, .int (iZ r0)), (4, .int (iZ ah)), (5, .int (iZ k))] [] := by
                intro kf
                induction kf with
                | zero => intro ah k hk hah hm; exact absurd hm (Nat.not_lt_zero _)
                | succ kf ih_64 =>
                  intro ah k hk hah hm
                  refine g_iload X 5 dX5_thumb_64 rfl ?_
                  refine g_iload_n X 1 dX5_thumb_66 rfl rfl ?_
                  refine g_icmp_ge X 88 dX5_thumb_67 (by decide) (by omega) (by omega) (fun c_67 => ?_) (fun c_67 => ?_)
                  · skip
                    have hb9 := sumN_le (g := h44) (B := 23 * nb) k.toNat (fun j hj => h44r j (by omega))
                    have hb8 : (k.toNat : Int) * (23 * nb) ≤ 26 * (23 * 900) := Int.mul_le_mul (by omega) (by omega) (by omega) (by omega)
                    rw [← hah] at hb9
                    have r_9 := h44r l9 (by omega)
                    have hmul : 0 ≤ len * (2 * ah + h44 l9) ∧ len * (2 * ah + h44 l9) ≤ 10000 * 2000000 := ⟨Int.mul_nonneg (by omega) (by omega), Int.mul_le_mul (by omega) (by omega) (by omega) (by omega)⟩
                    refine g_iload_n X 2 dX5_thumb_88 rfl rfl ?_
                    refine g_i2l X dX5_thumb_89 (by omega) ?_
                    refine g_iconst X dX5_thumb_90 ?_
                    refine g_iload X 4 dX5_thumb_91 rfl ?_
                    refine g_imul X dX5_thumb_93 ?_
                    refine g_aload_n X 0 dX5_thumb_94 rfl rfl ?_
                    refine g_get X (index := 110) (ref := "GuideWordsModel") hin5 0 rfl rfl 44 (by decide) rfl (by decide +kernel) (v := .ref a44) rfl dX5_thumb_95 ?_
                    refine g_iload_n X 1 dX5_thumb_98 rfl rfl ?_
                    refine g_iald X 11 1 rfl rfl (by omega) (by decide) dX5_thumb_99 ?_
                    have r_99 := h44r l9 (by omega)
                    refine g_iadd X dX5_thumb_100 ?_
                    refine g_i2l X dX5_thumb_101 (by omega) ?_
                    refine g_lmul X dX5_thumb_102 ?_
                    refine g_ldc2 (v := 2) (z := 2) X dX5_thumb_103 (by decide +kernel) rfl ?_
                    refine g_iload_n X 3 dX5_thumb_106 rfl rfl ?_
                    refine g_i2l X dX5_thumb_107 (by omega) ?_
                    refine g_lmul X dX5_thumb_108 ?_
                    refine g_ldiv X dX5_thumb_109 (by omega) (by omega) ?_
                    refine g_l2i X dX5_thumb_110 ?_
                    exact g_iret X hr (by decide) (by decide) dX5_thumb_111 ⟨_, _, r0, R9, ro, nb, h20, h21, h22, h23, h24, h44, h45, rfl, Or.inr ⟨by omega, rfl, ⟨hs, hn, hnb, hga, hr20, hr21, hr22, hr23, hr24, h44e, h45e, hr0, h44r, h45r, hr0r, hr0n⟩, Or.inr ⟨c_53, by rw [hah, show k = l9 by omega]⟩⟩, rfl⟩
                  · skip
                    refine g_iload X 4 dX5_thumb_70 rfl ?_
                    refine g_aload_n X 0 dX5_thumb_72 rfl rfl ?_
                    refine g_get X (index := 110) (ref := "GuideWordsModel") hin5 0 rfl rfl 44 (by decide) rfl (by decide +kernel) (v := .ref a44) rfl dX5_thumb_73 ?_
                    refine g_iload X 5 dX5_thumb_76 rfl ?_
                    refine g_iald X 11 1 rfl rfl (by omega) (by decide) dX5_thumb_78 ?_
                    have r_78 := h44r k (by omega)
                    refine g_iadd X dX5_thumb_79 ?_
                    refine g_istore (lv2 := [(4, .int (iZ (ah + (h44 k)))), (0, .ref m0), (1, .int (iZ l9)), (2, .int (iZ len)), (3, .int (iZ r0)), (5, .int (iZ k))]) X dX5_thumb_80 (by decide) rfl ?_
                    refine g_iinc (q := 5) (lv2 := [(5, .int (iZ (k + 1))), (4, .int (iZ (ah + (h44 k)))), (0, .ref m0), (1, .int (iZ l9)), (2, .int (iZ len)), (3, .int (iZ r0))]) X dX5_thumb_82 rfl (by decide) rfl ?_
                    refine g_goto X 64 dX5_thumb_85 (by decide) ?_
                    refine g_lv (lv' := [(0, .ref m0), (1, .int (iZ l9)), (2, .int (iZ len)), (3, .int (iZ r0)), (4, .int (iZ (ah + (h44 k)))), (5, .int (iZ (k + 1)))]) [2, 3, 4, 5, 1, 0] rfl ?_
                    exact ih_64 (ah + (h44 k)) (k + 1) (by omega) (by rw [show (k + 1).toNat = k.toNat + 1 by omega, sumN, hah, Int.zero_add, show ((k.toNat : Nat) : Int) = k by omega]) (by omega)
              exact loop_64 _ 0 0 (by omega) rfl (Nat.lt_succ_self _)
            · skip
              refine g_iconst X dX5_thumb_56 ?_
              exact g_iret X hr (by decide) (by decide) dX5_thumb_57 ⟨_, _, r0, R9, ro, nb, h20, h21, h22, h23, h24, h44, h45, rfl, Or.inr ⟨by omega, rfl, ⟨hs, hn, hnb, hga, hr20, hr21, hr22, hr23, hr24, h44e, h45e, hr0, h44r, h45r, hr0r, hr0n⟩, Or.inl ⟨c_53, rfl⟩⟩, rfl⟩
          · omega
        · skip
          refine g_iconst X dX5_thumb_28 ?_
          refine g_goto X 33 dX5_thumb_29 (by decide) ?_
          refine g_iconst X dX5_thumb_33 ?_
          refine g_callV0 X (As := [.int (iZ 1), .int (iZ 1)]) (rest := []) (ctX5_bad l D cB cI cJ cY m0 a6 a8 a10 a11 a12 a13 a14 a15 a17 a19 a20 a21 a22 a23 a24 a26 a27 a28 a35 a36 a37 a38 a39 a40 a41 a44 a45 0 z1 z2 z3 z4 z5 z7 z9 z16 z18 z25 z29 z30 z31 z32 z33 z34 z42 z43 1 1 (by omega)) (cwV 2 X.2.2.2.2.1 gX5_thumb_X5_bad rfl rfl rfl (by decide +kernel) ⟨by decide, by decide⟩) 0 rfl rfl (wc := [(m0, .inr (5, [.int (iZ 0), .int (iZ z1), .int (iZ z2), .int (iZ z3), .int (iZ z4), .int (iZ z5), .ref a6, .int (iZ z7), .ref a8, .int (iZ z9), .ref a10, .ref a11, .ref a12, .ref a13, .ref a14, .ref a15, .int (iZ z16), .ref a17, .int (iZ z18), .ref a19, .ref a20, .ref a21, .ref a22, .ref a23, .ref a24, .int (iZ z25), .ref a26, .ref a27, .ref a28, .int (iZ z29), .int (iZ z30), .int (iZ z31), .int (iZ z32), .int (iZ z33), .int (iZ z34), .ref a35, .ref a36, .ref a37, .ref a38, .ref a39, .ref a40, .ref a41, .int (iZ z42), .int (iZ z43), .ref a44, .ref a45]))]) (wr := [(a10, .inl (cI, 1800, .inl (zA g10))), (a12, .inl (cI, 900, .inl (zA g12))), (a13, .inl (cI, 150, .inl (zA g13))), (a15, .inl (cY, 150, .inl (zA g15))), (a17, .inl (cI, 150, .inl (zA g17))), (a20, .inl (cI, 900, .inl (zA g20))), (a21, .inl (cI, 900, .inl (zA g21))), (a22, .inl (cI, 900, .inl (zA g22))), (a23, .inl (cY, 900, .inl (zA g23))), (a24, .inl (cY, 900, .inl (zA g24))), (a44, .inl (cI, 26, .inl (zA g44))), (a45, .inl (cY, 26, .inl (zA g45)))]) [0] [1, 2, 3, 4, 5, 6, 7, 8, 9, 10, 11, 12] rfl rfl (by decide) (by decide) (by decide) rfl rfl (Nat.le_of_ble_eq_true rfl) ⟨by decide, by decide⟩ dX5_thumb_34 (fun v w1 hq => ?_)
          obtain ⟨x9, rfl, p9, rfl⟩ := hq
          refine g_eq (ws' := [(a10, .inl (cI, 1800, .inl (zA g10))), (a12, .inl (cI, 900, .inl (zA g12))), (a13, .inl (cI, 150, .inl (zA g13))), (a15, .inl (cY, 150, .inl (zA g15))), (a17, .inl (cI, 150, .inl (zA g17))), (a20, .inl (cI, 900, .inl (zA g20))), (a21, .inl (cI, 900, .inl (zA g21))), (a22, .inl (cI, 900, .inl (zA g22))), (a23, .inl (cY, 900, .inl (zA g23))), (a24, .inl (cY, 900, .inl (zA g24))), (a44, .inl (cI, 26, .inl (zA g44))), (a45, .inl (cY, 26, .inl (zA g45))), (m0, .inr (5, [.int (iZ x9), .int (iZ z1), .int (iZ z2), .int (iZ z3), .int (iZ z4), .int (iZ z5), .ref a6, .int (iZ z7), .ref a8, .int (iZ z9), .ref a10, .ref a11, .ref a12, .ref a13, .ref a14, .ref a15, .int (iZ z16), .ref a17, .int (iZ z18), .ref a19, .ref a20, .ref a21, .ref a22, .ref a23, .ref a24, .int (iZ z25), .ref a26, .ref a27, .ref a28, .int (iZ z29), .int (iZ z30), .int (iZ z31), .int (iZ z32), .int (iZ z33), .int (iZ z34), .ref a35, .ref a36, .ref a37, .ref a38, .ref a39, .ref a40, .ref a41, .int (iZ z42), .int (iZ z43), .ref a44, .ref a45]))]) (pc' := 37) (st' := [.int (iZ 1)]) rfl rfl rfl rfl ?_
          refine g_perm (ws' := [(m0, .inr (5, [.int (iZ x9), .int (iZ z1), .int (iZ z2), .int (iZ z3), .int (iZ z4), .int (iZ z5), .ref a6, .int (iZ z7), .ref a8, .int (iZ z9), .ref a10, .ref a11, .ref a12, .ref a13, .ref a14, .ref a15, .int (iZ z16), .ref a17, .int (iZ z18), .ref a19, .ref a20, .ref a21, .ref a22, .ref a23, .ref a24, .int (iZ z25), .ref a26, .ref a27, .ref a28, .int (iZ z29), .int (iZ z30), .int (iZ z31), .int (iZ z32), .int (iZ z33), .int (iZ z34), .ref a35, .ref a36, .ref a37, .ref a38, .ref a39, .ref a40, .ref a41, .int (iZ z42), .int (iZ z43), .ref a44, .ref a45])), (a10, .inl (cI, 1800, .inl (zA g10))), (a12, .inl (cI, 900, .inl (zA g12))), (a13, .inl (cI, 150, .inl (zA g13))), (a15, .inl (cY, 150, .inl (zA g15))), (a17, .inl (cI, 150, .inl (zA g17))), (a20, .inl (cI, 900, .inl (zA g20))), (a21, .inl (cI, 900, .inl (zA g21))), (a22, .inl (cI, 900, .inl (zA g22))), (a23, .inl (cY, 900, .inl (zA g23))), (a24, .inl (cY, 900, .inl (zA g24))), (a44, .inl (cI, 26, .inl (zA g44))), (a45, .inl (cY, 26, .inl (zA g45)))]) [12, 0, 1, 2, 3, 4, 5, 6, 7, 8, 9, 10, 11] (by decide) rfl ?_
          simp at p9
          subst p9
          refine g_if_eq X 42 dX5_thumb_37 (by decide) (by omega) (fun c_37 => ?_) (fun c_37 => ?_)
          · omega
          · skip
            refine g_iconst X dX5_thumb_40 ?_
            exact g_iret X hr (by decide) (by decide) dX5_thumb_41 ⟨_, _, 0, z18, g17, z25, g20, g21, g22, g23, g24, g44, g45, rfl, Or.inl ⟨by omega, rfl, rfl, rfl, rfl, rfl, rfl, rfl, rfl, rfl, rfl, rfl, rfl⟩, rfl⟩
def qX5_volume (cB cI cJ cY : ClassId) (m0 : Nat) (a6 : Nat) (a8 : Nat) (a10 : Nat) (a11 : Nat) (a12 : Nat) (a13 : Nat) (a14 : Nat) (a15 : Nat) (a17 : Nat) (a19 : Nat) (a20 : Nat) (a21 : Nat) (a22 : Nat) (a23 : Nat) (a24 : Nat) (a26 : Nat) (a27 : Nat) (a28 : Nat) (a35 : Nat) (a36 : Nat) (a37 : Nat) (a38 : Nat) (a39 : Nat) (a40 : Nat) (a41 : Nat) (a44 : Nat) (a45 : Nat) (z0 : Int) (z1 : Int) (z2 : Int) (z3 : Int) (z4 : Int) (z5 : Int) (z7 : Int) (z9 : Int) (z16 : Int) (z18 : Int) (z25 : Int) (z29 : Int) (z30 : Int) (z31 : Int) (z32 : Int) (z33 : Int) (z34 : Int) (z42 : Int) (z43 : Int) (g10 : Int → Int) (g12 : Int → Int) (g13 : Int → Int) (g15 : Int → Int) (g17 : Int → Int) (g20 : Int → Int) (g21 : Int → Int) (g22 : Int → Int) (g23 : Int → Int) (g24 : Int → Int) (g44 : Int → Int) (g45 : Int → Int) : Option Value → va_W → Prop := fun rv w1 => ∃ (r : Int) (r0 : Int) (R9 : Int) (ro : Int → Int) (nb : Int) (h20 : Int → Int) (h21 : Int → Int) (h22 : Int → Int) (h23 : Int → Int) (h24 : Int → Int) (h44 : Int → Int) (h45 : Int → Int), rv = some (.int (iZ r)) ∧ srtZ (hmZ g10) g15 z16 ro R9 ∧ nb = offZ g13 ro R9.toNat ∧ (0 ≤ nb ∧ nb ≤ 900) ∧ gatMA h20 h21 h22 h23 h24 g10 g12 g13 ro z3 R9 ∧ (∀ j : Int, 0 ≤ j ∧ j < 900 → 0 ≤ h20 j ∧ h20 j < 150) ∧ (∀ j : Int, 0 ≤ j ∧ j < 900 → 0 ≤ h21 j ∧ h21 j < 6) ∧ (∀ j : Int, 0 ≤ j ∧ j < 900 → 0 ≤ h22 j ∧ h22 j ≤ 23) ∧ (∀ j : Int, 0 ≤ j ∧ j < 900 → h23 j = 0 ∨ h23 j = 1) ∧ (∀ j : Int, 0 ≤ j ∧ j < 900 → h24 j = 0 ∨ h24 j = 1) ∧ h44 = cnG g10 h20 h22 (fillZ g44 0 26) nb.toNat ∧ h45 = cnH g10 h20 (fillZ g45 0 26) nb.toNat ∧ r0 = sumN h22 0 nb.toNat ∧ (∀ l9 : Int, 0 ≤ l9 ∧ l9 < 26 → 0 ≤ h44 l9 ∧ h44 l9 ≤ 23 * nb) ∧ (∀ l9 : Int, 0 ≤ l9 ∧ l9 < 26 → h45 l9 = 0 ∨ h45 l9 = 1) ∧ (0 ≤ r0 ∧ r0 ≤ 23 * nb) ∧ nb ≤ r0 ∧ r = vlM h44 h45 r0 26 0 (-1) 0 0 1 ∧ w1 = [(m0, .inr (5, [.int (iZ 0), .int (iZ z1), .int (iZ z2), .int (iZ z3), .int (iZ z4), .int (iZ z5), .ref a6, .int (iZ z7), .ref a8, .int (iZ z9), .ref a10, .ref a11, .ref a12, .ref a13, .ref a14, .ref a15, .int (iZ z16), .ref a17, .int (iZ R9), .ref a19, .ref a20, .ref a21, .ref a22, .ref a23, .ref a24, .int (iZ nb), .ref a26, .ref a27, .ref a28, .int (iZ z29), .int (iZ z30), .int (iZ z31), .int (iZ z32), .int (iZ z33), .int (iZ z34), .ref a35, .ref a36, .ref a37, .ref a38, .ref a39, .ref a40, .ref a41, .int (iZ z42), .int (iZ z43), .ref a44, .ref a45])), (a10, .inl (cI, 1800, .inl (zA g10))), (a12, .inl (cI, 900, .inl (zA g12))), (a13, .inl (cI, 150, .inl (zA g13))), (a15, .inl (cY, 150, .inl (zA g15))), (a17, .inl (cI, 150, .inl (zA ro))), (a20, .inl (cI, 900, .inl (zA h20))), (a21, .inl (cI, 900, .inl (zA h21))), (a22, .inl (cI, 900, .inl (zA h22))), (a23, .inl (cY, 900, .inl (zA h23))), (a24, .inl (cY, 900, .inl (zA h24))), (a44, .inl (cI, 26, .inl (zA h44))), (a45, .inl (cY, 26, .inl (zA h45)))]
set_option maxHeartbeats 4000000 in
set_option maxRecDepth 100000 in
theorem ctX5_volume (l : Launch) (D : va_G) (cB cI cJ cY : ClassId) (m0 : Nat) (a6 : Nat) (a8 : Nat) (a10 : Nat) (a11 : Nat) (a12 : Nat) (a13 : Nat) (a14 : Nat) (a15 : Nat) (a17 : Nat) (a19 : Nat) (a20 : Nat) (a21 : Nat) (a22 : Nat) (a23 : Nat) (a24 : Nat) (a26 : Nat) (a27 : Nat) (a28 : Nat) (a35 : Nat) (a36 : Nat) (a37 : Nat) (a38 : Nat) (a39 : Nat) (a40 : Nat) (a41 : Nat) (a44 : Nat) (a45 : Nat) (z0 : Int) (z1 : Int) (z2 : Int) (z3 : Int) (z4 : Int) (z5 : Int) (z7 : Int) (z9 : Int) (z16 : Int) (z18 : Int) (z25 : Int) (z29 : Int) (z30 : Int) (z31 : Int) (z32 : Int) (z33 : Int) (z34 : Int) (z42 : Int) (z43 : Int) (g10 : Int → Int) (g12 : Int → Int) (g13 : Int → Int) (g15 : Int → Int) (g17 : Int → Int) (g20 : Int → Int) (g21 : Int → Int) (g22 : Int → Int) (g23 : Int → Int) (g24 : Int → Int) (g44 : Int → Int) (g45 : Int → Int) (h16 : 0 ≤ z16 ∧ z16 ≤ 150) (hok10 : ∀ j : Int, 0 ≤ j ∧ j < 1800 → okV (g10 j)) (h15 : ∀ j : Int, 0 ≤ j ∧ j < 150 → g15 j = 0 ∨ g15 j = 1) (h13 : ∀ a : Int, 0 ≤ a ∧ a < z16 → 1 ≤ g13 a ∧ g13 a ≤ 6) (h12 : ∀ j : Int, 0 ≤ j ∧ j < 900 → 0 ≤ g12 j ∧ g12 j ≤ 20) (h3 : 0 ≤ z3 ∧ z3 ≤ 3) (hl1 : ∀ a : Int, 0 ≤ a ∧ a < z16 → 97 ≤ g10 (12 * a)) (hg20 : ∀ j : Int, 0 ≤ j ∧ j < 900 → 0 ≤ g20 j ∧ g20 j < 150) (hg21 : ∀ j : Int, 0 ≤ j ∧ j < 900 → 0 ≤ g21 j ∧ g21 j < 6) (hg22 : ∀ j : Int, 0 ≤ j ∧ j < 900 → 0 ≤ g22 j ∧ g22 j ≤ 23) (hg23 : ∀ j : Int, 0 ≤ j ∧ j < 900 → g23 j = 0 ∨ g23 j = 1) (hg24 : ∀ j : Int, 0 ≤ j ∧ j < 900 → g24 j = 0 ∨ g24 j = 1) (h12p : ∀ a t : Int, 0 ≤ a → a < z16 → 0 ≤ t → t < g13 a → 1 ≤ g12 (6 * a + t)) : gM l yX5_volume wsX5_volume { frames := 4, cells := 0, slots := 0, locals := 94 } D (gT cB cI cJ cY) [.ref m0] [(m0, .inr (5, [.int (iZ z0), .int (iZ z1), .int (iZ z2), .int (iZ z3), .int (iZ z4), .int (iZ z5), .ref a6, .int (iZ z7), .ref a8, .int (iZ z9), .ref a10, .ref a11, .ref a12, .ref a13, .ref a14, .ref a15, .int (iZ z16), .ref a17, .int (iZ z18), .ref a19, .ref a20, .ref a21, .ref a22, .ref a23, .ref a24, .int (iZ z25), .ref a26, .ref a27, .ref a28, .int (iZ z29), .int (iZ z30), .int (iZ z31), .int (iZ z32), .int (iZ z33), .int (iZ z34), .ref a35, .ref a36, .ref a37, .ref a38, .ref a39, .ref a40, .ref a41, .int (iZ z42), .int (iZ z43), .ref a44, .ref a45])), (a10, .inl (cI, 1800, .inl (zA g10))), (a12, .inl (cI, 900, .inl (zA g12))), (a13, .inl (cI, 150, .inl (zA g13))), (a15, .inl (cY, 150, .inl (zA g15))), (a17, .inl (cI, 150, .inl (zA g17))), (a20, .inl (cI, 900, .inl (zA g20))), (a21, .inl (cI, 900, .inl (zA g21))), (a22, .inl (cI, 900, .inl (zA g22))), (a23, .inl (cY, 900, .inl (zA g23))), (a24, .inl (cY, 900, .inl (zA g24))), (a44, .inl (cI, 26, .inl (zA g44))), (a45, .inl (cY, 26, .inl (zA g45)))] 0 0 (qX5_volume cB cI cJ cY m0 a6 a8 a10 a11 a12 a13 a14 a15 a17 a19 a20 a21 a22 a23 a24 a26 a27 a28 a35 a36 a37 a38 a39 a40 a41 a44 a45 z0 z1 z2 z3 z4 z5 z7 z9 z16 z18 z25 z29 z30 z31 z32 z33 z34 z42 z43 g10 g12 g13 g15 g17 g20 g21 g22 g23 g24 g44 g45) := by
  refine g_start (cc := cX5_volume) (maxL := 8) (ret := some .int) (lv := [(0, .ref m0)]) (by decide) rfl (Nat.le_of_ble_eq_true rfl) rfl ?_
  intro p e s m args below meth c A X hr hnm
  have hin5 : ∀ w ∈ u_ws RX5 TX5 46, w ∈ wsX5_volume := by decide +kernel
  refine g_aload_n X 0 dX5_volume_0 rfl rfl ?_
  refine g_iconst X dX5_volume_1 ?_
  refine g_put X (index := 116) (ref := "GuideWordsModel") hin5 0 rfl rfl 0 (by decide) rfl tyX5 tyX5_ok nmX5 (by decide +kernel) rfl rfl rfl rfl (Nat.le_of_ble_eq_true rfl) (ws2 := [(m0, .inr (5, [.int (iZ 0), .int (iZ z1), .int (iZ z2), .int (iZ z3), .int (iZ z4), .int (iZ z5), .ref a6, .int (iZ z7), .ref a8, .int (iZ z9), .ref a10, .ref a11, .ref a12, .ref a13, .ref a14, .ref a15, .int (iZ z16), .ref a17, .int (iZ z18), .ref a19, .ref a20, .ref a21, .ref a22, .ref a23, .ref a24, .int (iZ z25), .ref a26, .ref a27, .ref a28, .int (iZ z29), .int (iZ z30), .int (iZ z31), .int (iZ z32), .int (iZ z33), .int (iZ z34), .ref a35, .ref a36, .ref a37, .ref a38, .ref a39, .ref a40, .ref a41, .int (iZ z42), .int (iZ z43), .ref a44, .ref a45])), (a10, .inl (cI, 1800, .inl (zA g10))), (a12, .inl (cI, 900, .inl (zA g12))), (a13, .inl (cI, 150, .inl (zA g13))), (a15, .inl (cY, 150, .inl (zA g15))), (a17, .inl (cI, 150, .inl (zA g17))), (a20, .inl (cI, 900, .inl (zA g20))), (a21, .inl (cI, 900, .inl (zA g21))), (a22, .inl (cI, 900, .inl (zA g22))), (a23, .inl (cY, 900, .inl (zA g23))), (a24, .inl (cY, 900, .inl (zA g24))), (a44, .inl (cI, 26, .inl (zA g44))), (a45, .inl (cY, 26, .inl (zA g45)))]) rfl dX5_volume_2 ?_
  refine g_aload_n X 0 dX5_volume_5 rfl rfl ?_
  refine g_callV0 X (As := []) (rest := []) (ctX5_counts l D cB cI cJ cY m0 a6 a8 a10 a11 a12 a13 a14 a15 a17 a19 a20 a21 a22 a23 a24 a26 a27 a28 a35 a36 a37 a38 a39 a40 a41 a44 a45 0 z1 z2 z3 z4 z5 z7 z9 z16 z18 z25 z29 z30 z31 z32 z33 z34 z42 z43 g10 g12 g13 g15 g17 g20 g21 g22 g23 g24 g44 g45 (by first | assumption | omega) (by first | assumption | omega) (by first | assumption | omega) (by first | assumption | omega) (by first | assumption | omega) (by first | assumption | omega) (by first | assumption | omega) (by first | assumption | omega) (by first | assumption | omega) (by first | assumption | omega) (by first | assumption | omega) (by first | assumption | omega) (by first | assumption | omega)) (cwV 0 X.2.2.2.2.1 gX5_volume_X5_counts rfl rfl rfl (by decide +kernel) ⟨by decide, by decide⟩) 0 rfl rfl (wc := [(m0, .inr (5, [.int (iZ 0), .int (iZ z1), .int (iZ z2), .int (iZ z3), .int (iZ z4), .int (iZ z5), .ref a6, .int (iZ z7), .ref a8, .int (iZ z9), .ref a10, .ref a11, .ref a12, .ref a13, .ref a14, .ref a15, .int (iZ z16), .ref a17, .int (iZ z18), .ref a19, .ref a20, .ref a21, .ref a22, .ref a23, .ref a24, .int (iZ z25), .ref a26, .ref a27, .ref a28, .int (iZ z29), .int (iZ z30), .int (iZ z31), .int (iZ z32), .int (iZ z33), .int (iZ z34), .ref a35, .ref a36, .ref a37, .ref a38, .ref a39, .ref a40, .ref a41, .int (iZ z42), .int (iZ z43), .ref a44, .ref a45])), (a10, .inl (cI, 1800, .inl (zA g10))), (a12, .inl (cI, 900, .inl (zA g12))), (a13, .inl (cI, 150, .inl (zA g13))), (a15, .inl (cY, 150, .inl (zA g15))), (a17, .inl (cI, 150, .inl (zA g17))), (a20, .inl (cI, 900, .inl (zA g20))), (a21, .inl (cI, 900, .inl (zA g21))), (a22, .inl (cI, 900, .inl (zA g22))), (a23, .inl (cY, 900, .inl (zA g23))), (a24, .inl (cY, 900, .inl (zA g24))), (a44, .inl (cI, 26, .inl (zA g44))), (a45, .inl (cY, 26, .inl (zA g45)))]) (wr := []) [0, 1, 2, 3, 4, 5, 6, 7, 8, 9, 10, 11, 12] [] rfl rfl (by decide) (by decide) (by decide) rfl rfl (Nat.le_of_ble_eq_true rfl) ⟨by decide, by decide⟩ dX5_volume_6 (fun v w1 hq => ?_)
  obtain ⟨r0, R9, ro, nb, h20, h21, h22, h23, h24, h44, h45, rfl, hs, hn, hnb, hga, hr20, hr21, hr22, hr23, hr24, h44e, h45e, hr0, h44r, h45r, hr0r, hr0n, rfl⟩ := hq
  refine g_eq (ws' := [(m0, .inr (5, [.int (iZ 0), .int (iZ z1), .int (iZ z2), .int (iZ z3), .int (iZ z4), .int (iZ z5), .ref a6, .int (iZ z7), .ref a8, .int (iZ z9), .ref a10, .ref a11, .ref a12, .ref a13, .ref a14, .ref a15, .int (iZ z16), .ref a17, .int (iZ R9), .ref a19, .ref a20, .ref a21, .ref a22, .ref a23, .ref a24, .int (iZ nb), .ref a26, .ref a27, .ref a28, .int (iZ z29), .int (iZ z30), .int (iZ z31), .int (iZ z32), .int (iZ z33), .int (iZ z34), .ref a35, .ref a36, .ref a37, .ref a38, .ref a39, .ref a40, .ref a41, .int (iZ z42), .int (iZ z43), .ref a44, .ref a45])), (a10, .inl (cI, 1800, .inl (zA g10))), (a12, .inl (cI, 900, .inl (zA g12))), (a13, .inl (cI, 150, .inl (zA g13))), (a15, .inl (cY, 150, .inl (zA g15))), (a17, .inl (cI, 150, .inl (zA ro))), (a20, .inl (cI, 900, .inl (zA h20))), (a21, .inl (cI, 900, .inl (zA h21))), (a22, .inl (cI, 900, .inl (zA h22))), (a23, .inl (cY, 900, .inl (zA h23))), (a24, .inl (cY, 900, .inl (zA h24))), (a44, .inl (cI, 26, .inl (zA h44))), (a45, .inl (cY, 26, .inl (zA h45)))]) (pc' := 9) (st' := [.int (iZ r0)]) rfl rfl rfl rfl ?_
  refine g_istore_n (lv2 := [(1, .int (iZ r0)), (0, .ref m0)]) X dX5_volume_9 rfl (by decide) rfl ?_
  refine g_iconst X dX5_volume_10 ?_
  refine g_istore_n (lv2 := [(2, .int (iZ 0)), (1, .int (iZ r0)), (0, .ref m0)]) X dX5_volume_11 rfl (by decide) rfl ?_
  refine g_iconst X dX5_volume_12 ?_
  refine g_istore_n (lv2 := [(3, .int (iZ ((-1)))), (2, .int (iZ 0)), (1, .int (iZ r0)), (0, .ref m0)]) X dX5_volume_13 rfl (by decide) rfl ?_
  refine g_iconst X dX5_volume_14 ?_
  refine g_istore (lv2 := [(4, .int (iZ 0)), (3, .int (iZ ((-1)))), (2, .int (iZ 0)), (1, .int (iZ r0)), (0, .ref m0)]) X dX5_volume_15 (by decide) rfl ?_
  refine g_iconst X dX5_volume_17 ?_
  refine g_istore (lv2 := [(5, .int (iZ 1)), (4, .int (iZ 0)), (3, .int (iZ ((-1)))), (2, .int (iZ 0)), (1, .int (iZ r0)), (0, .ref m0)]) X dX5_volume_18 (by decide) rfl ?_
  refine g_iconst X dX5_volume_20 ?_
  refine g_istore (lv2 := [(6, .int (iZ 0)), (5, .int (iZ 1)), (4, .int (iZ 0)), (3, .int (iZ ((-1)))), (2, .int (iZ 0)), (1, .int (iZ r0)), (0, .ref m0)]) X dX5_volume_21 (by decide) rfl ?_
  refine g_lv (lv' := [(0, .ref m0), (1, .int (iZ r0)), (2, .int (iZ 0)), (3, .int (iZ ((-1)))), (4, .int (iZ 0)), (5, .int (iZ 1)), (6, .int (iZ 0))]) [6, 5, 4, 3, 2, 1, 0] rfl ?_
  have loop_23 : ∀ (kf : Nat) (ah : Int) (be : Int) (un : Int) (fs : Int) (k : Int), (hk : 0 ≤ k ∧ k ≤ 26) → (hbe : -1 ≤ be ∧ be ≤ 26) → (hun : 0 ≤ un ∧ un ≤ 10000000) → (hah : 0 ≤ ah ∧ ah ≤ 21000 * k) → (hfs : fs = 0 ∨ fs = 1) → (hv : vlM h44 h45 r0 (26 - k).toNat k be un ah fs = vlM h44 h45 r0 26 0 (-1) 0 0 1) → (26 - k).toNat < kf → gW p l e { frames := 4, cells := 0, slots := 0, locals := 94 } s m args below meth c D A 8 0 0 (MQ below (gQ D (gT cB cI cJ cY) (qX5_volume cB cI cJ cY m0 a6 a8 a10 a11 a12 a13 a14 a15 a17 a19 a20 a21 a22 a23 a24 a26 a27 a28 a35 a36 a37 a38 a39 a40 a41 a44 a45 z0 z1 z2 z3 z4 z5 z7 z9 z16 z18 z25 z29 z30 z31 z32 z33 z34 z42 z43 g10 g12 g13 g15 g17 g20 g21 g22 g23 g24 g44 g45) A) args s 0 0 A) [(m0, .inr (5, [.int (iZ 0), .int (iZ z1), .int (iZ z2), .int (iZ z3), .int (iZ z4), .int (iZ z5), .ref a6, .int (iZ z7), .ref a8, .int (iZ z9), .ref a10, .ref a11, .ref a12, .ref a13, .ref a14, .ref a15, .int (iZ z16), .ref a17, .int (iZ R9), .ref a19, .ref a20, .ref a21, .ref a22, .ref a23, .ref a24, .int (iZ nb), .ref a26, .ref a27, .ref a28, .int (iZ z29), .int (iZ z30), .int (iZ z31), .int (iZ z32), .int (iZ z33), .int (iZ z34), .ref a35, .ref a36, .ref a37, .ref a38, .ref a39, .ref a40, .ref a41, .int (iZ z42), .int (iZ z43), .ref a44, .ref a45])), (a10, .inl (cI, 1800, .inl (zA g10))), (a12, .inl (cI, 900, .inl (zA g12))), (a13, .inl (cI, 150, .inl (zA g13))), (a15, .inl (cY, 150, .inl (zA g15))), (a17, .inl (cI, 150, .inl (zA ro))), (a20, .inl (cI, 900, .inl (zA h20))), (a21, .inl (cI, 900, .inl (zA h21))), (a22, .inl (cI, 900, .inl (zA h22))), (a23, .inl (cY, 900, .inl (zA h23))), (a24, .inl (cY, 900, .inl (zA h24))), (a44, .inl (cI, 26, .inl (zA h44))), (a45, .inl (cY, 26, .inl (zA h45)))] 23 [(0, .ref m0), (1, .int (iZ r0)), (2, .int (iZ ah)), (3, .int (iZ be)), (4, .int (iZ un)), (5, .int (iZ fs)), (6, .int (iZ k))] [] := by
    intro kf
    induction kf with
    | zero => intro ah be un fs k hk hbe hun hah hfs hv hm; exact absurd hm (Nat.not_lt_zero _)
    | succ kf ih_23 =>
      intro ah be un fs k hk hbe hun hah hfs hv hm
      refine g_iload X 6 dX5_volume_23 rfl ?_
      refine g_bipush X dX5_volume_25 (by decide) ?_
      refine g_icmp_ge X 107 dX5_volume_27 (by decide) (by omega) (by omega) (fun c_27 => ?_) (fun c_27 => ?_)
      · skip
        refine g_iload_n X 3 dX5_volume_107 rfl rfl ?_
        exact g_iret X hr (by decide) (by decide) dX5_volume_108 ⟨_, r0, R9, ro, nb, h20, h21, h22, h23, h24, h44, h45, rfl, hs, hn, hnb, hga, hr20, hr21, hr22, hr23, hr24, h44e, h45e, hr0, h44r, h45r, hr0r, hr0n, by rw [← hv, show (26 - k).toNat = 0 by omega]; rfl, rfl⟩
      · skip
        have hk1 : (26 - k).toNat = (26 - (k + 1)).toNat + 1 := by omega
        rw [hk1, vlM_s h44 h45 r0 (26 - (k + 1)).toNat k be un ah fs] at hv
        have r_9 := h44r k (by omega)
        refine g_aload_n X 0 dX5_volume_30 rfl rfl ?_
        refine g_get X (index := 113) (ref := "GuideWordsModel") hin5 0 rfl rfl 45 (by decide) rfl (by decide +kernel) (v := .ref a45) rfl dX5_volume_31 ?_
        refine g_iload X 6 dX5_volume_34 rfl ?_
        refine g_zald X 12 3 rfl rfl (by omega) (by decide) dX5_volume_36 ?_
        have r_36 := h45r k (by omega)
        refine g_if_ne X 43 dX5_volume_37 (by decide) (by have := h45r k (by omega); omega) (fun c_37 => ?_) (fun c_37 => ?_)
        · skip
          rw [if_neg c_37] at hv
          refine g_iconst X dX5_volume_43 ?_
          refine g_iload_n X 2 dX5_volume_44 rfl rfl ?_
          refine g_imul X dX5_volume_45 ?_
          refine g_iload_n X 1 dX5_volume_46 rfl rfl ?_
          refine g_isub X dX5_volume_47 ?_
          refine g_istore (lv2 := [(7, .int (iZ ((2 * ah) - r0))), (0, .ref m0), (1, .int (iZ r0)), (2, .int (iZ ah)), (3, .int (iZ be)), (4, .int (iZ un)), (5, .int (iZ fs)), (6, .int (iZ k))]) X dX5_volume_48 (by decide) rfl ?_
          refine g_iload X 0 dX5_volume_50 rfl ?_
          refine g_if_ge X 61 dX5_volume_52 (by decide) (by omega) (fun c_52 => ?_) (fun c_52 => ?_)
          · skip
            refine g_iload X 0 dX5_volume_61 rfl ?_
            have hab : (2 * ah) - r0 = absZ (2 * ah - r0) := by unfold absZ; first | rw [if_pos (by omega)] | rw [if_neg (by omega)]
            have hab2 := absZ_b (2 * ah - r0)
            refine g_topi (b := absZ (2 * ah - r0)) hab ?_
            refine g_istore (lv2 := [(7, .int (iZ (absZ (2 * ah - r0)))), (0, .ref m0), (1, .int (iZ r0)), (2, .int (iZ ah)), (3, .int (iZ be)), (4, .int (iZ un)), (5, .int (iZ fs)), (6, .int (iZ k))]) X dX5_volume_63 (by decide) rfl ?_
            refine g_iload X 6 dX5_volume_65 rfl ?_
            refine g_if_ne X 88 dX5_volume_67 (by decide) (by omega) (fun c_67 => ?_) (fun c_67 => ?_)
            · skip
              have hv2 := hv
              rw [if_neg (fun q => by have := q.1; omega)] at hv2
              refine g_iconst X dX5_volume_88 ?_
              refine g_istore (lv2 := [(5, .int (iZ 0)), (7, .int (iZ (absZ (2 * ah - r0)))), (0, .ref m0), (1, .int (iZ r0)), (2, .int (iZ ah)), (3, .int (iZ be)), (4, .int (iZ un)), (6, .int (iZ k))]) X dX5_volume_89 (by decide) rfl ?_
              refine g_iload_n X 4 dX5_volume_91 rfl rfl ?_
              refine g_aload_n X 2 dX5_volume_92 rfl rfl ?_
              refine g_get X (index := 110) (ref := "GuideWordsModel") hin5 0 rfl rfl 44 (by decide) rfl (by decide +kernel) (v := .ref a44) rfl dX5_volume_93 ?_
              refine g_iload X 7 dX5_volume_96 rfl ?_
              refine g_iald X 11 1 rfl rfl (by omega) (by decide) dX5_volume_98 ?_
              have r_98 := h44r k (by omega)
              refine g_iadd X dX5_volume_99 ?_
              refine g_istore_n (lv2 := [(2, .int (iZ (ah + (h44 k)))), (5, .int (iZ 0)), (7, .int (iZ (absZ (2 * ah - r0)))), (0, .ref m0), (1, .int (iZ r0)), (3, .int (iZ be)), (4, .int (iZ un)), (6, .int (iZ k))]) X dX5_volume_100 rfl (by decide) rfl ?_
              refine g_iinc (q := 7) (lv2 := [(6, .int (iZ (k + 1))), (2, .int (iZ (ah + (h44 k)))), (5, .int (iZ 0)), (7, .int (iZ (absZ (2 * ah - r0)))), (0, .ref m0), (1, .int (iZ r0)), (3, .int (iZ be)), (4, .int (iZ un))]) X dX5_volume_101 rfl (by decide) rfl ?_
              refine g_goto X 23 dX5_volume_104 (by decide) ?_
              refine g_lv (lv' := [(0, .ref m0), (1, .int (iZ r0)), (2, .int (iZ (ah + (h44 k)))), (3, .int (iZ be)), (4, .int (iZ un)), (5, .int (iZ 0)), (6, .int (iZ (k + 1)))]) [4, 5, 1, 6, 7, 2, 0] rfl ?_
              exact ih_23 (ah + (h44 k)) be un 0 (k + 1) (by omega) (by omega) (by omega) (by omega) (by omega) hv2 (by omega)
            · skip
              refine g_iload_n X 4 dX5_volume_70 rfl rfl ?_
              refine g_if_lt X 81 dX5_volume_71 (by decide) (by omega) (fun c_71 => ?_) (fun c_71 => ?_)
              · skip
                have hv2 := hv
                rw [if_pos ⟨by omega, Or.inl (by omega)⟩] at hv2
                refine g_iload X 7 dX5_volume_81 rfl ?_
                refine g_istore_n (lv2 := [(3, .int (iZ k)), (7, .int (iZ (absZ (2 * ah - r0)))), (0, .ref m0), (1, .int (iZ r0)), (2, .int (iZ ah)), (4, .int (iZ un)), (5, .int (iZ fs)), (6, .int (iZ k))]) X dX5_volume_83 rfl (by decide) rfl ?_
                refine g_iload X 1 dX5_volume_84 rfl ?_
                refine g_istore (lv2 := [(4, .int (iZ (absZ (2 * ah - r0)))), (3, .int (iZ k)), (7, .int (iZ (absZ (2 * ah - r0)))), (0, .ref m0), (1, .int (iZ r0)), (2, .int (iZ ah)), (5, .int (iZ fs)), (6, .int (iZ k))]) X dX5_volume_86 (by decide) rfl ?_
                refine g_iconst X dX5_volume_88 ?_
                refine g_istore (lv2 := [(5, .int (iZ 0)), (4, .int (iZ (absZ (2 * ah - r0)))), (3, .int (iZ k)), (7, .int (iZ (absZ (2 * ah - r0)))), (0, .ref m0), (1, .int (iZ r0)), (2, .int (iZ ah)), (6, .int (iZ k))]) X dX5_volume_89 (by decide) rfl ?_
                refine g_iload_n X 6 dX5_volume_91 rfl rfl ?_
                refine g_aload_n X 4 dX5_volume_92 rfl rfl ?_
                refine g_get X (index := 110) (ref := "GuideWordsModel") hin5 0 rfl rfl 44 (by decide) rfl (by decide +kernel) (v := .ref a44) rfl dX5_volume_93 ?_
                refine g_iload X 7 dX5_volume_96 rfl ?_
                refine g_iald X 11 1 rfl rfl (by omega) (by decide) dX5_volume_98 ?_
                have r_98 := h44r k (by omega)
                refine g_iadd X dX5_volume_99 ?_
                refine g_istore_n (lv2 := [(2, .int (iZ (ah + (h44 k)))), (5, .int (iZ 0)), (4, .int (iZ (absZ (2 * ah - r0)))), (3, .int (iZ k)), (7, .int (iZ (absZ (2 * ah - r0)))), (0, .ref m0), (1, .int (iZ r0)), (6, .int (iZ k))]) X dX5_volume_100 rfl (by decide) rfl ?_
                refine g_iinc (q := 7) (lv2 := [(6, .int (iZ (k + 1))), (2, .int (iZ (ah + (h44 k)))), (5, .int (iZ 0)), (4, .int (iZ (absZ (2 * ah - r0)))), (3, .int (iZ k)), (7, .int (iZ (absZ (2 * ah - r0)))), (0, .ref m0), (1, .int (iZ r0))]) X dX5_volume_101 rfl (by decide) rfl ?_
                refine g_goto X 23 dX5_volume_104 (by decide) ?_
                refine g_lv (lv' := [(0, .ref m0), (1, .int (iZ r0)), (2, .int (iZ (ah + (h44 k)))), (3, .int (iZ k)), (4, .int (iZ (absZ (2 * ah - r0)))), (5, .int (iZ 0)), (6, .int (iZ (k + 1)))]) [6, 7, 1, 4, 3, 2, 0] rfl ?_
                exact ih_23 (ah + (h44 k)) k (absZ (2 * ah - r0)) 0 (k + 1) (by omega) (by omega) (by omega) (by omega) (by omega) hv2 (by omega)
              · skip
                refine g_iload X 0 dX5_volume_74 rfl ?_
                refine g_iload X 5 dX5_volume_76 rfl ?_
                refine g_icmp_ge X 88 dX5_volume_78 (by decide) (by omega) (by omega) (fun c_78 => ?_) (fun c_78 => ?_)
                · skip
                  have hv2 := hv
                  rw [if_neg (fun q => by have := q.2; omega)] at hv2
                  refine g_iconst X dX5_volume_88 ?_
                  refine g_istore (lv2 := [(5, .int (iZ 0)), (7, .int (iZ (absZ (2 * ah - r0)))), (0, .ref m0), (1, .int (iZ r0)), (2, .int (iZ ah)), (3, .int (iZ be)), (4, .int (iZ un)), (6, .int (iZ k))]) X dX5_volume_89 (by decide) rfl ?_
                  refine g_iload_n X 4 dX5_volume_91 rfl rfl ?_
                  refine g_aload_n X 2 dX5_volume_92 rfl rfl ?_
                  refine g_get X (index := 110) (ref := "GuideWordsModel") hin5 0 rfl rfl 44 (by decide) rfl (by decide +kernel) (v := .ref a44) rfl dX5_volume_93 ?_
                  refine g_iload X 7 dX5_volume_96 rfl ?_
                  refine g_iald X 11 1 rfl rfl (by omega) (by decide) dX5_volume_98 ?_
                  have r_98 := h44r k (by omega)
                  refine g_iadd X dX5_volume_99 ?_
                  refine g_istore_n (lv2 := [(2, .int (iZ (ah + (h44 k)))), (5, .int (iZ 0)), (7, .int (iZ (absZ (2 * ah - r0)))), (0, .ref m0), (1, .int (iZ r0)), (3, .int (iZ be)), (4, .int (iZ un)), (6, .int (iZ k))]) X dX5_volume_100 rfl (by decide) rfl ?_
                  refine g_iinc (q := 7) (lv2 := [(6, .int (iZ (k + 1))), (2, .int (iZ (ah + (h44 k)))), (5, .int (iZ 0)), (7, .int (iZ (absZ (2 * ah - r0)))), (0, .ref m0), (1, .int (iZ r0)), (3, .int (iZ be)), (4, .int (iZ un))]) X dX5_volume_101 rfl (by decide) rfl ?_
                  refine g_goto X 23 dX5_volume_104 (by decide) ?_
                  refine g_lv (lv' := [(0, .ref m0), (1, .int (iZ r0)), (2, .int (iZ (ah + (h44 k)))), (3, .int (iZ be)), (4, .int (iZ un)), (5, .int (iZ 0)), (6, .int (iZ (k + 1)))]) [4, 5, 1, 6, 7, 2, 0] rfl ?_
                  exact ih_23 (ah + (h44 k)) be un 0 (k + 1) (by omega) (by omega) (by omega) (by omega) (by omega) hv2 (by omega)
                · skip
                  have hv2 := hv
                  rw [if_pos ⟨by omega, Or.inr (by omega)⟩] at hv2
                  refine g_iload X 7 dX5_volume_81 rfl ?_
                  refine g_istore_n (lv2 := [(3, .int (iZ k)), (7, .int (iZ (absZ (2 * ah - r0)))), (0, .ref m0), (1, .int (iZ r0)), (2, .int (iZ ah)), (4, .int (iZ un)), (5, .int (iZ fs)), (6, .int (iZ k))]) X dX5_volume_83 rfl (by decide) rfl ?_
                  refine g_iload X 1 dX5_volume_84 rfl ?_
                  refine g_istore (lv2 := [(4, .int (iZ (absZ (2 * ah - r0)))), (3, .int (iZ k)), (7, .int (iZ (absZ (2 * ah - r0)))), (0, .ref m0), (1, .int (iZ r0)), (2, .int (iZ ah)), (5, .int (iZ fs)), (6, .int (iZ k))]) X dX5_volume_86 (by decide) rfl ?_
                  refine g_iconst X dX5_volume_88 ?_
                  refine g_istore (lv2 := [(5, .int (iZ 0)), (4, .int (iZ (absZ (2 * ah - r0)))), (3, .int (iZ k)), (7, .int (iZ (absZ (2 * ah - r0)))), (0, .ref m0), (1, .int (iZ r0)), (2, .int (iZ ah)), (6, .int (iZ k))]) X dX5_volume_89 (by decide) rfl ?_
                  refine g_iload_n X 6 dX5_volume_91 rfl rfl ?_
                  refine g_aload_n X 4 dX5_volume_92 rfl rfl ?_
                  refine g_get X (index := 110) (ref := "GuideWordsModel") hin5 0 rfl rfl 44 (by decide) rfl (by decide +kernel) (v := .ref a44) rfl dX5_volume_93 ?_
                  refine g_iload X 7 dX5_volume_96 rfl ?_
                  refine g_iald X 11 1 rfl rfl (by omega) (by decide) dX5_volume_98 ?_
                  have r_98 := h44r k (by omega)
                  refine g_iadd X dX5_volume_99 ?_
                  refine g_istore_n (lv2 := [(2, .int (iZ (ah + (h44 k)))), (5, .int (iZ 0)), (4, .int (iZ (absZ (2 * ah - r0)))), (3, .int (iZ k)), (7, .int (iZ (absZ (2 * ah - r0)))), (0, .ref m0), (1, .int (iZ r0)), (6, .int (iZ k))]) X dX5_volume_100 rfl (by decide) rfl ?_
                  refine g_iinc (q := 7) (lv2 := [(6, .int (iZ (k + 1))), (2, .int (iZ (ah + (h44 k)))), (5, .int (iZ 0)), (4, .int (iZ (absZ (2 * ah - r0)))), (3, .int (iZ k)), (7, .int (iZ (absZ (2 * ah - r0)))), (0, .ref m0), (1, .int (iZ r0))]) X dX5_volume_101 rfl (by decide) rfl ?_
                  refine g_goto X 23 dX5_volume_104 (by decide) ?_
                  refine g_lv (lv' := [(0, .ref m0), (1, .int (iZ r0)), (2, .int (iZ (ah + (h44 k)))), (3, .int (iZ k)), (4, .int (iZ (absZ (2 * ah - r0)))), (5, .int (iZ 0)), (6, .int (iZ (k + 1)))]) [6, 7, 1, 4, 3, 2, 0] rfl ?_
                  exact ih_23 (ah + (h44 k)) k (absZ (2 * ah - r0)) 0 (k + 1) (by omega) (by omega) (by omega) (by omega) (by omega) hv2 (by omega)
          · skip
            refine g_iload X 0 dX5_volume_55 rfl ?_
            refine g_ineg X dX5_volume_57 ?_
            refine g_goto X 63 dX5_volume_58 (by decide) ?_
            have hab : -((2 * ah) - r0) = absZ (2 * ah - r0) := by unfold absZ; first | rw [if_pos (by omega)] | rw [if_neg (by omega)]
            have hab2 := absZ_b (2 * ah - r0)
            refine g_topi (b := absZ (2 * ah - r0)) hab ?_
            refine g_istore (lv2 := [(7, .int (iZ (absZ (2 * ah - r0)))), (0, .ref m0), (1, .int (iZ r0)), (2, .int (iZ ah)), (3, .int (iZ be)), (4, .int (iZ un)), (5, .int (iZ fs)), (6, .int (iZ k))]) X dX5_volume_63 (by decide) rfl ?_
            refine g_iload X 6 dX5_volume_65 rfl ?_
            refine g_if_ne X 88 dX5_volume_67 (by decide) (by omega) (fun c_67 => ?_) (fun c_67 => ?_)
            · skip
              have hv2 := hv
              rw [if_neg (fun q => by have := q.1; omega)] at hv2
              refine g_iconst X dX5_volume_88 ?_
              refine g_istore (lv2 := [(5, .int (iZ 0)), (7, .int (iZ (absZ (2 * ah - r0)))), (0, .ref m0), (1, .int (iZ r0)), (2, .int (iZ ah)), (3, .int (iZ be)), (4, .int (iZ un)), (6, .int (iZ k))]) X dX5_volume_89 (by decide) rfl ?_
              refine g_iload_n X 4 dX5_volume_91 rfl rfl ?_
              refine g_aload_n X 2 dX5_volume_92 rfl rfl ?_
              refine g_get X (index := 110) (ref := "GuideWordsModel") hin5 0 rfl rfl 44 (by decide) rfl (by decide +kernel) (v := .ref a44) rfl dX5_volume_93 ?_
              refine g_iload X 7 dX5_volume_96 rfl ?_
              refine g_iald X 11 1 rfl rfl (by omega) (by decide) dX5_volume_98 ?_
              have r_98 := h44r k (by omega)
              refine g_iadd X dX5_volume_99 ?_
              refine g_istore_n (lv2 := [(2, .int (iZ (ah + (h44 k)))), (5, .int (iZ 0)), (7, .int (iZ (absZ (2 * ah - r0)))), (0, .ref m0), (1, .int (iZ r0)), (3, .int (iZ be)), (4, .int (iZ un)), (6, .int (iZ k))]) X dX5_volume_100 rfl (by decide) rfl ?_
              refine g_iinc (q := 7) (lv2 := [(6, .int (iZ (k + 1))), (2, .int (iZ (ah + (h44 k)))), (5, .int (iZ 0)), (7, .int (iZ (absZ (2 * ah - r0)))), (0, .ref m0), (1, .int (iZ r0)), (3, .int (iZ be)), (4, .int (iZ un))]) X dX5_volume_101 rfl (by decide) rfl ?_
              refine g_goto X 23 dX5_volume_104 (by decide) ?_
              refine g_lv (lv' := [(0, .ref m0), (1, .int (iZ r0)), (2, .int (iZ (ah + (h44 k)))), (3, .int (iZ be)), (4, .int (iZ un)), (5, .int (iZ 0)), (6, .int (iZ (k + 1)))]) [4, 5, 1, 6, 7, 2, 0] rfl ?_
              exact ih_23 (ah + (h44 k)) be un 0 (k + 1) (by omega) (by omega) (by omega) (by omega) (by omega) hv2 (by omega)
            · skip
              refine g_iload_n X 4 dX5_volume_70 rfl rfl ?_
              refine g_if_lt X 81 dX5_volume_71 (by decide) (by omega) (fun c_71 => ?_) (fun c_71 => ?_)
              · skip
                have hv2 := hv
                rw [if_pos ⟨by omega, Or.inl (by omega)⟩] at hv2
                refine g_iload X 7 dX5_volume_81 rfl ?_
                refine g_istore_n (lv2 := [(3, .int (iZ k)), (7, .int (iZ (absZ (2 * ah - r0)))), (0, .ref m0), (1, .int (iZ r0)), (2, .int (iZ ah)), (4, .int (iZ un)), (5, .int (iZ fs)), (6, .int (iZ k))]) X dX5_volume_83 rfl (by decide) rfl ?_
                refine g_iload X 1 dX5_volume_84 rfl ?_
                refine g_istore (lv2 := [(4, .int (iZ (absZ (2 * ah - r0)))), (3, .int (iZ k)), (7, .int (iZ (absZ (2 * ah - r0)))), (0, .ref m0), (1, .int (iZ r0)), (2, .int (iZ ah)), (5, .int (iZ fs)), (6, .int (iZ k))]) X dX5_volume_86 (by decide) rfl ?_
                refine g_iconst X dX5_volume_88 ?_
                refine g_istore (lv2 := [(5, .int (iZ 0)), (4, .int (iZ (absZ (2 * ah - r0)))), (3, .int (iZ k)), (7, .int (iZ (absZ (2 * ah - r0)))), (0, .ref m0), (1, .int (iZ r0)), (2, .int (iZ ah)), (6, .int (iZ k))]) X dX5_volume_89 (by decide) rfl ?_
                refine g_iload_n X 6 dX5_volume_91 rfl rfl ?_
                refine g_aload_n X 4 dX5_volume_92 rfl rfl ?_
                refine g_get X (index := 110) (ref := "GuideWordsModel") hin5 0 rfl rfl 44 (by decide) rfl (by decide +kernel) (v := .ref a44) rfl dX5_volume_93 ?_
                refine g_iload X 7 dX5_volume_96 rfl ?_
                refine g_iald X 11 1 rfl rfl (by omega) (by decide) dX5_volume_98 ?_
                have r_98 := h44r k (by omega)
                refine g_iadd X dX5_volume_99 ?_
                refine g_istore_n (lv2 := [(2, .int (iZ (ah + (h44 k)))), (5, .int (iZ 0)), (4, .int (iZ (absZ (2 * ah - r0)))), (3, .int (iZ k)), (7, .int (iZ (absZ (2 * ah - r0)))), (0, .ref m0), (1, .int (iZ r0)), (6, .int (iZ k))]) X dX5_volume_100 rfl (by decide) rfl ?_
                refine g_iinc (q := 7) (lv2 := [(6, .int (iZ (k + 1))), (2, .int (iZ (ah + (h44 k)))), (5, .int (iZ 0)), (4, .int (iZ (absZ (2 * ah - r0)))), (3, .int (iZ k)), (7, .int (iZ (absZ (2 * ah - r0)))), (0, .ref m0), (1, .int (iZ r0))]) X dX5_volume_101 rfl (by decide) rfl ?_
                refine g_goto X 23 dX5_volume_104 (by decide) ?_
                refine g_lv (lv' := [(0, .ref m0), (1, .int (iZ r0)), (2, .int (iZ (ah + (h44 k)))), (3, .int (iZ k)), (4, .int (iZ (absZ (2 * ah - r0)))), (5, .int (iZ 0)), (6, .int (iZ (k + 1)))]) [6, 7, 1, 4, 3, 2, 0] rfl ?_
                exact ih_23 (ah + (h44 k)) k (absZ (2 * ah - r0)) 0 (k + 1) (by omega) (by omega) (by omega) (by omega) (by omega) hv2 (by omega)
              · skip
                refine g_iload X 0 dX5_volume_74 rfl ?_
                refine g_iload X 5 dX5_volume_76 rfl ?_
                refine g_icmp_ge X 88 dX5_volume_78 (by decide) (by omega) (by omega) (fun c_78 => ?_) (fun c_78 => ?_)
                · skip
                  have hv2 := hv
                  rw [if_neg (fun q => by have := q.2; omega)] at hv2
                  refine g_iconst X dX5_volume_88 ?_
                  refine g_istore (lv2 := [(5, .int (iZ 0)), (7, .int (iZ (absZ (2 * ah - r0)))), (0, .ref m0), (1, .int (iZ r0)), (2, .int (iZ ah)), (3, .int (iZ be)), (4, .int (iZ un)), (6, .int (iZ k))]) X dX5_volume_89 (by decide) rfl ?_
                  refine g_iload_n X 4 dX5_volume_91 rfl rfl ?_
                  refine g_aload_n X 2 dX5_volume_92 rfl rfl ?_
                  refine g_get X (index := 110) (ref := "GuideWordsModel") hin5 0 rfl rfl 44 (by decide) rfl (by decide +kernel) (v := .ref a44) rfl dX5_volume_93 ?_
                  refine g_iload X 7 dX5_volume_96 rfl ?_
                  refine g_iald X 11 1 rfl rfl (by omega) (by decide) dX5_volume_98 ?_
                  have r_98 := h44r k (by omega)
                  refine g_iadd X dX5_volume_99 ?_
                  refine g_istore_n (lv2 := [(2, .int (iZ (ah + (h44 k)))), (5, .int (iZ 0)), (7, .int (iZ (absZ (2 * ah - r0)))), (0, .ref m0), (1, .int (iZ r0)), (3, .int (iZ be)), (4, .int (iZ un)), (6, .int (iZ k))]) X dX5_volume_100 rfl (by decide) rfl ?_
                  refine g_iinc (q := 7) (lv2 := [(6, .int (iZ (k + 1))), (2, .int (iZ (ah + (h44 k)))), (5, .int (iZ 0)), (7, .int (iZ (absZ (2 * ah - r0)))), (0, .ref m0), (1, .int (iZ r0)), (3, .int (iZ be)), (4, .int (iZ un))]) X dX5_volume_101 rfl (by decide) rfl ?_
                  refine g_goto X 23 dX5_volume_104 (by decide) ?_
                  refine g_lv (lv' := [(0, .ref m0), (1, .int (iZ r0)), (2, .int (iZ (ah + (h44 k)))), (3, .int (iZ be)), (4, .int (iZ un)), (5, .int (iZ 0)), (6, .int (iZ (k + 1)))]) [4, 5, 1, 6, 7, 2, 0] rfl ?_
                  exact ih_23 (ah + (h44 k)) be un 0 (k + 1) (by omega) (by omega) (by omega) (by omega) (by omega) hv2 (by omega)
                · skip
                  have hv2 := hv
                  rw [if_pos ⟨by omega, Or.inr (by omega)⟩] at hv2
                  refine g_iload X 7 dX5_volume_81 rfl ?_
                  refine g_istore_n (lv2 := [(3, .int (iZ k)), (7, .int (iZ (absZ (2 * ah - r0)))), (0, .ref m0), (1, .int (iZ r0)), (2, .int (iZ ah)), (4, .int (iZ un)), (5, .int (iZ fs)), (6, .int (iZ k))]) X dX5_volume_83 rfl (by decide) rfl ?_
                  refine g_iload X 1 dX5_volume_84 rfl ?_
                  refine g_istore (lv2 := [(4, .int (iZ (absZ (2 * ah - r0)))), (3, .int (iZ k)), (7, .int (iZ (absZ (2 * ah - r0)))), (0, .ref m0), (1, .int (iZ r0)), (2, .int (iZ ah)), (5, .int (iZ fs)), (6, .int (iZ k))]) X dX5_volume_86 (by decide) rfl ?_
                  refine g_iconst X dX5_volume_88 ?_
                  refine g_istore (lv2 := [(5, .int (iZ 0)), (4, .int (iZ (absZ (2 * ah - r0)))), (3, .int (iZ k)), (7, .int (iZ (absZ (2 * ah - r0)))), (0, .ref m0), (1, .int (iZ r0)), (2, .int (iZ ah)), (6, .int (iZ k))]) X dX5_volume_89 (by decide) rfl ?_
                  refine g_iload_n X 6 dX5_volume_91 rfl rfl ?_
                  refine g_aload_n X 4 dX5_volume_92 rfl rfl ?_
                  refine g_get X (index := 110) (ref := "GuideWordsModel") hin5 0 rfl rfl 44 (by decide) rfl (by decide +kernel) (v := .ref a44) rfl dX5_volume_93 ?_
                  refine g_iload X 7 dX5_volume_96 rfl ?_
                  refine g_iald X 11 1 rfl rfl (by omega) (by decide) dX5_volume_98 ?_
                  have r_98 := h44r k (by omega)
                  refine g_iadd X dX5_volume_99 ?_
                  refine g_istore_n (lv2 := [(2, .int (iZ (ah + (h44 k)))), (5, .int (iZ 0)), (4, .int (iZ (absZ (2 * ah - r0)))), (3, .int (iZ k)), (7, .int (iZ (absZ (2 * ah - r0)))), (0, .ref m0), (1, .int (iZ r0)), (6, .int (iZ k))]) X dX5_volume_100 rfl (by decide) rfl ?_
                  refine g_iinc (q := 7) (lv2 := [(6, .int (iZ (k + 1))), (2, .int (iZ (ah + (h44 k)))), (5, .int (iZ 0)), (4, .int (iZ (absZ (2 * ah - r0)))), (3, .int (iZ k)), (7, .int (iZ (absZ (2 * ah - r0)))), (0, .ref m0), (1, .int (iZ r0))]) X dX5_volume_101 rfl (by decide) rfl ?_
                  refine g_goto X 23 dX5_volume_104 (by decide) ?_
                  refine g_lv (lv' := [(0, .ref m0), (1, .int (iZ r0)), (2, .int (iZ (ah + (h44 k)))), (3, .int (iZ k)), (4, .int (iZ (absZ (2 * ah - r0)))), (5, .int (iZ 0)), (6, .int (iZ (k + 1)))]) [6, 7, 1, 4, 3, 2, 0] rfl ?_
                  exact ih_23 (ah + (h44 k)) k (absZ (2 * ah - r0)) 0 (k + 1) (by omega) (by omega) (by omega) (by omega) (by omega) hv2 (by omega)
        · skip
          have hv2 := hv
          rw [if_pos c_37] at hv2
          refine g_goto X 101 dX5_volume_40 (by decide) ?_
          refine g_iinc (q := 6) (lv2 := [(6, .int (iZ (k + 1))), (0, .ref m0), (1, .int (iZ r0)), (2, .int (iZ ah)), (3, .int (iZ be)), (4, .int (iZ un)), (5, .int (iZ fs))]) X dX5_volume_101 rfl (by decide) rfl ?_
          refine g_goto X 23 dX5_volume_104 (by decide) ?_
          refine g_lv (lv' := [(0, .ref m0), (1, .int (iZ r0)), (2, .int (iZ ah)), (3, .int (iZ be)), (4, .int (iZ un)), (5, .int (iZ fs)), (6, .int (iZ (k + 1)))]) [1, 2, 3, 4, 5, 6, 0] rfl ?_
          exact ih_23 ah be un fs (k + 1) (by omega) (by omega) (by omega) (by omega) (by omega) hv2 (by omega)
  exact loop_23 _ 0 ((-1)) 0 1 0 (by omega) (by omega) (by omega) (by omega) (by omega) rfl (Nat.lt_succ_self _)
