def abvM (g10 ro : Int → Int) (z3 i : Int) : Int := if i = 0 ∨ g10 (12 * ro (i - 1)) ≠ g10 (12 * ro i) then z3 else 0
def mlZ (n t : Int) : Int := if t = n - 1 then 1 else 0
def mbZ (n t o : Int) : Int := if t = n - 1 ∨ 0 < t ∨ 1 < o then 1 else 0
def gatM (e s l mb il g10 g12 g13 ro : Int → Int) (z3 i t : Int) : Prop := e (offZ g13 ro i.toNat + t) = ro i ∧ s (offZ g13 ro i.toNat + t) = t ∧ l (offZ g13 ro i.toNat + t) = g12 (6 * ro i + t) + (if t = 0 then abvM g10 ro z3 i else 0) ∧ il (offZ g13 ro i.toNat + t) = mlZ (g13 (ro i)) t ∧ mb (offZ g13 ro i.toNat + t) = mbZ (g13 (ro i)) t (g12 (6 * ro i + t))
theorem gatM_up {e s l mb il g10 g12 g13 ro : Int → Int} {z3 i t p9 a b c d f : Int} (h : gatM e s l mb il g10 g12 g13 ro z3 i t) (hne : offZ g13 ro i.toNat + t ≠ p9) : gatM (upZ e p9 a) (upZ s p9 b) (upZ l p9 c) (upZ mb p9 d) (upZ il p9 f) g10 g12 g13 ro z3 i t := by
  unfold gatM at *
  rw [upZ_n hne, upZ_n hne, upZ_n hne, upZ_n hne, upZ_n hne]; exact h
theorem gatM_new {e s l mb il g10 g12 g13 ro : Int → Int} {z3 i t p9 a b c d f : Int} (hp : p9 = offZ g13 ro i.toNat + t) (ha : a = ro i) (hb : b = t) (hc : c = g12 (6 * ro i + t) + (if t = 0 then abvM g10 ro z3 i else 0)) (hd : d = mbZ (g13 (ro i)) t (g12 (6 * ro i + t))) (hf : f = mlZ (g13 (ro i)) t) : gatM (upZ e p9 a) (upZ s p9 b) (upZ l p9 c) (upZ mb p9 d) (upZ il p9 f) g10 g12 g13 ro z3 i t := by
  unfold gatM
  rw [← hp, upZ_s, upZ_s, upZ_s, upZ_s, upZ_s]; exact ⟨ha, hb, hc, hf, hd⟩
def gatMA (e s l mb il g10 g12 g13 ro : Int → Int) (z3 k : Int) : Prop := ∀ i t : Int, 0 ≤ i → i < k → 0 ≤ t → t < g13 (ro i) → gatM e s l mb il g10 g12 g13 ro z3 i t
def qX5_makes (cB cI cJ cY : ClassId) (m0 : Nat) (a6 : Nat) (a8 : Nat) (a10 : Nat) (a11 : Nat) (a12 : Nat) (a13 : Nat) (a14 : Nat) (a15 : Nat) (a17 : Nat) (a19 : Nat) (a20 : Nat) (a21 : Nat) (a22 : Nat) (a23 : Nat) (a24 : Nat) (a26 : Nat) (a27 : Nat) (a28 : Nat) (a35 : Nat) (a36 : Nat) (a37 : Nat) (a38 : Nat) (a39 : Nat) (a40 : Nat) (a41 : Nat) (a44 : Nat) (a45 : Nat) (z0 : Int) (z1 : Int) (z2 : Int) (z3 : Int) (z4 : Int) (z5 : Int) (z7 : Int) (z9 : Int) (z16 : Int) (z18 : Int) (z25 : Int) (z29 : Int) (z30 : Int) (z31 : Int) (z32 : Int) (z33 : Int) (z34 : Int) (z42 : Int) (z43 : Int) (g10 : Int → Int) (g12 : Int → Int) (g13 : Int → Int) (g15 : Int → Int) (g17 : Int → Int) (g20 : Int → Int) (g21 : Int → Int) (g22 : Int → Int) (g23 : Int → Int) (g24 : Int → Int) : Option Value → va_W → Prop := fun rv w1 => ∃ (R9 : Int) (ro : Int → Int) (nb : Int) (h20 : Int → Int) (h21 : Int → Int) (h22 : Int → Int) (h23 : Int → Int) (h24 : Int → Int), rv = none ∧ srtZ (hmZ g10) g15 z16 ro R9 ∧ nb = offZ g13 ro R9.toNat ∧ (0 ≤ nb ∧ nb ≤ 900) ∧ gatMA h20 h21 h22 h23 h24 g10 g12 g13 ro z3 R9 ∧ (∀ j : Int, 0 ≤ j ∧ j < 900 → 0 ≤ h20 j ∧ h20 j < 150) ∧ (∀ j : Int, 0 ≤ j ∧ j < 900 → 0 ≤ h21 j ∧ h21 j < 6) ∧ (∀ j : Int, 0 ≤ j ∧ j < 900 → 0 ≤ h22 j ∧ h22 j ≤ 23) ∧ (∀ j : Int, 0 ≤ j ∧ j < 900 → h23 j = 0 ∨ h23 j = 1) ∧ (∀ j : Int, 0 ≤ j ∧ j < 900 → h24 j = 0 ∨ h24 j = 1) ∧ w1 = [(m0, .inr (5, [.int (iZ z0), .int (iZ z1), .int (iZ z2), .int (iZ z3), .int (iZ z4), .int (iZ z5), .ref a6, .int (iZ z7), .ref a8, .int (iZ z9), .ref a10, .ref a11, .ref a12, .ref a13, .ref a14, .ref a15, .int (iZ z16), .ref a17, .int (iZ R9), .ref a19, .ref a20, .ref a21, .ref a22, .ref a23, .ref a24, .int (iZ nb), .ref a26, .ref a27, .ref a28, .int (iZ z29), .int (iZ z30), .int (iZ z31), .int (iZ z32), .int (iZ z33), .int (iZ z34), .ref a35, .ref a36, .ref a37, .ref a38, .ref a39, .ref a40, .ref a41, .int (iZ z42), .int (iZ z43), .ref a44, .ref a45])), (a10, .inl (cI, 1800, .inl (zA g10))), (a12, .inl (cI, 900, .inl (zA g12))), (a13, .inl (cI, 150, .inl (zA g13))), (a15, .inl (cY, 150, .inl (zA g15))), (a17, .inl (cI, 150, .inl (zA ro))), (a20, .inl (cI, 900, .inl (zA h20))), (a21, .inl (cI, 900, .inl (zA h21))), (a22, .inl (cI, 900, .inl (zA h22))), (a23, .inl (cY, 900, .inl (zA h23))), (a24, .inl (cY, 900, .inl (zA h24)))]
set_option maxHeartbeats 4000000 in
set_option maxRecDepth 100000 in
theorem ctX5_makes (l : Launch) (D : va_G) (cB cI cJ cY : ClassId) (m0 : Nat) (a6 : Nat) (a8 : Nat) (a10 : Nat) (a11 : Nat) (a12 : Nat) (a13 : Nat) (a14 : Nat) (a15 : Nat) (a17 : Nat) (a19 : Nat) (a20 : Nat) (a21 : Nat) (a22 : Nat) (a23 : Nat) (a24 : Nat) (a26 : Nat) (a27 : Nat) (a28 : Nat) (a35 : Nat) (a36 : Nat) (a37 : Nat) (a38 : Nat) (a39 : Nat) (a40 : Nat) (a41 : Nat) (a44 : Nat) (a45 : Nat) (z0 : Int) (z1 : Int) (z2 : Int) (z3 : Int) (z4 : Int) (z5 : Int) (z7 : Int) (z9 : Int) (z16 : Int) (z18 : Int) (z25 : Int) (z29 : Int) (z30 : Int) (z31 : Int) (z32 : Int) (z33 : Int) (z34 : Int) (z42 : Int) (z43 : Int) (g10 : Int → Int) (g12 : Int → Int) (g13 : Int → Int) (g15 : Int → Int) (g17 : Int → Int) (g20 : Int → Int) (g21 : Int → Int) (g22 : Int → Int) (g23 : Int → Int) (g24 : Int → Int) (h16 : 0 ≤ z16 ∧ z16 ≤ 150) (hok10 : ∀ j : Int, 0 ≤ j ∧ j < 1800 → okV (g10 j)) (h15 : ∀ j : Int, 0 ≤ j ∧ j < 150 → g15 j = 0 ∨ g15 j = 1) (h13 : ∀ a : Int, 0 ≤ a ∧ a < z16 → 1 ≤ g13 a ∧ g13 a ≤ 6) (h12 : ∀ j : Int, 0 ≤ j ∧ j < 900 → 0 ≤ g12 j ∧ g12 j ≤ 20) (h3 : 0 ≤ z3 ∧ z3 ≤ 3) (hl1 : ∀ a : Int, 0 ≤ a ∧ a < z16 → 97 ≤ g10 (12 * a)) (hg20 : ∀ j : Int, 0 ≤ j ∧ j < 900 → 0 ≤ g20 j ∧ g20 j < 150) (hg21 : ∀ j : Int, 0 ≤ j ∧ j < 900 → 0 ≤ g21 j ∧ g21 j < 6) (hg22 : ∀ j : Int, 0 ≤ j ∧ j < 900 → 0 ≤ g22 j ∧ g22 j ≤ 23) (hg23 : ∀ j : Int, 0 ≤ j ∧ j < 900 → g23 j = 0 ∨ g23 j = 1) (hg24 : ∀ j : Int, 0 ≤ j ∧ j < 900 → g24 j = 0 ∨ g24 j = 1) : gM l yX5_makes wsX5_makes { frames := 2, cells := 0, slots := 0, locals := 46 } D (gT cB cI cJ cY) [.ref m0] [(m0, .inr (5, [.int (iZ z0), .int (iZ z1), .int (iZ z2), .int (iZ z3), .int (iZ z4), .int (iZ z5), .ref a6, .int (iZ z7), .ref a8, .int (iZ z9), .ref a10, .ref a11, .ref a12, .ref a13, .ref a14, .ref a15, .int (iZ z16), .ref a17, .int (iZ z18), .ref a19, .ref a20, .ref a21, .ref a22, .ref a23, .ref a24, .int (iZ z25), .ref a26, .ref a27, .ref a28, .int (iZ z29), .int (iZ z30), .int (iZ z31), .int (iZ z32), .int (iZ z33), .int (iZ z34), .ref a35, .ref a36, .ref a37, .ref a38, .ref a39, .ref a40, .ref a41, .int (iZ z42), .int (iZ z43), .ref a44, .ref a45])), (a10, .inl (cI, 1800, .inl (zA g10))), (a12, .inl (cI, 900, .inl (zA g12))), (a13, .inl (cI, 150, .inl (zA g13))), (a15, .inl (cY, 150, .inl (zA g15))), (a17, .inl (cI, 150, .inl (zA g17))), (a20, .inl (cI, 900, .inl (zA g20))), (a21, .inl (cI, 900, .inl (zA g21))), (a22, .inl (cI, 900, .inl (zA g22))), (a23, .inl (cY, 900, .inl (zA g23))), (a24, .inl (cY, 900, .inl (zA g24)))] 0 0 (qX5_makes cB cI cJ cY m0 a6 a8 a10 a11 a12 a13 a14 a15 a17 a19 a20 a21 a22 a23 a24 a26 a27 a28 a35 a36 a37 a38 a39 a40 a41 a44 a45 z0 z1 z2 z3 z4 z5 z7 z9 z16 z18 z25 z29 z30 z31 z32 z33 z34 z42 z43 g10 g12 g13 g15 g17 g20 g21 g22 g23 g24) := by
  refine g_start (cc := cX5_makes) (maxL := 6) (ret := none) (lv := [(0, .ref m0)]) (by decide) rfl (Nat.le_of_ble_eq_true rfl) rfl ?_
  intro p e s m args below meth c A X hr hnm
  have hin5 : ∀ w ∈ u_ws RX5 TX5 46, w ∈ wsX5_makes := by decide +kernel
  have h10r : ∀ j : Int, 0 ≤ j ∧ j < 1800 → 0 ≤ g10 j ∧ g10 j ≤ 122 := fun j hj => by rcases hok10 j hj with h | h <;> omega
  refine g_aload_n X 0 dX5_makes_0 rfl rfl ?_
  refine g_callV0 X (As := []) (rest := []) (ctX5_sorts l D cB cI cJ cY m0 a6 a8 a10 a11 a12 a13 a14 a15 a17 a19 a20 a21 a22 a23 a24 a26 a27 a28 a35 a36 a37 a38 a39 a40 a41 a44 a45 z0 z1 z2 z3 z4 z5 z7 z9 z16 z18 z25 z29 z30 z31 z32 z33 z34 z42 z43 g10 g15 g17 (by first | assumption | omega) (by first | assumption | omega) (by first | assumption | omega)) (cwV 0 X.2.2.2.2.1 gX5_makes_X5_sorts rfl rfl rfl (by decide +kernel) ⟨by decide, by decide⟩) 0 rfl rfl (wc := [(m0, .inr (5, [.int (iZ z0), .int (iZ z1), .int (iZ z2), .int (iZ z3), .int (iZ z4), .int (iZ z5), .ref a6, .int (iZ z7), .ref a8, .int (iZ z9), .ref a10, .ref a11, .ref a12, .ref a13, .ref a14, .ref a15, .int (iZ z16), .ref a17, .int (iZ z18), .ref a19, .ref a20, .ref a21, .ref a22, .ref a23, .ref a24, .int (iZ z25), .ref a26, .ref a27, .ref a28, .int (iZ z29), .int (iZ z30), .int (iZ z31), .int (iZ z32), .int (iZ z33), .int (iZ z34), .ref a35, .ref a36, .ref a37, .ref a38, .ref a39, .ref a40, .ref a41, .int (iZ z42), .int (iZ z43), .ref a44, .ref a45])), (a10, .inl (cI, 1800, .inl (zA g10))), (a15, .inl (cY, 150, .inl (zA g15))), (a17, .inl (cI, 150, .inl (zA g17)))]) (wr := [(a12, .inl (cI, 900, .inl (zA g12))), (a13, .inl (cI, 150, .inl (zA g13))), (a20, .inl (cI, 900, .inl (zA g20))), (a21, .inl (cI, 900, .inl (zA g21))), (a22, .inl (cI, 900, .inl (zA g22))), (a23, .inl (cY, 900, .inl (zA g23))), (a24, .inl (cY, 900, .inl (zA g24)))]) [0, 1, 4, 5] [2, 3, 6, 7, 8, 9, 10] rfl rfl (by decide) (by decide) (by decide) rfl rfl (Nat.le_of_ble_eq_true rfl) ⟨by decide, by decide⟩ dX5_makes_1 (fun v w1 hq => ?_)
  obtain ⟨R9, ro, rfl, hs, rfl⟩ := hq
  refine g_eq (ws' := [(a12, .inl (cI, 900, .inl (zA g12))), (a13, .inl (cI, 150, .inl (zA g13))), (a20, .inl (cI, 900, .inl (zA g20))), (a21, .inl (cI, 900, .inl (zA g21))), (a22, .inl (cI, 900, .inl (zA g22))), (a23, .inl (cY, 900, .inl (zA g23))), (a24, .inl (cY, 900, .inl (zA g24))), (m0, .inr (5, [.int (iZ z0), .int (iZ z1), .int (iZ z2), .int (iZ z3), .int (iZ z4), .int (iZ z5), .ref a6, .int (iZ z7), .ref a8, .int (iZ z9), .ref a10, .ref a11, .ref a12, .ref a13, .ref a14, .ref a15, .int (iZ z16), .ref a17, .int (iZ R9), .ref a19, .ref a20, .ref a21, .ref a22, .ref a23, .ref a24, .int (iZ z25), .ref a26, .ref a27, .ref a28, .int (iZ z29), .int (iZ z30), .int (iZ z31), .int (iZ z32), .int (iZ z33), .int (iZ z34), .ref a35, .ref a36, .ref a37, .ref a38, .ref a39, .ref a40, .ref a41, .int (iZ z42), .int (iZ z43), .ref a44, .ref a45])), (a10, .inl (cI, 1800, .inl (zA g10))), (a15, .inl (cY, 150, .inl (zA g15))), (a17, .inl (cI, 150, .inl (zA ro)))]) (pc' := 4) (st' := []) rfl rfl rfl rfl ?_
  refine g_perm (ws' := [(m0, .inr (5, [.int (iZ z0), .int (iZ z1), .int (iZ z2), .int (iZ z3), .int (iZ z4), .int (iZ z5), .ref a6, .int (iZ z7), .ref a8, .int (iZ z9), .ref a10, .ref a11, .ref a12, .ref a13, .ref a14, .ref a15, .int (iZ z16), .ref a17, .int (iZ R9), .ref a19, .ref a20, .ref a21, .ref a22, .ref a23, .ref a24, .int (iZ z25), .ref a26, .ref a27, .ref a28, .int (iZ z29), .int (iZ z30), .int (iZ z31), .int (iZ z32), .int (iZ z33), .int (iZ z34), .ref a35, .ref a36, .ref a37, .ref a38, .ref a39, .ref a40, .ref a41, .int (iZ z42), .int (iZ z43), .ref a44, .ref a45])), (a10, .inl (cI, 1800, .inl (zA g10))), (a12, .inl (cI, 900, .inl (zA g12))), (a13, .inl (cI, 150, .inl (zA g13))), (a15, .inl (cY, 150, .inl (zA g15))), (a17, .inl (cI, 150, .inl (zA ro))), (a20, .inl (cI, 900, .inl (zA g20))), (a21, .inl (cI, 900, .inl (zA g21))), (a22, .inl (cI, 900, .inl (zA g22))), (a23, .inl (cY, 900, .inl (zA g23))), (a24, .inl (cY, 900, .inl (zA g24)))]) [7, 8, 0, 1, 9, 10, 2, 3, 4, 5, 6] (by decide) rfl ?_
  have hs0 := hs.1
  refine g_aload_n X 0 dX5_makes_4 rfl rfl ?_
  refine g_iconst X dX5_makes_5 ?_
  refine g_put X (index := 158) (ref := "GuideWordsModel") hin5 0 rfl rfl 25 (by decide) rfl tyX5 tyX5_ok nmX5 (by decide +kernel) rfl rfl rfl rfl (Nat.le_of_ble_eq_true rfl) (ws2 := [(m0, .inr (5, [.int (iZ z0), .int (iZ z1), .int (iZ z2), .int (iZ z3), .int (iZ z4), .int (iZ z5), .ref a6, .int (iZ z7), .ref a8, .int (iZ z9), .ref a10, .ref a11, .ref a12, .ref a13, .ref a14, .ref a15, .int (iZ z16), .ref a17, .int (iZ R9), .ref a19, .ref a20, .ref a21, .ref a22, .ref a23, .ref a24, .int (iZ 0), .ref a26, .ref a27, .ref a28, .int (iZ z29), .int (iZ z30), .int (iZ z31), .int (iZ z32), .int (iZ z33), .int (iZ z34), .ref a35, .ref a36, .ref a37, .ref a38, .ref a39, .ref a40, .ref a41, .int (iZ z42), .int (iZ z43), .ref a44, .ref a45])), (a10, .inl (cI, 1800, .inl (zA g10))), (a12, .inl (cI, 900, .inl (zA g12))), (a13, .inl (cI, 150, .inl (zA g13))), (a15, .inl (cY, 150, .inl (zA g15))), (a17, .inl (cI, 150, .inl (zA ro))), (a20, .inl (cI, 900, .inl (zA g20))), (a21, .inl (cI, 900, .inl (zA g21))), (a22, .inl (cI, 900, .inl (zA g22))), (a23, .inl (cY, 900, .inl (zA g23))), (a24, .inl (cY, 900, .inl (zA g24)))]) rfl dX5_makes_6 ?_
  refine g_iconst X dX5_makes_9 ?_
  refine g_istore_n (lv2 := [(1, .int (iZ 0)), (0, .ref m0)]) X dX5_makes_10 rfl (by decide) rfl ?_
  refine g_iconst X dX5_makes_11 ?_
  refine g_istore_n (lv2 := [(2, .int (iZ 0)), (1, .int (iZ 0)), (0, .ref m0)]) X dX5_makes_12 rfl (by decide) rfl ?_
  refine g_lv (lv' := [(0, .ref m0), (1, .int (iZ 0)), (2, .int (iZ 0))]) [2, 1, 0] rfl ?_
  have loop_13 : ∀ (kf : Nat) (was : Int) (r1 : Int) (nb1 : Int) (p20 : Int → Int) (p21 : Int → Int) (p22 : Int → Int) (p23 : Int → Int) (p24 : Int → Int), (hrr1 : 0 ≤ r1 ∧ r1 ≤ R9) → (hwr : 0 ≤ was ∧ was ≤ 122) → (hw : (r1 = 0 ∧ was = 0) ∨ (0 < r1 ∧ was = g10 (12 * ro (r1 - 1)))) → (hn1 : nb1 = offZ g13 ro r1.toNat) → (hga : gatMA p20 p21 p22 p23 p24 g10 g12 g13 ro z3 r1) → (hp20 : ∀ j : Int, 0 ≤ j ∧ j < 900 → 0 ≤ p20 j ∧ p20 j < 150) → (hp21 : ∀ j : Int, 0 ≤ j ∧ j < 900 → 0 ≤ p21 j ∧ p21 j < 6) → (hp22 : ∀ j : Int, 0 ≤ j ∧ j < 900 → 0 ≤ p22 j ∧ p22 j ≤ 23) → (hp23 : ∀ j : Int, 0 ≤ j ∧ j < 900 → p23 j = 0 ∨ p23 j = 1) → (hp24 : ∀ j : Int, 0 ≤ j ∧ j < 900 → p24 j = 0 ∨ p24 j = 1) → (R9 - r1).toNat < kf → gW p l e { frames := 2, cells := 0, slots := 0, locals := 46 } s m args below meth c D A 6 0 0 (MQ below (gQ D (gT cB cI cJ cY) (qX5_makes cB cI cJ cY m0 a6 a8 a10 a11 a12 a13 a14 a15 a17 a19 a20 a21 a22 a23 a24 a26 a27 a28 a35 a36 a37 a38 a39 a40 a41 a44 a45 z0 z1 z2 z3 z4 z5 z7 z9 z16 z18 z25 z29 z30 z31 z32 z33 z34 z42 z43 g10 g12 g13 g15 g17 g20 g21 g22 g23 g24) A) args s 0 0 A) [(m0, .inr (5, [.int (iZ z0), .int (iZ z1), .int (iZ z2), .int (iZ z3), .int (iZ z4), .int (iZ z5), .ref a6, .int (iZ z7), .ref a8, .int (iZ z9), .ref a10, .ref a11, .ref a12, .ref a13, .ref a14, .ref a15, .int (iZ z16), .ref a17, .int (iZ R9), .ref a19, .ref a20, .ref a21, .ref a22, .ref a23, .ref a24, .int (iZ nb1), .ref a26, .ref a27, .ref a28, .int (iZ z29), .int (iZ z30), .int (iZ z31), .int (iZ z32), .int (iZ z33), .int (iZ z34), .ref a35, .ref a36, .ref a37, .ref a38, .ref a39, .ref a40, .ref a41, .int (iZ z42), .int (iZ z43), .ref a44, .ref a45])), (a10, .inl (cI, 1800, .inl (zA g10))), (a12, .inl (cI, 900, .inl (zA g12))), (a13, .inl (cI, 150, .inl (zA g13))), (a15, .inl (cY, 150, .inl (zA g15))), (a17, .inl (cI, 150, .inl (zA ro))), (a20, .inl (cI, 900, .inl (zA p20))), (a21, .inl (cI, 900, .inl (zA p21))), (a22, .inl (cI, 900, .inl (zA p22))), (a23, .inl (cY, 900, .inl (zA p23))), (a24, .inl (cY, 900, .inl (zA p24)))] 13 [(0, .ref m0), (1, .int (iZ was)), (2, .int (iZ r1))] [] := by
    intro kf
    induction kf with
    | zero => intro was r1 nb1 p20 p21 p22 p23 p24 hrr1 hwr hw hn1 hga hp20 hp21 hp22 hp23 hp24 hm; exact absurd hm (Nat.not_lt_zero _)
    | succ kf ih_13 =>
      intro was r1 nb1 p20 p21 p22 p23 p24 hrr1 hwr hw hn1 hga hp20 hp21 hp22 hp23 hp24 hm
      refine g_iload_n X 2 dX5_makes_13 rfl rfl ?_
      refine g_aload_n X 0 dX5_makes_14 rfl rfl ?_
      refine g_get X (index := 148) (ref := "GuideWordsModel") hin5 0 rfl rfl 18 (by decide) rfl (by decide +kernel) (v := .int (iZ R9)) rfl dX5_makes_15 ?_
      refine g_icmp_ge X 211 dX5_makes_18 (by decide) (by omega) (by omega) (fun c_18 => ?_) (fun c_18 => ?_)
      · skip
        have hfin : 0 ≤ nb1 ∧ nb1 ≤ 900 := by
          have q1 := off_b (se := g13) (od := ro) r1.toNat (fun i hi => by
            have := hs.2.1 i (by omega) (by omega); exact h13 (ro i) (by omega))
          omega
        exact g_vret X hr (by decide) (by decide) dX5_makes_211 ⟨R9, ro, nb1, p20, p21, p22, p23, p24, rfl, hs, by rw [hn1, show r1 = R9 by omega], hfin, by rw [show R9 = r1 by omega]; exact hga, hp20, hp21, hp22, hp23, hp24, rfl⟩
      · skip
        refine g_aload_n X 0 dX5_makes_21 rfl rfl ?_
        refine g_get X (index := 52) (ref := "GuideWordsModel") hin5 0 rfl rfl 17 (by decide) rfl (by decide +kernel) (v := .ref a17) rfl dX5_makes_22 ?_
        refine g_iload_n X 2 dX5_makes_25 rfl rfl ?_
        refine g_iald X 5 1 rfl rfl (by omega) (by decide) dX5_makes_26 ?_
        have r_26 := hs.2.1 r1 (by omega) (by omega)
        refine g_istore_n (lv2 := [(3, .int (iZ (ro r1))), (0, .ref m0), (1, .int (iZ was)), (2, .int (iZ r1))]) X dX5_makes_27 rfl (by decide) rfl ?_
        have hk2 : ((r1.toNat : Nat) : Int) = r1 := by omega
        have hm9 := h13 (ro r1) (by omega)
        have hsn : ∀ i : Nat, i < r1.toNat → 1 ≤ g13 (ro i) ∧ g13 (ro i) ≤ 6 := fun i hi => by
          have := hs.2.1 i (by omega) (by omega); exact h13 (ro i) (by omega)
        have hob := off_b r1.toNat hsn
        have hl9 := hl1 (ro r1) (by omega)
        refine g_iconst X dX5_makes_28 ?_
        refine g_istore (lv2 := [(4, .int (iZ 0)), (3, .int (iZ (ro r1))), (0, .ref m0), (1, .int (iZ was)), (2, .int (iZ r1))]) X dX5_makes_29 (by decide) rfl ?_
        refine g_lv (lv' := [(0, .ref m0), (1, .int (iZ was)), (2, .int (iZ r1)), (3, .int (iZ (ro r1))), (4, .int (iZ 0))]) [2, 3, 4, 1, 0] rfl ?_
        have loop_31 : ∀ (kf : Nat) (k9 : Int) (nb2 : Int) (q20 : Int → Int) (q21 : Int → Int) (q22 : Int → Int) (q23 : Int → Int) (q24 : Int → Int), (hk9 : 0 ≤ k9 ∧ k9 ≤ g13 (ro r1)) → (hn2 : nb2 = offZ g13 ro r1.toNat + k9) → (hgb : gatMA q20 q21 q22 q23 q24 g10 g12 g13 ro z3 r1) → (hgc : ∀ t : Int, 0 ≤ t → t < k9 → gatM q20 q21 q22 q23 q24 g10 g12 g13 ro z3 r1 t) → (hq20 : ∀ j : Int, 0 ≤ j ∧ j < 900 → 0 ≤ q20 j ∧ q20 j < 150) → (hq21 : ∀ j : Int, 0 ≤ j ∧ j < 900 → 0 ≤ q21 j ∧ q21 j < 6) → (hq22 : ∀ j : Int, 0 ≤ j ∧ j < 900 → 0 ≤ q22 j ∧ q22 j ≤ 23) → (hq23 : ∀ j : Int, 0 ≤ j ∧ j < 900 → q23 j = 0 ∨ q23 j = 1) → (hq24 : ∀ j : Int, 0 ≤ j ∧ j < 900 → q24 j = 0 ∨ q24 j = 1) → (g13 (ro r1) - k9).toNat < kf → gW p l e { frames := 2, cells := 0, slots := 0, locals := 46 } s m args below meth c D A 6 0 0 (MQ below (gQ D (gT cB cI cJ cY) (qX5_makes cB cI cJ cY m0 a6 a8 a10 a11 a12 a13 a14 a15 a17 a19 a20 a21 a22 a23 a24 a26 a27 a28 a35 a36 a37 a38 a39 a40 a41 a44 a45 z0 z1 z2 z3 z4 z5 z7 z9 z16 z18 z25 z29 z30 z31 z32 z33 z34 z42 z43 g10 g12 g13 g15 g17 g20 g21 g22 g23 g24) A) args s 0 0 A) [(m0, .inr (5, [.int (iZ z0), .int (iZ z1), .int (iZ z2), .int (iZ z3), .int (iZ z4), .int (iZ z5), .ref a6, .int (iZ z7), .ref a8, .int (iZ z9), .ref a10, .ref a11, .ref a12, .ref a13, .ref a14, .ref a15, .int (iZ z16), .ref a17, .int (iZ R9), .ref a19, .ref a20, .ref a21, .ref a22, .ref a23, .ref a24, .int (iZ nb2), .ref a26, .ref a27, .ref a28, .int (iZ z29), .int (iZ z30), .int (iZ z31), .int (iZ z32), .int (iZ z33), .int (iZ z34), .ref a35, .ref a36, .ref a37, .ref a38, .ref a39, .ref a40, .ref a41, .int (iZ z42), .int (iZ z43), .ref a44, .ref a45])), (a10, .inl (cI, 1800, .inl (zA g10))), (a12, .inl (cI, 900, .inl (zA g12))), (a13, .inl (cI, 150, .inl (zA g13))), (a15, .inl (cY, 150, .inl (zA g15))), (a17, .inl (cI, 150, .inl (zA ro))), (a20, .inl (cI, 900, .inl (zA q20))), (a21, .inl (cI, 900, .inl (zA q21))), (a22, .inl (cI, 900, .inl (zA q22))), (a23, .inl (cY, 900, .inl (zA q23))), (a24, .inl (cY, 900, .inl (zA q24)))] 31 [(0, .ref m0), (1, .int (iZ was)), (2, .int (iZ r1)), (3, .int (iZ (ro r1))), (4, .int (iZ k9))] [] := by
          intro kf
          induction kf with
          | zero => intro k9 nb2 q20 q21 q22 q23 q24 hk9 hn2 hgb hgc hq20 hq21 hq22 hq23 hq24 hm; exact absurd hm (Nat.not_lt_zero _)
          | succ kf ih_31 =>
            intro k9 nb2 q20 q21 q22 q23 q24 hk9 hn2 hgb hgc hq20 hq21 hq22 hq23 hq24 hm
            refine g_iload X 4 dX5_makes_31 rfl ?_
            refine g_aload_n X 0 dX5_makes_33 rfl rfl ?_
            refine g_get X (index := 42) (ref := "GuideWordsModel") hin5 0 rfl rfl 13 (by decide) rfl (by decide +kernel) (v := .ref a13) rfl dX5_makes_34 ?_
            refine g_iload_n X 3 dX5_makes_37 rfl rfl ?_
            refine g_iald X 3 1 rfl rfl (by omega) (by decide) dX5_makes_38 ?_
            have r_38 := h13 (ro r1) (by omega)
            refine g_icmp_ge X 195 dX5_makes_39 (by decide) (by omega) (by omega) (fun c_39 => ?_) (fun c_39 => ?_)
            · skip
              have hga3 : gatMA q20 q21 q22 q23 q24 g10 g12 g13 ro z3 (r1 + 1) := fun i t h1 h2 h3 h4 => by
                rcases (show i < r1 ∨ i = r1 by omega) with h | h
                · exact hgb i t h1 h h3 h4
                · subst h; exact hgc t h3 (by omega)
              refine g_aload_n X 0 dX5_makes_195 rfl rfl ?_
              refine g_get X (index := 33) (ref := "GuideWordsModel") hin5 0 rfl rfl 10 (by decide) rfl (by decide +kernel) (v := .ref a10) rfl dX5_makes_196 ?_
              refine g_bipush X dX5_makes_199 (by decide) ?_
              refine g_iload_n X 3 dX5_makes_201 rfl rfl ?_
              refine g_imul X dX5_makes_202 ?_
              refine g_iald X 1 1 rfl rfl (by omega) (by decide) dX5_makes_203 ?_
              have r_203 := h10r (12 * (ro r1)) (by omega)
              refine g_istore_n (lv2 := [(1, .int (iZ (g10 (12 * (ro r1))))), (0, .ref m0), (2, .int (iZ r1)), (3, .int (iZ (ro r1))), (4, .int (iZ k9))]) X dX5_makes_204 rfl (by decide) rfl ?_
              refine g_iinc (q := 2) (lv2 := [(2, .int (iZ (r1 + 1))), (1, .int (iZ (g10 (12 * (ro r1))))), (0, .ref m0), (3, .int (iZ (ro r1))), (4, .int (iZ k9))]) X dX5_makes_205 rfl (by decide) rfl ?_
              refine g_goto X 13 dX5_makes_208 (by decide) ?_
              refine g_lv (lv' := [(0, .ref m0), (1, .int (iZ (g10 (12 * (ro r1))))), (2, .int (iZ (r1 + 1)))]) [2, 1, 0] rfl ?_
              exact ih_13 (g10 (12 * (ro r1))) (r1 + 1) nb2 q20 q21 q22 q23 q24 (by omega) (by omega) (Or.inr ⟨by omega, by rw [show r1 + 1 - 1 = r1 by omega]⟩) (by rw [show (r1 + 1).toNat = r1.toNat + 1 by omega, offZ, hk2]; omega) hga3 hq20 hq21 hq22 hq23 hq24 (by omega)
            · skip
              refine g_aload_n X 0 dX5_makes_42 rfl rfl ?_
              refine g_get X (index := 39) (ref := "GuideWordsModel") hin5 0 rfl rfl 12 (by decide) rfl (by decide +kernel) (v := .ref a12) rfl dX5_makes_43 ?_
              refine g_bipush X dX5_makes_46 (by decide) ?_
              refine g_iload_n X 3 dX5_makes_48 rfl rfl ?_
              refine g_imul X dX5_makes_49 ?_
              refine g_iload X 4 dX5_makes_50 rfl ?_
              refine g_iadd X dX5_makes_52 ?_
              refine g_iald X 2 1 rfl rfl (by omega) (by decide) dX5_makes_53 ?_
              have r_53 := h12 ((6 * (ro r1)) + k9) (by omega)
              refine g_istore (lv2 := [(5, .int (iZ (g12 ((6 * (ro r1)) + k9)))), (0, .ref m0), (1, .int (iZ was)), (2, .int (iZ r1)), (3, .int (iZ (ro r1))), (4, .int (iZ k9))]) X dX5_makes_54 (by decide) rfl ?_
              refine g_aload_n X 1 dX5_makes_56 rfl rfl ?_
              refine g_get X (index := 58) (ref := "GuideWordsModel") hin5 0 rfl rfl 20 (by decide) rfl (by decide +kernel) (v := .ref a20) rfl dX5_makes_57 ?_
              refine g_aload_n X 1 dX5_makes_60 rfl rfl ?_
              refine g_get X (index := 158) (ref := "GuideWordsModel") hin5 0 rfl rfl 25 (by decide) rfl (by decide +kernel) (v := .int (iZ nb2)) rfl dX5_makes_61 ?_
              refine g_iload_n X 4 dX5_makes_64 rfl rfl ?_
              refine g_iast X 6 1 rfl rfl (by omega) (by decide) (ws2 := [(m0, .inr (5, [.int (iZ z0), .int (iZ z1), .int (iZ z2), .int (iZ z3), .int (iZ z4), .int (iZ z5), .ref a6, .int (iZ z7), .ref a8, .int (iZ z9), .ref a10, .ref a11, .ref a12, .ref a13, .ref a14, .ref a15, .int (iZ z16), .ref a17, .int (iZ R9), .ref a19, .ref a20, .ref a21, .ref a22, .ref a23, .ref a24, .int (iZ nb2), .ref a26, .ref a27, .ref a28, .int (iZ z29), .int (iZ z30), .int (iZ z31), .int (iZ z32), .int (iZ z33), .int (iZ z34), .ref a35, .ref a36, .ref a37, .ref a38, .ref a39, .ref a40, .ref a41, .int (iZ z42), .int (iZ z43), .ref a44, .ref a45])), (a10, .inl (cI, 1800, .inl (zA g10))), (a12, .inl (cI, 900, .inl (zA g12))), (a13, .inl (cI, 150, .inl (zA g13))), (a15, .inl (cY, 150, .inl (zA g15))), (a17, .inl (cI, 150, .inl (zA ro))), (a20, .inl (cI, 900, .inl (zA (upZ q20 nb2 (ro r1))))), (a21, .inl (cI, 900, .inl (zA q21))), (a22, .inl (cI, 900, .inl (zA q22))), (a23, .inl (cY, 900, .inl (zA q23))), (a24, .inl (cY, 900, .inl (zA q24)))]) rfl dX5_makes_65 ?_
              refine g_aload_n X 1 dX5_makes_66 rfl rfl ?_
              refine g_get X (index := 61) (ref := "GuideWordsModel") hin5 0 rfl rfl 21 (by decide) rfl (by decide +kernel) (v := .ref a21) rfl dX5_makes_67 ?_
              refine g_aload_n X 1 dX5_makes_70 rfl rfl ?_
              refine g_get X (index := 158) (ref := "GuideWordsModel") hin5 0 rfl rfl 25 (by decide) rfl (by decide +kernel) (v := .int (iZ nb2)) rfl dX5_makes_71 ?_
              refine g_iload X 5 dX5_makes_74 rfl ?_
              refine g_iast X 7 1 rfl rfl (by omega) (by decide) (ws2 := [(m0, .inr (5, [.int (iZ z0), .int (iZ z1), .int (iZ z2), .int (iZ z3), .int (iZ z4), .int (iZ z5), .ref a6, .int (iZ z7), .ref a8, .int (iZ z9), .ref a10, .ref a11, .ref a12, .ref a13, .ref a14, .ref a15, .int (iZ z16), .ref a17, .int (iZ R9), .ref a19, .ref a20, .ref a21, .ref a22, .ref a23, .ref a24, .int (iZ nb2), .ref a26, .ref a27, .ref a28, .int (iZ z29), .int (iZ z30), .int (iZ z31), .int (iZ z32), .int (iZ z33), .int (iZ z34), .ref a35, .ref a36, .ref a37, .ref a38, .ref a39, .ref a40, .ref a41, .int (iZ z42), .int (iZ z43), .ref a44, .ref a45])), (a10, .inl (cI, 1800, .inl (zA g10))), (a12, .inl (cI, 900, .inl (zA g12))), (a13, .inl (cI, 150, .inl (zA g13))), (a15, .inl (cY, 150, .inl (zA g15))), (a17, .inl (cI, 150, .inl (zA ro))), (a20, .inl (cI, 900, .inl (zA (upZ q20 nb2 (ro r1))))), (a21, .inl (cI, 900, .inl (zA (upZ q21 nb2 k9)))), (a22, .inl (cI, 900, .inl (zA q22))), (a23, .inl (cY, 900, .inl (zA q23))), (a24, .inl (cY, 900, .inl (zA q24)))]) rfl dX5_makes_76 ?_
              refine g_aload_n X 1 dX5_makes_77 rfl rfl ?_
              refine g_get X (index := 70) (ref := "GuideWordsModel") hin5 0 rfl rfl 24 (by decide) rfl (by decide +kernel) (v := .ref a24) rfl dX5_makes_78 ?_
              refine g_aload_n X 1 dX5_makes_81 rfl rfl ?_
              refine g_get X (index := 158) (ref := "GuideWordsModel") hin5 0 rfl rfl 25 (by decide) rfl (by decide +kernel) (v := .int (iZ nb2)) rfl dX5_makes_82 ?_
              refine g_iload X 5 dX5_makes_85 rfl ?_
              refine g_aload_n X 1 dX5_makes_87 rfl rfl ?_
              refine g_get X (index := 42) (ref := "GuideWordsModel") hin5 0 rfl rfl 13 (by decide) rfl (by decide +kernel) (v := .ref a13) rfl dX5_makes_88 ?_
              refine g_iload_n X 4 dX5_makes_91 rfl rfl ?_
              refine g_iald X 3 1 rfl rfl (by omega) (by decide) dX5_makes_92 ?_
              have r_92 := h13 (ro r1) (by omega)
              refine g_iconst X dX5_makes_93 ?_
              refine g_isub X dX5_makes_94 ?_
              refine g_icmp_ne X 102 dX5_makes_95 (by decide) (by omega) (by omega) (fun c_95 => ?_) (fun c_95 => ?_)
              · skip
                refine g_iconst X dX5_makes_102 ?_
                refine g_zast X 10 3 rfl rfl (by omega) (by decide) (by omega) (ws2 := [(m0, .inr (5, [.int (iZ z0), .int (iZ z1), .int (iZ z2), .int (iZ z3), .int (iZ z4), .int (iZ z5), .ref a6, .int (iZ z7), .ref a8, .int (iZ z9), .ref a10, .ref a11, .ref a12, .ref a13, .ref a14, .ref a15, .int (iZ z16), .ref a17, .int (iZ R9), .ref a19, .ref a20, .ref a21, .ref a22, .ref a23, .ref a24, .int (iZ nb2), .ref a26, .ref a27, .ref a28, .int (iZ z29), .int (iZ z30), .int (iZ z31), .int (iZ z32), .int (iZ z33), .int (iZ z34), .ref a35, .ref a36, .ref a37, .ref a38, .ref a39, .ref a40, .ref a41, .int (iZ z42), .int (iZ z43), .ref a44, .ref a45])), (a10, .inl (cI, 1800, .inl (zA g10))), (a12, .inl (cI, 900, .inl (zA g12))), (a13, .inl (cI, 150, .inl (zA g13))), (a15, .inl (cY, 150, .inl (zA g15))), (a17, .inl (cI, 150, .inl (zA ro))), (a20, .inl (cI, 900, .inl (zA (upZ q20 nb2 (ro r1))))), (a21, .inl (cI, 900, .inl (zA (upZ q21 nb2 k9)))), (a22, .inl (cI, 900, .inl (zA q22))), (a23, .inl (cY, 900, .inl (zA q23))), (a24, .inl (cY, 900, .inl (zA (upZ q24 nb2 0))))]) rfl dX5_makes_103 ?_
                refine g_aload_n X 1 dX5_makes_104 rfl rfl ?_
                refine g_get X (index := 67) (ref := "GuideWordsModel") hin5 0 rfl rfl 23 (by decide) rfl (by decide +kernel) (v := .ref a23) rfl dX5_makes_105 ?_
                refine g_aload_n X 1 dX5_makes_108 rfl rfl ?_
                refine g_get X (index := 158) (ref := "GuideWordsModel") hin5 0 rfl rfl 25 (by decide) rfl (by decide +kernel) (v := .int (iZ nb2)) rfl dX5_makes_109 ?_
                refine g_aload_n X 1 dX5_makes_112 rfl rfl ?_
                refine g_get X (index := 70) (ref := "GuideWordsModel") hin5 0 rfl rfl 24 (by decide) rfl (by decide +kernel) (v := .ref a24) rfl dX5_makes_113 ?_
                refine g_aload_n X 1 dX5_makes_116 rfl rfl ?_
                refine g_get X (index := 158) (ref := "GuideWordsModel") hin5 0 rfl rfl 25 (by decide) rfl (by decide +kernel) (v := .int (iZ nb2)) rfl dX5_makes_117 ?_
                refine g_zald X 10 3 rfl rfl (by omega) (by decide) dX5_makes_120 ?_
                refine g_topi (b := 0) upZ_s ?_
                refine g_if_ne X 135 dX5_makes_121 (by decide) (by omega) (fun c_121 => ?_) (fun c_121 => ?_)
                · omega
                · skip
                  refine g_iload X 5 dX5_makes_124 rfl ?_
                  refine g_if_gt X 135 dX5_makes_126 (by decide) (by omega) (fun c_126 => ?_) (fun c_126 => ?_)
                  · skip
                    refine g_iconst X dX5_makes_135 ?_
                    refine g_goto X 140 dX5_makes_136 (by decide) ?_
                    refine g_zast X 9 3 rfl rfl (by omega) (by decide) (by omega) (ws2 := [(m0, .inr (5, [.int (iZ z0), .int (iZ z1), .int (iZ z2), .int (iZ z3), .int (iZ z4), .int (iZ z5), .ref a6, .int (iZ z7), .ref a8, .int (iZ z9), .ref a10, .ref a11, .ref a12, .ref a13, .ref a14, .ref a15, .int (iZ z16), .ref a17, .int (iZ R9), .ref a19, .ref a20, .ref a21, .ref a22, .ref a23, .ref a24, .int (iZ nb2), .ref a26, .ref a27, .ref a28, .int (iZ z29), .int (iZ z30), .int (iZ z31), .int (iZ z32), .int (iZ z33), .int (iZ z34), .ref a35, .ref a36, .ref a37, .ref a38, .ref a39, .ref a40, .ref a41, .int (iZ z42), .int (iZ z43), .ref a44, .ref a45])), (a10, .inl (cI, 1800, .inl (zA g10))), (a12, .inl (cI, 900, .inl (zA g12))), (a13, .inl (cI, 150, .inl (zA g13))), (a15, .inl (cY, 150, .inl (zA g15))), (a17, .inl (cI, 150, .inl (zA ro))), (a20, .inl (cI, 900, .inl (zA (upZ q20 nb2 (ro r1))))), (a21, .inl (cI, 900, .inl (zA (upZ q21 nb2 k9)))), (a22, .inl (cI, 900, .inl (zA q22))), (a23, .inl (cY, 900, .inl (zA (upZ q23 nb2 1)))), (a24, .inl (cY, 900, .inl (zA (upZ q24 nb2 0))))]) rfl dX5_makes_140 ?_
                    refine g_aload_n X 1 dX5_makes_141 rfl rfl ?_
                    refine g_get X (index := 64) (ref := "GuideWordsModel") hin5 0 rfl rfl 22 (by decide) rfl (by decide +kernel) (v := .ref a22) rfl dX5_makes_142 ?_
                    refine g_aload_n X 1 dX5_makes_145 rfl rfl ?_
                    refine g_get X (index := 158) (ref := "GuideWordsModel") hin5 0 rfl rfl 25 (by decide) rfl (by decide +kernel) (v := .int (iZ nb2)) rfl dX5_makes_146 ?_
                    refine g_iload X 0 dX5_makes_149 rfl ?_
                    refine g_iload X 5 dX5_makes_151 rfl ?_
                    refine g_if_ne X 176 dX5_makes_153 (by decide) (by omega) (fun c_153 => ?_) (fun c_153 => ?_)
                    · skip
                      refine g_iconst X dX5_makes_176 ?_
                      refine g_iadd X dX5_makes_177 ?_
                      refine g_iast X 8 1 rfl rfl (by omega) (by decide) (ws2 := [(m0, .inr (5, [.int (iZ z0), .int (iZ z1), .int (iZ z2), .int (iZ z3), .int (iZ z4), .int (iZ z5), .ref a6, .int (iZ z7), .ref a8, .int (iZ z9), .ref a10, .ref a11, .ref a12, .ref a13, .ref a14, .ref a15, .int (iZ z16), .ref a17, .int (iZ R9), .ref a19, .ref a20, .ref a21, .ref a22, .ref a23, .ref a24, .int (iZ nb2), .ref a26, .ref a27, .ref a28, .int (iZ z29), .int (iZ z30), .int (iZ z31), .int (iZ z32), .int (iZ z33), .int (iZ z34), .ref a35, .ref a36, .ref a37, .ref a38, .ref a39, .ref a40, .ref a41, .int (iZ z42), .int (iZ z43), .ref a44, .ref a45])), (a10, .inl (cI, 1800, .inl (zA g10))), (a12, .inl (cI, 900, .inl (zA g12))), (a13, .inl (cI, 150, .inl (zA g13))), (a15, .inl (cY, 150, .inl (zA g15))), (a17, .inl (cI, 150, .inl (zA ro))), (a20, .inl (cI, 900, .inl (zA (upZ q20 nb2 (ro r1))))), (a21, .inl (cI, 900, .inl (zA (upZ q21 nb2 k9)))), (a22, .inl (cI, 900, .inl (zA (upZ q22 nb2 ((g12 ((6 * (ro r1)) + k9)) + 0))))), (a23, .inl (cY, 900, .inl (zA (upZ q23 nb2 1)))), (a24, .inl (cY, 900, .inl (zA (upZ q24 nb2 0))))]) rfl dX5_makes_178 ?_
                      have hcc : (((g12 ((6 * (ro r1)) + k9)) + 0)) = g12 (6 * ro r1 + k9) + (if k9 = 0 then abvM g10 ro z3 r1 else 0) := by
                        unfold abvM
                        first
                        | (exfalso; omega)
                        | rw [if_neg c_153]
                        | rw [if_pos c_153, if_pos (by rcases hw with h | h; exact Or.inl h.1; exact Or.inr (fun q => c_166 (by rw [h.2, q])))]
                        | rw [if_pos c_153, if_neg (by rcases hw with h | h; · omega
                                                       · (intro q; rcases q with q | q; · omega
                                                          · (apply q; rw [c_166, h.2])))]
                      have hdd : (1 : Int) = mbZ (g13 (ro r1)) k9 (g12 (6 * ro r1 + k9)) := by unfold mbZ; first | (exfalso; omega) | (rw [if_pos (by omega)]; done) | (rw [if_neg (by omega)]; done)
                      have hff : (0 : Int) = mlZ (g13 (ro r1)) k9 := by unfold mlZ; first | (exfalso; omega) | (rw [if_pos (by omega)]; done) | (rw [if_neg (by omega)]; done)
                      have G1 : gatMA (upZ q20 nb2 (ro r1)) (upZ q21 nb2 k9) (upZ q22 nb2 ((g12 ((6 * (ro r1)) + k9)) + 0)) (upZ q23 nb2 1) (upZ q24 nb2 0) g10 g12 g13 ro z3 r1 := fun i t h1 h2 h3 h4 => gatM_up (hgb i t h1 h2 h3 h4) (by
                        have q1 := off_lt r1.toNat i.toNat t hsn (by omega) (by rw [show ((i.toNat : Nat) : Int) = i by omega]; exact h4)
                        omega)
                      have G2 : ∀ t : Int, 0 ≤ t → t < k9 + 1 → gatM (upZ q20 nb2 (ro r1)) (upZ q21 nb2 k9) (upZ q22 nb2 ((g12 ((6 * (ro r1)) + k9)) + 0)) (upZ q23 nb2 1) (upZ q24 nb2 0) g10 g12 g13 ro z3 r1 t := fun t h1 h2 => by
                        rcases (show t = k9 ∨ t < k9 by omega) with h | h
                        · rw [h]; exact gatM_new hn2 rfl rfl hcc hdd hff
                        · exact gatM_up (hgc t h1 h) (by omega)
                      have hab9 : 0 ≤ abvM g10 ro z3 r1 ∧ abvM g10 ro z3 r1 ≤ 3 := by unfold abvM; split <;> omega
                      have hv22 : 0 ≤ (((g12 ((6 * (ro r1)) + k9)) + 0)) ∧ (((g12 ((6 * (ro r1)) + k9)) + 0)) ≤ 23 := by rw [hcc]; split <;> omega
                      have hs20 := upZ_all (k := nb2) (v := (ro r1)) (fun x => 0 ≤ x ∧ x < 150) hq20 (by omega)
                      have hs21 := upZ_all (k := nb2) (v := k9) (fun x => 0 ≤ x ∧ x < 6) hq21 (by omega)
                      have hs22 := upZ_all (k := nb2) (v := ((g12 ((6 * (ro r1)) + k9)) + 0)) (fun x => 0 ≤ x ∧ x ≤ 23) hq22 hv22
                      have hs23 := upZ_all (k := nb2) (v := 1) (fun x => x = 0 ∨ x = 1) hq23 (by omega)
                      have hs24 := upZ_all (k := nb2) (v := 0) (fun x => x = 0 ∨ x = 1) hq24 (by omega)
                      refine g_aload_n X 1 dX5_makes_179 rfl rfl ?_
                      refine g_dup X dX5_makes_180 rfl ?_
                      refine g_get X (index := 158) (ref := "GuideWordsModel") hin5 0 rfl rfl 25 (by decide) rfl (by decide +kernel) (v := .int (iZ nb2)) rfl dX5_makes_181 ?_
                      refine g_iconst X dX5_makes_184 ?_
                      refine g_iadd X dX5_makes_185 ?_
                      refine g_put X (index := 158) (ref := "GuideWordsModel") hin5 0 rfl rfl 25 (by decide) rfl tyX5 tyX5_ok nmX5 (by decide +kernel) rfl rfl rfl rfl (Nat.le_of_ble_eq_true rfl) (ws2 := [(m0, .inr (5, [.int (iZ z0), .int (iZ z1), .int (iZ z2), .int (iZ z3), .int (iZ z4), .int (iZ z5), .ref a6, .int (iZ z7), .ref a8, .int (iZ z9), .ref a10, .ref a11, .ref a12, .ref a13, .ref a14, .ref a15, .int (iZ z16), .ref a17, .int (iZ R9), .ref a19, .ref a20, .ref a21, .ref a22, .ref a23, .ref a24, .int (iZ (nb2 + 1)), .ref a26, .ref a27, .ref a28, .int (iZ z29), .int (iZ z30), .int (iZ z31), .int (iZ z32), .int (iZ z33), .int (iZ z34), .ref a35, .ref a36, .ref a37, .ref a38, .ref a39, .ref a40, .ref a41, .int (iZ z42), .int (iZ z43), .ref a44, .ref a45])), (a10, .inl (cI, 1800, .inl (zA g10))), (a12, .inl (cI, 900, .inl (zA g12))), (a13, .inl (cI, 150, .inl (zA g13))), (a15, .inl (cY, 150, .inl (zA g15))), (a17, .inl (cI, 150, .inl (zA ro))), (a20, .inl (cI, 900, .inl (zA (upZ q20 nb2 (ro r1))))), (a21, .inl (cI, 900, .inl (zA (upZ q21 nb2 k9)))), (a22, .inl (cI, 900, .inl (zA (upZ q22 nb2 ((g12 ((6 * (ro r1)) + k9)) + 0))))), (a23, .inl (cY, 900, .inl (zA (upZ q23 nb2 1)))), (a24, .inl (cY, 900, .inl (zA (upZ q24 nb2 0))))]) rfl dX5_makes_186 ?_
                      refine g_iinc (q := 5) (lv2 := [(4, .int (iZ (k9 + 1))), (5, .int (iZ (g12 ((6 * (ro r1)) + k9)))), (0, .ref m0), (1, .int (iZ was)), (2, .int (iZ r1)), (3, .int (iZ (ro r1)))]) X dX5_makes_189 rfl (by decide) rfl ?_
                      refine g_goto X 31 dX5_makes_192 (by decide) ?_
                      refine g_lv (lv' := [(0, .ref m0), (1, .int (iZ was)), (2, .int (iZ r1)), (3, .int (iZ (ro r1))), (4, .int (iZ (k9 + 1)))]) [2, 3, 4, 5, 0] rfl ?_
                      exact ih_31 (k9 + 1) (nb2 + 1) (upZ q20 nb2 (ro r1)) (upZ q21 nb2 k9) (upZ q22 nb2 ((g12 ((6 * (ro r1)) + k9)) + 0)) (upZ q23 nb2 1) (upZ q24 nb2 0) (by omega) (by omega) G1 G2 hs20 hs21 hs22 hs23 hs24 (by omega)
                    · skip
                      refine g_aload_n X 1 dX5_makes_156 rfl rfl ?_
                      refine g_get X (index := 33) (ref := "GuideWordsModel") hin5 0 rfl rfl 10 (by decide) rfl (by decide +kernel) (v := .ref a10) rfl dX5_makes_157 ?_
                      refine g_bipush X dX5_makes_160 (by decide) ?_
                      refine g_iload_n X 4 dX5_makes_162 rfl rfl ?_
                      refine g_imul X dX5_makes_163 ?_
                      refine g_iald X 1 1 rfl rfl (by omega) (by decide) dX5_makes_164 ?_
                      have r_164 := h10r (12 * (ro r1)) (by omega)
                      refine g_iload_n X 2 dX5_makes_165 rfl rfl ?_
                      refine g_icmp_eq X 176 dX5_makes_166 (by decide) (by omega) (by omega) (fun c_166 => ?_) (fun c_166 => ?_)
                      · skip
                        refine g_iconst X dX5_makes_176 ?_
                        refine g_iadd X dX5_makes_177 ?_
                        refine g_iast X 8 1 rfl rfl (by omega) (by decide) (ws2 := [(m0, .inr (5, [.int (iZ z0), .int (iZ z1), .int (iZ z2), .int (iZ z3), .int (iZ z4), .int (iZ z5), .ref a6, .int (iZ z7), .ref a8, .int (iZ z9), .ref a10, .ref a11, .ref a12, .ref a13, .ref a14, .ref a15, .int (iZ z16), .ref a17, .int (iZ R9), .ref a19, .ref a20, .ref a21, .ref a22, .ref a23, .ref a24, .int (iZ nb2), .ref a26, .ref a27, .ref a28, .int (iZ z29), .int (iZ z30), .int (iZ z31), .int (iZ z32), .int (iZ z33), .int (iZ z34), .ref a35, .ref a36, .ref a37, .ref a38, .ref a39, .ref a40, .ref a41, .int (iZ z42), .int (iZ z43), .ref a44, .ref a45])), (a10, .inl (cI, 1800, .inl (zA g10))), (a12, .inl (cI, 900, .inl (zA g12))), (a13, .inl (cI, 150, .inl (zA g13))), (a15, .inl (cY, 150, .inl (zA g15))), (a17, .inl (cI, 150, .inl (zA ro))), (a20, .inl (cI, 900, .inl (zA (upZ q20 nb2 (ro r1))))), (a21, .inl (cI, 900, .inl (zA (upZ q21 nb2 k9)))), (a22, .inl (cI, 900, .inl (zA (upZ q22 nb2 ((g12 ((6 * (ro r1)) + k9)) + 0))))), (a23, .inl (cY, 900, .inl (zA (upZ q23 nb2 1)))), (a24, .inl (cY, 900, .inl (zA (upZ q24 nb2 0))))]) rfl dX5_makes_178 ?_
                        have hcc : (((g12 ((6 * (ro r1)) + k9)) + 0)) = g12 (6 * ro r1 + k9) + (if k9 = 0 then abvM g10 ro z3 r1 else 0) := by
                          unfold abvM
                          first
                          | (exfalso; omega)
                          | rw [if_neg c_153]
                          | rw [if_pos c_153, if_pos (by rcases hw with h | h; exact Or.inl h.1; exact Or.inr (fun q => c_166 (by rw [h.2, q])))]
                          | rw [if_pos c_153, if_neg (by rcases hw with h | h; · omega
                                                         · (intro q; rcases q with q | q; · omega
                                                            · (apply q; rw [c_166, h.2])))]
                        have hdd : (1 : Int) = mbZ (g13 (ro r1)) k9 (g12 (6 * ro r1 + k9)) := by unfold mbZ; first | (exfalso; omega) | (rw [if_pos (by omega)]; done) | (rw [if_neg (by omega)]; done)
                        have hff : (0 : Int) = mlZ (g13 (ro r1)) k9 := by unfold mlZ; first | (exfalso; omega) | (rw [if_pos (by omega)]; done) | (rw [if_neg (by omega)]; done)
                        have G1 : gatMA (upZ q20 nb2 (ro r1)) (upZ q21 nb2 k9) (upZ q22 nb2 ((g12 ((6 * (ro r1)) + k9)) + 0)) (upZ q23 nb2 1) (upZ q24 nb2 0) g10 g12 g13 ro z3 r1 := fun i t h1 h2 h3 h4 => gatM_up (hgb i t h1 h2 h3 h4) (by
                          have q1 := off_lt r1.toNat i.toNat t hsn (by omega) (by rw [show ((i.toNat : Nat) : Int) = i by omega]; exact h4)
                          omega)
                        have G2 : ∀ t : Int, 0 ≤ t → t < k9 + 1 → gatM (upZ q20 nb2 (ro r1)) (upZ q21 nb2 k9) (upZ q22 nb2 ((g12 ((6 * (ro r1)) + k9)) + 0)) (upZ q23 nb2 1) (upZ q24 nb2 0) g10 g12 g13 ro z3 r1 t := fun t h1 h2 => by
                          rcases (show t = k9 ∨ t < k9 by omega) with h | h
                          · rw [h]; exact gatM_new hn2 rfl rfl hcc hdd hff
                          · exact gatM_up (hgc t h1 h) (by omega)
                        have hab9 : 0 ≤ abvM g10 ro z3 r1 ∧ abvM g10 ro z3 r1 ≤ 3 := by unfold abvM; split <;> omega
                        have hv22 : 0 ≤ (((g12 ((6 * (ro r1)) + k9)) + 0)) ∧ (((g12 ((6 * (ro r1)) + k9)) + 0)) ≤ 23 := by rw [hcc]; split <;> omega
                        have hs20 := upZ_all (k := nb2) (v := (ro r1)) (fun x => 0 ≤ x ∧ x < 150) hq20 (by omega)
                        have hs21 := upZ_all (k := nb2) (v := k9) (fun x => 0 ≤ x ∧ x < 6) hq21 (by omega)
                        have hs22 := upZ_all (k := nb2) (v := ((g12 ((6 * (ro r1)) + k9)) + 0)) (fun x => 0 ≤ x ∧ x ≤ 23) hq22 hv22
                        have hs23 := upZ_all (k := nb2) (v := 1) (fun x => x = 0 ∨ x = 1) hq23 (by omega)
                        have hs24 := upZ_all (k := nb2) (v := 0) (fun x => x = 0 ∨ x = 1) hq24 (by omega)
                        refine g_aload_n X 1 dX5_makes_179 rfl rfl ?_
                        refine g_dup X dX5_makes_180 rfl ?_
                        refine g_get X (index := 158) (ref := "GuideWordsModel") hin5 0 rfl rfl 25 (by decide) rfl (by decide +kernel) (v := .int (iZ nb2)) rfl dX5_makes_181 ?_
                        refine g_iconst X dX5_makes_184 ?_
                        refine g_iadd X dX5_makes_185 ?_
                        refine g_put X (index := 158) (ref := "GuideWordsModel") hin5 0 rfl rfl 25 (by decide) rfl tyX5 tyX5_ok nmX5 (by decide +kernel) rfl rfl rfl rfl (Nat.le_of_ble_eq_true rfl) (ws2 := [(m0, .inr (5, [.int (iZ z0), .int (iZ z1), .int (iZ z2), .int (iZ z3), .int (iZ z4), .int (iZ z5), .ref a6, .int (iZ z7), .ref a8, .int (iZ z9), .ref a10, .ref a11, .ref a12, .ref a13, .ref a14, .ref a15, .int (iZ z16), .ref a17, .int (iZ R9), .ref a19, .ref a20, .ref a21, .ref a22, .ref a23, .ref a24, .int (iZ (nb2 + 1)), .ref a26, .ref a27, .ref a28, .int (iZ z29), .int (iZ z30), .int (iZ z31), .int (iZ z32), .int (iZ z33), .int (iZ z34), .ref a35, .ref a36, .ref a37, .ref a38, .ref a39, .ref a40, .ref a41, .int (iZ z42), .int (iZ z43), .ref a44, .ref a45])), (a10, .inl (cI, 1800, .inl (zA g10))), (a12, .inl (cI, 900, .inl (zA g12))), (a13, .inl (cI, 150, .inl (zA g13))), (a15, .inl (cY, 150, .inl (zA g15))), (a17, .inl (cI, 150, .inl (zA ro))), (a20, .inl (cI, 900, .inl (zA (upZ q20 nb2 (ro r1))))), (a21, .inl (cI, 900, .inl (zA (upZ q21 nb2 k9)))), (a22, .inl (cI, 900, .inl (zA (upZ q22 nb2 ((g12 ((6 * (ro r1)) + k9)) + 0))))), (a23, .inl (cY, 900, .inl (zA (upZ q23 nb2 1)))), (a24, .inl (cY, 900, .inl (zA (upZ q24 nb2 0))))]) rfl dX5_makes_186 ?_
                        refine g_iinc (q := 5) (lv2 := [(4, .int (iZ (k9 + 1))), (5, .int (iZ (g12 ((6 * (ro r1)) + k9)))), (0, .ref m0), (1, .int (iZ was)), (2, .int (iZ r1)), (3, .int (iZ (ro r1)))]) X dX5_makes_189 rfl (by decide) rfl ?_
                        refine g_goto X 31 dX5_makes_192 (by decide) ?_
                        refine g_lv (lv' := [(0, .ref m0), (1, .int (iZ was)), (2, .int (iZ r1)), (3, .int (iZ (ro r1))), (4, .int (iZ (k9 + 1)))]) [2, 3, 4, 5, 0] rfl ?_
                        exact ih_31 (k9 + 1) (nb2 + 1) (upZ q20 nb2 (ro r1)) (upZ q21 nb2 k9) (upZ q22 nb2 ((g12 ((6 * (ro r1)) + k9)) + 0)) (upZ q23 nb2 1) (upZ q24 nb2 0) (by omega) (by omega) G1 G2 hs20 hs21 hs22 hs23 hs24 (by omega)
                      · skip
                        refine g_aload_n X 1 dX5_makes_169 rfl rfl ?_
                        refine g_get X (index := 16) (ref := "GuideWordsModel") hin5 0 rfl rfl 3 (by decide) rfl (by decide +kernel) (v := .int (iZ z3)) rfl dX5_makes_170 ?_
                        refine g_goto X 177 dX5_makes_173 (by decide) ?_
                        refine g_iadd X dX5_makes_177 ?_
                        refine g_iast X 8 1 rfl rfl (by omega) (by decide) (ws2 := [(m0, .inr (5, [.int (iZ z0), .int (iZ z1), .int (iZ z2), .int (iZ z3), .int (iZ z4), .int (iZ z5), .ref a6, .int (iZ z7), .ref a8, .int (iZ z9), .ref a10, .ref a11, .ref a12, .ref a13, .ref a14, .ref a15, .int (iZ z16), .ref a17, .int (iZ R9), .ref a19, .ref a20, .ref a21, .ref a22, .ref a23, .ref a24, .int (iZ nb2), .ref a26, .ref a27, .ref a28, .int (iZ z29), .int (iZ z30), .int (iZ z31), .int (iZ z32), .int (iZ z33), .int (iZ z34), .ref a35, .ref a36, .ref a37, .ref a38, .ref a39, .ref a40, .ref a41, .int (iZ z42), .int (iZ z43), .ref a44, .ref a45])), (a10, .inl (cI, 1800, .inl (zA g10))), (a12, .inl (cI, 900, .inl (zA g12))), (a13, .inl (cI, 150, .inl (zA g13))), (a15, .inl (cY, 150, .inl (zA g15))), (a17, .inl (cI, 150, .inl (zA ro))), (a20, .inl (cI, 900, .inl (zA (upZ q20 nb2 (ro r1))))), (a21, .inl (cI, 900, .inl (zA (upZ q21 nb2 k9)))), (a22, .inl (cI, 900, .inl (zA (upZ q22 nb2 ((g12 ((6 * (ro r1)) + k9)) + z3))))), (a23, .inl (cY, 900, .inl (zA (upZ q23 nb2 1)))), (a24, .inl (cY, 900, .inl (zA (upZ q24 nb2 0))))]) rfl dX5_makes_178 ?_
                        have hcc : (((g12 ((6 * (ro r1)) + k9)) + z3)) = g12 (6 * ro r1 + k9) + (if k9 = 0 then abvM g10 ro z3 r1 else 0) := by
                          unfold abvM
                          first
                          | (exfalso; omega)
                          | rw [if_neg c_153]
                          | rw [if_pos c_153, if_pos (by rcases hw with h | h; exact Or.inl h.1; exact Or.inr (fun q => c_166 (by rw [h.2, q])))]
                          | rw [if_pos c_153, if_neg (by rcases hw with h | h; · omega
                                                         · (intro q; rcases q with q | q; · omega
                                                            · (apply q; rw [c_166, h.2])))]
                        have hdd : (1 : Int) = mbZ (g13 (ro r1)) k9 (g12 (6 * ro r1 + k9)) := by unfold mbZ; first | (exfalso; omega) | (rw [if_pos (by omega)]; done) | (rw [if_neg (by omega)]; done)
                        have hff : (0 : Int) = mlZ (g13 (ro r1)) k9 := by unfold mlZ; first | (exfalso; omega) | (rw [if_pos (by omega)]; done) | (rw [if_neg (by omega)]; done)
                        have G1 : gatMA (upZ q20 nb2 (ro r1)) (upZ q21 nb2 k9) (upZ q22 nb2 ((g12 ((6 * (ro r1)) + k9)) + z3)) (upZ q23 nb2 1) (upZ q24 nb2 0) g10 g12 g13 ro z3 r1 := fun i t h1 h2 h3 h4 => gatM_up (hgb i t h1 h2 h3 h4) (by
                          have q1 := off_lt r1.toNat i.toNat t hsn (by omega) (by rw [show ((i.toNat : Nat) : Int) = i by omega]; exact h4)
                          omega)
                        have G2 : ∀ t : Int, 0 ≤ t → t < k9 + 1 → gatM (upZ q20 nb2 (ro r1)) (upZ q21 nb2 k9) (upZ q22 nb2 ((g12 ((6 * (ro r1)) + k9)) + z3)) (upZ q23 nb2 1) (upZ q24 nb2 0) g10 g12 g13 ro z3 r1 t := fun t h1 h2 => by
                          rcases (show t = k9 ∨ t < k9 by omega) with h | h
                          · rw [h]; exact gatM_new hn2 rfl rfl hcc hdd hff
                          · exact gatM_up (hgc t h1 h) (by omega)
                        have hab9 : 0 ≤ abvM g10 ro z3 r1 ∧ abvM g10 ro z3 r1 ≤ 3 := by unfold abvM; split <;> omega
                        have hv22 : 0 ≤ (((g12 ((6 * (ro r1)) + k9)) + z3)) ∧ (((g12 ((6 * (ro r1)) + k9)) + z3)) ≤ 23 := by rw [hcc]; split <;> omega
                        have hs20 := upZ_all (k := nb2) (v := (ro r1)) (fun x => 0 ≤ x ∧ x < 150) hq20 (by omega)
                        have hs21 := upZ_all (k := nb2) (v := k9) (fun x => 0 ≤ x ∧ x < 6) hq21 (by omega)
                        have hs22 := upZ_all (k := nb2) (v := ((g12 ((6 * (ro r1)) + k9)) + z3)) (fun x => 0 ≤ x ∧ x ≤ 23) hq22 hv22
                        have hs23 := upZ_all (k := nb2) (v := 1) (fun x => x = 0 ∨ x = 1) hq23 (by omega)
                        have hs24 := upZ_all (k := nb2) (v := 0) (fun x => x = 0 ∨ x = 1) hq24 (by omega)
                        refine g_aload_n X 1 dX5_makes_179 rfl rfl ?_
                        refine g_dup X dX5_makes_180 rfl ?_
                        refine g_get X (index := 158) (ref := "GuideWordsModel") hin5 0 rfl rfl 25 (by decide) rfl (by decide +kernel) (v := .int (iZ nb2)) rfl dX5_makes_181 ?_
                        refine g_iconst X dX5_makes_184 ?_
                        refine g_iadd X dX5_makes_185 ?_
                        refine g_put X (index := 158) (ref := "GuideWordsModel") hin5 0 rfl rfl 25 (by decide) rfl tyX5 tyX5_ok nmX5 (by decide +kernel) rfl rfl rfl rfl (Nat.le_of_ble_eq_true rfl) (ws2 := [(m0, .inr (5, [.int (iZ z0), .int (iZ z1), .int (iZ z2), .int (iZ z3), .int (iZ z4), .int (iZ z5), .ref a6, .int (iZ z7), .ref a8, .int (iZ z9), .ref a10, .ref a11, .ref a12, .ref a13, .ref a14, .ref a15, .int (iZ z16), .ref a17, .int (iZ R9), .ref a19, .ref a20, .ref a21, .ref a22, .ref a23, .ref a24, .int (iZ (nb2 + 1)), .ref a26, .ref a27, .ref a28, .int (iZ z29), .int (iZ z30), .int (iZ z31), .int (iZ z32), .int (iZ z33), .int (iZ z34), .ref a35, .ref a36, .ref a37, .ref a38, .ref a39, .ref a40, .ref a41, .int (iZ z42), .int (iZ z43), .ref a44, .ref a45])), (a10, .inl (cI, 1800, .inl (zA g10))), (a12, .inl (cI, 900, .inl (zA g12))), (a13, .inl (cI, 150, .inl (zA g13))), (a15, .inl (cY, 150, .inl (zA g15))), (a17, .inl (cI, 150, .inl (zA ro))), (a20, .inl (cI, 900, .inl (zA (upZ q20 nb2 (ro r1))))), (a21, .inl (cI, 900, .inl (zA (upZ q21 nb2 k9)))), (a22, .inl (cI, 900, .inl (zA (upZ q22 nb2 ((g12 ((6 * (ro r1)) + k9)) + z3))))), (a23, .inl (cY, 900, .inl (zA (upZ q23 nb2 1)))), (a24, .inl (cY, 900, .inl (zA (upZ q24 nb2 0))))]) rfl dX5_makes_186 ?_
                        refine g_iinc (q := 5) (lv2 := [(4, .int (iZ (k9 + 1))), (5, .int (iZ (g12 ((6 * (ro r1)) + k9)))), (0, .ref m0), (1, .int (iZ was)), (2, .int (iZ r1)), (3, .int (iZ (ro r1)))]) X dX5_makes_189 rfl (by decide) rfl ?_
                        refine g_goto X 31 dX5_makes_192 (by decide) ?_
                        refine g_lv (lv' := [(0, .ref m0), (1, .int (iZ was)), (2, .int (iZ r1)), (3, .int (iZ (ro r1))), (4, .int (iZ (k9 + 1)))]) [2, 3, 4, 5, 0] rfl ?_
                        exact ih_31 (k9 + 1) (nb2 + 1) (upZ q20 nb2 (ro r1)) (upZ q21 nb2 k9) (upZ q22 nb2 ((g12 ((6 * (ro r1)) + k9)) + z3)) (upZ q23 nb2 1) (upZ q24 nb2 0) (by omega) (by omega) G1 G2 hs20 hs21 hs22 hs23 hs24 (by omega)
                  · skip
                    refine g_iload X 0 dX5_makes_129 rfl ?_
                    refine g_iconst X dX5_makes_131 ?_
                    refine g_icmp_le X 139 dX5_makes_132 (by decide) (by omega) (by omega) (fun c_132 => ?_) (fun c_132 => ?_)
                    · skip
                      refine g_iconst X dX5_makes_139 ?_
                      refine g_zast X 9 3 rfl rfl (by omega) (by decide) (by omega) (ws2 := [(m0, .inr (5, [.int (iZ z0), .int (iZ z1), .int (iZ z2), .int (iZ z3), .int (iZ z4), .int (iZ z5), .ref a6, .int (iZ z7), .ref a8, .int (iZ z9), .ref a10, .ref a11, .ref a12, .ref a13, .ref a14, .ref a15, .int (iZ z16), .ref a17, .int (iZ R9), .ref a19, .ref a20, .ref a21, .ref a22, .ref a23, .ref a24, .int (iZ nb2), .ref a26, .ref a27, .ref a28, .int (iZ z29), .int (iZ z30), .int (iZ z31), .int (iZ z32), .int (iZ z33), .int (iZ z34), .ref a35, .ref a36, .ref a37, .ref a38, .ref a39, .ref a40, .ref a41, .int (iZ z42), .int (iZ z43), .ref a44, .ref a45])), (a10, .inl (cI, 1800, .inl (zA g10))), (a12, .inl (cI, 900, .inl (zA g12))), (a13, .inl (cI, 150, .inl (zA g13))), (a15, .inl (cY, 150, .inl (zA g15))), (a17, .inl (cI, 150, .inl (zA ro))), (a20, .inl (cI, 900, .inl (zA (upZ q20 nb2 (ro r1))))), (a21, .inl (cI, 900, .inl (zA (upZ q21 nb2 k9)))), (a22, .inl (cI, 900, .inl (zA q22))), (a23, .inl (cY, 900, .inl (zA (upZ q23 nb2 0)))), (a24, .inl (cY, 900, .inl (zA (upZ q24 nb2 0))))]) rfl dX5_makes_140 ?_
                      refine g_aload_n X 1 dX5_makes_141 rfl rfl ?_
                      refine g_get X (index := 64) (ref := "GuideWordsModel") hin5 0 rfl rfl 22 (by decide) rfl (by decide +kernel) (v := .ref a22) rfl dX5_makes_142 ?_
                      refine g_aload_n X 1 dX5_makes_145 rfl rfl ?_
                      refine g_get X (index := 158) (ref := "GuideWordsModel") hin5 0 rfl rfl 25 (by decide) rfl (by decide +kernel) (v := .int (iZ nb2)) rfl dX5_makes_146 ?_
                      refine g_iload X 0 dX5_makes_149 rfl ?_
                      refine g_iload X 5 dX5_makes_151 rfl ?_
                      refine g_if_ne X 176 dX5_makes_153 (by decide) (by omega) (fun c_153 => ?_) (fun c_153 => ?_)
                      · skip
                        refine g_iconst X dX5_makes_176 ?_
                        refine g_iadd X dX5_makes_177 ?_
                        refine g_iast X 8 1 rfl rfl (by omega) (by decide) (ws2 := [(m0, .inr (5, [.int (iZ z0), .int (iZ z1), .int (iZ z2), .int (iZ z3), .int (iZ z4), .int (iZ z5), .ref a6, .int (iZ z7), .ref a8, .int (iZ z9), .ref a10, .ref a11, .ref a12, .ref a13, .ref a14, .ref a15, .int (iZ z16), .ref a17, .int (iZ R9), .ref a19, .ref a20, .ref a21, .ref a22, .ref a23, .ref a24, .int (iZ nb2), .ref a26, .ref a27, .ref a28, .int (iZ z29), .int (iZ z30), .int (iZ z31), .int (iZ z32), .int (iZ z33), .int (iZ z34), .ref a35, .ref a36, .ref a37, .ref a38, .ref a39, .ref a40, .ref a41, .int (iZ z42), .int (iZ z43), .ref a44, .ref a45])), (a10, .inl (cI, 1800, .inl (zA g10))), (a12, .inl (cI, 900, .inl (zA g12))), (a13, .inl (cI, 150, .inl (zA g13))), (a15, .inl (cY, 150, .inl (zA g15))), (a17, .inl (cI, 150, .inl (zA ro))), (a20, .inl (cI, 900, .inl (zA (upZ q20 nb2 (ro r1))))), (a21, .inl (cI, 900, .inl (zA (upZ q21 nb2 k9)))), (a22, .inl (cI, 900, .inl (zA (upZ q22 nb2 ((g12 ((6 * (ro r1)) + k9)) + 0))))), (a23, .inl (cY, 900, .inl (zA (upZ q23 nb2 0)))), (a24, .inl (cY, 900, .inl (zA (upZ q24 nb2 0))))]) rfl dX5_makes_178 ?_
                        have hcc : (((g12 ((6 * (ro r1)) + k9)) + 0)) = g12 (6 * ro r1 + k9) + (if k9 = 0 then abvM g10 ro z3 r1 else 0) := by
                          unfold abvM
                          first
                          | (exfalso; omega)
                          | rw [if_neg c_153]
                          | rw [if_pos c_153, if_pos (by rcases hw with h | h; exact Or.inl h.1; exact Or.inr (fun q => c_166 (by rw [h.2, q])))]
                          | rw [if_pos c_153, if_neg (by rcases hw with h | h; · omega
                                                         · (intro q; rcases q with q | q; · omega
                                                            · (apply q; rw [c_166, h.2])))]
                        have hdd : (0 : Int) = mbZ (g13 (ro r1)) k9 (g12 (6 * ro r1 + k9)) := by unfold mbZ; first | (exfalso; omega) | (rw [if_pos (by omega)]; done) | (rw [if_neg (by omega)]; done)
                        have hff : (0 : Int) = mlZ (g13 (ro r1)) k9 := by unfold mlZ; first | (exfalso; omega) | (rw [if_pos (by omega)]; done) | (rw [if_neg (by omega)]; done)
                        have G1 : gatMA (upZ q20 nb2 (ro r1)) (upZ q21 nb2 k9) (upZ q22 nb2 ((g12 ((6 * (ro r1)) + k9)) + 0)) (upZ q23 nb2 0) (upZ q24 nb2 0) g10 g12 g13 ro z3 r1 := fun i t h1 h2 h3 h4 => gatM_up (hgb i t h1 h2 h3 h4) (by
                          have q1 := off_lt r1.toNat i.toNat t hsn (by omega) (by rw [show ((i.toNat : Nat) : Int) = i by omega]; exact h4)
                          omega)
                        have G2 : ∀ t : Int, 0 ≤ t → t < k9 + 1 → gatM (upZ q20 nb2 (ro r1)) (upZ q21 nb2 k9) (upZ q22 nb2 ((g12 ((6 * (ro r1)) + k9)) + 0)) (upZ q23 nb2 0) (upZ q24 nb2 0) g10 g12 g13 ro z3 r1 t := fun t h1 h2 => by
                          rcases (show t = k9 ∨ t < k9 by omega) with h | h
                          · rw [h]; exact gatM_new hn2 rfl rfl hcc hdd hff
                          · exact gatM_up (hgc t h1 h) (by omega)
                        have hab9 : 0 ≤ abvM g10 ro z3 r1 ∧ abvM g10 ro z3 r1 ≤ 3 := by unfold abvM; split <;> omega
                        have hv22 : 0 ≤ (((g12 ((6 * (ro r1)) + k9)) + 0)) ∧ (((g12 ((6 * (ro r1)) + k9)) + 0)) ≤ 23 := by rw [hcc]; split <;> omega
                        have hs20 := upZ_all (k := nb2) (v := (ro r1)) (fun x => 0 ≤ x ∧ x < 150) hq20 (by omega)
                        have hs21 := upZ_all (k := nb2) (v := k9) (fun x => 0 ≤ x ∧ x < 6) hq21 (by omega)
                        have hs22 := upZ_all (k := nb2) (v := ((g12 ((6 * (ro r1)) + k9)) + 0)) (fun x => 0 ≤ x ∧ x ≤ 23) hq22 hv22
                        have hs23 := upZ_all (k := nb2) (v := 0) (fun x => x = 0 ∨ x = 1) hq23 (by omega)
                        have hs24 := upZ_all (k := nb2) (v := 0) (fun x => x = 0 ∨ x = 1) hq24 (by omega)
                        refine g_aload_n X 1 dX5_makes_179 rfl rfl ?_
                        refine g_dup X dX5_makes_180 rfl ?_
                        refine g_get X (index := 158) (ref := "GuideWordsModel") hin5 0 rfl rfl 25 (by decide) rfl (by decide +kernel) (v := .int (iZ nb2)) rfl dX5_makes_181 ?_
                        refine g_iconst X dX5_makes_184 ?_
                        refine g_iadd X dX5_makes_185 ?_
                        refine g_put X (index := 158) (ref := "GuideWordsModel") hin5 0 rfl rfl 25 (by decide) rfl tyX5 tyX5_ok nmX5 (by decide +kernel) rfl rfl rfl rfl (Nat.le_of_ble_eq_true rfl) (ws2 := [(m0, .inr (5, [.int (iZ z0), .int (iZ z1), .int (iZ z2), .int (iZ z3), .int (iZ z4), .int (iZ z5), .ref a6, .int (iZ z7), .ref a8, .int (iZ z9), .ref a10, .ref a11, .ref a12, .ref a13, .ref a14, .ref a15, .int (iZ z16), .ref a17, .int (iZ R9), .ref a19, .ref a20, .ref a21, .ref a22, .ref a23, .ref a24, .int (iZ (nb2 + 1)), .ref a26, .ref a27, .ref a28, .int (iZ z29), .int (iZ z30), .int (iZ z31), .int (iZ z32), .int (iZ z33), .int (iZ z34), .ref a35, .ref a36, .ref a37, .ref a38, .ref a39, .ref a40, .ref a41, .int (iZ z42), .int (iZ z43), .ref a44, .ref a45])), (a10, .inl (cI, 1800, .inl (zA g10))), (a12, .inl (cI, 900, .inl (zA g12))), (a13, .inl (cI, 150, .inl (zA g13))), (a15, .inl (cY, 150, .inl (zA g15))), (a17, .inl (cI, 150, .inl (zA ro))), (a20, .inl (cI, 900, .inl (zA (upZ q20 nb2 (ro r1))))), (a21, .inl (cI, 900, .inl (zA (upZ q21 nb2 k9)))), (a22, .inl (cI, 900, .inl (zA (upZ q22 nb2 ((g12 ((6 * (ro r1)) + k9)) + 0))))), (a23, .inl (cY, 900, .inl (zA (upZ q23 nb2 0)))), (a24, .inl (cY, 900, .inl (zA (upZ q24 nb2 0))))]) rfl dX5_makes_186 ?_
                        refine g_iinc (q := 5) (lv2 := [(4, .int (iZ (k9 + 1))), (5, .int (iZ (g12 ((6 * (ro r1)) + k9)))), (0, .ref m0), (1, .int (iZ was)), (2, .int (iZ r1)), (3, .int (iZ (ro r1)))]) X dX5_makes_189 rfl (by decide) rfl ?_
                        refine g_goto X 31 dX5_makes_192 (by decide) ?_
                        refine g_lv (lv' := [(0, .ref m0), (1, .int (iZ was)), (2, .int (iZ r1)), (3, .int (iZ (ro r1))), (4, .int (iZ (k9 + 1)))]) [2, 3, 4, 5, 0] rfl ?_
                        exact ih_31 (k9 + 1) (nb2 + 1) (upZ q20 nb2 (ro r1)) (upZ q21 nb2 k9) (upZ q22 nb2 ((g12 ((6 * (ro r1)) + k9)) + 0)) (upZ q23 nb2 0) (upZ q24 nb2 0) (by omega) (by omega) G1 G2 hs20 hs21 hs22 hs23 hs24 (by omega)
                      · skip
                        refine g_aload_n X 1 dX5_makes_156 rfl rfl ?_
                        refine g_get X (index := 33) (ref := "GuideWordsModel") hin5 0 rfl rfl 10 (by decide) rfl (by decide +kernel) (v := .ref a10) rfl dX5_makes_157 ?_
                        refine g_bipush X dX5_makes_160 (by decide) ?_
                        refine g_iload_n X 4 dX5_makes_162 rfl rfl ?_
                        refine g_imul X dX5_makes_163 ?_
                        refine g_iald X 1 1 rfl rfl (by omega) (by decide) dX5_makes_164 ?_
                        have r_164 := h10r (12 * (ro r1)) (by omega)
                        refine g_iload_n X 2 dX5_makes_165 rfl rfl ?_
                        refine g_icmp_eq X 176 dX5_makes_166 (by decide) (by omega) (by omega) (fun c_166 => ?_) (fun c_166 => ?_)
                        · skip
                          refine g_iconst X dX5_makes_176 ?_
                          refine g_iadd X dX5_makes_177 ?_
                          refine g_iast X 8 1 rfl rfl (by omega) (by decide) (ws2 := [(m0, .inr (5, [.int (iZ z0), .int (iZ z1), .int (iZ z2), .int (iZ z3), .int (iZ z4), .int (iZ z5), .ref a6, .int (iZ z7), .ref a8, .int (iZ z9), .ref a10, .ref a11, .ref a12, .ref a13, .ref a14, .ref a15, .int (iZ z16), .ref a17, .int (iZ R9), .ref a19, .ref a20, .ref a21, .ref a22, .ref a23, .ref a24, .int (iZ nb2), .ref a26, .ref a27, .ref a28, .int (iZ z29), .int (iZ z30), .int (iZ z31), .int (iZ z32), .int (iZ z33), .int (iZ z34), .ref a35, .ref a36, .ref a37, .ref a38, .ref a39, .ref a40, .ref a41, .int (iZ z42), .int (iZ z43), .ref a44, .ref a45])), (a10, .inl (cI, 1800, .inl (zA g10))), (a12, .inl (cI, 900, .inl (zA g12))), (a13, .inl (cI, 150, .inl (zA g13))), (a15, .inl (cY, 150, .inl (zA g15))), (a17, .inl (cI, 150, .inl (zA ro))), (a20, .inl (cI, 900, .inl (zA (upZ q20 nb2 (ro r1))))), (a21, .inl (cI, 900, .inl (zA (upZ q21 nb2 k9)))), (a22, .inl (cI, 900, .inl (zA (upZ q22 nb2 ((g12 ((6 * (ro r1)) + k9)) + 0))))), (a23, .inl (cY, 900, .inl (zA (upZ q23 nb2 0)))), (a24, .inl (cY, 900, .inl (zA (upZ q24 nb2 0))))]) rfl dX5_makes_178 ?_
                          have hcc : (((g12 ((6 * (ro r1)) + k9)) + 0)) = g12 (6 * ro r1 + k9) + (if k9 = 0 then abvM g10 ro z3 r1 else 0) := by
                            unfold abvM
                            first
                            | (exfalso; omega)
                            | rw [if_neg c_153]
                            | rw [if_pos c_153, if_pos (by rcases hw with h | h; exact Or.inl h.1; exact Or.inr (fun q => c_166 (by rw [h.2, q])))]
                            | rw [if_pos c_153, if_neg (by rcases hw with h | h; · omega
                                                           · (intro q; rcases q with q | q; · omega
                                                              · (apply q; rw [c_166, h.2])))]
                          have hdd : (0 : Int) = mbZ (g13 (ro r1)) k9 (g12 (6 * ro r1 + k9)) := by unfold mbZ; first | (exfalso; omega) | (rw [if_pos (by omega)]; done) | (rw [if_neg (by omega)]; done)
                          have hff : (0 : Int) = mlZ (g13 (ro r1)) k9 := by unfold mlZ; first | (exfalso; omega) | (rw [if_pos (by omega)]; done) | (rw [if_neg (by omega)]; done)
                          have G1 : gatMA (upZ q20 nb2 (ro r1)) (upZ q21 nb2 k9) (upZ q22 nb2 ((g12 ((6 * (ro r1)) + k9)) + 0)) (upZ q23 nb2 0) (upZ q24 nb2 0) g10 g12 g13 ro z3 r1 := fun i t h1 h2 h3 h4 => gatM_up (hgb i t h1 h2 h3 h4) (by
                            have q1 := off_lt r1.toNat i.toNat t hsn (by omega) (by rw [show ((i.toNat : Nat) : Int) = i by omega]; exact h4)
                            omega)
                          have G2 : ∀ t : Int, 0 ≤ t → t < k9 + 1 → gatM (upZ q20 nb2 (ro r1)) (upZ q21 nb2 k9) (upZ q22 nb2 ((g12 ((6 * (ro r1)) + k9)) + 0)) (upZ q23 nb2 0) (upZ q24 nb2 0) g10 g12 g13 ro z3 r1 t := fun t h1 h2 => by
                            rcases (show t = k9 ∨ t < k9 by omega) with h | h
                            · rw [h]; exact gatM_new hn2 rfl rfl hcc hdd hff
                            · exact gatM_up (hgc t h1 h) (by omega)
                          have hab9 : 0 ≤ abvM g10 ro z3 r1 ∧ abvM g10 ro z3 r1 ≤ 3 := by unfold abvM; split <;> omega
                          have hv22 : 0 ≤ (((g12 ((6 * (ro r1)) + k9)) + 0)) ∧ (((g12 ((6 * (ro r1)) + k9)) + 0)) ≤ 23 := by rw [hcc]; split <;> omega
                          have hs20 := upZ_all (k := nb2) (v := (ro r1)) (fun x => 0 ≤ x ∧ x < 150) hq20 (by omega)
                          have hs21 := upZ_all (k := nb2) (v := k9) (fun x => 0 ≤ x ∧ x < 6) hq21 (by omega)
                          have hs22 := upZ_all (k := nb2) (v := ((g12 ((6 * (ro r1)) + k9)) + 0)) (fun x => 0 ≤ x ∧ x ≤ 23) hq22 hv22
                          have hs23 := upZ_all (k := nb2) (v := 0) (fun x => x = 0 ∨ x = 1) hq23 (by omega)
                          have hs24 := upZ_all (k := nb2) (v := 0) (fun x => x = 0 ∨ x = 1) hq24 (by omega)
                          refine g_aload_n X 1 dX5_makes_179 rfl rfl ?_
                          refine g_dup X dX5_makes_180 rfl ?_
                          refine g_get X (index := 158) (ref := "GuideWordsModel") hin5 0 rfl rfl 25 (by decide) rfl (by decide +kernel) (v := .int (iZ nb2)) rfl dX5_makes_181 ?_
                          refine g_iconst X dX5_makes_184 ?_
                          refine g_iadd X dX5_makes_185 ?_
                          refine g_put X (index := 158) (ref := "GuideWordsModel") hin5 0 rfl rfl 25 (by decide) rfl tyX5 tyX5_ok nmX5 (by decide +kernel) rfl rfl rfl rfl (Nat.le_of_ble_eq_true rfl) (ws2 := [(m0, .inr (5, [.int (iZ z0), .int (iZ z1), .int (iZ z2), .int (iZ z3), .int (iZ z4), .int (iZ z5), .ref a6, .int (iZ z7), .ref a8, .int (iZ z9), .ref a10, .ref a11, .ref a12, .ref a13, .ref a14, .ref a15, .int (iZ z16), .ref a17, .int (iZ R9), .ref a19, .ref a20, .ref a21, .ref a22, .ref a23, .ref a24, .int (iZ (nb2 + 1)), .ref a26, .ref a27, .ref a28, .int (iZ z29), .int (iZ z30), .int (iZ z31), .int (iZ z32), .int (iZ z33), .int (iZ z34), .ref a35, .ref a36, .ref a37, .ref a38, .ref a39, .ref a40, .ref a41, .int (iZ z42), .int (iZ z43), .ref a44, .ref a45])), (a10, .inl (cI, 1800, .inl (zA g10))), (a12, .inl (cI, 900, .inl (zA g12))), (a13, .inl (cI, 150, .inl (zA g13))), (a15, .inl (cY, 150, .inl (zA g15))), (a17, .inl (cI, 150, .inl (zA ro))), (a20, .inl (cI, 900, .inl (zA (upZ q20 nb2 (ro r1))))), (a21, .inl (cI, 900, .inl (zA (upZ q21 nb2 k9)))), (a22, .inl (cI, 900, .inl (zA (upZ q22 nb2 ((g12 ((6 * (ro r1)) + k9)) + 0))))), (a23, .inl (cY, 900, .inl (zA (upZ q23 nb2 0)))), (a24, .inl (cY, 900, .inl (zA (upZ q24 nb2 0))))]) rfl dX5_makes_186 ?_
                          refine g_iinc (q := 5) (lv2 := [(4, .int (iZ (k9 + 1))), (5, .int (iZ (g12 ((6 * (ro r1)) + k9)))), (0, .ref m0), (1, .int (iZ was)), (2, .int (iZ r1)), (3, .int (iZ (ro r1)))]) X dX5_makes_189 rfl (by decide) rfl ?_
                          refine g_goto X 31 dX5_makes_192 (by decide) ?_
                          refine g_lv (lv' := [(0, .ref m0), (1, .int (iZ was)), (2, .int (iZ r1)), (3, .int (iZ (ro r1))), (4, .int (iZ (k9 + 1)))]) [2, 3, 4, 5, 0] rfl ?_
                          exact ih_31 (k9 + 1) (nb2 + 1) (upZ q20 nb2 (ro r1)) (upZ q21 nb2 k9) (upZ q22 nb2 ((g12 ((6 * (ro r1)) + k9)) + 0)) (upZ q23 nb2 0) (upZ q24 nb2 0) (by omega) (by omega) G1 G2 hs20 hs21 hs22 hs23 hs24 (by omega)
                        · skip
                          refine g_aload_n X 1 dX5_makes_169 rfl rfl ?_
                          refine g_get X (index := 16) (ref := "GuideWordsModel") hin5 0 rfl rfl 3 (by decide) rfl (by decide +kernel) (v := .int (iZ z3)) rfl dX5_makes_170 ?_
                          refine g_goto X 177 dX5_makes_173 (by decide) ?_
                          refine g_iadd X dX5_makes_177 ?_
                          refine g_iast X 8 1 rfl rfl (by omega) (by decide) (ws2 := [(m0, .inr (5, [.int (iZ z0), .int (iZ z1), .int (iZ z2), .int (iZ z3), .int (iZ z4), .int (iZ z5), .ref a6, .int (iZ z7), .ref a8, .int (iZ z9), .ref a10, .ref a11, .ref a12, .ref a13, .ref a14, .ref a15, .int (iZ z16), .ref a17, .int (iZ R9), .ref a19, .ref a20, .ref a21, .ref a22, .ref a23, .ref a24, .int (iZ nb2), .ref a26, .ref a27, .ref a28, .int (iZ z29), .int (iZ z30), .int (iZ z31), .int (iZ z32), .int (iZ z33), .int (iZ z34), .ref a35, .ref a36, .ref a37, .ref a38, .ref a39, .ref a40, .ref a41, .int (iZ z42), .int (iZ z43), .ref a44, .ref a45])), (a10, .inl (cI, 1800, .inl (zA g10))), (a12, .inl (cI, 900, .inl (zA g12))), (a13, .inl (cI, 150, .inl (zA g13))), (a15, .inl (cY, 150, .inl (zA g15))), (a17, .inl (cI, 150, .inl (zA ro))), (a20, .inl (cI, 900, .inl (zA (upZ q20 nb2 (ro r1))))), (a21, .inl (cI, 900, .inl (zA (upZ q21 nb2 k9)))), (a22, .inl (cI, 900, .inl (zA (upZ q22 nb2 ((g12 ((6 * (ro r1)) + k9)) + z3))))), (a23, .inl (cY, 900, .inl (zA (upZ q23 nb2 0)))), (a24, .inl (cY, 900, .inl (zA (upZ q24 nb2 0))))]) rfl dX5_makes_178 ?_
                          have hcc : (((g12 ((6 * (ro r1)) + k9)) + z3)) = g12 (6 * ro r1 + k9) + (if k9 = 0 then abvM g10 ro z3 r1 else 0) := by
                            unfold abvM
                            first
                            | (exfalso; omega)
                            | rw [if_neg c_153]
                            | rw [if_pos c_153, if_pos (by rcases hw with h | h; exact Or.inl h.1; exact Or.inr (fun q => c_166 (by rw [h.2, q])))]
                            | rw [if_pos c_153, if_neg (by rcases hw with h | h; · omega
                                                           · (intro q; rcases q with q | q; · omega
                                                              · (apply q; rw [c_166, h.2])))]
                          have hdd : (0 : Int) = mbZ (g13 (ro r1)) k9 (g12 (6 * ro r1 + k9)) := by unfold mbZ; first | (exfalso; omega) | (rw [if_pos (by omega)]; done) | (rw [if_neg (by omega)]; done)
                          have hff : (0 : Int) = mlZ (g13 (ro r1)) k9 := by unfold mlZ; first | (exfalso; omega) | (rw [if_pos (by omega)]; done) | (rw [if_neg (by omega)]; done)
                          have G1 : gatMA (upZ q20 nb2 (ro r1)) (upZ q21 nb2 k9) (upZ q22 nb2 ((g12 ((6 * (ro r1)) + k9)) + z3)) (upZ q23 nb2 0) (upZ q24 nb2 0) g10 g12 g13 ro z3 r1 := fun i t h1 h2 h3 h4 => gatM_up (hgb i t h1 h2 h3 h4) (by
                            have q1 := off_lt r1.toNat i.toNat t hsn (by omega) (by rw [show ((i.toNat : Nat) : Int) = i by omega]; exact h4)
                            omega)
                          have G2 : ∀ t : Int, 0 ≤ t → t < k9 + 1 → gatM (upZ q20 nb2 (ro r1)) (upZ q21 nb2 k9) (upZ q22 nb2 ((g12 ((6 * (ro r1)) + k9)) + z3)) (upZ q23 nb2 0) (upZ q24 nb2 0) g10 g12 g13 ro z3 r1 t := fun t h1 h2 => by
                            rcases (show t = k9 ∨ t < k9 by omega) with h | h
                            · rw [h]; exact gatM_new hn2 rfl rfl hcc hdd hff
                            · exact gatM_up (hgc t h1 h) (by omega)
                          have hab9 : 0 ≤ abvM g10 ro z3 r1 ∧ abvM g10 ro z3 r1 ≤ 3 := by unfold abvM; split <;> omega
                          have hv22 : 0 ≤ (((g12 ((6 * (ro r1)) + k9)) + z3)) ∧ (((g12 ((6 * (ro r1)) + k9)) + z3)) ≤ 23 := by rw [hcc]; split <;> omega
                          have hs20 := upZ_all (k := nb2) (v := (ro r1)) (fun x => 0 ≤ x ∧ x < 150) hq20 (by omega)
                          have hs21 := upZ_all (k := nb2) (v := k9) (fun x => 0 ≤ x ∧ x < 6) hq21 (by omega)
                          have hs22 := upZ_all (k := nb2) (v := ((g12 ((6 * (ro r1)) + k9)) + z3)) (fun x => 0 ≤ x ∧ x ≤ 23) hq22 hv22
                          have hs23 := upZ_all (k := nb2) (v := 0) (fun x => x = 0 ∨ x = 1) hq23 (by omega)
                          have hs24 := upZ_all (k := nb2) (v := 0) (fun x => x = 0 ∨ x = 1) hq24 (by omega)
                          refine g_aload_n X 1 dX5_makes_179 rfl rfl ?_
                          refine g_dup X dX5_makes_180 rfl ?_
                          refine g_get X (index := 158) (ref := "GuideWordsModel") hin5 0 rfl rfl 25 (by decide) rfl (by decide +kernel) (v := .int (iZ nb2)) rfl dX5_makes_181 ?_
                          refine g_iconst X dX5_makes_184 ?_
                          refine g_iadd X dX5_makes_185 ?_
                          refine g_put X (index := 158) (ref := "GuideWordsModel") hin5 0 rfl rfl 25 (by decide) rfl tyX5 tyX5_ok nmX5 (by decide +kernel) rfl rfl rfl rfl (Nat.le_of_ble_eq_true rfl) (ws2 := [(m0, .inr (5, [.int (iZ z0), .int (iZ z1), .int (iZ z2), .int (iZ z3), .int (iZ z4), .int (iZ z5), .ref a6, .int (iZ z7), .ref a8, .int (iZ z9), .ref a10, .ref a11, .ref a12, .ref a13, .ref a14, .ref a15, .int (iZ z16), .ref a17, .int (iZ R9), .ref a19, .ref a20, .ref a21, .ref a22, .ref a23, .ref a24, .int (iZ (nb2 + 1)), .ref a26, .ref a27, .ref a28, .int (iZ z29), .int (iZ z30), .int (iZ z31), .int (iZ z32), .int (iZ z33), .int (iZ z34), .ref a35, .ref a36, .ref a37, .ref a38, .ref a39, .ref a40, .ref a41, .int (iZ z42), .int (iZ z43), .ref a44, .ref a45])), (a10, .inl (cI, 1800, .inl (zA g10))), (a12, .inl (cI, 900, .inl (zA g12))), (a13, .inl (cI, 150, .inl (zA g13))), (a15, .inl (cY, 150, .inl (zA g15))), (a17, .inl (cI, 150, .inl (zA ro))), (a20, .inl (cI, 900, .inl (zA (upZ q20 nb2 (ro r1))))), (a21, .inl (cI, 900, .inl (zA (upZ q21 nb2 k9)))), (a22, .inl (cI, 900, .inl (zA (upZ q22 nb2 ((g12 ((6 * (ro r1)) + k9)) + z3))))), (a23, .inl (cY, 900, .inl (zA (upZ q23 nb2 0)))), (a24, .inl (cY, 900, .inl (zA (upZ q24 nb2 0))))]) rfl dX5_makes_186 ?_
                          refine g_iinc (q := 5) (lv2 := [(4, .int (iZ (k9 + 1))), (5, .int (iZ (g12 ((6 * (ro r1)) + k9)))), (0, .ref m0), (1, .int (iZ was)), (2, .int (iZ r1)), (3, .int (iZ (ro r1)))]) X dX5_makes_189 rfl (by decide) rfl ?_
                          refine g_goto X 31 dX5_makes_192 (by decide) ?_
                          refine g_lv (lv' := [(0, .ref m0), (1, .int (iZ was)), (2, .int (iZ r1)), (3, .int (iZ (ro r1))), (4, .int (iZ (k9 + 1)))]) [2, 3, 4, 5, 0] rfl ?_
                          exact ih_31 (k9 + 1) (nb2 + 1) (upZ q20 nb2 (ro r1)) (upZ q21 nb2 k9) (upZ q22 nb2 ((g12 ((6 * (ro r1)) + k9)) + z3)) (upZ q23 nb2 0) (upZ q24 nb2 0) (by omega) (by omega) G1 G2 hs20 hs21 hs22 hs23 hs24 (by omega)
                    · skip
                      refine g_iconst X dX5_makes_135 ?_
                      refine g_goto X 140 dX5_makes_136 (by decide) ?_
                      refine g_zast X 9 3 rfl rfl (by omega) (by decide) (by omega) (ws2 := [(m0, .inr (5, [.int (iZ z0), .int (iZ z1), .int (iZ z2), .int (iZ z3), .int (iZ z4), .int (iZ z5), .ref a6, .int (iZ z7), .ref a8, .int (iZ z9), .ref a10, .ref a11, .ref a12, .ref a13, .ref a14, .ref a15, .int (iZ z16), .ref a17, .int (iZ R9), .ref a19, .ref a20, .ref a21, .ref a22, .ref a23, .ref a24, .int (iZ nb2), .ref a26, .ref a27, .ref a28, .int (iZ z29), .int (iZ z30), .int (iZ z31), .int (iZ z32), .int (iZ z33), .int (iZ z34), .ref a35, .ref a36, .ref a37, .ref a38, .ref a39, .ref a40, .ref a41, .int (iZ z42), .int (iZ z43), .ref a44, .ref a45])), (a10, .inl (cI, 1800, .inl (zA g10))), (a12, .inl (cI, 900, .inl (zA g12))), (a13, .inl (cI, 150, .inl (zA g13))), (a15, .inl (cY, 150, .inl (zA g15))), (a17, .inl (cI, 150, .inl (zA ro))), (a20, .inl (cI, 900, .inl (zA (upZ q20 nb2 (ro r1))))), (a21, .inl (cI, 900, .inl (zA (upZ q21 nb2 k9)))), (a22, .inl (cI, 900, .inl (zA q22))), (a23, .inl (cY, 900, .inl (zA (upZ q23 nb2 1)))), (a24, .inl (cY, 900, .inl (zA (upZ q24 nb2 0))))]) rfl dX5_makes_140 ?_
                      refine g_aload_n X 1 dX5_makes_141 rfl rfl ?_
                      refine g_get X (index := 64) (ref := "GuideWordsModel") hin5 0 rfl rfl 22 (by decide) rfl (by decide +kernel) (v := .ref a22) rfl dX5_makes_142 ?_
                      refine g_aload_n X 1 dX5_makes_145 rfl rfl ?_
                      refine g_get X (index := 158) (ref := "GuideWordsModel") hin5 0 rfl rfl 25 (by decide) rfl (by decide +kernel) (v := .int (iZ nb2)) rfl dX5_makes_146 ?_
                      refine g_iload X 0 dX5_makes_149 rfl ?_
                      refine g_iload X 5 dX5_makes_151 rfl ?_
                      refine g_if_ne X 176 dX5_makes_153 (by decide) (by omega) (fun c_153 => ?_) (fun c_153 => ?_)
                      · skip
                        refine g_iconst X dX5_makes_176 ?_
                        refine g_iadd X dX5_makes_177 ?_
                        refine g_iast X 8 1 rfl rfl (by omega) (by decide) (ws2 := [(m0, .inr (5, [.int (iZ z0), .int (iZ z1), .int (iZ z2), .int (iZ z3), .int (iZ z4), .int (iZ z5), .ref a6, .int (iZ z7), .ref a8, .int (iZ z9), .ref a10, .ref a11, .ref a12, .ref a13, .ref a14, .ref a15, .int (iZ z16), .ref a17, .int (iZ R9), .ref a19, .ref a20, .ref a21, .ref a22, .ref a23, .ref a24, .int (iZ nb2), .ref a26, .ref a27, .ref a28, .int (iZ z29), .int (iZ z30), .int (iZ z31), .int (iZ z32), .int (iZ z33), .int (iZ z34), .ref a35, .ref a36, .ref a37, .ref a38, .ref a39, .ref a40, .ref a41, .int (iZ z42), .int (iZ z43), .ref a44, .ref a45])), (a10, .inl (cI, 1800, .inl (zA g10))), (a12, .inl (cI, 900, .inl (zA g12))), (a13, .inl (cI, 150, .inl (zA g13))), (a15, .inl (cY, 150, .inl (zA g15))), (a17, .inl (cI, 150, .inl (zA ro))), (a20, .inl (cI, 900, .inl (zA (upZ q20 nb2 (ro r1))))), (a21, .inl (cI, 900, .inl (zA (upZ q21 nb2 k9)))), (a22, .inl (cI, 900, .inl (zA (upZ q22 nb2 ((g12 ((6 * (ro r1)) + k9)) + 0))))), (a23, .inl (cY, 900, .inl (zA (upZ q23 nb2 1)))), (a24, .inl (cY, 900, .inl (zA (upZ q24 nb2 0))))]) rfl dX5_makes_178 ?_
                        have hcc : (((g12 ((6 * (ro r1)) + k9)) + 0)) = g12 (6 * ro r1 + k9) + (if k9 = 0 then abvM g10 ro z3 r1 else 0) := by
                          unfold abvM
                          first
                          | (exfalso; omega)
                          | rw [if_neg c_153]
                          | rw [if_pos c_153, if_pos (by rcases hw with h | h; exact Or.inl h.1; exact Or.inr (fun q => c_166 (by rw [h.2, q])))]
                          | rw [if_pos c_153, if_neg (by rcases hw with h | h; · omega
                                                         · (intro q; rcases q with q | q; · omega
                                                            · (apply q; rw [c_166, h.2])))]
                        have hdd : (1 : Int) = mbZ (g13 (ro r1)) k9 (g12 (6 * ro r1 + k9)) := by unfold mbZ; first | (exfalso; omega) | (rw [if_pos (by omega)]; done) | (rw [if_neg (by omega)]; done)
                        have hff : (0 : Int) = mlZ (g13 (ro r1)) k9 := by unfold mlZ; first | (exfalso; omega) | (rw [if_pos (by omega)]; done) | (rw [if_neg (by omega)]; done)
                        have G1 : gatMA (upZ q20 nb2 (ro r1)) (upZ q21 nb2 k9) (upZ q22 nb2 ((g12 ((6 * (ro r1)) + k9)) + 0)) (upZ q23 nb2 1) (upZ q24 nb2 0) g10 g12 g13 ro z3 r1 := fun i t h1 h2 h3 h4 => gatM_up (hgb i t h1 h2 h3 h4) (by
                          have q1 := off_lt r1.toNat i.toNat t hsn (by omega) (by rw [show ((i.toNat : Nat) : Int) = i by omega]; exact h4)
                          omega)
                        have G2 : ∀ t : Int, 0 ≤ t → t < k9 + 1 → gatM (upZ q20 nb2 (ro r1)) (upZ q21 nb2 k9) (upZ q22 nb2 ((g12 ((6 * (ro r1)) + k9)) + 0)) (upZ q23 nb2 1) (upZ q24 nb2 0) g10 g12 g13 ro z3 r1 t := fun t h1 h2 => by
                          rcases (show t = k9 ∨ t < k9 by omega) with h | h
                          · rw [h]; exact gatM_new hn2 rfl rfl hcc hdd hff
                          · exact gatM_up (hgc t h1 h) (by omega)
                        have hab9 : 0 ≤ abvM g10 ro z3 r1 ∧ abvM g10 ro z3 r1 ≤ 3 := by unfold abvM; split <;> omega
                        have hv22 : 0 ≤ (((g12 ((6 * (ro r1)) + k9)) + 0)) ∧ (((g12 ((6 * (ro r1)) + k9)) + 0)) ≤ 23 := by rw [hcc]; split <;> omega
                        have hs20 := upZ_all (k := nb2) (v := (ro r1)) (fun x => 0 ≤ x ∧ x < 150) hq20 (by omega)
                        have hs21 := upZ_all (k := nb2) (v := k9) (fun x => 0 ≤ x ∧ x < 6) hq21 (by omega)
                        have hs22 := upZ_all (k := nb2) (v := ((g12 ((6 * (ro r1)) + k9)) + 0)) (fun x => 0 ≤ x ∧ x ≤ 23) hq22 hv22
                        have hs23 := upZ_all (k := nb2) (v := 1) (fun x => x = 0 ∨ x = 1) hq23 (by omega)
                        have hs24 := upZ_all (k := nb2) (v := 0) (fun x => x = 0 ∨ x = 1) hq24 (by omega)
                        refine g_aload_n X 1 dX5_makes_179 rfl rfl ?_
                        refine g_dup X dX5_makes_180 rfl ?_
                        refine g_get X (index := 158) (ref := "GuideWordsModel") hin5 0 rfl rfl 25 (by decide) rfl (by decide +kernel) (v := .int (iZ nb2)) rfl dX5_makes_181 ?_
                        refine g_iconst X dX5_makes_184 ?_
                        refine g_iadd X dX5_makes_185 ?_
                        refine g_put X (index := 158) (ref := "GuideWordsModel") hin5 0 rfl rfl 25 (by decide) rfl tyX5 tyX5_ok nmX5 (by decide +kernel) rfl rfl rfl rfl (Nat.le_of_ble_eq_true rfl) (ws2 := [(m0, .inr (5, [.int (iZ z0), .int (iZ z1), .int (iZ z2), .int (iZ z3), .int (iZ z4), .int (iZ z5), .ref a6, .int (iZ z7), .ref a8, .int (iZ z9), .ref a10, .ref a11, .ref a12, .ref a13, .ref a14, .ref a15, .int (iZ z16), .ref a17, .int (iZ R9), .ref a19, .ref a20, .ref a21, .ref a22, .ref a23, .ref a24, .int (iZ (nb2 + 1)), .ref a26, .ref a27, .ref a28, .int (iZ z29), .int (iZ z30), .int (iZ z31), .int (iZ z32), .int (iZ z33), .int (iZ z34), .ref a35, .ref a36, .ref a37, .ref a38, .ref a39, .ref a40, .ref a41, .int (iZ z42), .int (iZ z43), .ref a44, .ref a45])), (a10, .inl (cI, 1800, .inl (zA g10))), (a12, .inl (cI, 900, .inl (zA g12))), (a13, .inl (cI, 150, .inl (zA g13))), (a15, .inl (cY, 150, .inl (zA g15))), (a17, .inl (cI, 150, .inl (zA ro))), (a20, .inl (cI, 900, .inl (zA (upZ q20 nb2 (ro r1))))), (a21, .inl (cI, 900, .inl (zA (upZ q21 nb2 k9)))), (a22, .inl (cI, 900, .inl (zA (upZ q22 nb2 ((g12 ((6 * (ro r1)) + k9)) + 0))))), (a23, .inl (cY, 900, .inl (zA (upZ q23 nb2 1)))), (a24, .inl (cY, 900, .inl (zA (upZ q24 nb2 0))))]) rfl dX5_makes_186 ?_
                        refine g_iinc (q := 5) (lv2 := [(4, .int (iZ (k9 + 1))), (5, .int (iZ (g12 ((6 * (ro r1)) + k9)))), (0, .ref m0), (1, .int (iZ was)), (2, .int (iZ r1)), (3, .int (iZ (ro r1)))]) X dX5_makes_189 rfl (by decide) rfl ?_
                        refine g_goto X 31 dX5_makes_192 (by decide) ?_
                        refine g_lv (lv' := [(0, .ref m0), (1, .int (iZ was)), (2, .int (iZ r1)), (3, .int (iZ (ro r1))), (4, .int (iZ (k9 + 1)))]) [2, 3, 4, 5, 0] rfl ?_
                        exact ih_31 (k9 + 1) (nb2 + 1) (upZ q20 nb2 (ro r1)) (upZ q21 nb2 k9) (upZ q22 nb2 ((g12 ((6 * (ro r1)) + k9)) + 0)) (upZ q23 nb2 1) (upZ q24 nb2 0) (by omega) (by omega) G1 G2 hs20 hs21 hs22 hs23 hs24 (by omega)
                      · skip
                        refine g_aload_n X 1 dX5_makes_156 rfl rfl ?_
                        refine g_get X (index := 33) (ref := "GuideWordsModel") hin5 0 rfl rfl 10 (by decide) rfl (by decide +kernel) (v := .ref a10) rfl dX5_makes_157 ?_
                        refine g_bipush X dX5_makes_160 (by decide) ?_
                        refine g_iload_n X 4 dX5_makes_162 rfl rfl ?_
                        refine g_imul X dX5_makes_163 ?_
                        refine g_iald X 1 1 rfl rfl (by omega) (by decide) dX5_makes_164 ?_
                        have r_164 := h10r (12 * (ro r1)) (by omega)
                        refine g_iload_n X 2 dX5_makes_165 rfl rfl ?_
                        refine g_icmp_eq X 176 dX5_makes_166 (by decide) (by omega) (by omega) (fun c_166 => ?_) (fun c_166 => ?_)
                        · skip
                          refine g_iconst X dX5_makes_176 ?_
                          refine g_iadd X dX5_makes_177 ?_
                          refine g_iast X 8 1 rfl rfl (by omega) (by decide) (ws2 := [(m0, .inr (5, [.int (iZ z0), .int (iZ z1), .int (iZ z2), .int (iZ z3), .int (iZ z4), .int (iZ z5), .ref a6, .int (iZ z7), .ref a8, .int (iZ z9), .ref a10, .ref a11, .ref a12, .ref a13, .ref a14, .ref a15, .int (iZ z16), .ref a17, .int (iZ R9), .ref a19, .ref a20, .ref a21, .ref a22, .ref a23, .ref a24, .int (iZ nb2), .ref a26, .ref a27, .ref a28, .int (iZ z29), .int (iZ z30), .int (iZ z31), .int (iZ z32), .int (iZ z33), .int (iZ z34), .ref a35, .ref a36, .ref a37, .ref a38, .ref a39, .ref a40, .ref a41, .int (iZ z42), .int (iZ z43), .ref a44, .ref a45])), (a10, .inl (cI, 1800, .inl (zA g10))), (a12, .inl (cI, 900, .inl (zA g12))), (a13, .inl (cI, 150, .inl (zA g13))), (a15, .inl (cY, 150, .inl (zA g15))), (a17, .inl (cI, 150, .inl (zA ro))), (a20, .inl (cI, 900, .inl (zA (upZ q20 nb2 (ro r1))))), (a21, .inl (cI, 900, .inl (zA (upZ q21 nb2 k9)))), (a22, .inl (cI, 900, .inl (zA (upZ q22 nb2 ((g12 ((6 * (ro r1)) + k9)) + 0))))), (a23, .inl (cY, 900, .inl (zA (upZ q23 nb2 1)))), (a24, .inl (cY, 900, .inl (zA (upZ q24 nb2 0))))]) rfl dX5_makes_178 ?_
                          have hcc : (((g12 ((6 * (ro r1)) + k9)) + 0)) = g12 (6 * ro r1 + k9) + (if k9 = 0 then abvM g10 ro z3 r1 else 0) := by
                            unfold abvM
                            first
                            | (exfalso; omega)
                            | rw [if_neg c_153]
                            | rw [if_pos c_153, if_pos (by rcases hw with h | h; exact Or.inl h.1; exact Or.inr (fun q => c_166 (by rw [h.2, q])))]
                            | rw [if_pos c_153, if_neg (by rcases hw with h | h; · omega
                                                           · (intro q; rcases q with q | q; · omega
                                                              · (apply q; rw [c_166, h.2])))]
                          have hdd : (1 : Int) = mbZ (g13 (ro r1)) k9 (g12 (6 * ro r1 + k9)) := by unfold mbZ; first | (exfalso; omega) | (rw [if_pos (by omega)]; done) | (rw [if_neg (by omega)]; done)
                          have hff : (0 : Int) = mlZ (g13 (ro r1)) k9 := by unfold mlZ; first | (exfalso; omega) | (rw [if_pos (by omega)]; done) | (rw [if_neg (by omega)]; done)
                          have G1 : gatMA (upZ q20 nb2 (ro r1)) (upZ q21 nb2 k9) (upZ q22 nb2 ((g12 ((6 * (ro r1)) + k9)) + 0)) (upZ q23 nb2 1) (upZ q24 nb2 0) g10 g12 g13 ro z3 r1 := fun i t h1 h2 h3 h4 => gatM_up (hgb i t h1 h2 h3 h4) (by
                            have q1 := off_lt r1.toNat i.toNat t hsn (by omega) (by rw [show ((i.toNat : Nat) : Int) = i by omega]; exact h4)
                            omega)
                          have G2 : ∀ t : Int, 0 ≤ t → t < k9 + 1 → gatM (upZ q20 nb2 (ro r1)) (upZ q21 nb2 k9) (upZ q22 nb2 ((g12 ((6 * (ro r1)) + k9)) + 0)) (upZ q23 nb2 1) (upZ q24 nb2 0) g10 g12 g13 ro z3 r1 t := fun t h1 h2 => by
                            rcases (show t = k9 ∨ t < k9 by omega) with h | h
                            · rw [h]; exact gatM_new hn2 rfl rfl hcc hdd hff
                            · exact gatM_up (hgc t h1 h) (by omega)
                          have hab9 : 0 ≤ abvM g10 ro z3 r1 ∧ abvM g10 ro z3 r1 ≤ 3 := by unfold abvM; split <;> omega
                          have hv22 : 0 ≤ (((g12 ((6 * (ro r1)) + k9)) + 0)) ∧ (((g12 ((6 * (ro r1)) + k9)) + 0)) ≤ 23 := by rw [hcc]; split <;> omega
                          have hs20 := upZ_all (k := nb2) (v := (ro r1)) (fun x => 0 ≤ x ∧ x < 150) hq20 (by omega)
                          have hs21 := upZ_all (k := nb2) (v := k9) (fun x => 0 ≤ x ∧ x < 6) hq21 (by omega)
                          have hs22 := upZ_all (k := nb2) (v := ((g12 ((6 * (ro r1)) + k9)) + 0)) (fun x => 0 ≤ x ∧ x ≤ 23) hq22 hv22
                          have hs23 := upZ_all (k := nb2) (v := 1) (fun x => x = 0 ∨ x = 1) hq23 (by omega)
                          have hs24 := upZ_all (k := nb2) (v := 0) (fun x => x = 0 ∨ x = 1) hq24 (by omega)
                          refine g_aload_n X 1 dX5_makes_179 rfl rfl ?_
                          refine g_dup X dX5_makes_180 rfl ?_
                          refine g_get X (index := 158) (ref := "GuideWordsModel") hin5 0 rfl rfl 25 (by decide) rfl (by decide +kernel) (v := .int (iZ nb2)) rfl dX5_makes_181 ?_
                          refine g_iconst X dX5_makes_184 ?_
                          refine g_iadd X dX5_makes_185 ?_
                          refine g_put X (index := 158) (ref := "GuideWordsModel") hin5 0 rfl rfl 25 (by decide) rfl tyX5 tyX5_ok nmX5 (by decide +kernel) rfl rfl rfl rfl (Nat.le_of_ble_eq_true rfl) (ws2 := [(m0, .inr (5, [.int (iZ z0), .int (iZ z1), .int (iZ z2), .int (iZ z3), .int (iZ z4), .int (iZ z5), .ref a6, .int (iZ z7), .ref a8, .int (iZ z9), .ref a10, .ref a11, .ref a12, .ref a13, .ref a14, .ref a15, .int (iZ z16), .ref a17, .int (iZ R9), .ref a19, .ref a20, .ref a21, .ref a22, .ref a23, .ref a24, .int (iZ (nb2 + 1)), .ref a26, .ref a27, .ref a28, .int (iZ z29), .int (iZ z30), .int (iZ z31), .int (iZ z32), .int (iZ z33), .int (iZ z34), .ref a35, .ref a36, .ref a37, .ref a38, .ref a39, .ref a40, .ref a41, .int (iZ z42), .int (iZ z43), .ref a44, .ref a45])), (a10, .inl (cI, 1800, .inl (zA g10))), (a12, .inl (cI, 900, .inl (zA g12))), (a13, .inl (cI, 150, .inl (zA g13))), (a15, .inl (cY, 150, .inl (zA g15))), (a17, .inl (cI, 150, .inl (zA ro))), (a20, .inl (cI, 900, .inl (zA (upZ q20 nb2 (ro r1))))), (a21, .inl (cI, 900, .inl (zA (upZ q21 nb2 k9)))), (a22, .inl (cI, 900, .inl (zA (upZ q22 nb2 ((g12 ((6 * (ro r1)) + k9)) + 0))))), (a23, .inl (cY, 900, .inl (zA (upZ q23 nb2 1)))), (a24, .inl (cY, 900, .inl (zA (upZ q24 nb2 0))))]) rfl dX5_makes_186 ?_
                          refine g_iinc (q := 5) (lv2 := [(4, .int (iZ (k9 + 1))), (5, .int (iZ (g12 ((6 * (ro r1)) + k9)))), (0, .ref m0), (1, .int (iZ was)), (2, .int (iZ r1)), (3, .int (iZ (ro r1)))]) X dX5_makes_189 rfl (by decide) rfl ?_
                          refine g_goto X 31 dX5_makes_192 (by decide) ?_
                          refine g_lv (lv' := [(0, .ref m0), (1, .int (iZ was)), (2, .int (iZ r1)), (3, .int (iZ (ro r1))), (4, .int (iZ (k9 + 1)))]) [2, 3, 4, 5, 0] rfl ?_
                          exact ih_31 (k9 + 1) (nb2 + 1) (upZ q20 nb2 (ro r1)) (upZ q21 nb2 k9) (upZ q22 nb2 ((g12 ((6 * (ro r1)) + k9)) + 0)) (upZ q23 nb2 1) (upZ q24 nb2 0) (by omega) (by omega) G1 G2 hs20 hs21 hs22 hs23 hs24 (by omega)
                        · skip
                          refine g_aload_n X 1 dX5_makes_169 rfl rfl ?_
                          refine g_get X (index := 16) (ref := "GuideWordsModel") hin5 0 rfl rfl 3 (by decide) rfl (by decide +kernel) (v := .int (iZ z3)) rfl dX5_makes_170 ?_
                          refine g_goto X 177 dX5_makes_173 (by decide) ?_
                          refine g_iadd X dX5_makes_177 ?_
                          refine g_iast X 8 1 rfl rfl (by omega) (by decide) (ws2 := [(m0, .inr (5, [.int (iZ z0), .int (iZ z1), .int (iZ z2), .int (iZ z3), .int (iZ z4), .int (iZ z5), .ref a6, .int (iZ z7), .ref a8, .int (iZ z9), .ref a10, .ref a11, .ref a12, .ref a13, .ref a14, .ref a15, .int (iZ z16), .ref a17, .int (iZ R9), .ref a19, .ref a20, .ref a21, .ref a22, .ref a23, .ref a24, .int (iZ nb2), .ref a26, .ref a27, .ref a28, .int (iZ z29), .int (iZ z30), .int (iZ z31), .int (iZ z32), .int (iZ z33), .int (iZ z34), .ref a35, .ref a36, .ref a37, .ref a38, .ref a39, .ref a40, .ref a41, .int (iZ z42), .int (iZ z43), .ref a44, .ref a45])), (a10, .inl (cI, 1800, .inl (zA g10))), (a12, .inl (cI, 900, .inl (zA g12))), (a13, .inl (cI, 150, .inl (zA g13))), (a15, .inl (cY, 150, .inl (zA g15))), (a17, .inl (cI, 150, .inl (zA ro))), (a20, .inl (cI, 900, .inl (zA (upZ q20 nb2 (ro r1))))), (a21, .inl (cI, 900, .inl (zA (upZ q21 nb2 k9)))), (a22, .inl (cI, 900, .inl (zA (upZ q22 nb2 ((g12 ((6 * (ro r1)) + k9)) + z3))))), (a23, .inl (cY, 900, .inl (zA (upZ q23 nb2 1)))), (a24, .inl (cY, 900, .inl (zA (upZ q24 nb2 0))))]) rfl dX5_makes_178 ?_
                          have hcc : (((g12 ((6 * (ro r1)) + k9)) + z3)) = g12 (6 * ro r1 + k9) + (if k9 = 0 then abvM g10 ro z3 r1 else 0) := by
                            unfold abvM
                            first
                            | (exfalso; omega)
                            | rw [if_neg c_153]
                            | rw [if_pos c_153, if_pos (by rcases hw with h | h; exact Or.inl h.1; exact Or.inr (fun q => c_166 (by rw [h.2, q])))]
                            | rw [if_pos c_153, if_neg (by rcases hw with h | h; · omega
                                                           · (intro q; rcases q with q | q; · omega
                                                              · (apply q; rw [c_166, h.2])))]
                          have hdd : (1 : Int) = mbZ (g13 (ro r1)) k9 (g12 (6 * ro r1 + k9)) := by unfold mbZ; first | (exfalso; omega) | (rw [if_pos (by omega)]; done) | (rw [if_neg (by omega)]; done)
                          have hff : (0 : Int) = mlZ (g13 (ro r1)) k9 := by unfold mlZ; first | (exfalso; omega) | (rw [if_pos (by omega)]; done) | (rw [if_neg (by omega)]; done)
                          have G1 : gatMA (upZ q20 nb2 (ro r1)) (upZ q21 nb2 k9) (upZ q22 nb2 ((g12 ((6 * (ro r1)) + k9)) + z3)) (upZ q23 nb2 1) (upZ q24 nb2 0) g10 g12 g13 ro z3 r1 := fun i t h1 h2 h3 h4 => gatM_up (hgb i t h1 h2 h3 h4) (by
                            have q1 := off_lt r1.toNat i.toNat t hsn (by omega) (by rw [show ((i.toNat : Nat) : Int) = i by omega]; exact h4)
                            omega)
                          have G2 : ∀ t : Int, 0 ≤ t → t < k9 + 1 → gatM (upZ q20 nb2 (ro r1)) (upZ q21 nb2 k9) (upZ q22 nb2 ((g12 ((6 * (ro r1)) + k9)) + z3)) (upZ q23 nb2 1) (upZ q24 nb2 0) g10 g12 g13 ro z3 r1 t := fun t h1 h2 => by
                            rcases (show t = k9 ∨ t < k9 by omega) with h | h
                            · rw [h]; exact gatM_new hn2 rfl rfl hcc hdd hff
                            · exact gatM_up (hgc t h1 h) (by omega)
                          have hab9 : 0 ≤ abvM g10 ro z3 r1 ∧ abvM g10 ro z3 r1 ≤ 3 := by unfold abvM; split <;> omega
                          have hv22 : 0 ≤ (((g12 ((6 * (ro r1)) + k9)) + z3)) ∧ (((g12 ((6 * (ro r1)) + k9)) + z3)) ≤ 23 := by rw [hcc]; split <;> omega
                          have hs20 := upZ_all (k := nb2) (v := (ro r1)) (fun x => 0 ≤ x ∧ x < 150) hq20 (by omega)
                          have hs21 := upZ_all (k := nb2) (v := k9) (fun x => 0 ≤ x ∧ x < 6) hq21 (by omega)
                          have hs22 := upZ_all (k := nb2) (v := ((g12 ((6 * (ro r1)) + k9)) + z3)) (fun x => 0 ≤ x ∧ x ≤ 23) hq22 hv22
                          have hs23 := upZ_all (k := nb2) (v := 1) (fun x => x = 0 ∨ x = 1) hq23 (by omega)
                          have hs24 := upZ_all (k := nb2) (v := 0) (fun x => x = 0 ∨ x = 1) hq24 (by omega)
                          refine g_aload_n X 1 dX5_makes_179 rfl rfl ?_
                          refine g_dup X dX5_makes_180 rfl ?_
                          refine g_get X (index := 158) (ref := "GuideWordsModel") hin5 0 rfl rfl 25 (by decide) rfl (by decide +kernel) (v := .int (iZ nb2)) rfl dX5_makes_181 ?_
                          refine g_iconst X dX5_makes_184 ?_
                          refine g_iadd X dX5_makes_185 ?_
                          refine g_put X (index := 158) (ref := "GuideWordsModel") hin5 0 rfl rfl 25 (by decide) rfl tyX5 tyX5_ok nmX5 (by decide +kernel) rfl rfl rfl rfl (Nat.le_of_ble_eq_true rfl) (ws2 := [(m0, .inr (5, [.int (iZ z0), .int (iZ z1), .int (iZ z2), .int (iZ z3), .int (iZ z4), .int (iZ z5), .ref a6, .int (iZ z7), .ref a8, .int (iZ z9), .ref a10, .ref a11, .ref a12, .ref a13, .ref a14, .ref a15, .int (iZ z16), .ref a17, .int (iZ R9), .ref a19, .ref a20, .ref a21, .ref a22, .ref a23, .ref a24, .int (iZ (nb2 + 1)), .ref a26, .ref a27, .ref a28, .int (iZ z29), .int (iZ z30), .int (iZ z31), .int (iZ z32), .int (iZ z33), .int (iZ z34), .ref a35, .ref a36, .ref a37, .ref a38, .ref a39, .ref a40, .ref a41, .int (iZ z42), .int (iZ z43), .ref a44, .ref a45])), (a10, .inl (cI, 1800, .inl (zA g10))), (a12, .inl (cI, 900, .inl (zA g12))), (a13, .inl (cI, 150, .inl (zA g13))), (a15, .inl (cY, 150, .inl (zA g15))), (a17, .inl (cI, 150, .inl (zA ro))), (a20, .inl (cI, 900, .inl (zA (upZ q20 nb2 (ro r1))))), (a21, .inl (cI, 900, .inl (zA (upZ q21 nb2 k9)))), (a22, .inl (cI, 900, .inl (zA (upZ q22 nb2 ((g12 ((6 * (ro r1)) + k9)) + z3))))), (a23, .inl (cY, 900, .inl (zA (upZ q23 nb2 1)))), (a24, .inl (cY, 900, .inl (zA (upZ q24 nb2 0))))]) rfl dX5_makes_186 ?_
                          refine g_iinc (q := 5) (lv2 := [(4, .int (iZ (k9 + 1))), (5, .int (iZ (g12 ((6 * (ro r1)) + k9)))), (0, .ref m0), (1, .int (iZ was)), (2, .int (iZ r1)), (3, .int (iZ (ro r1)))]) X dX5_makes_189 rfl (by decide) rfl ?_
                          refine g_goto X 31 dX5_makes_192 (by decide) ?_
                          refine g_lv (lv' := [(0, .ref m0), (1, .int (iZ was)), (2, .int (iZ r1)), (3, .int (iZ (ro r1))), (4, .int (iZ (k9 + 1)))]) [2, 3, 4, 5, 0] rfl ?_
                          exact ih_31 (k9 + 1) (nb2 + 1) (upZ q20 nb2 (ro r1)) (upZ q21 nb2 k9) (upZ q22 nb2 ((g12 ((6 * (ro r1)) + k9)) + z3)) (upZ q23 nb2 1) (upZ q24 nb2 0) (by omega) (by omega) G1 G2 hs20 hs21 hs22 hs23 hs24 (by omega)
              · skip
                refine g_iconst X dX5_makes_98 ?_
                refine g_goto X 103 dX5_makes_99 (by decide) ?_
                refine g_zast X 10 3 rfl rfl (by omega) (by decide) (by omega) (ws2 := [(m0, .inr (5, [.int (iZ z0), .int (iZ z1), .int (iZ z2), .int (iZ z3), .int (iZ z4), .int (iZ z5), .ref a6, .int (iZ z7), .ref a8, .int (iZ z9), .ref a10, .ref a11, .ref a12, .ref a13, .ref a14, .ref a15, .int (iZ z16), .ref a17, .int (iZ R9), .ref a19, .ref a20, .ref a21, .ref a22, .ref a23, .ref a24, .int (iZ nb2), .ref a26, .ref a27, .ref a28, .int (iZ z29), .int (iZ z30), .int (iZ z31), .int (iZ z32), .int (iZ z33), .int (iZ z34), .ref a35, .ref a36, .ref a37, .ref a38, .ref a39, .ref a40, .ref a41, .int (iZ z42), .int (iZ z43), .ref a44, .ref a45])), (a10, .inl (cI, 1800, .inl (zA g10))), (a12, .inl (cI, 900, .inl (zA g12))), (a13, .inl (cI, 150, .inl (zA g13))), (a15, .inl (cY, 150, .inl (zA g15))), (a17, .inl (cI, 150, .inl (zA ro))), (a20, .inl (cI, 900, .inl (zA (upZ q20 nb2 (ro r1))))), (a21, .inl (cI, 900, .inl (zA (upZ q21 nb2 k9)))), (a22, .inl (cI, 900, .inl (zA q22))), (a23, .inl (cY, 900, .inl (zA q23))), (a24, .inl (cY, 900, .inl (zA (upZ q24 nb2 1))))]) rfl dX5_makes_103 ?_
                refine g_aload_n X 1 dX5_makes_104 rfl rfl ?_
                refine g_get X (index := 67) (ref := "GuideWordsModel") hin5 0 rfl rfl 23 (by decide) rfl (by decide +kernel) (v := .ref a23) rfl dX5_makes_105 ?_
                refine g_aload_n X 1 dX5_makes_108 rfl rfl ?_
                refine g_get X (index := 158) (ref := "GuideWordsModel") hin5 0 rfl rfl 25 (by decide) rfl (by decide +kernel) (v := .int (iZ nb2)) rfl dX5_makes_109 ?_
                refine g_aload_n X 1 dX5_makes_112 rfl rfl ?_
                refine g_get X (index := 70) (ref := "GuideWordsModel") hin5 0 rfl rfl 24 (by decide) rfl (by decide +kernel) (v := .ref a24) rfl dX5_makes_113 ?_
                refine g_aload_n X 1 dX5_makes_116 rfl rfl ?_
                refine g_get X (index := 158) (ref := "GuideWordsModel") hin5 0 rfl rfl 25 (by decide) rfl (by decide +kernel) (v := .int (iZ nb2)) rfl dX5_makes_117 ?_
                refine g_zald X 10 3 rfl rfl (by omega) (by decide) dX5_makes_120 ?_
                refine g_topi (b := 1) upZ_s ?_
                refine g_if_ne X 135 dX5_makes_121 (by decide) (by omega) (fun c_121 => ?_) (fun c_121 => ?_)
                · skip
                  refine g_iconst X dX5_makes_135 ?_
                  refine g_goto X 140 dX5_makes_136 (by decide) ?_
                  refine g_zast X 9 3 rfl rfl (by omega) (by decide) (by omega) (ws2 := [(m0, .inr (5, [.int (iZ z0), .int (iZ z1), .int (iZ z2), .int (iZ z3), .int (iZ z4), .int (iZ z5), .ref a6, .int (iZ z7), .ref a8, .int (iZ z9), .ref a10, .ref a11, .ref a12, .ref a13, .ref a14, .ref a15, .int (iZ z16), .ref a17, .int (iZ R9), .ref a19, .ref a20, .ref a21, .ref a22, .ref a23, .ref a24, .int (iZ nb2), .ref a26, .ref a27, .ref a28, .int (iZ z29), .int (iZ z30), .int (iZ z31), .int (iZ z32), .int (iZ z33), .int (iZ z34), .ref a35, .ref a36, .ref a37, .ref a38, .ref a39, .ref a40, .ref a41, .int (iZ z42), .int (iZ z43), .ref a44, .ref a45])), (a10, .inl (cI, 1800, .inl (zA g10))), (a12, .inl (cI, 900, .inl (zA g12))), (a13, .inl (cI, 150, .inl (zA g13))), (a15, .inl (cY, 150, .inl (zA g15))), (a17, .inl (cI, 150, .inl (zA ro))), (a20, .inl (cI, 900, .inl (zA (upZ q20 nb2 (ro r1))))), (a21, .inl (cI, 900, .inl (zA (upZ q21 nb2 k9)))), (a22, .inl (cI, 900, .inl (zA q22))), (a23, .inl (cY, 900, .inl (zA (upZ q23 nb2 1)))), (a24, .inl (cY, 900, .inl (zA (upZ q24 nb2 1))))]) rfl dX5_makes_140 ?_
                  refine g_aload_n X 1 dX5_makes_141 rfl rfl ?_
                  refine g_get X (index := 64) (ref := "GuideWordsModel") hin5 0 rfl rfl 22 (by decide) rfl (by decide +kernel) (v := .ref a22) rfl dX5_makes_142 ?_
                  refine g_aload_n X 1 dX5_makes_145 rfl rfl ?_
                  refine g_get X (index := 158) (ref := "GuideWordsModel") hin5 0 rfl rfl 25 (by decide) rfl (by decide +kernel) (v := .int (iZ nb2)) rfl dX5_makes_146 ?_
                  refine g_iload X 0 dX5_makes_149 rfl ?_
                  refine g_iload X 5 dX5_makes_151 rfl ?_
                  refine g_if_ne X 176 dX5_makes_153 (by decide) (by omega) (fun c_153 => ?_) (fun c_153 => ?_)
                  · skip
                    refine g_iconst X dX5_makes_176 ?_
                    refine g_iadd X dX5_makes_177 ?_
                    refine g_iast X 8 1 rfl rfl (by omega) (by decide) (ws2 := [(m0, .inr (5, [.int (iZ z0), .int (iZ z1), .int (iZ z2), .int (iZ z3), .int (iZ z4), .int (iZ z5), .ref a6, .int (iZ z7), .ref a8, .int (iZ z9), .ref a10, .ref a11, .ref a12, .ref a13, .ref a14, .ref a15, .int (iZ z16), .ref a17, .int (iZ R9), .ref a19, .ref a20, .ref a21, .ref a22, .ref a23, .ref a24, .int (iZ nb2), .ref a26, .ref a27, .ref a28, .int (iZ z29), .int (iZ z30), .int (iZ z31), .int (iZ z32), .int (iZ z33), .int (iZ z34), .ref a35, .ref a36, .ref a37, .ref a38, .ref a39, .ref a40, .ref a41, .int (iZ z42), .int (iZ z43), .ref a44, .ref a45])), (a10, .inl (cI, 1800, .inl (zA g10))), (a12, .inl (cI, 900, .inl (zA g12))), (a13, .inl (cI, 150, .inl (zA g13))), (a15, .inl (cY, 150, .inl (zA g15))), (a17, .inl (cI, 150, .inl (zA ro))), (a20, .inl (cI, 900, .inl (zA (upZ q20 nb2 (ro r1))))), (a21, .inl (cI, 900, .inl (zA (upZ q21 nb2 k9)))), (a22, .inl (cI, 900, .inl (zA (upZ q22 nb2 ((g12 ((6 * (ro r1)) + k9)) + 0))))), (a23, .inl (cY, 900, .inl (zA (upZ q23 nb2 1)))), (a24, .inl (cY, 900, .inl (zA (upZ q24 nb2 1))))]) rfl dX5_makes_178 ?_
                    have hcc : (((g12 ((6 * (ro r1)) + k9)) + 0)) = g12 (6 * ro r1 + k9) + (if k9 = 0 then abvM g10 ro z3 r1 else 0) := by
                      unfold abvM
                      first
                      | (exfalso; omega)
                      | rw [if_neg c_153]
                      | rw [if_pos c_153, if_pos (by rcases hw with h | h; exact Or.inl h.1; exact Or.inr (fun q => c_166 (by rw [h.2, q])))]
                      | rw [if_pos c_153, if_neg (by rcases hw with h | h; · omega
                                                     · (intro q; rcases q with q | q; · omega
                                                        · (apply q; rw [c_166, h.2])))]
                    have hdd : (1 : Int) = mbZ (g13 (ro r1)) k9 (g12 (6 * ro r1 + k9)) := by unfold mbZ; first | (exfalso; omega) | (rw [if_pos (by omega)]; done) | (rw [if_neg (by omega)]; done)
                    have hff : (1 : Int) = mlZ (g13 (ro r1)) k9 := by unfold mlZ; first | (exfalso; omega) | (rw [if_pos (by omega)]; done) | (rw [if_neg (by omega)]; done)
                    have G1 : gatMA (upZ q20 nb2 (ro r1)) (upZ q21 nb2 k9) (upZ q22 nb2 ((g12 ((6 * (ro r1)) + k9)) + 0)) (upZ q23 nb2 1) (upZ q24 nb2 1) g10 g12 g13 ro z3 r1 := fun i t h1 h2 h3 h4 => gatM_up (hgb i t h1 h2 h3 h4) (by
                      have q1 := off_lt r1.toNat i.toNat t hsn (by omega) (by rw [show ((i.toNat : Nat) : Int) = i by omega]; exact h4)
                      omega)
                    have G2 : ∀ t : Int, 0 ≤ t → t < k9 + 1 → gatM (upZ q20 nb2 (ro r1)) (upZ q21 nb2 k9) (upZ q22 nb2 ((g12 ((6 * (ro r1)) + k9)) + 0)) (upZ q23 nb2 1) (upZ q24 nb2 1) g10 g12 g13 ro z3 r1 t := fun t h1 h2 => by
                      rcases (show t = k9 ∨ t < k9 by omega) with h | h
                      · rw [h]; exact gatM_new hn2 rfl rfl hcc hdd hff
                      · exact gatM_up (hgc t h1 h) (by omega)
                    have hab9 : 0 ≤ abvM g10 ro z3 r1 ∧ abvM g10 ro z3 r1 ≤ 3 := by unfold abvM; split <;> omega
                    have hv22 : 0 ≤ (((g12 ((6 * (ro r1)) + k9)) + 0)) ∧ (((g12 ((6 * (ro r1)) + k9)) + 0)) ≤ 23 := by rw [hcc]; split <;> omega
                    have hs20 := upZ_all (k := nb2) (v := (ro r1)) (fun x => 0 ≤ x ∧ x < 150) hq20 (by omega)
                    have hs21 := upZ_all (k := nb2) (v := k9) (fun x => 0 ≤ x ∧ x < 6) hq21 (by omega)
                    have hs22 := upZ_all (k := nb2) (v := ((g12 ((6 * (ro r1)) + k9)) + 0)) (fun x => 0 ≤ x ∧ x ≤ 23) hq22 hv22
                    have hs23 := upZ_all (k := nb2) (v := 1) (fun x => x = 0 ∨ x = 1) hq23 (by omega)
                    have hs24 := upZ_all (k := nb2) (v := 1) (fun x => x = 0 ∨ x = 1) hq24 (by omega)
                    refine g_aload_n X 1 dX5_makes_179 rfl rfl ?_
                    refine g_dup X dX5_makes_180 rfl ?_
                    refine g_get X (index := 158) (ref := "GuideWordsModel") hin5 0 rfl rfl 25 (by decide) rfl (by decide +kernel) (v := .int (iZ nb2)) rfl dX5_makes_181 ?_
                    refine g_iconst X dX5_makes_184 ?_
                    refine g_iadd X dX5_makes_185 ?_
                    refine g_put X (index := 158) (ref := "GuideWordsModel") hin5 0 rfl rfl 25 (by decide) rfl tyX5 tyX5_ok nmX5 (by decide +kernel) rfl rfl rfl rfl (Nat.le_of_ble_eq_true rfl) (ws2 := [(m0, .inr (5, [.int (iZ z0), .int (iZ z1), .int (iZ z2), .int (iZ z3), .int (iZ z4), .int (iZ z5), .ref a6, .int (iZ z7), .ref a8, .int (iZ z9), .ref a10, .ref a11, .ref a12, .ref a13, .ref a14, .ref a15, .int (iZ z16), .ref a17, .int (iZ R9), .ref a19, .ref a20, .ref a21, .ref a22, .ref a23, .ref a24, .int (iZ (nb2 + 1)), .ref a26, .ref a27, .ref a28, .int (iZ z29), .int (iZ z30), .int (iZ z31), .int (iZ z32), .int (iZ z33), .int (iZ z34), .ref a35, .ref a36, .ref a37, .ref a38, .ref a39, .ref a40, .ref a41, .int (iZ z42), .int (iZ z43), .ref a44, .ref a45])), (a10, .inl (cI, 1800, .inl (zA g10))), (a12, .inl (cI, 900, .inl (zA g12))), (a13, .inl (cI, 150, .inl (zA g13))), (a15, .inl (cY, 150, .inl (zA g15))), (a17, .inl (cI, 150, .inl (zA ro))), (a20, .inl (cI, 900, .inl (zA (upZ q20 nb2 (ro r1))))), (a21, .inl (cI, 900, .inl (zA (upZ q21 nb2 k9)))), (a22, .inl (cI, 900, .inl (zA (upZ q22 nb2 ((g12 ((6 * (ro r1)) + k9)) + 0))))), (a23, .inl (cY, 900, .inl (zA (upZ q23 nb2 1)))), (a24, .inl (cY, 900, .inl (zA (upZ q24 nb2 1))))]) rfl dX5_makes_186 ?_
                    refine g_iinc (q := 5) (lv2 := [(4, .int (iZ (k9 + 1))), (5, .int (iZ (g12 ((6 * (ro r1)) + k9)))), (0, .ref m0), (1, .int (iZ was)), (2, .int (iZ r1)), (3, .int (iZ (ro r1)))]) X dX5_makes_189 rfl (by decide) rfl ?_
                    refine g_goto X 31 dX5_makes_192 (by decide) ?_
                    refine g_lv (lv' := [(0, .ref m0), (1, .int (iZ was)), (2, .int (iZ r1)), (3, .int (iZ (ro r1))), (4, .int (iZ (k9 + 1)))]) [2, 3, 4, 5, 0] rfl ?_
                    exact ih_31 (k9 + 1) (nb2 + 1) (upZ q20 nb2 (ro r1)) (upZ q21 nb2 k9) (upZ q22 nb2 ((g12 ((6 * (ro r1)) + k9)) + 0)) (upZ q23 nb2 1) (upZ q24 nb2 1) (by omega) (by omega) G1 G2 hs20 hs21 hs22 hs23 hs24 (by omega)
                  · skip
                    refine g_aload_n X 1 dX5_makes_156 rfl rfl ?_
                    refine g_get X (index := 33) (ref := "GuideWordsModel") hin5 0 rfl rfl 10 (by decide) rfl (by decide +kernel) (v := .ref a10) rfl dX5_makes_157 ?_
                    refine g_bipush X dX5_makes_160 (by decide) ?_
                    refine g_iload_n X 4 dX5_makes_162 rfl rfl ?_
                    refine g_imul X dX5_makes_163 ?_
                    refine g_iald X 1 1 rfl rfl (by omega) (by decide) dX5_makes_164 ?_
                    have r_164 := h10r (12 * (ro r1)) (by omega)
                    refine g_iload_n X 2 dX5_makes_165 rfl rfl ?_
                    refine g_icmp_eq X 176 dX5_makes_166 (by decide) (by omega) (by omega) (fun c_166 => ?_) (fun c_166 => ?_)
                    · skip
                      refine g_iconst X dX5_makes_176 ?_
                      refine g_iadd X dX5_makes_177 ?_
                      refine g_iast X 8 1 rfl rfl (by omega) (by decide) (ws2 := [(m0, .inr (5, [.int (iZ z0), .int (iZ z1), .int (iZ z2), .int (iZ z3), .int (iZ z4), .int (iZ z5), .ref a6, .int (iZ z7), .ref a8, .int (iZ z9), .ref a10, .ref a11, .ref a12, .ref a13, .ref a14, .ref a15, .int (iZ z16), .ref a17, .int (iZ R9), .ref a19, .ref a20, .ref a21, .ref a22, .ref a23, .ref a24, .int (iZ nb2), .ref a26, .ref a27, .ref a28, .int (iZ z29), .int (iZ z30), .int (iZ z31), .int (iZ z32), .int (iZ z33), .int (iZ z34), .ref a35, .ref a36, .ref a37, .ref a38, .ref a39, .ref a40, .ref a41, .int (iZ z42), .int (iZ z43), .ref a44, .ref a45])), (a10, .inl (cI, 1800, .inl (zA g10))), (a12, .inl (cI, 900, .inl (zA g12))), (a13, .inl (cI, 150, .inl (zA g13))), (a15, .inl (cY, 150, .inl (zA g15))), (a17, .inl (cI, 150, .inl (zA ro))), (a20, .inl (cI, 900, .inl (zA (upZ q20 nb2 (ro r1))))), (a21, .inl (cI, 900, .inl (zA (upZ q21 nb2 k9)))), (a22, .inl (cI, 900, .inl (zA (upZ q22 nb2 ((g12 ((6 * (ro r1)) + k9)) + 0))))), (a23, .inl (cY, 900, .inl (zA (upZ q23 nb2 1)))), (a24, .inl (cY, 900, .inl (zA (upZ q24 nb2 1))))]) rfl dX5_makes_178 ?_
                      have hcc : (((g12 ((6 * (ro r1)) + k9)) + 0)) = g12 (6 * ro r1 + k9) + (if k9 = 0 then abvM g10 ro z3 r1 else 0) := by
                        unfold abvM
                        first
                        | (exfalso; omega)
                        | rw [if_neg c_153]
                        | rw [if_pos c_153, if_pos (by rcases hw with h | h; exact Or.inl h.1; exact Or.inr (fun q => c_166 (by rw [h.2, q])))]
                        | rw [if_pos c_153, if_neg (by rcases hw with h | h; · omega
                                                       · (intro q; rcases q with q | q; · omega
                                                          · (apply q; rw [c_166, h.2])))]
                      have hdd : (1 : Int) = mbZ (g13 (ro r1)) k9 (g12 (6 * ro r1 + k9)) := by unfold mbZ; first | (exfalso; omega) | (rw [if_pos (by omega)]; done) | (rw [if_neg (by omega)]; done)
                      have hff : (1 : Int) = mlZ (g13 (ro r1)) k9 := by unfold mlZ; first | (exfalso; omega) | (rw [if_pos (by omega)]; done) | (rw [if_neg (by omega)]; done)
                      have G1 : gatMA (upZ q20 nb2 (ro r1)) (upZ q21 nb2 k9) (upZ q22 nb2 ((g12 ((6 * (ro r1)) + k9)) + 0)) (upZ q23 nb2 1) (upZ q24 nb2 1) g10 g12 g13 ro z3 r1 := fun i t h1 h2 h3 h4 => gatM_up (hgb i t h1 h2 h3 h4) (by
                        have q1 := off_lt r1.toNat i.toNat t hsn (by omega) (by rw [show ((i.toNat : Nat) : Int) = i by omega]; exact h4)
                        omega)
                      have G2 : ∀ t : Int, 0 ≤ t → t < k9 + 1 → gatM (upZ q20 nb2 (ro r1)) (upZ q21 nb2 k9) (upZ q22 nb2 ((g12 ((6 * (ro r1)) + k9)) + 0)) (upZ q23 nb2 1) (upZ q24 nb2 1) g10 g12 g13 ro z3 r1 t := fun t h1 h2 => by
                        rcases (show t = k9 ∨ t < k9 by omega) with h | h
                        · rw [h]; exact gatM_new hn2 rfl rfl hcc hdd hff
                        · exact gatM_up (hgc t h1 h) (by omega)
                      have hab9 : 0 ≤ abvM g10 ro z3 r1 ∧ abvM g10 ro z3 r1 ≤ 3 := by unfold abvM; split <;> omega
                      have hv22 : 0 ≤ (((g12 ((6 * (ro r1)) + k9)) + 0)) ∧ (((g12 ((6 * (ro r1)) + k9)) + 0)) ≤ 23 := by rw [hcc]; split <;> omega
                      have hs20 := upZ_all (k := nb2) (v := (ro r1)) (fun x => 0 ≤ x ∧ x < 150) hq20 (by omega)
                      have hs21 := upZ_all (k := nb2) (v := k9) (fun x => 0 ≤ x ∧ x < 6) hq21 (by omega)
                      have hs22 := upZ_all (k := nb2) (v := ((g12 ((6 * (ro r1)) + k9)) + 0)) (fun x => 0 ≤ x ∧ x ≤ 23) hq22 hv22
                      have hs23 := upZ_all (k := nb2) (v := 1) (fun x => x = 0 ∨ x = 1) hq23 (by omega)
                      have hs24 := upZ_all (k := nb2) (v := 1) (fun x => x = 0 ∨ x = 1) hq24 (by omega)
                      refine g_aload_n X 1 dX5_makes_179 rfl rfl ?_
                      refine g_dup X dX5_makes_180 rfl ?_
                      refine g_get X (index := 158) (ref := "GuideWordsModel") hin5 0 rfl rfl 25 (by decide) rfl (by decide +kernel) (v := .int (iZ nb2)) rfl dX5_makes_181 ?_
                      refine g_iconst X dX5_makes_184 ?_
                      refine g_iadd X dX5_makes_185 ?_
                      refine g_put X (index := 158) (ref := "GuideWordsModel") hin5 0 rfl rfl 25 (by decide) rfl tyX5 tyX5_ok nmX5 (by decide +kernel) rfl rfl rfl rfl (Nat.le_of_ble_eq_true rfl) (ws2 := [(m0, .inr (5, [.int (iZ z0), .int (iZ z1), .int (iZ z2), .int (iZ z3), .int (iZ z4), .int (iZ z5), .ref a6, .int (iZ z7), .ref a8, .int (iZ z9), .ref a10, .ref a11, .ref a12, .ref a13, .ref a14, .ref a15, .int (iZ z16), .ref a17, .int (iZ R9), .ref a19, .ref a20, .ref a21, .ref a22, .ref a23, .ref a24, .int (iZ (nb2 + 1)), .ref a26, .ref a27, .ref a28, .int (iZ z29), .int (iZ z30), .int (iZ z31), .int (iZ z32), .int (iZ z33), .int (iZ z34), .ref a35, .ref a36, .ref a37, .ref a38, .ref a39, .ref a40, .ref a41, .int (iZ z42), .int (iZ z43), .ref a44, .ref a45])), (a10, .inl (cI, 1800, .inl (zA g10))), (a12, .inl (cI, 900, .inl (zA g12))), (a13, .inl (cI, 150, .inl (zA g13))), (a15, .inl (cY, 150, .inl (zA g15))), (a17, .inl (cI, 150, .inl (zA ro))), (a20, .inl (cI, 900, .inl (zA (upZ q20 nb2 (ro r1))))), (a21, .inl (cI, 900, .inl (zA (upZ q21 nb2 k9)))), (a22, .inl (cI, 900, .inl (zA (upZ q22 nb2 ((g12 ((6 * (ro r1)) + k9)) + 0))))), (a23, .inl (cY, 900, .inl (zA (upZ q23 nb2 1)))), (a24, .inl (cY, 900, .inl (zA (upZ q24 nb2 1))))]) rfl dX5_makes_186 ?_
                      refine g_iinc (q := 5) (lv2 := [(4, .int (iZ (k9 + 1))), (5, .int (iZ (g12 ((6 * (ro r1)) + k9)))), (0, .ref m0), (1, .int (iZ was)), (2, .int (iZ r1)), (3, .int (iZ (ro r1)))]) X dX5_makes_189 rfl (by decide) rfl ?_
                      refine g_goto X 31 dX5_makes_192 (by decide) ?_
                      refine g_lv (lv' := [(0, .ref m0), (1, .int (iZ was)), (2, .int (iZ r1)), (3, .int (iZ (ro r1))), (4, .int (iZ (k9 + 1)))]) [2, 3, 4, 5, 0] rfl ?_
                      exact ih_31 (k9 + 1) (nb2 + 1) (upZ q20 nb2 (ro r1)) (upZ q21 nb2 k9) (upZ q22 nb2 ((g12 ((6 * (ro r1)) + k9)) + 0)) (upZ q23 nb2 1) (upZ q24 nb2 1) (by omega) (by omega) G1 G2 hs20 hs21 hs22 hs23 hs24 (by omega)
                    · skip
                      refine g_aload_n X 1 dX5_makes_169 rfl rfl ?_
                      refine g_get X (index := 16) (ref := "GuideWordsModel") hin5 0 rfl rfl 3 (by decide) rfl (by decide +kernel) (v := .int (iZ z3)) rfl dX5_makes_170 ?_
                      refine g_goto X 177 dX5_makes_173 (by decide) ?_
                      refine g_iadd X dX5_makes_177 ?_
                      refine g_iast X 8 1 rfl rfl (by omega) (by decide) (ws2 := [(m0, .inr (5, [.int (iZ z0), .int (iZ z1), .int (iZ z2), .int (iZ z3), .int (iZ z4), .int (iZ z5), .ref a6, .int (iZ z7), .ref a8, .int (iZ z9), .ref a10, .ref a11, .ref a12, .ref a13, .ref a14, .ref a15, .int (iZ z16), .ref a17, .int (iZ R9), .ref a19, .ref a20, .ref a21, .ref a22, .ref a23, .ref a24, .int (iZ nb2), .ref a26, .ref a27, .ref a28, .int (iZ z29), .int (iZ z30), .int (iZ z31), .int (iZ z32), .int (iZ z33), .int (iZ z34), .ref a35, .ref a36, .ref a37, .ref a38, .ref a39, .ref a40, .ref a41, .int (iZ z42), .int (iZ z43), .ref a44, .ref a45])), (a10, .inl (cI, 1800, .inl (zA g10))), (a12, .inl (cI, 900, .inl (zA g12))), (a13, .inl (cI, 150, .inl (zA g13))), (a15, .inl (cY, 150, .inl (zA g15))), (a17, .inl (cI, 150, .inl (zA ro))), (a20, .inl (cI, 900, .inl (zA (upZ q20 nb2 (ro r1))))), (a21, .inl (cI, 900, .inl (zA (upZ q21 nb2 k9)))), (a22, .inl (cI, 900, .inl (zA (upZ q22 nb2 ((g12 ((6 * (ro r1)) + k9)) + z3))))), (a23, .inl (cY, 900, .inl (zA (upZ q23 nb2 1)))), (a24, .inl (cY, 900, .inl (zA (upZ q24 nb2 1))))]) rfl dX5_makes_178 ?_
                      have hcc : (((g12 ((6 * (ro r1)) + k9)) + z3)) = g12 (6 * ro r1 + k9) + (if k9 = 0 then abvM g10 ro z3 r1 else 0) := by
                        unfold abvM
                        first
                        | (exfalso; omega)
                        | rw [if_neg c_153]
                        | rw [if_pos c_153, if_pos (by rcases hw with h | h; exact Or.inl h.1; exact Or.inr (fun q => c_166 (by rw [h.2, q])))]
                        | rw [if_pos c_153, if_neg (by rcases hw with h | h; · omega
                                                       · (intro q; rcases q with q | q; · omega
                                                          · (apply q; rw [c_166, h.2])))]
                      have hdd : (1 : Int) = mbZ (g13 (ro r1)) k9 (g12 (6 * ro r1 + k9)) := by unfold mbZ; first | (exfalso; omega) | (rw [if_pos (by omega)]; done) | (rw [if_neg (by omega)]; done)
                      have hff : (1 : Int) = mlZ (g13 (ro r1)) k9 := by unfold mlZ; first | (exfalso; omega) | (rw [if_pos (by omega)]; done) | (rw [if_neg (by omega)]; done)
                      have G1 : gatMA (upZ q20 nb2 (ro r1)) (upZ q21 nb2 k9) (upZ q22 nb2 ((g12 ((6 * (ro r1)) + k9)) + z3)) (upZ q23 nb2 1) (upZ q24 nb2 1) g10 g12 g13 ro z3 r1 := fun i t h1 h2 h3 h4 => gatM_up (hgb i t h1 h2 h3 h4) (by
                        have q1 := off_lt r1.toNat i.toNat t hsn (by omega) (by rw [show ((i.toNat : Nat) : Int) = i by omega]; exact h4)
                        omega)
                      have G2 : ∀ t : Int, 0 ≤ t → t < k9 + 1 → gatM (upZ q20 nb2 (ro r1)) (upZ q21 nb2 k9) (upZ q22 nb2 ((g12 ((6 * (ro r1)) + k9)) + z3)) (upZ q23 nb2 1) (upZ q24 nb2 1) g10 g12 g13 ro z3 r1 t := fun t h1 h2 => by
                        rcases (show t = k9 ∨ t < k9 by omega) with h | h
                        · rw [h]; exact gatM_new hn2 rfl rfl hcc hdd hff
                        · exact gatM_up (hgc t h1 h) (by omega)
                      have hab9 : 0 ≤ abvM g10 ro z3 r1 ∧ abvM g10 ro z3 r1 ≤ 3 := by unfold abvM; split <;> omega
                      have hv22 : 0 ≤ (((g12 ((6 * (ro r1)) + k9)) + z3)) ∧ (((g12 ((6 * (ro r1)) + k9)) + z3)) ≤ 23 := by rw [hcc]; split <;> omega
                      have hs20 := upZ_all (k := nb2) (v := (ro r1)) (fun x => 0 ≤ x ∧ x < 150) hq20 (by omega)
                      have hs21 := upZ_all (k := nb2) (v := k9) (fun x => 0 ≤ x ∧ x < 6) hq21 (by omega)
                      have hs22 := upZ_all (k := nb2) (v := ((g12 ((6 * (ro r1)) + k9)) + z3)) (fun x => 0 ≤ x ∧ x ≤ 23) hq22 hv22
                      have hs23 := upZ_all (k := nb2) (v := 1) (fun x => x = 0 ∨ x = 1) hq23 (by omega)
                      have hs24 := upZ_all (k := nb2) (v := 1) (fun x => x = 0 ∨ x = 1) hq24 (by omega)
                      refine g_aload_n X 1 dX5_makes_179 rfl rfl ?_
                      refine g_dup X dX5_makes_180 rfl ?_
                      refine g_get X (index := 158) (ref := "GuideWordsModel") hin5 0 rfl rfl 25 (by decide) rfl (by decide +kernel) (v := .int (iZ nb2)) rfl dX5_makes_181 ?_
                      refine g_iconst X dX5_makes_184 ?_
                      refine g_iadd X dX5_makes_185 ?_
                      refine g_put X (index := 158) (ref := "GuideWordsModel") hin5 0 rfl rfl 25 (by decide) rfl tyX5 tyX5_ok nmX5 (by decide +kernel) rfl rfl rfl rfl (Nat.le_of_ble_eq_true rfl) (ws2 := [(m0, .inr (5, [.int (iZ z0), .int (iZ z1), .int (iZ z2), .int (iZ z3), .int (iZ z4), .int (iZ z5), .ref a6, .int (iZ z7), .ref a8, .int (iZ z9), .ref a10, .ref a11, .ref a12, .ref a13, .ref a14, .ref a15, .int (iZ z16), .ref a17, .int (iZ R9), .ref a19, .ref a20, .ref a21, .ref a22, .ref a23, .ref a24, .int (iZ (nb2 + 1)), .ref a26, .ref a27, .ref a28, .int (iZ z29), .int (iZ z30), .int (iZ z31), .int (iZ z32), .int (iZ z33), .int (iZ z34), .ref a35, .ref a36, .ref a37, .ref a38, .ref a39, .ref a40, .ref a41, .int (iZ z42), .int (iZ z43), .ref a44, .ref a45])), (a10, .inl (cI, 1800, .inl (zA g10))), (a12, .inl (cI, 900, .inl (zA g12))), (a13, .inl (cI, 150, .inl (zA g13))), (a15, .inl (cY, 150, .inl (zA g15))), (a17, .inl (cI, 150, .inl (zA ro))), (a20, .inl (cI, 900, .inl (zA (upZ q20 nb2 (ro r1))))), (a21, .inl (cI, 900, .inl (zA (upZ q21 nb2 k9)))), (a22, .inl (cI, 900, .inl (zA (upZ q22 nb2 ((g12 ((6 * (ro r1)) + k9)) + z3))))), (a23, .inl (cY, 900, .inl (zA (upZ q23 nb2 1)))), (a24, .inl (cY, 900, .inl (zA (upZ q24 nb2 1))))]) rfl dX5_makes_186 ?_
                      refine g_iinc (q := 5) (lv2 := [(4, .int (iZ (k9 + 1))), (5, .int (iZ (g12 ((6 * (ro r1)) + k9)))), (0, .ref m0), (1, .int (iZ was)), (2, .int (iZ r1)), (3, .int (iZ (ro r1)))]) X dX5_makes_189 rfl (by decide) rfl ?_
                      refine g_goto X 31 dX5_makes_192 (by decide) ?_
                      refine g_lv (lv' := [(0, .ref m0), (1, .int (iZ was)), (2, .int (iZ r1)), (3, .int (iZ (ro r1))), (4, .int (iZ (k9 + 1)))]) [2, 3, 4, 5, 0] rfl ?_
                      exact ih_31 (k9 + 1) (nb2 + 1) (upZ q20 nb2 (ro r1)) (upZ q21 nb2 k9) (upZ q22 nb2 ((g12 ((6 * (ro r1)) + k9)) + z3)) (upZ q23 nb2 1) (upZ q24 nb2 1) (by omega) (by omega) G1 G2 hs20 hs21 hs22 hs23 hs24 (by omega)
                · omega
        exact loop_31 _ 0 nb1 p20 p21 p22 p23 p24 (by omega) (by omega) hga (fun t h1 h2 => by omega) hp20 hp21 hp22 hp23 hp24 (Nat.lt_succ_self _)
  exact loop_13 _ 0 0 0 g20 g21 g22 g23 g24 (by omega) (by omega) (Or.inl ⟨rfl, rfl⟩) rfl (fun i t h1 h2 => by omega) hg20 hg21 hg22 hg23 hg24 (Nat.lt_succ_self _)
