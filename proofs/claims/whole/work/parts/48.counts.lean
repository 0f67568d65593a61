theorem off_cov {se od : Int → Int} : ∀ (n : Nat) (j : Int), (∀ k : Nat, k < n → 1 ≤ se (od k) ∧ se (od k) ≤ 6) → 0 ≤ j → j < offZ se od n → ∃ (i : Nat) (t : Int), i < n ∧ 0 ≤ t ∧ t < se (od i) ∧ j = offZ se od i + t
  | 0, j, _, h1, h2 => by simp [offZ] at h2; omega
  | n + 1, j, h, h1, h2 => by
    rcases (show j < offZ se od n ∨ offZ se od n ≤ j by omega) with c | c
    · obtain ⟨i, t, a, b, d, e⟩ := off_cov n j (fun k hk => h k (by omega)) h1 c
      exact ⟨i, t, by omega, b, d, e⟩
    · rw [offZ] at h2
      exact ⟨n, j - offZ se od n, by omega, by omega, by omega, by omega⟩
def cnG (g10 e l g : Int → Int) : Nat → (Int → Int)
  | 0 => g
  | k + 1 => upZ (cnG g10 e l g k) (g10 (12 * e k) - 97) (cnG g10 e l g k (g10 (12 * e k) - 97) + l k)
def cnH (g10 e g : Int → Int) : Nat → (Int → Int)
  | 0 => g
  | k + 1 => upZ (cnH g10 e g k) (g10 (12 * e k) - 97) 1
theorem gatM_cov {e s l mb il g10 g12 g13 ro : Int → Int} {z3 R9 : Int} (h : gatMA e s l mb il g10 g12 g13 ro z3 R9) (hR : 0 ≤ R9) (hm : ∀ k : Int, 0 ≤ k → k < R9 → 1 ≤ g13 (ro k) ∧ g13 (ro k) ≤ 6) (j : Int) (h0 : 0 ≤ j) (h1 : j < offZ g13 ro R9.toNat) : ∃ i t : Int, 0 ≤ i ∧ i < R9 ∧ 0 ≤ t ∧ t < g13 (ro i) ∧ j = offZ g13 ro i.toNat + t ∧ gatM e s l mb il g10 g12 g13 ro z3 i t := by
  obtain ⟨i, t, a, b, c, d⟩ := off_cov R9.toNat j (fun k hk => hm k (by omega) (by omega)) h0 h1
  exact ⟨i, t, by omega, by omega, b, c, by rw [Int.toNat_natCast]; exact d, h i t (by omega) (by omega) b c⟩
theorem sumN_ge {g : Int → Int} : ∀ n : Nat, (∀ j : Int, 0 ≤ j → j < n → 1 ≤ g j) → (n : Int) ≤ sumN g 0 n
  | 0, _ => by simp [sumN]
  | n + 1, h => by
    have h1 := sumN_ge n (fun j a b => h j a (by omega))
    have h2 := h n (by omega) (by omega)
    rw [sumN, Int.zero_add]; omega
def qX5_counts (cB cI cJ cY : ClassId) (m0 : Nat) (a6 : Nat) (a8 : Nat) (a10 : Nat) (a11 : Nat) (a12 : Nat) (a13 : Nat) (a14 : Nat) (a15 : Nat) (a17 : Nat) (a19 : Nat) (a20 : Nat) (a21 : Nat) (a22 : Nat) (a23 : Nat) (a24 : Nat) (a26 : Nat) (a27 : Nat) (a28 : Nat) (a35 : Nat) (a36 : Nat) (a37 : Nat) (a38 : Nat) (a39 : Nat) (a40 : Nat) (a41 : Nat) (a44 : Nat) (a45 : Nat) (z0 : Int) (z1 : Int) (z2 : Int) (z3 : Int) (z4 : Int) (z5 : Int) (z7 : Int) (z9 : Int) (z16 : Int) (z18 : Int) (z25 : Int) (z29 : Int) (z30 : Int) (z31 : Int) (z32 : Int) (z33 : Int) (z34 : Int) (z42 : Int) (z43 : Int) (g10 : Int → Int) (g12 : Int → Int) (g13 : Int → Int) (g15 : Int → Int) (g17 : Int → Int) (g20 : Int → Int) (g21 : Int → Int) (g22 : Int → Int) (g23 : Int → Int) (g24 : Int → Int) (g44 : Int → Int) (g45 : Int → Int) : Option Value → va_W → Prop := fun rv w1 => ∃ (r0 : Int) (R9 : Int) (ro : Int → Int) (nb : Int) (h20 : Int → Int) (h21 : Int → Int) (h22 : Int → Int) (h23 : Int → Int) (h24 : Int → Int) (h44 : Int → Int) (h45 : Int → Int), rv = some (.int (iZ r0)) ∧ srtZ (hmZ g10) g15 z16 ro R9 ∧ nb = offZ g13 ro R9.toNat ∧ (0 ≤ nb ∧ nb ≤ 900) ∧ gatMA h20 h21 h22 h23 h24 g10 g12 g13 ro z3 R9 ∧ (∀ j : Int, 0 ≤ j ∧ j < 900 → 0 ≤ h20 j ∧ h20 j < 150) ∧ (∀ j : Int, 0 ≤ j ∧ j < 900 → 0 ≤ h21 j ∧ h21 j < 6) ∧ (∀ j : Int, 0 ≤ j ∧ j < 900 → 0 ≤ h22 j ∧ h22 j ≤ 23) ∧ (∀ j : Int, 0 ≤ j ∧ j < 900 → h23 j = 0 ∨ h23 j = 1) ∧ (∀ j : Int, 0 ≤ j ∧ j < 900 → h24 j = 0 ∨ h24 j = 1) ∧ h44 = cnG g10 h20 h22 (fillZ g44 0 26) nb.toNat ∧ h45 = cnH g10 h20 (fillZ g45 0 26) nb.toNat ∧ r0 = sumN h22 0 nb.toNat ∧ (∀ l9 : Int, 0 ≤ l9 ∧ l9 < 26 → 0 ≤ h44 l9 ∧ h44 l9 ≤ 23 * nb) ∧ (∀ l9 : Int, 0 ≤ l9 ∧ l9 < 26 → h45 l9 = 0 ∨ h45 l9 = 1) ∧ (0 ≤ r0 ∧ r0 ≤ 23 * nb) ∧ nb ≤ r0 ∧ w1 = [(m0, .inr (5, [.int (iZ z0), .int (iZ z1), .int (iZ z2), .int (iZ z3), .int (iZ z4), .int (iZ z5), .ref a6, .int (iZ z7), .ref a8, .int (iZ z9), .ref a10, .ref a11, .ref a12, .ref a13, .ref a14, .ref a15, .int (iZ z16), .ref a17, .int (iZ R9), .ref a19, .ref a20, .ref a21, .ref a22, .ref a23, .ref a24, .int (iZ nb), .ref a26, .ref a27, .ref a28, .int (iZ z29), .int (iZ z30), .int (iZ z31), .int (iZ z32), .int (iZ z33), .int (iZ z34), .ref a35, .ref a36, .ref a37, .ref a38, .ref a39, .ref a40, .ref a41, .int (iZ z42), .int (iZ z43), .ref a44, .ref a45])), (a10, .inl (cI, 1800, .inl (zA g10))), (a12, .inl (cI, 900, .inl (zA g12))), (a13, .inl (cI, 150, .inl (zA g13))), (a15, .inl (cY, 150, .inl (zA g15))), (a17, .inl (cI, 150, .inl (zA ro))), (a20, .inl (cI, 900, .inl (zA h20))), (a21, .inl (cI, 900, .inl (zA h21))), (a22, .inl (cI, 900, .inl (zA h22))), (a23, .inl (cY, 900, .inl (zA h23))), (a24, .inl (cY, 900, .inl (zA h24))), (a44, .inl (cI, 26, .inl (zA h44))), (a45, .inl (cY, 26, .inl (zA h45)))]
set_option maxHeartbeats 4000000 in
set_option maxRecDepth 100000 in
theorem ctX5_counts (l : Launch) (D : va_G) (cB cI cJ cY : ClassId) (m0 : Nat) (a6 : Nat) (a8 : Nat) (a10 : Nat) (a11 : Nat) (a12 : Nat) (a13 : Nat) (a14 : Nat) (a15 : Nat) (a17 : Nat) (a19 : Nat) (a20 : Nat) (a21 : Nat) (a22 : Nat) (a23 : Nat) (a24 : Nat) (a26 : Nat) (a27 : Nat) (a28 : Nat) (a35 : Nat) (a36 : Nat) (a37 : Nat) (a38 : Nat) (a39 : Nat) (a40 : Nat) (a41 : Nat) (a44 : Nat) (a45 : Nat) (z0 : Int) (z1 : Int) (z2 : Int) (z3 : Int) (z4 : Int) (z5 : Int) (z7 : Int) (z9 : Int) (z16 : Int) (z18 : Int) (z25 : Int) (z29 : Int) (z30 : Int) (z31 : Int) (z32 : Int) (z33 : Int) (z34 : Int) (z42 : Int) (z43 : Int) (g10 : Int → Int) (g12 : Int → Int) (g13 : Int → Int) (g15 : Int → Int) (g17 : Int → Int) (g20 : Int → Int) (g21 : Int → Int) (g22 : Int → Int) (g23 : Int → Int) (g24 : Int → Int) (g44 : Int → Int) (g45 : Int → Int) (h16 : 0 ≤ z16 ∧ z16 ≤ 150) (hok10 : ∀ j : Int, 0 ≤ j ∧ j < 1800 → okV (g10 j)) (h15 : ∀ j : Int, 0 ≤ j ∧ j < 150 → g15 j = 0 ∨ g15 j = 1) (h13 : ∀ a : Int, 0 ≤ a ∧ a < z16 → 1 ≤ g13 a ∧ g13 a ≤ 6) (h12 : ∀ j : Int, 0 ≤ j ∧ j < 900 → 0 ≤ g12 j ∧ g12 j ≤ 20) (h3 : 0 ≤ z3 ∧ z3 ≤ 3) (hl1 : ∀ a : Int, 0 ≤ a ∧ a < z16 → 97 ≤ g10 (12 * a)) (hg20 : ∀ j : Int, 0 ≤ j ∧ j < 900 → 0 ≤ g20 j ∧ g20 j < 150) (hg21 : ∀ j : Int, 0 ≤ j ∧ j < 900 → 0 ≤ g21 j ∧ g21 j < 6) (hg22 : ∀ j : Int, 0 ≤ j ∧ j < 900 → 0 ≤ g22 j ∧ g22 j ≤ 23) (hg23 : ∀ j : Int, 0 ≤ j ∧ j < 900 → g23 j = 0 ∨ g23 j = 1) (hg24 : ∀ j : Int, 0 ≤ j ∧ j < 900 → g24 j = 0 ∨ g24 j = 1) (h12p : ∀ a t : Int, 0 ≤ a → a < z16 → 0 ≤ t → t < g13 a → 1 ≤ g12 (6 * a + t)) : gM l yX5_counts wsX5_counts { frames := 3, cells := 0, slots := 0, locals := 71 } D (gT cB cI cJ cY) [.ref m0] [(m0, .inr (5, [.int (iZ z0), .int (iZ z1), .int (iZ z2), .int (iZ z3), .int (iZ z4), .int (iZ z5), .ref a6, .int (iZ z7), .ref a8, .int (iZ z9), .ref a10, .ref a11, .ref a12, .ref a13, .ref a14, .ref a15, .int (iZ z16), .ref a17, .int (iZ z18), .ref a19, .ref a20, .ref a21, .ref a22, .ref a23, .ref a24, .int (iZ z25), .ref a26, .ref a27, .ref a28, .int (iZ z29), .int (iZ z30), .int (iZ z31), .int (iZ z32), .int (iZ z33), .int (iZ z34), .ref a35, .ref a36, .ref a37, .ref a38, .ref a39, .ref a40, .ref a41, .int (iZ z42), .int (iZ z43), .ref a44, .ref a45])), (a10, .inl (cI, 1800, .inl (zA g10))), (a12, .inl (cI, 900, .inl (zA g12))), (a13, .inl (cI, 150, .inl (zA g13))), (a15, .inl (cY, 150, .inl (zA g15))), (a17, .inl (cI, 150, .inl (zA g17))), (a20, .inl (cI, 900, .inl (zA g20))), (a21, .inl (cI, 900, .inl (zA g21))), (a22, .inl (cI, 900, .inl (zA g22))), (a23, .inl (cY, 900, .inl (zA g23))), (a24, .inl (cY, 900, .inl (zA g24))), (a44, .inl (cI, 26, .inl (zA g44))), (a45, .inl (cY, 26, .inl (zA g45)))] 0 0 (qX5_counts cB cI cJ cY m0 a6 a8 a10 a11 a12 a13 a14 a15 a17 a19 a20 a21 a22 a23 a24 a26 a27 a28 a35 a36 a37 a38 a39 a40 a41 a44 a45 z0 z1 z2 z3 z4 z5 z7 z9 z16 z18 z25 z29 z30 z31 z32 z33 z34 z42 z43 g10 g12 g13 g15 g17 g20 g21 g22 g23 g24 g44 g45) := by
  refine g_start (cc := cX5_counts) (maxL := 4) (ret := some .int) (lv := [(0, .ref m0)]) (by decide) rfl (Nat.le_of_ble_eq_true rfl) rfl ?_
  intro p e s m args below meth c A X hr hnm
  have hin5 : ∀ w ∈ u_ws RX5 TX5 46, w ∈ wsX5_counts := by decide +kernel
  have h10r : ∀ j : Int, 0 ≤ j ∧ j < 1800 → 0 ≤ g10 j ∧ g10 j ≤ 122 := fun j hj => by rcases hok10 j hj with h | h <;> omega
  refine g_aload_n X 0 dX5_counts_0 rfl rfl ?_
  refine g_callV0 X (As := []) (rest := []) (ctX5_makes l D cB cI cJ cY m0 a6 a8 a10 a11 a12 a13 a14 a15 a17 a19 a20 a21 a22 a23 a24 a26 a27 a28 a35 a36 a37 a38 a39 a40 a41 a44 a45 z0 z1 z2 z3 z4 z5 z7 z9 z16 z18 z25 z29 z30 z31 z32 z33 z34 z42 z43 g10 g12 g13 g15 g17 g20 g21 g22 g23 g24 (by first | assumption | omega) (by first | assumption | omega) (by first | assumption | omega) (by first | assumption | omega) (by first | assumption | omega) (by first | assumption | omega) (by first | assumption | omega) (by first | assumption | omega) (by first | assumption | omega) (by first | assumption | omega) (by first | assumption | omega) (by first | assumption | omega)) (cwV 0 X.2.2.2.2.1 gX5_counts_X5_makes rfl rfl rfl (by decide +kernel) ⟨by decide, by decide⟩) 0 rfl rfl (wc := [(m0, .inr (5, [.int (iZ z0), .int (iZ z1), .int (iZ z2), .int (iZ z3), .int (iZ z4), .int (iZ z5), .ref a6, .int (iZ z7), .ref a8, .int (iZ z9), .ref a10, .ref a11, .ref a12, .ref a13, .ref a14, .ref a15, .int (iZ z16), .ref a17, .int (iZ z18), .ref a19, .ref a20, .ref a21, .ref a22, .ref a23, .ref a24, .int (iZ z25), .ref a26, .ref a27, .ref a28, .int (iZ z29), .int (iZ z30), .int (iZ z31), .int (iZ z32), .int (iZ z33), .int (iZ z34), .ref a35, .ref a36, .ref a37, .ref a38, .ref a39, .ref a40, .ref a41, .int (iZ z42), .int (iZ z43), .ref a44, .ref a45])), (a10, .inl (cI, 1800, .inl (zA g10))), (a12, .inl (cI, 900, .inl (zA g12))), (a13, .inl (cI, 150, .inl (zA g13))), (a15, .inl (cY, 150, .inl (zA g15))), (a17, .inl (cI, 150, .inl (zA g17))), (a20, .inl (cI, 900, .inl (zA g20))), (a21, .inl (cI, 900, .inl (zA g21))), (a22, .inl (cI, 900, .inl (zA g22))), (a23, .inl (cY, 900, .inl (zA g23))), (a24, .inl (cY, 900, .inl (zA g24)))]) (wr := [(a44, .inl (cI, 26, .inl (zA g44))), (a45, .inl (cY, 26, .inl (zA g45)))]) [0, 1, 2, 3, 4, 5, 6, 7, 8, 9, 10] [11, 12] rfl rfl (by decide) (by decide) (by decide) rfl rfl (Nat.le_of_ble_eq_true rfl) ⟨by decide, by decide⟩ dX5_counts_1 (fun v w1 hq => ?_)
  obtain ⟨R9, ro, nb, h20, h21, h22, h23, h24, rfl, hs, hn, hnb, hga, hr20, hr21, hr22, hr23, hr24, rfl⟩ := hq
  refine g_eq (ws' := [(a44, .inl (cI, 26, .inl (zA g44))), (a45, .inl (cY, 26, .inl (zA g45))), (m0, .inr (5, [.int (iZ z0), .int (iZ z1), .int (iZ z2), .int (iZ z3), .int (iZ z4), .int (iZ z5), .ref a6, .int (iZ z7), .ref a8, .int (iZ z9), .ref a10, .ref a11, .ref a12, .ref a13, .ref a14, .ref a15, .int (iZ z16), .ref a17, .int (iZ R9), .ref a19, .ref a20, .ref a21, .ref a22, .ref a23, .ref a24, .int (iZ nb), .ref a26, .ref a27, .ref a28, .int (iZ z29), .int (iZ z30), .int (iZ z31), .int (iZ z32), .int (iZ z33), .int (iZ z34), .ref a35, .ref a36, .ref a37, .ref a38, .ref a39, .ref a40, .ref a41, .int (iZ z42), .int (iZ z43), .ref a44, .ref a45])), (a10, .inl (cI, 1800, .inl (zA g10))), (a12, .inl (cI, 900, .inl (zA g12))), (a13, .inl (cI, 150, .inl (zA g13))), (a15, .inl (cY, 150, .inl (zA g15))), (a17, .inl (cI, 150, .inl (zA ro))), (a20, .inl (cI, 900, .inl (zA h20))), (a21, .inl (cI, 900, .inl (zA h21))), (a22, .inl (cI, 900, .inl (zA h22))), (a23, .inl (cY, 900, .inl (zA h23))), (a24, .inl (cY, 900, .inl (zA h24)))]) (pc' := 4) (st' := []) rfl rfl rfl rfl ?_
  refine g_perm (ws' := [(m0, .inr (5, [.int (iZ z0), .int (iZ z1), .int (iZ z2), .int (iZ z3), .int (iZ z4), .int (iZ z5), .ref a6, .int (iZ z7), .ref a8, .int (iZ z9), .ref a10, .ref a11, .ref a12, .ref a13, .ref a14, .ref a15, .int (iZ z16), .ref a17, .int (iZ R9), .ref a19, .ref a20, .ref a21, .ref a22, .ref a23, .ref a24, .int (iZ nb), .ref a26, .ref a27, .ref a28, .int (iZ z29), .int (iZ z30), .int (iZ z31), .int (iZ z32), .int (iZ z33), .int (iZ z34), .ref a35, .ref a36, .ref a37, .ref a38, .ref a39, .ref a40, .ref a41, .int (iZ z42), .int (iZ z43), .ref a44, .ref a45])), (a10, .inl (cI, 1800, .inl (zA g10))), (a12, .inl (cI, 900, .inl (zA g12))), (a13, .inl (cI, 150, .inl (zA g13))), (a15, .inl (cY, 150, .inl (zA g15))), (a17, .inl (cI, 150, .inl (zA ro))), (a20, .inl (cI, 900, .inl (zA h20))), (a21, .inl (cI, 900, .inl (zA h21))), (a22, .inl (cI, 900, .inl (zA h22))), (a23, .inl (cY, 900, .inl (zA h23))), (a24, .inl (cY, 900, .inl (zA h24))), (a44, .inl (cI, 26, .inl (zA g44))), (a45, .inl (cY, 26, .inl (zA g45)))]) [2, 3, 4, 5, 6, 7, 8, 9, 10, 11, 12, 0, 1] (by decide) rfl ?_
  have hs0 := hs.1
  have hmm : ∀ k : Int, 0 ≤ k → k < R9 → 1 ≤ g13 (ro k) ∧ g13 (ro k) ≤ 6 := fun k a b => by have := hs.2.1 k a b; exact h13 (ro k) (by omega)
  have hcov : ∀ j : Int, 0 ≤ j → j < nb → (0 ≤ h20 j ∧ h20 j < z16) ∧ 1 ≤ h22 j := fun j a b => by
    obtain ⟨i, t, i1, i2, i3, i4, i5, i6⟩ := gatM_cov hga hs0.1 hmm j a (by rw [← hn]; exact b)
    have q := hs.2.1 i i1 i2
    have q2 := h12p (ro i) t q.1 q.2.1 i3 i4
    have q3 : 0 ≤ abvM g10 ro z3 i := by unfold abvM; split <;> omega
    unfold gatM at i6; rw [← i5] at i6
    refine ⟨by rw [i6.1]; omega, ?_⟩
    rw [i6.2.2.1]; split <;> omega
  refine g_iconst X dX5_counts_4 ?_
  refine g_istore_n (lv2 := [(1, .int (iZ 0)), (0, .ref m0)]) X dX5_counts_5 rfl (by decide) rfl ?_
  refine g_lv (lv' := [(0, .ref m0), (1, .int (iZ 0))]) [1, 0] rfl ?_
  have loop_6 : ∀ (kf : Nat) (k : Int) (u4 : Int → Int) (u5 : Int → Int), (hk : 0 ≤ k ∧ k ≤ 26) → (hu4 : u4 = fillZ g44 0 k) → (hu5 : u5 = fillZ g45 0 k) → (26 - k).toNat < kf → gW p l e { frames := 3, cells := 0, slots := 0, locals := 71 } s m args below meth c D A 4 0 0 (MQ below (gQ D (gT cB cI cJ cY) (qX5_counts cB cI cJ cY m0 a6 a8 a10 a11 a12 a13 a14 a15 a17 a19 a20 a21 a22 a23 a24 a26 a27 a28 a35 a36 a37 a38 a39 a40 a41 a44 a45 z0 z1 z2 z3 z4 z5 z7 z9 z16 z18 z25 z29 z30 z31 z32 z33 z34 z42 z43 g10 g12 g13 g15 g17 g20 g21 g22 g23 g24 g44 g45) A) args s 0 0 A) [(m0, .inr (5, [.int (iZ z0), .int (iZ z1), .int (iZ z2), .int (iZ z3), .int (iZ z4), .int (iZ z5), .ref a6, .int (iZ z7), .ref a8, .int (iZ z9), .ref a10, .ref a11, .ref a12, .ref a13, .ref a14, .ref a15, .int (iZ z16), .ref a17, .int (iZ R9), .ref a19, .ref a20, .ref a21, .ref a22, .ref a23, .ref a24, .int (iZ nb), .ref a26, .ref a27, .ref a28, .int (iZ z29), .int (iZ z30), .int (iZ z31), .int (iZ z32), .int (iZ z33), .int (iZ z34), .ref a35, .ref a36, .ref a37, .ref a38, .ref a39, .ref a40, .ref a41, .int (iZ z42), .int (iZ z43), .ref a44, .ref a45])), (a10, .inl (cI, 1800, .inl (zA g10))), (a12, .inl (cI, 900, .inl (zA g12))), (a13, .inl (cI, 150, .inl (zA g13))), (a15, .inl (cY, 150, .inl (zA g15))), (a17, .inl (cI, 150, .inl (zA ro))), (a20, .inl (cI, 900, .inl (zA h20))), (a21, .inl (cI, 900, .inl (zA h21))), (a22, .inl (cI, 900, .inl (zA h22))), (a23, .inl (cY, 900, .inl (zA h23))), (a24, .inl (cY, 900, .inl (zA h24))), (a44, .inl (cI, 26, .inl (zA u4))), (a45, .inl (cY, 26, .inl (zA u5)))] 6 [(0, .ref m0), (1, .int (iZ k))] [] := by
    intro kf
    induction kf with
    | zero => intro k u4 u5 hk hu4 hu5 hm; exact absurd hm (Nat.not_lt_zero _)
    | succ kf ih_6 =>
      intro k u4 u5 hk hu4 hu5 hm
      refine g_iload_n X 1 dX5_counts_6 rfl rfl ?_
      refine g_bipush X dX5_counts_7 (by decide) ?_
      refine g_icmp_ge X 32 dX5_counts_9 (by decide) (by omega) (by omega) (fun c_9 => ?_) (fun c_9 => ?_)
      · skip
        refine g_iconst X dX5_counts_32 ?_
        refine g_istore_n (lv2 := [(1, .int (iZ 0)), (0, .ref m0)]) X dX5_counts_33 rfl (by decide) rfl ?_
        refine g_iconst X dX5_counts_34 ?_
        refine g_istore_n (lv2 := [(2, .int (iZ 0)), (1, .int (iZ 0)), (0, .ref m0)]) X dX5_counts_35 rfl (by decide) rfl ?_
        have hu6 : u4 = fillZ g44 0 26 := by rw [hu4, show k = 26 by omega]
        have hu7 : u5 = fillZ g45 0 26 := by rw [hu5, show k = 26 by omega]
        refine g_lv (lv' := [(0, .ref m0), (1, .int (iZ 0)), (2, .int (iZ 0))]) [2, 1, 0] rfl ?_
        have loop_36 : ∀ (kf : Nat) (al : Int) (k : Int) (v4 : Int → Int) (v5 : Int → Int), (hk : 0 ≤ k ∧ k ≤ nb) → (hv4 : v4 = cnG g10 h20 h22 (fillZ g44 0 26) k.toNat) → (hv5 : v5 = cnH g10 h20 (fillZ g45 0 26) k.toNat) → (hal : al = sumN h22 0 k.toNat) → (hv4r : ∀ l9 : Int, 0 ≤ l9 ∧ l9 < 26 → 0 ≤ v4 l9 ∧ v4 l9 ≤ 23 * k) → (hv5r : ∀ l9 : Int, 0 ≤ l9 ∧ l9 < 26 → v5 l9 = 0 ∨ v5 l9 = 1) → (halr : k ≤ al ∧ al ≤ 23 * k) → (nb - k).toNat < kf → gW p l e { frames := 3, cells := 0, slots := 0, locals := 71 } s m args below meth c D A 4 0 0 (MQ below (gQ D (gT cB cI cJ cY) (qX5_counts cB cI cJ cY m0 a6 a8 a10 a11 a12 a13 a14 a15 a17 a19 a20 a21 a22 a23 a24 a26 a27 a28 a35 a36 a37 a38 a39 a40 a41 a44 a45 z0 z1 z2 z3 z4 z5 z7 z9 z16 z18 z25 z29 z30 z31 z32 z33 z34 z42 z43 g10 g12 g13 g15 g17 g20 g21 g22 g23 g24 g44 g45) A) args s 0 0 A) [(m0, .inr (5, [.int (iZ z0), .int (iZ z1), .int (iZ z2), .int (iZ z3), .int (iZ z4), .int (iZ z5), .ref a6, .int (iZ z7), .ref a8, .int (iZ z9), .ref a10, .ref a11, .ref a12, .ref a13, .ref a14, .ref a15, .int (iZ z16), .ref a17, .int (iZ R9), .ref a19, .ref a20, .ref a21, .ref a22, .ref a23, .ref a24, .int (iZ nb), .ref a26, .ref a27, .ref a28, .int (iZ z29), .int (iZ z30), .int (iZ z31), .int (iZ z32), .int (iZ z33), .int (iZ z34), .ref a35, .ref a36, .ref a37, .ref a38, .ref a39, .ref a40, .ref a41, .int (iZ z42), .int (iZ z43), .ref a44, .ref a45])), (a10, .inl (cI, 1800, .inl (zA g10))), (a12, .inl (cI, 900, .inl (zA g12))), (a13, .inl (cI, 150, .inl (zA g13))), (a15, .inl (cY, 150, .inl (zA g15))), (a17, .inl (cI, 150, .inl (zA ro))), (a20, .inl (cI, 900, .inl (zA h20))), (a21, .inl (cI, 900, .inl (zA h21))), (a22, .inl (cI, 900, .inl (zA h22))), (a23, .inl (cY, 900, .inl (zA h23))), (a24, .inl (cY, 900, .inl (zA h24))), (a44, .inl (cI, 26, .inl (zA v4))), (a45, .inl (cY, 26, .inl (zA v5)))] 36 [(0, .ref m0), (1, .int (iZ al)), (2, .int (iZ k))] [] := by
          intro kf
          induction kf with
          | zero => intro al k v4 v5 hk hv4 hv5 hal hv4r hv5r halr hm; exact absurd hm (Nat.not_lt_zero _)
          | succ kf ih_36 =>
            intro al k v4 v5 hk hv4 hv5 hal hv4r hv5r halr hm
            refine g_iload_n X 2 dX5_counts_36 rfl rfl ?_
            refine g_aload_n X 0 dX5_counts_37 rfl rfl ?_
            refine g_get X (index := 158) (ref := "GuideWordsModel") hin5 0 rfl rfl 25 (by decide) rfl (by decide +kernel) (v := .int (iZ nb)) rfl dX5_counts_38 ?_
            refine g_icmp_ge X 99 dX5_counts_41 (by decide) (by omega) (by omega) (fun c_41 => ?_) (fun c_41 => ?_)
            · skip
              refine g_iload_n X 1 dX5_counts_99 rfl rfl ?_
              exact g_iret X hr (by decide) (by decide) dX5_counts_100 ⟨_, R9, ro, nb, h20, h21, h22, h23, h24, v4, v5, rfl, hs, hn, hnb, hga, hr20, hr21, hr22, hr23, hr24, by rw [hv4, show k = nb by omega], by rw [hv5, show k = nb by omega], by rw [hal, show k = nb by omega], fun l9 h => by have := hv4r l9 h; omega, hv5r, by omega, by omega, rfl⟩
            · skip
              refine g_aload_n X 0 dX5_counts_44 rfl rfl ?_
              refine g_get X (index := 33) (ref := "GuideWordsModel") hin5 0 rfl rfl 10 (by decide) rfl (by decide +kernel) (v := .ref a10) rfl dX5_counts_45 ?_
              refine g_bipush X dX5_counts_48 (by decide) ?_
              refine g_aload_n X 0 dX5_counts_50 rfl rfl ?_
              refine g_get X (index := 58) (ref := "GuideWordsModel") hin5 0 rfl rfl 20 (by decide) rfl (by decide +kernel) (v := .ref a20) rfl dX5_counts_51 ?_
              refine g_iload_n X 2 dX5_counts_54 rfl rfl ?_
              refine g_iald X 6 1 rfl rfl (by omega) (by decide) dX5_counts_55 ?_
              have r_55 := hcov k (by omega) (by omega)
              refine g_imul X dX5_counts_56 ?_
              refine g_iald X 1 1 rfl rfl (by omega) (by decide) dX5_counts_57 ?_
              have r_57 := h10r (12 * h20 k) (by omega)
              have r_58 := hl1 (h20 k) (by omega)
              have hk1 : (k + 1).toNat = k.toNat + 1 := by omega
              have hk2 : ((k.toNat : Nat) : Int) = k := by omega
              refine g_bipush X dX5_counts_58 (by decide) ?_
              refine g_isub X dX5_counts_60 ?_
              refine g_istore_n (lv2 := [(3, .int (iZ ((g10 (12 * (h20 k))) - 97))), (0, .ref m0), (1, .int (iZ al)), (2, .int (iZ k))]) X dX5_counts_61 rfl (by decide) rfl ?_
              refine g_aload_n X 1 dX5_counts_62 rfl rfl ?_
              refine g_get X (index := 110) (ref := "GuideWordsModel") hin5 0 rfl rfl 44 (by decide) rfl (by decide +kernel) (v := .ref a44) rfl dX5_counts_63 ?_
              refine g_iload_n X 0 dX5_counts_66 rfl rfl ?_
              refine g_dup2 X dX5_counts_67 rfl rfl ?_
              refine g_iald X 11 1 rfl rfl (by omega) (by decide) dX5_counts_68 ?_
              have r_68 := hv4r ((g10 (12 * (h20 k))) - 97) (by omega)
              refine g_aload_n X 1 dX5_counts_69 rfl rfl ?_
              refine g_get X (index := 64) (ref := "GuideWordsModel") hin5 0 rfl rfl 22 (by decide) rfl (by decide +kernel) (v := .ref a22) rfl dX5_counts_70 ?_
              refine g_iload_n X 3 dX5_counts_73 rfl rfl ?_
              refine g_iald X 8 1 rfl rfl (by omega) (by decide) dX5_counts_74 ?_
              have r_74 := hr22 k (by omega)
              refine g_iadd X dX5_counts_75 ?_
              refine g_iast X 11 1 rfl rfl (by omega) (by decide) (ws2 := [(m0, .inr (5, [.int (iZ z0), .int (iZ z1), .int (iZ z2), .int (iZ z3), .int (iZ z4), .int (iZ z5), .ref a6, .int (iZ z7), .ref a8, .int (iZ z9), .ref a10, .ref a11, .ref a12, .ref a13, .ref a14, .ref a15, .int (iZ z16), .ref a17, .int (iZ R9), .ref a19, .ref a20, .ref a21, .ref a22, .ref a23, .ref a24, .int (iZ nb), .ref a26, .ref a27, .ref a28, .int (iZ z29), .int (iZ z30), .int (iZ z31), .int (iZ z32), .int (iZ z33), .int (iZ z34), .ref a35, .ref a36, .ref a37, .ref a38, .ref a39, .ref a40, .ref a41, .int (iZ z42), .int (iZ z43), .ref a44, .ref a45])), (a10, .inl (cI, 1800, .inl (zA g10))), (a12, .inl (cI, 900, .inl (zA g12))), (a13, .inl (cI, 150, .inl (zA g13))), (a15, .inl (cY, 150, .inl (zA g15))), (a17, .inl (cI, 150, .inl (zA ro))), (a20, .inl (cI, 900, .inl (zA h20))), (a21, .inl (cI, 900, .inl (zA h21))), (a22, .inl (cI, 900, .inl (zA h22))), (a23, .inl (cY, 900, .inl (zA h23))), (a24, .inl (cY, 900, .inl (zA h24))), (a44, .inl (cI, 26, .inl (zA (upZ v4 ((g10 (12 * (h20 k))) - 97) ((v4 ((g10 (12 * (h20 k))) - 97)) + (h22 k)))))), (a45, .inl (cY, 26, .inl (zA v5)))]) rfl dX5_counts_76 ?_
              refine g_aload_n X 1 dX5_counts_77 rfl rfl ?_
              refine g_get X (index := 113) (ref := "GuideWordsModel") hin5 0 rfl rfl 45 (by decide) rfl (by decide +kernel) (v := .ref a45) rfl dX5_counts_78 ?_
              refine g_iload_n X 0 dX5_counts_81 rfl rfl ?_
              refine g_iconst X dX5_counts_82 ?_
              refine g_zast X 12 3 rfl rfl (by omega) (by decide) (Or.inr rfl) (ws2 := [(m0, .inr (5, [.int (iZ z0), .int (iZ z1), .int (iZ z2), .int (iZ z3), .int (iZ z4), .int (iZ z5), .ref a6, .int (iZ z7), .ref a8, .int (iZ z9), .ref a10, .ref a11, .ref a12, .ref a13, .ref a14, .ref a15, .int (iZ z16), .ref a17, .int (iZ R9), .ref a19, .ref a20, .ref a21, .ref a22, .ref a23, .ref a24, .int (iZ nb), .ref a26, .ref a27, .ref a28, .int (iZ z29), .int (iZ z30), .int (iZ z31), .int (iZ z32), .int (iZ z33), .int (iZ z34), .ref a35, .ref a36, .ref a37, .ref a38, .ref a39, .ref a40, .ref a41, .int (iZ z42), .int (iZ z43), .ref a44, .ref a45])), (a10, .inl (cI, 1800, .inl (zA g10))), (a12, .inl (cI, 900, .inl (zA g12))), (a13, .inl (cI, 150, .inl (zA g13))), (a15, .inl (cY, 150, .inl (zA g15))), (a17, .inl (cI, 150, .inl (zA ro))), (a20, .inl (cI, 900, .inl (zA h20))), (a21, .inl (cI, 900, .inl (zA h21))), (a22, .inl (cI, 900, .inl (zA h22))), (a23, .inl (cY, 900, .inl (zA h23))), (a24, .inl (cY, 900, .inl (zA h24))), (a44, .inl (cI, 26, .inl (zA (upZ v4 ((g10 (12 * (h20 k))) - 97) ((v4 ((g10 (12 * (h20 k))) - 97)) + (h22 k)))))), (a45, .inl (cY, 26, .inl (zA (upZ v5 ((g10 (12 * (h20 k))) - 97) 1))))]) rfl dX5_counts_83 ?_
              refine g_iload_n X 2 dX5_counts_84 rfl rfl ?_
              refine g_aload_n X 1 dX5_counts_85 rfl rfl ?_
              refine g_get X (index := 64) (ref := "GuideWordsModel") hin5 0 rfl rfl 22 (by decide) rfl (by decide +kernel) (v := .ref a22) rfl dX5_counts_86 ?_
              refine g_iload_n X 3 dX5_counts_89 rfl rfl ?_
              refine g_iald X 8 1 rfl rfl (by omega) (by decide) dX5_counts_90 ?_
              have r_90 := hr22 k (by omega)
              refine g_iadd X dX5_counts_91 ?_
              refine g_istore_n (lv2 := [(1, .int (iZ (al + (h22 k)))), (3, .int (iZ ((g10 (12 * (h20 k))) - 97))), (0, .ref m0), (2, .int (iZ k))]) X dX5_counts_92 rfl (by decide) rfl ?_
              have r_7 := hr22 k (by omega)
              have G1 : upZ v4 (g10 (12 * h20 k) - 97) (v4 (g10 (12 * h20 k) - 97) + h22 k) = cnG g10 h20 h22 (fillZ g44 0 26) (k + 1).toNat := by rw [hk1, cnG, hk2, ← hv4]
              have G2 : upZ v5 (g10 (12 * h20 k) - 97) 1 = cnH g10 h20 (fillZ g45 0 26) (k + 1).toNat := by rw [hk1, cnH, hk2, ← hv5]
              have G3 : ∀ l9 : Int, 0 ≤ l9 ∧ l9 < 26 → 0 ≤ upZ v4 (g10 (12 * h20 k) - 97) (v4 (g10 (12 * h20 k) - 97) + h22 k) l9 ∧ upZ v4 (g10 (12 * h20 k) - 97) (v4 (g10 (12 * h20 k) - 97) + h22 k) l9 ≤ 23 * (k + 1) := fun l9 h => by
                have q1 := hv4r l9 h; have q2 := hv4r (g10 (12 * h20 k) - 97) (by omega)
                unfold upZ; split <;> omega
              have G4 : ∀ l9 : Int, 0 ≤ l9 ∧ l9 < 26 → upZ v5 (g10 (12 * h20 k) - 97) 1 l9 = 0 ∨ upZ v5 (g10 (12 * h20 k) - 97) 1 l9 = 1 := fun l9 h => by
                unfold upZ; split
                · exact Or.inr rfl
                · exact hv5r l9 h
              refine g_iinc (q := 3) (lv2 := [(2, .int (iZ (k + 1))), (1, .int (iZ (al + (h22 k)))), (3, .int (iZ ((g10 (12 * (h20 k))) - 97))), (0, .ref m0)]) X dX5_counts_93 rfl (by decide) rfl ?_
              refine g_goto X 36 dX5_counts_96 (by decide) ?_
              refine g_lv (lv' := [(0, .ref m0), (1, .int (iZ (al + (h22 k)))), (2, .int (iZ (k + 1)))]) [3, 1, 0] rfl ?_
              exact ih_36 (al + (h22 k)) (k + 1) (upZ v4 ((g10 (12 * (h20 k))) - 97) ((v4 ((g10 (12 * (h20 k))) - 97)) + (h22 k))) (upZ v5 ((g10 (12 * (h20 k))) - 97) 1) (by omega) G1 G2 (by rw [hk1, sumN, hk2, Int.zero_add, hal]) G3 G4 (by omega) (by omega)
        exact loop_36 _ 0 0 u4 u5 (by omega) hu6 hu7 rfl (fun l9 h => by rw [hu6, fillZ_in (by omega)]; omega) (fun l9 h => Or.inl (by rw [hu7, fillZ_in (by omega)])) (by omega) (Nat.lt_succ_self _)
      · skip
        refine g_aload_n X 0 dX5_counts_12 rfl rfl ?_
        refine g_get X (index := 110) (ref := "GuideWordsModel") hin5 0 rfl rfl 44 (by decide) rfl (by decide +kernel) (v := .ref a44) rfl dX5_counts_13 ?_
        refine g_iload_n X 1 dX5_counts_16 rfl rfl ?_
        refine g_iconst X dX5_counts_17 ?_
        refine g_iast X 11 1 rfl rfl (by omega) (by decide) (ws2 := [(m0, .inr (5, [.int (iZ z0), .int (iZ z1), .int (iZ z2), .int (iZ z3), .int (iZ z4), .int (iZ z5), .ref a6, .int (iZ z7), .ref a8, .int (iZ z9), .ref a10, .ref a11, .ref a12, .ref a13, .ref a14, .ref a15, .int (iZ z16), .ref a17, .int (iZ R9), .ref a19, .ref a20, .ref a21, .ref a22, .ref a23, .ref a24, .int (iZ nb), .ref a26, .ref a27, .ref a28, .int (iZ z29), .int (iZ z30), .int (iZ z31), .int (iZ z32), .int (iZ z33), .int (iZ z34), .ref a35, .ref a36, .ref a37, .ref a38, .ref a39, .ref a40, .ref a41, .int (iZ z42), .int (iZ z43), .ref a44, .ref a45])), (a10, .inl (cI, 1800, .inl (zA g10))), (a12, .inl (cI, 900, .inl (zA g12))), (a13, .inl (cI, 150, .inl (zA g13))), (a15, .inl (cY, 150, .inl (zA g15))), (a17, .inl (cI, 150, .inl (zA ro))), (a20, .inl (cI, 900, .inl (zA h20))), (a21, .inl (cI, 900, .inl (zA h21))), (a22, .inl (cI, 900, .inl (zA h22))), (a23, .inl (cY, 900, .inl (zA h23))), (a24, .inl (cY, 900, .inl (zA h24))), (a44, .inl (cI, 26, .inl (zA (upZ u4 k 0)))), (a45, .inl (cY, 26, .inl (zA u5)))]) rfl dX5_counts_18 ?_
        refine g_aload_n X 0 dX5_counts_19 rfl rfl ?_
        refine g_get X (index := 113) (ref := "GuideWordsModel") hin5 0 rfl rfl 45 (by decide) rfl (by decide +kernel) (v := .ref a45) rfl dX5_counts_20 ?_
        refine g_iload_n X 1 dX5_counts_23 rfl rfl ?_
        refine g_iconst X dX5_counts_24 ?_
        refine g_zast X 12 3 rfl rfl (by omega) (by decide) (Or.inl rfl) (ws2 := [(m0, .inr (5, [.int (iZ z0), .int (iZ z1), .int (iZ z2), .int (iZ z3), .int (iZ z4), .int (iZ z5), .ref a6, .int (iZ z7), .ref a8, .int (iZ z9), .ref a10, .ref a11, .ref a12, .ref a13, .ref a14, .ref a15, .int (iZ z16), .ref a17, .int (iZ R9), .ref a19, .ref a20, .ref a21, .ref a22, .ref a23, .ref a24, .int (iZ nb), .ref a26, .ref a27, .ref a28, .int (iZ z29), .int (iZ z30), .int (iZ z31), .int (iZ z32), .int (iZ z33), .int (iZ z34), .ref a35, .ref a36, .ref a37, .ref a38, .ref a39, .ref a40, .ref a41, .int (iZ z42), .int (iZ z43), .ref a44, .ref a45])), (a10, .inl (cI, 1800, .inl (zA g10))), (a12, .inl (cI, 900, .inl (zA g12))), (a13, .inl (cI, 150, .inl (zA g13))), (a15, .inl (cY, 150, .inl (zA g15))), (a17, .inl (cI, 150, .inl (zA ro))), (a20, .inl (cI, 900, .inl (zA h20))), (a21, .inl (cI, 900, .inl (zA h21))), (a22, .inl (cI, 900, .inl (zA h22))), (a23, .inl (cY, 900, .inl (zA h23))), (a24, .inl (cY, 900, .inl (zA h24))), (a44, .inl (cI, 26, .inl (zA (upZ u4 k 0)))), (a45, .inl (cY, 26, .inl (zA (upZ u5 k 0))))]) rfl dX5_counts_25 ?_
        refine g_iinc (q := 1) (lv2 := [(1, .int (iZ (k + 1))), (0, .ref m0)]) X dX5_counts_26 rfl (by decide) rfl ?_
        refine g_goto X 6 dX5_counts_29 (by decide) ?_
        refine g_lv (lv' := [(0, .ref m0), (1, .int (iZ (k + 1)))]) [1, 0] rfl ?_
        exact ih_6 (k + 1) (upZ u4 k 0) (upZ u5 k 0) (by omega) (by rw [hu4]; exact fillZ_s g44 0 k hk.1) (by rw [hu5]; exact fillZ_s g45 0 k hk.1) (by omega)
  exact loop_6 _ 0 g44 g45 (by omega) (fillZ_0 g44 0).symm (fillZ_0 g45 0).symm (Nat.lt_succ_self _)
