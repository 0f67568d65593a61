def dgZ (x : Int) : Int := if x = 0 then 0 else x - 96
def encD (g : Int → Int) (a : Int) : Nat → Int
  | 0 => 0
  | n + 1 => encD g a n + dgZ (g (a + n)) * 2 ^ (55 - 5 * n)
def okV (x : Int) : Prop := x = 0 ∨ (97 ≤ x ∧ x ≤ 122)
theorem dgZ_rng {x : Int} (h : okV x) : 0 ≤ dgZ x ∧ dgZ x ≤ 26 := by unfold dgZ; rcases h with h | h <;> split <;> omega
theorem dgZ_lt {x y : Int} (hx : okV x) (hy : okV y) (h : x < y) : dgZ x < dgZ y := by
  have e1 : ∀ z : Int, okV z → (z = 0 ∧ dgZ z = 0) ∨ (97 ≤ z ∧ dgZ z = z - 96) := fun z hz => by
    unfold dgZ; rcases hz with hz | hz
    · exact Or.inl ⟨hz, if_pos hz⟩
    · exact Or.inr ⟨hz.1, if_neg (by omega)⟩
  have a := e1 x hx
  have b := e1 y hy
  omega
theorem pw_5 (n : Nat) (h : n ≤ 11) : (2 : Int) ^ (60 - 5 * n) = 32 * 2 ^ (55 - 5 * n) := by
  rw [show 60 - 5 * n = (55 - 5 * n) + 5 by omega, Int.pow_add, Int.mul_comm]; rfl
theorem pw_pos (n : Nat) : (0 : Int) < 2 ^ n := Int.pow_pos (by decide)
theorem mul_up {a b p : Int} (hp : 0 < p) (h : a ≤ b) : a * p ≤ b * p := Int.mul_le_mul_of_nonneg_right h (by omega)
theorem encD_top {g : Int → Int} {a : Int} (hg : ∀ k : Nat, k < 12 → okV (g (a + k))) (k : Nat) : ∀ n : Nat, k ≤ n → n ≤ 12 → encD g a k ≤ encD g a n ∧ encD g a n + 2 ^ (60 - 5 * n) ≤ encD g a k + 2 ^ (60 - 5 * k) := by
  intro n
  induction n with
  | zero => intro h1 h2; have : k = 0 := by omega
            subst this; exact ⟨Int.le_refl _, Int.le_refl _⟩
  | succ n ih =>
    intro h1 h2
    rcases (show k = n + 1 ∨ k ≤ n by omega) with e | e
    · subst e; exact ⟨Int.le_refl _, Int.le_refl _⟩
    · obtain ⟨i1, i2⟩ := ih e (by omega)
      have hd := dgZ_rng (hg n (by omega))
      have hp := pw_pos (55 - 5 * n)
      have e1 := pw_5 n (by omega)
      rw [show 60 - 5 * (n + 1) = 55 - 5 * n by omega, encD]
      rw [e1] at i2
      have q1 := mul_up hp hd.1
      have q2 := mul_up hp hd.2
      generalize (2 : Int) ^ (55 - 5 * n) = p at *
      generalize dgZ (g (a + n)) * p = t at *
      omega
theorem encD_pre {g h : Int → Int} {a b : Int} : ∀ k : Nat, (∀ q : Nat, q < k → g (a + q) = h (b + q)) → encD g a k = encD h b k
  | 0, _ => rfl
  | k + 1, e => by rw [encD, encD, encD_pre k (fun q hq => e q (by omega)), e k (by omega)]
theorem encD_lt {g h : Int → Int} {a b : Int} (hg : ∀ k : Nat, k < 12 → okV (g (a + k))) (hh : ∀ k : Nat, k < 12 → okV (h (b + k))) (k : Nat) (hk : k < 12) (e : ∀ q : Nat, q < k → g (a + q) = h (b + q)) (hl : g (a + k) < h (b + k)) : encD g a 12 < encD h b 12 := by
  have h1 := (encD_top hg (k + 1) 12 (by omega) (by omega)).2
  have h2 := (encD_top hh (k + 1) 12 (by omega) (by omega)).1
  have hp := pw_pos (55 - 5 * k)
  have hd := dgZ_lt (hg k hk) (hh k hk) hl
  have q1 := mul_up hp (show dgZ (g (a + k)) + 1 ≤ dgZ (h (b + k)) by omega)
  rw [Int.add_mul, Int.one_mul] at q1
  have e1 : encD g a (k + 1) = encD g a k + dgZ (g (a + k)) * 2 ^ (55 - 5 * k) := rfl
  have e2 : encD h b (k + 1) = encD h b k + dgZ (h (b + k)) * 2 ^ (55 - 5 * k) := rfl
  rw [show 60 - 5 * (k + 1) = 55 - 5 * k by omega, show 60 - 5 * 12 = 0 by omega, Int.pow_zero, e1, encD_pre k e] at h1
  rw [e2] at h2
  omega
theorem cmp_sgn {g h : Int → Int} {i j r : Int} (hg : ∀ k : Nat, k < 12 → okV (g (i + k))) (hh : ∀ k : Nat, k < 12 → okV (h (j + k))) (hc : cmpP g i h j r) : (r < 0 ∧ encD g i 12 < encD h j 12) ∨ (r = 0 ∧ encD g i 12 = encD h j 12) ∨ (0 < r ∧ encD h j 12 < encD g i 12) := by
  rcases hc with ⟨h1, h2⟩ | ⟨k, k1, k2, k3, k4, k5⟩
  · exact Or.inr (Or.inl ⟨h1, encD_pre 12 (fun q hq => h2 q (by omega) (by omega))⟩)
  · have e0 : ((k.toNat : Nat) : Int) = k := by omega
    have e1 : ∀ q : Nat, q < k.toNat → g (i + q) = h (j + q) := fun q hq => k3 q (by omega) (by omega)
    rcases (show g (i + k) < h (j + k) ∨ h (j + k) < g (i + k) by omega) with c | c
    · exact Or.inl ⟨by omega, encD_lt hg hh k.toNat (by omega) e1 (by rw [e0]; exact c)⟩
    · exact Or.inr (Or.inr ⟨by omega, encD_lt hh hg k.toNat (by omega) (fun q hq => (e1 q hq).symm) (by rw [e0]; exact c)⟩)
def hmZ (g : Int → Int) (e9 : Int) : Int := encD g (12 * e9) 12
theorem ok_at {g : Int → Int} {e9 : Int} (h : ∀ j : Int, 0 ≤ j ∧ j < 1800 → okV (g j)) (he : 0 ≤ e9 ∧ e9 < 150) : ∀ k : Nat, k < 12 → okV (g (12 * e9 + k)) := fun k hk => h _ (by omega)
/-- the entries below N that are there, in order, by head and number -/
def srtZ (hm th : Int → Int) (N : Int) (od : Int → Int) (P : Int) : Prop := (0 ≤ P ∧ P ≤ N) ∧ (∀ k : Int, 0 ≤ k → k < P → 0 ≤ od k ∧ od k < N ∧ th (od k) ≠ 0) ∧ (∀ i j : Int, 0 ≤ i → i < j → j < P → hm (od i) < hm (od j) ∨ (hm (od i) = hm (od j) ∧ od i < od j)) ∧ (∀ e9 : Int, 0 ≤ e9 → e9 < N → th e9 ≠ 0 → ∃ k : Int, 0 ≤ k ∧ k < P ∧ od k = e9)
theorem srt_0 {hm th od : Int → Int} : srtZ hm th 0 od 0 := ⟨by omega, fun k h1 h2 => by omega, fun i j h1 h2 h3 => by omega, fun e9 h1 h2 => by omega⟩
theorem srt_skip {hm th od : Int → Int} {N P : Int} (h : srtZ hm th N od P) (ht : th N = 0) : srtZ hm th (N + 1) od P := by
  obtain ⟨h1, h2, h3, h4⟩ := h
  refine ⟨by omega, fun k a b => ?_, h3, fun e9 a b c => ?_⟩
  · have := h2 k a b; exact ⟨this.1, by omega, this.2.2⟩
  · rcases (show e9 = N ∨ e9 < N by omega) with e | e
    · subst e; exact absurd ht c
    · exact h4 e9 a e c
theorem srt_ins {hm th od od2 : Int → Int} {N P b : Int} (h : srtZ hm th N od P) (hN : 0 ≤ N) (ht : th N ≠ 0) (hb : 0 ≤ b ∧ b ≤ P) (hlo : ∀ k : Int, 0 ≤ k → k < b → hm (od k) ≤ hm N) (hhi : ∀ k : Int, b ≤ k → k < P → hm N < hm (od k)) (e1 : ∀ j : Int, 0 ≤ j → j < b → od2 j = od j) (e2 : od2 b = N) (e3 : ∀ j : Int, b < j → j ≤ P → od2 j = od (j - 1)) : srtZ hm th (N + 1) od2 (P + 1) := by
  obtain ⟨h1, h2, h3, h4⟩ := h
  refine ⟨by omega, fun k a c => ?_, fun i j a c d => ?_, fun e9 a c d => ?_⟩
  · rcases (show k < b ∨ k = b ∨ b < k by omega) with e | e | e
    · rw [e1 k a e]; have := h2 k a (by omega); exact ⟨this.1, by omega, this.2.2⟩
    · rw [e, e2]; exact ⟨hN, by omega, ht⟩
    · rw [e3 k e (by omega)]; have := h2 (k - 1) (by omega) (by omega); exact ⟨this.1, by omega, this.2.2⟩
  · rcases (show j < b ∨ j = b ∨ b < j by omega) with e | e | e
    · rw [e1 i a (by omega), e1 j (by omega) e]; exact h3 i j a c (by omega)
    · have q1 := hlo i a (by omega)
      have q2 := h2 i a (by omega)
      rw [e1 i a (by omega), e, e2]; omega
    · rcases (show i < b ∨ i = b ∨ b < i by omega) with f | f | f
      · rw [e1 i a f, e3 j e (by omega)]; exact h3 i (j - 1) a (by omega) (by omega)
      · have q1 := hhi (j - 1) (by omega) (by omega)
        rw [f, e2, e3 j e (by omega)]; exact Or.inl q1
      · rw [e3 i f (by omega), e3 j e (by omega)]; exact h3 (i - 1) (j - 1) (by omega) (by omega) (by omega)
  · rcases (show e9 = N ∨ e9 < N by omega) with e | e
    · exact ⟨b, by omega, by omega, by rw [e2, e]⟩
    · obtain ⟨k, k1, k2, k3⟩ := h4 e9 a e d
      rcases (show k < b ∨ b ≤ k by omega) with f | f
      · exact ⟨k, k1, by omega, by rw [e1 k k1 f, k3]⟩
      · exact ⟨k + 1, by omega, by omega, by rw [e3 (k + 1) (by omega) (by omega), show k + 1 - 1 = k by omega, k3]⟩
theorem srt_le {hm th od : Int → Int} {N P : Int} (h : srtZ hm th N od P) : ∀ i j : Int, 0 ≤ i → i < j → j < P → hm (od i) ≤ hm (od j) := fun i j a b c => by
  rcases h.2.2.1 i j a b c with q | q <;> omega
def qX5_sorts (cB cI cJ cY : ClassId) (m0 : Nat) (a6 : Nat) (a8 : Nat) (a10 : Nat) (a11 : Nat) (a12 : Nat) (a13 : Nat) (a14 : Nat) (a15 : Nat) (a17 : Nat) (a19 : Nat) (a20 : Nat) (a21 : Nat) (a22 : Nat) (a23 : Nat) (a24 : Nat) (a26 : Nat) (a27 : Nat) (a28 : Nat) (a35 : Nat) (a36 : Nat) (a37 : Nat) (a38 : Nat) (a39 : Nat) (a40 : Nat) (a41 : Nat) (a44 : Nat) (a45 : Nat) (z0 : Int) (z1 : Int) (z2 : Int) (z3 : Int) (z4 : Int) (z5 : Int) (z7 : Int) (z9 : Int) (z16 : Int) (z18 : Int) (z25 : Int) (z29 : Int) (z30 : Int) (z31 : Int) (z32 : Int) (z33 : Int) (z34 : Int) (z42 : Int) (z43 : Int) (g10 : Int → Int) (g15 : Int → Int) (g17 : Int → Int) : Option Value → va_W → Prop := fun rv w1 => ∃ (R9 : Int) (ro : Int → Int), rv = none ∧ srtZ (hmZ g10) g15 z16 ro R9 ∧ w1 = [(m0, .inr (5, [.int (iZ z0), .int (iZ z1), .int (iZ z2), .int (iZ z3), .int (iZ z4), .int (iZ z5), .ref a6, .int (iZ z7), .ref a8, .int (iZ z9), .ref a10, .ref a11, .ref a12, .ref a13, .ref a14, .ref a15, .int (iZ z16), .ref a17, .int (iZ R9), .ref a19, .ref a20, .ref a21, .ref a22, .ref a23, .ref a24, .int (iZ z25), .ref a26, .ref a27, .ref a28, .int (iZ z29), .int (iZ z30), .int (iZ z31), .int (iZ z32), .int (iZ z33), .int (iZ z34), .ref a35, .ref a36, .ref a37, .ref a38, .ref a39, .ref a40, .ref a41, .int (iZ z42), .int (iZ z43), .ref a44, .ref a45])), (a10, .inl (cI, 1800, .inl (zA g10))), (a15, .inl (cY, 150, .inl (zA g15))), (a17, .inl (cI, 150, .inl (zA ro)))]
set_option maxHeartbeats 4000000 in
set_option maxRecDepth 100000 in
theorem ctX5_sorts (l : Launch) (D : va_G) (cB cI cJ cY : ClassId) (m0 : Nat) (a6 : Nat) (a8 : Nat) (a10 : Nat) (a11 : Nat) (a12 : Nat) (a13 : Nat) (a14 : Nat) (a15 : Nat) (a17 : Nat) (a19 : Nat) (a20 : Nat) (a21 : Nat) (a22 : Nat) (a23 : Nat) (a24 : Nat) (a26 : Nat) (a27 : Nat) (a28 : Nat) (a35 : Nat) (a36 : Nat) (a37 : Nat) (a38 : Nat) (a39 : Nat) (a40 : Nat) (a41 : Nat) (a44 : Nat) (a45 : Nat) (z0 : Int) (z1 : Int) (z2 : Int) (z3 : Int) (z4 : Int) (z5 : Int) (z7 : Int) (z9 : Int) (z16 : Int) (z18 : Int) (z25 : Int) (z29 : Int) (z30 : Int) (z31 : Int) (z32 : Int) (z33 : Int) (z34 : Int) (z42 : Int) (z43 : Int) (g10 : Int → Int) (g15 : Int → Int) (g17 : Int → Int) (h16 : 0 ≤ z16 ∧ z16 ≤ 150) (hok10 : ∀ j : Int, 0 ≤ j ∧ j < 1800 → okV (g10 j)) (h15 : ∀ j : Int, 0 ≤ j ∧ j < 150 → g15 j = 0 ∨ g15 j = 1) : gM l yX5_sorts wsX5_sorts { frames := 1, cells := 0, slots := 0, locals := 24 } D (gT cB cI cJ cY) [.ref m0] [(m0, .inr (5, [.int (iZ z0), .int (iZ z1), .int (iZ z2), .int (iZ z3), .int (iZ z4), .int (iZ z5), .ref a6, .int (iZ z7), .ref a8, .int (iZ z9), .ref a10, .ref a11, .ref a12, .ref a13, .ref a14, .ref a15, .int (iZ z16), .ref a17, .int (iZ z18), .ref a19, .ref a20, .ref a21, .ref a22, .ref a23, .ref a24, .int (iZ z25), .ref a26, .ref a27, .ref a28, .int (iZ z29), .int (iZ z30), .int (iZ z31), .int (iZ z32), .int (iZ z33), .int (iZ z34), .ref a35, .ref a36, .ref a37, .ref a38, .ref a39, .ref a40, .ref a41, .int (iZ z42), .int (iZ z43), .ref a44, .ref a45])), (a10, .inl (cI, 1800, .inl (zA g10))), (a15, .inl (cY, 150, .inl (zA g15))), (a17, .inl (cI, 150, .inl (zA g17)))] 0 0 (qX5_sorts cB cI cJ cY m0 a6 a8 a10 a11 a12 a13 a14 a15 a17 a19 a20 a21 a22 a23 a24 a26 a27 a28 a35 a36 a37 a38 a39 a40 a41 a44 a45 z0 z1 z2 z3 z4 z5 z7 z9 z16 z18 z25 z29 z30 z31 z32 z33 z34 z42 z43 g10 g15 g17) := by
  refine g_start (cc := cX5_sorts) (maxL := 3) (ret := none) (lv := [(0, .ref m0)]) (by decide) rfl (Nat.le_of_ble_eq_true rfl) rfl ?_
  intro p e s m args below meth c A X hr hnm
  have hin5 : ∀ w ∈ u_ws RX5 TX5 46, w ∈ wsX5_sorts := by decide +kernel
  have h10r : ∀ j : Int, 0 ≤ j ∧ j < 1800 → 0 ≤ g10 j ∧ g10 j ≤ 122 := fun j hj => by rcases hok10 j hj with h | h <;> omega
  refine g_aload_n X 0 dX5_sorts_0 rfl rfl ?_
  refine g_iconst X dX5_sorts_1 ?_
  refine g_put X (index := 148) (ref := "GuideWordsModel") hin5 0 rfl rfl 18 (by decide) rfl tyX5 tyX5_ok nmX5 (by decide +kernel) rfl rfl rfl rfl (Nat.le_of_ble_eq_true rfl) (ws2 := [(m0, .inr (5, [.int (iZ z0), .int (iZ z1), .int (iZ z2), .int (iZ z3), .int (iZ z4), .int (iZ z5), .ref a6, .int (iZ z7), .ref a8, .int (iZ z9), .ref a10, .ref a11, .ref a12, .ref a13, .ref a14, .ref a15, .int (iZ z16), .ref a17, .int (iZ 0), .ref a19, .ref a20, .ref a21, .ref a22, .ref a23, .ref a24, .int (iZ z25), .ref a26, .ref a27, .ref a28, .int (iZ z29), .int (iZ z30), .int (iZ z31), .int (iZ z32), .int (iZ z33), .int (iZ z34), .ref a35, .ref a36, .ref a37, .ref a38, .ref a39, .ref a40, .ref a41, .int (iZ z42), .int (iZ z43), .ref a44, .ref a45])), (a10, .inl (cI, 1800, .inl (zA g10))), (a15, .inl (cY, 150, .inl (zA g15))), (a17, .inl (cI, 150, .inl (zA g17)))]) rfl dX5_sorts_2 ?_
  refine g_iconst X dX5_sorts_5 ?_
  refine g_istore_n (lv2 := [(1, .int (iZ 0)), (0, .ref m0)]) X dX5_sorts_6 rfl (by decide) rfl ?_
  refine g_lv (lv' := [(0, .ref m0), (1, .int (iZ 0))]) [1, 0] rfl ?_
  have loop_7 : ∀ (kf : Nat) (e1 : Int) (P1 : Int) (r1 : Int → Int), (he1 : 0 ≤ e1 ∧ e1 ≤ z16) → (hs1 : srtZ (hmZ g10) g15 e1 r1 P1) → (z16 - e1).toNat < kf → gW p l e { frames := 1, cells := 0, slots := 0, locals := 24 } s m args below meth c D A 3 0 0 (MQ below (gQ D (gT cB cI cJ cY) (qX5_sorts cB cI cJ cY m0 a6 a8 a10 a11 a12 a13 a14 a15 a17 a19 a20 a21 a22 a23 a24 a26 a27 a28 a35 a36 a37 a38 a39 a40 a41 a44 a45 z0 z1 z2 z3 z4 z5 z7 z9 z16 z18 z25 z29 z30 z31 z32 z33 z34 z42 z43 g10 g15 g17) A) args s 0 0 A) [(m0, .inr (5, [.int (iZ z0), .int (iZ z1), .int (iZ z2), .int (iZ z3), .int (iZ z4), .int (iZ z5), .ref a6, .int (iZ z7), .ref a8, .int (iZ z9), .ref a10, .ref a11, .ref a12, .ref a13, .ref a14, .ref a15, .int (iZ z16), .ref a17, .int (iZ P1), .ref a19, .ref a20, .ref a21, .ref a22, .ref a23, .ref a24, .int (iZ z25), .ref a26, .ref a27, .ref a28, .int (iZ z29), .int (iZ z30), .int (iZ z31), .int (iZ z32), .int (iZ z33), .int (iZ z34), .ref a35, .ref a36, .ref a37, .ref a38, .ref a39, .ref a40, .ref a41, .int (iZ z42), .int (iZ z43), .ref a44, .ref a45])), (a10, .inl (cI, 1800, .inl (zA g10))), (a15, .inl (cY, 150, .inl (zA g15))), (a17, .inl (cI, 150, .inl (zA r1)))] 7 [(0, .ref m0), (1, .int (iZ e1))] [] := by
    intro kf
    induction kf with
    | zero => intro e1 P1 r1 he1 hs1 hm; exact absurd hm (Nat.not_lt_zero _)
    | succ kf ih_7 =>
      intro e1 P1 r1 he1 hs1 hm
      have hP1 := hs1.1
      refine g_iload_n X 1 dX5_sorts_7 rfl rfl ?_
      refine g_aload_n X 0 dX5_sorts_8 rfl rfl ?_
      refine g_get X (index := 133) (ref := "GuideWordsModel") hin5 0 rfl rfl 16 (by decide) rfl (by decide +kernel) (v := .int (iZ z16)) rfl dX5_sorts_9 ?_
      refine g_icmp_ge X 108 dX5_sorts_12 (by decide) (by omega) (by omega) (fun c_12 => ?_) (fun c_12 => ?_)
      · skip
        exact g_vret X hr (by decide) (by decide) dX5_sorts_108 ⟨P1, r1, rfl, by rw [show z16 = e1 by omega]; exact hs1, rfl⟩
      · skip
        refine g_aload_n X 0 dX5_sorts_15 rfl rfl ?_
        refine g_get X (index := 49) (ref := "GuideWordsModel") hin5 0 rfl rfl 15 (by decide) rfl (by decide +kernel) (v := .ref a15) rfl dX5_sorts_16 ?_
        refine g_iload_n X 1 dX5_sorts_19 rfl rfl ?_
        refine g_zald X 2 3 rfl rfl (by omega) (by decide) dX5_sorts_20 ?_
        have r_20 := h15 e1 (by omega)
        refine g_if_ne X 27 dX5_sorts_21 (by decide) (by have := h15 e1 (by omega); omega) (fun c_21 => ?_) (fun c_21 => ?_)
        · skip
          refine g_aload_n X 0 dX5_sorts_27 rfl rfl ?_
          refine g_get X (index := 148) (ref := "GuideWordsModel") hin5 0 rfl rfl 18 (by decide) rfl (by decide +kernel) (v := .int (iZ P1)) rfl dX5_sorts_28 ?_
          refine g_istore_n (lv2 := [(2, .int (iZ P1)), (0, .ref m0), (1, .int (iZ e1))]) X dX5_sorts_31 rfl (by decide) rfl ?_
          refine g_lv (lv' := [(0, .ref m0), (1, .int (iZ e1)), (2, .int (iZ P1))]) [1, 2, 0] rfl ?_
          have loop_32 : ∀ (kf : Nat) (at1 : Int) (r2 : Int → Int), (hat : 0 ≤ at1 ∧ at1 ≤ P1) → (hr1 : ∀ j : Int, 0 ≤ j → j < at1 → r2 j = r1 j) → (hr2 : ∀ j : Int, at1 < j → j ≤ P1 → r2 j = r1 (j - 1)) → (hr3 : ∀ k : Int, at1 ≤ k → k < P1 → hmZ g10 e1 < hmZ g10 (r1 k)) → at1.toNat < kf → gW p l e { frames := 1, cells := 0, slots := 0, locals := 24 } s m args below meth c D A 3 0 0 (MQ below (gQ D (gT cB cI cJ cY) (qX5_sorts cB cI cJ cY m0 a6 a8 a10 a11 a12 a13 a14 a15 a17 a19 a20 a21 a22 a23 a24 a26 a27 a28 a35 a36 a37 a38 a39 a40 a41 a44 a45 z0 z1 z2 z3 z4 z5 z7 z9 z16 z18 z25 z29 z30 z31 z32 z33 z34 z42 z43 g10 g15 g17) A) args s 0 0 A) [(m0, .inr (5, [.int (iZ z0), .int (iZ z1), .int (iZ z2), .int (iZ z3), .int (iZ z4), .int (iZ z5), .ref a6, .int (iZ z7), .ref a8, .int (iZ z9), .ref a10, .ref a11, .ref a12, .ref a13, .ref a14, .ref a15, .int (iZ z16), .ref a17, .int (iZ P1), .ref a19, .ref a20, .ref a21, .ref a22, .ref a23, .ref a24, .int (iZ z25), .ref a26, .ref a27, .ref a28, .int (iZ z29), .int (iZ z30), .int (iZ z31), .int (iZ z32), .int (iZ z33), .int (iZ z34), .ref a35, .ref a36, .ref a37, .ref a38, .ref a39, .ref a40, .ref a41, .int (iZ z42), .int (iZ z43), .ref a44, .ref a45])), (a10, .inl (cI, 1800, .inl (zA g10))), (a15, .inl (cY, 150, .inl (zA g15))), (a17, .inl (cI, 150, .inl (zA r2)))] 32 [(0, .ref m0), (1, .int (iZ e1)), (2, .int (iZ at1))] [] := by
            intro kf
            induction kf with
            | zero => intro at1 r2 hat hr1 hr2 hr3 hm; exact absurd hm (Nat.not_lt_zero _)
            | succ kf ih_32 =>
              intro at1 r2 hat hr1 hr2 hr3 hm
              refine g_iload_n X 2 dX5_sorts_32 rfl rfl ?_
              refine g_if_le X 85 dX5_sorts_33 (by decide) (by omega) (fun c_33 => ?_) (fun c_33 => ?_)
              · skip
                have hle : ∀ k : Int, 0 ≤ k → k < at1 → hmZ g10 (r1 k) ≤ hmZ g10 e1 := fun k h1 h2 => by omega
                refine g_aload_n X 0 dX5_sorts_85 rfl rfl ?_
                refine g_get X (index := 52) (ref := "GuideWordsModel") hin5 0 rfl rfl 17 (by decide) rfl (by decide +kernel) (v := .ref a17) rfl dX5_sorts_86 ?_
                refine g_iload_n X 2 dX5_sorts_89 rfl rfl ?_
                refine g_iload_n X 1 dX5_sorts_90 rfl rfl ?_
                refine g_iast X 3 1 rfl rfl (by omega) (by decide) (ws2 := [(m0, .inr (5, [.int (iZ z0), .int (iZ z1), .int (iZ z2), .int (iZ z3), .int (iZ z4), .int (iZ z5), .ref a6, .int (iZ z7), .ref a8, .int (iZ z9), .ref a10, .ref a11, .ref a12, .ref a13, .ref a14, .ref a15, .int (iZ z16), .ref a17, .int (iZ P1), .ref a19, .ref a20, .ref a21, .ref a22, .ref a23, .ref a24, .int (iZ z25), .ref a26, .ref a27, .ref a28, .int (iZ z29), .int (iZ z30), .int (iZ z31), .int (iZ z32), .int (iZ z33), .int (iZ z34), .ref a35, .ref a36, .ref a37, .ref a38, .ref a39, .ref a40, .ref a41, .int (iZ z42), .int (iZ z43), .ref a44, .ref a45])), (a10, .inl (cI, 1800, .inl (zA g10))), (a15, .inl (cY, 150, .inl (zA g15))), (a17, .inl (cI, 150, .inl (zA (upZ r2 at1 e1))))]) rfl dX5_sorts_91 ?_
                have hs2 : srtZ (hmZ g10) g15 (e1 + 1) (upZ r2 at1 e1) (P1 + 1) := srt_ins hs1 (by omega) c_21 (by omega) hle hr3 (fun j h1 h2 => by rw [upZ_n (by omega)]; exact hr1 j h1 h2) (by rw [upZ_s]) (fun j h1 h2 => by rw [upZ_n (by omega)]; exact hr2 j h1 h2)
                refine g_aload_n X 0 dX5_sorts_92 rfl rfl ?_
                refine g_dup X dX5_sorts_93 rfl ?_
                refine g_get X (index := 148) (ref := "GuideWordsModel") hin5 0 rfl rfl 18 (by decide) rfl (by decide +kernel) (v := .int (iZ P1)) rfl dX5_sorts_94 ?_
                refine g_iconst X dX5_sorts_97 ?_
                refine g_iadd X dX5_sorts_98 ?_
                refine g_put X (index := 148) (ref := "GuideWordsModel") hin5 0 rfl rfl 18 (by decide) rfl tyX5 tyX5_ok nmX5 (by decide +kernel) rfl rfl rfl rfl (Nat.le_of_ble_eq_true rfl) (ws2 := [(m0, .inr (5, [.int (iZ z0), .int (iZ z1), .int (iZ z2), .int (iZ z3), .int (iZ z4), .int (iZ z5), .ref a6, .int (iZ z7), .ref a8, .int (iZ z9), .ref a10, .ref a11, .ref a12, .ref a13, .ref a14, .ref a15, .int (iZ z16), .ref a17, .int (iZ (P1 + 1)), .ref a19, .ref a20, .ref a21, .ref a22, .ref a23, .ref a24, .int (iZ z25), .ref a26, .ref a27, .ref a28, .int (iZ z29), .int (iZ z30), .int (iZ z31), .int (iZ z32), .int (iZ z33), .int (iZ z34), .ref a35, .ref a36, .ref a37, .ref a38, .ref a39, .ref a40, .ref a41, .int (iZ z42), .int (iZ z43), .ref a44, .ref a45])), (a10, .inl (cI, 1800, .inl (zA g10))), (a15, .inl (cY, 150, .inl (zA g15))), (a17, .inl (cI, 150, .inl (zA (upZ r2 at1 e1))))]) rfl dX5_sorts_99 ?_
                refine g_iinc (q := 1) (lv2 := [(1, .int (iZ (e1 + 1))), (0, .ref m0), (2, .int (iZ at1))]) X dX5_sorts_102 rfl (by decide) rfl ?_
                refine g_goto X 7 dX5_sorts_105 (by decide) ?_
                refine g_lv (lv' := [(0, .ref m0), (1, .int (iZ (e1 + 1)))]) [1, 0] rfl ?_
                exact ih_7 (e1 + 1) (P1 + 1) (upZ r2 at1 e1) (by omega) hs2 (by omega)
              · skip
                refine g_aload_n X 0 dX5_sorts_36 rfl rfl ?_
                refine g_get X (index := 33) (ref := "GuideWordsModel") hin5 0 rfl rfl 10 (by decide) rfl (by decide +kernel) (v := .ref a10) rfl dX5_sorts_37 ?_
                refine g_bipush X dX5_sorts_40 (by decide) ?_
                refine g_aload_n X 0 dX5_sorts_42 rfl rfl ?_
                refine g_get X (index := 52) (ref := "GuideWordsModel") hin5 0 rfl rfl 17 (by decide) rfl (by decide +kernel) (v := .ref a17) rfl dX5_sorts_43 ?_
                refine g_iload_n X 2 dX5_sorts_46 rfl rfl ?_
                refine g_iconst X dX5_sorts_47 ?_
                refine g_isub X dX5_sorts_48 ?_
                refine g_iald X 3 1 rfl rfl (by omega) (by decide) dX5_sorts_49 ?_
                refine g_topi (b := r1 (at1 - 1)) (hr1 (at1 - 1) (by omega) (by omega)) ?_
                have r_49 := hs1.2.1 (at1 - 1) (by omega) (by omega)
                refine g_imul X dX5_sorts_50 ?_
                refine g_aload_n X 0 dX5_sorts_51 rfl rfl ?_
                refine g_get X (index := 33) (ref := "GuideWordsModel") hin5 0 rfl rfl 10 (by decide) rfl (by decide +kernel) (v := .ref a10) rfl dX5_sorts_52 ?_
                refine g_bipush X dX5_sorts_55 (by decide) ?_
                refine g_iload_n X 1 dX5_sorts_57 rfl rfl ?_
                refine g_imul X dX5_sorts_58 ?_
                refine g_callS0 X (As := [.ref a10, .int (iZ (12 * (r1 (at1 - 1)))), .ref a10, .int (iZ (12 * e1))]) (rest := []) (ctX5_compare_hh l D cB cI cJ cY a10 g10 (12 * (r1 (at1 - 1))) (12 * e1) h10r (by omega)) (va_cwS 4 X.2.2.2.2.1 gX5_sorts_X5_compare rfl rfl rfl (by decide +kernel) ⟨by decide, by decide⟩) (wc := [(a10, .inl (cI, 1800, .inl (zA g10)))]) (wr := [(m0, .inr (5, [.int (iZ z0), .int (iZ z1), .int (iZ z2), .int (iZ z3), .int (iZ z4), .int (iZ z5), .ref a6, .int (iZ z7), .ref a8, .int (iZ z9), .ref a10, .ref a11, .ref a12, .ref a13, .ref a14, .ref a15, .int (iZ z16), .ref a17, .int (iZ P1), .ref a19, .ref a20, .ref a21, .ref a22, .ref a23, .ref a24, .int (iZ z25), .ref a26, .ref a27, .ref a28, .int (iZ z29), .int (iZ z30), .int (iZ z31), .int (iZ z32), .int (iZ z33), .int (iZ z34), .ref a35, .ref a36, .ref a37, .ref a38, .ref a39, .ref a40, .ref a41, .int (iZ z42), .int (iZ z43), .ref a44, .ref a45])), (a15, .inl (cY, 150, .inl (zA g15))), (a17, .inl (cI, 150, .inl (zA r2)))]) [1] [0, 2, 3] rfl rfl (by decide) (by decide) (by decide) rfl rfl (Nat.le_of_ble_eq_true rfl) ⟨by decide, by decide⟩ dX5_sorts_59 (fun v w1 hq => ?_)
                obtain ⟨cr, rfl, hcr, hcb, rfl⟩ := hq
                refine g_eq (ws' := [(m0, .inr (5, [.int (iZ z0), .int (iZ z1), .int (iZ z2), .int (iZ z3), .int (iZ z4), .int (iZ z5), .ref a6, .int (iZ z7), .ref a8, .int (iZ z9), .ref a10, .ref a11, .ref a12, .ref a13, .ref a14, .ref a15, .int (iZ z16), .ref a17, .int (iZ P1), .ref a19, .ref a20, .ref a21, .ref a22, .ref a23, .ref a24, .int (iZ z25), .ref a26, .ref a27, .ref a28, .int (iZ z29), .int (iZ z30), .int (iZ z31), .int (iZ z32), .int (iZ z33), .int (iZ z34), .ref a35, .ref a36, .ref a37, .ref a38, .ref a39, .ref a40, .ref a41, .int (iZ z42), .int (iZ z43), .ref a44, .ref a45])), (a15, .inl (cY, 150, .inl (zA g15))), (a17, .inl (cI, 150, .inl (zA r2))), (a10, .inl (cI, 1800, .inl (zA g10)))]) (pc' := 62) (st' := [.int (iZ cr)]) rfl rfl rfl rfl ?_
                refine g_perm (ws' := [(m0, .inr (5, [.int (iZ z0), .int (iZ z1), .int (iZ z2), .int (iZ z3), .int (iZ z4), .int (iZ z5), .ref a6, .int (iZ z7), .ref a8, .int (iZ z9), .ref a10, .ref a11, .ref a12, .ref a13, .ref a14, .ref a15, .int (iZ z16), .ref a17, .int (iZ P1), .ref a19, .ref a20, .ref a21, .ref a22, .ref a23, .ref a24, .int (iZ z25), .ref a26, .ref a27, .ref a28, .int (iZ z29), .int (iZ z30), .int (iZ z31), .int (iZ z32), .int (iZ z33), .int (iZ z34), .ref a35, .ref a36, .ref a37, .ref a38, .ref a39, .ref a40, .ref a41, .int (iZ z42), .int (iZ z43), .ref a44, .ref a45])), (a10, .inl (cI, 1800, .inl (zA g10))), (a15, .inl (cY, 150, .inl (zA g15))), (a17, .inl (cI, 150, .inl (zA r2)))]) [0, 3, 1, 2] (by decide) rfl ?_
                have hsg := cmp_sgn (ok_at hok10 (by omega)) (ok_at hok10 (by omega)) hcr
                refine g_if_le X 85 dX5_sorts_62 (by decide) (by omega) (fun c_62 => ?_) (fun c_62 => ?_)
                · skip
                  have hle0 : hmZ g10 (r1 (at1 - 1)) ≤ hmZ g10 e1 := by unfold hmZ; omega
                  have hle : ∀ k : Int, 0 ≤ k → k < at1 → hmZ g10 (r1 k) ≤ hmZ g10 e1 := fun k h1 h2 => by
                    rcases (show k = at1 - 1 ∨ k < at1 - 1 by omega) with e | e
                    · rw [e]; exact hle0
                    · have := srt_le hs1 k (at1 - 1) h1 e (by omega); omega
                  refine g_aload_n X 0 dX5_sorts_85 rfl rfl ?_
                  refine g_get X (index := 52) (ref := "GuideWordsModel") hin5 0 rfl rfl 17 (by decide) rfl (by decide +kernel) (v := .ref a17) rfl dX5_sorts_86 ?_
                  refine g_iload_n X 2 dX5_sorts_89 rfl rfl ?_
                  refine g_iload_n X 1 dX5_sorts_90 rfl rfl ?_
                  refine g_iast X 3 1 rfl rfl (by omega) (by decide) (ws2 := [(m0, .inr (5, [.int (iZ z0), .int (iZ z1), .int (iZ z2), .int (iZ z3), .int (iZ z4), .int (iZ z5), .ref a6, .int (iZ z7), .ref a8, .int (iZ z9), .ref a10, .ref a11, .ref a12, .ref a13, .ref a14, .ref a15, .int (iZ z16), .ref a17, .int (iZ P1), .ref a19, .ref a20, .ref a21, .ref a22, .ref a23, .ref a24, .int (iZ z25), .ref a26, .ref a27, .ref a28, .int (iZ z29), .int (iZ z30), .int (iZ z31), .int (iZ z32), .int (iZ z33), .int (iZ z34), .ref a35, .ref a36, .ref a37, .ref a38, .ref a39, .ref a40, .ref a41, .int (iZ z42), .int (iZ z43), .ref a44, .ref a45])), (a10, .inl (cI, 1800, .inl (zA g10))), (a15, .inl (cY, 150, .inl (zA g15))), (a17, .inl (cI, 150, .inl (zA (upZ r2 at1 e1))))]) rfl dX5_sorts_91 ?_
                  have hs2 : srtZ (hmZ g10) g15 (e1 + 1) (upZ r2 at1 e1) (P1 + 1) := srt_ins hs1 (by omega) c_21 (by omega) hle hr3 (fun j h1 h2 => by rw [upZ_n (by omega)]; exact hr1 j h1 h2) (by rw [upZ_s]) (fun j h1 h2 => by rw [upZ_n (by omega)]; exact hr2 j h1 h2)
                  refine g_aload_n X 0 dX5_sorts_92 rfl rfl ?_
                  refine g_dup X dX5_sorts_93 rfl ?_
                  refine g_get X (index := 148) (ref := "GuideWordsModel") hin5 0 rfl rfl 18 (by decide) rfl (by decide +kernel) (v := .int (iZ P1)) rfl dX5_sorts_94 ?_
                  refine g_iconst X dX5_sorts_97 ?_
                  refine g_iadd X dX5_sorts_98 ?_
                  refine g_put X (index := 148) (ref := "GuideWordsModel") hin5 0 rfl rfl 18 (by decide) rfl tyX5 tyX5_ok nmX5 (by decide +kernel) rfl rfl rfl rfl (Nat.le_of_ble_eq_true rfl) (ws2 := [(m0, .inr (5, [.int (iZ z0), .int (iZ z1), .int (iZ z2), .int (iZ z3), .int (iZ z4), .int (iZ z5), .ref a6, .int (iZ z7), .ref a8, .int (iZ z9), .ref a10, .ref a11, .ref a12, .ref a13, .ref a14, .ref a15, .int (iZ z16), .ref a17, .int (iZ (P1 + 1)), .ref a19, .ref a20, .ref a21, .ref a22, .ref a23, .ref a24, .int (iZ z25), .ref a26, .ref a27, .ref a28, .int (iZ z29), .int (iZ z30), .int (iZ z31), .int (iZ z32), .int (iZ z33), .int (iZ z34), .ref a35, .ref a36, .ref a37, .ref a38, .ref a39, .ref a40, .ref a41, .int (iZ z42), .int (iZ z43), .ref a44, .ref a45])), (a10, .inl (cI, 1800, .inl (zA g10))), (a15, .inl (cY, 150, .inl (zA g15))), (a17, .inl (cI, 150, .inl (zA (upZ r2 at1 e1))))]) rfl dX5_sorts_99 ?_
                  refine g_iinc (q := 1) (lv2 := [(1, .int (iZ (e1 + 1))), (0, .ref m0), (2, .int (iZ at1))]) X dX5_sorts_102 rfl (by decide) rfl ?_
                  refine g_goto X 7 dX5_sorts_105 (by decide) ?_
                  refine g_lv (lv' := [(0, .ref m0), (1, .int (iZ (e1 + 1)))]) [1, 0] rfl ?_
                  exact ih_7 (e1 + 1) (P1 + 1) (upZ r2 at1 e1) (by omega) hs2 (by omega)
                · skip
                  have hgt : hmZ g10 e1 < hmZ g10 (r1 (at1 - 1)) := by unfold hmZ; omega
                  refine g_aload_n X 0 dX5_sorts_65 rfl rfl ?_
                  refine g_get X (index := 52) (ref := "GuideWordsModel") hin5 0 rfl rfl 17 (by decide) rfl (by decide +kernel) (v := .ref a17) rfl dX5_sorts_66 ?_
                  refine g_iload_n X 2 dX5_sorts_69 rfl rfl ?_
                  refine g_aload_n X 0 dX5_sorts_70 rfl rfl ?_
                  refine g_get X (index := 52) (ref := "GuideWordsModel") hin5 0 rfl rfl 17 (by decide) rfl (by decide +kernel) (v := .ref a17) rfl dX5_sorts_71 ?_
                  refine g_iload_n X 2 dX5_sorts_74 rfl rfl ?_
                  refine g_iconst X dX5_sorts_75 ?_
                  refine g_isub X dX5_sorts_76 ?_
                  refine g_iald X 3 1 rfl rfl (by omega) (by decide) dX5_sorts_77 ?_
                  refine g_topi (b := r1 (at1 - 1)) (hr1 (at1 - 1) (by omega) (by omega)) ?_
                  refine g_iast X 3 1 rfl rfl (by omega) (by decide) (ws2 := [(m0, .inr (5, [.int (iZ z0), .int (iZ z1), .int (iZ z2), .int (iZ z3), .int (iZ z4), .int (iZ z5), .ref a6, .int (iZ z7), .ref a8, .int (iZ z9), .ref a10, .ref a11, .ref a12, .ref a13, .ref a14, .ref a15, .int (iZ z16), .ref a17, .int (iZ P1), .ref a19, .ref a20, .ref a21, .ref a22, .ref a23, .ref a24, .int (iZ z25), .ref a26, .ref a27, .ref a28, .int (iZ z29), .int (iZ z30), .int (iZ z31), .int (iZ z32), .int (iZ z33), .int (iZ z34), .ref a35, .ref a36, .ref a37, .ref a38, .ref a39, .ref a40, .ref a41, .int (iZ z42), .int (iZ z43), .ref a44, .ref a45])), (a10, .inl (cI, 1800, .inl (zA g10))), (a15, .inl (cY, 150, .inl (zA g15))), (a17, .inl (cI, 150, .inl (zA (upZ r2 at1 (r1 (at1 - 1))))))]) rfl dX5_sorts_78 ?_
                  refine g_iinc (q := 2) (lv2 := [(2, .int (iZ (at1 + (-1)))), (0, .ref m0), (1, .int (iZ e1))]) X dX5_sorts_79 rfl (by decide) rfl ?_
                  refine g_goto X 32 dX5_sorts_82 (by decide) ?_
                  refine g_lv (lv' := [(0, .ref m0), (1, .int (iZ e1)), (2, .int (iZ (at1 + (-1))))]) [1, 2, 0] rfl ?_
                  exact ih_32 (at1 + (-1)) (upZ r2 at1 (r1 (at1 - 1))) (by omega) (fun j h1 h2 => by rw [upZ_n (by omega)]; exact hr1 j h1 (by omega)) (fun j h1 h2 => by
                      rcases (show j = at1 ∨ at1 < j by omega) with e | e
                      · rw [e, upZ_s]
                      · rw [upZ_n (by omega)]; exact hr2 j e h2) (fun k h1 h2 => by
                      rcases (show k = at1 - 1 ∨ at1 ≤ k by omega) with e | e
                      · rw [e]; exact hgt
                      · exact hr3 k e h2) (by omega)
          exact loop_32 _ P1 r1 (by omega) (fun j _ _ => rfl) (fun j h1 h2 => by omega) (fun k h1 h2 => by omega) (Nat.lt_succ_self _)
        · skip
          have hs2 : srtZ (hmZ g10) g15 (e1 + 1) r1 P1 := srt_skip hs1 c_21
          refine g_goto X 102 dX5_sorts_24 (by decide) ?_
          refine g_iinc (q := 1) (lv2 := [(1, .int (iZ (e1 + 1))), (0, .ref m0)]) X dX5_sorts_102 rfl (by decide) rfl ?_
          refine g_goto X 7 dX5_sorts_105 (by decide) ?_
          refine g_lv (lv' := [(0, .ref m0), (1, .int (iZ (e1 + 1)))]) [1, 0] rfl ?_
          exact ih_7 (e1 + 1) P1 r1 (by omega) hs2 (by omega)
  exact loop_7 _ 0 0 g17 (by omega) srt_0 (Nat.lt_succ_self _)
def qX5_order (cB cI cJ cY : ClassId) (m0 : Nat) (a6 : Nat) (a8 : Nat) (a10 : Nat) (a11 : Nat) (a12 : Nat) (a13 : Nat) (a14 : Nat) (a15 : Nat) (a17 : Nat) (a19 : Nat) (a20 : Nat) (a21 : Nat) (a22 : Nat) (a23 : Nat) (a24 : Nat) (a26 : Nat) (a27 : Nat) (a28 : Nat) (a35 : Nat) (a36 : Nat) (a37 : Nat) (a38 : Nat) (a39 : Nat) (a40 : Nat) (a41 : Nat) (a44 : Nat) (a45 : Nat) (z0 : Int) (z1 : Int) (z2 : Int) (z3 : Int) (z4 : Int) (z5 : Int) (z7 : Int) (z9 : Int) (z16 : Int) (z18 : Int) (z25 : Int) (z29 : Int) (z30 : Int) (z31 : Int) (z32 : Int) (z33 : Int) (z34 : Int) (z42 : Int) (z43 : Int) (g10 : Int → Int) (g15 : Int → Int) (g17 : Int → Int) (k : Int) : Option Value → va_W → Prop := fun rv w1 => ∃ (r : Int) (R9 : Int) (ro : Int → Int), rv = some (.int (iZ r)) ∧ srtZ (hmZ g10) g15 z16 ro R9 ∧ (r = (if 0 ≤ k ∧ k < R9 then ro k else -1)) ∧ w1 = [(m0, .inr (5, [.int (iZ 0), .int (iZ z1), .int (iZ z2), .int (iZ z3), .int (iZ z4), .int (iZ z5), .ref a6, .int (iZ z7), .ref a8, .int (iZ z9), .ref a10, .ref a11, .ref a12, .ref a13, .ref a14, .ref a15, .int (iZ z16), .ref a17, .int (iZ R9), .ref a19, .ref a20, .ref a21, .ref a22, .ref a23, .ref a24, .int (iZ z25), .ref a26, .ref a27, .ref a28, .int (iZ z29), .int (iZ z30), .int (iZ z31), .int (iZ z32), .int (iZ z33), .int (iZ z34), .ref a35, .ref a36, .ref a37, .ref a38, .ref a39, .ref a40, .ref a41, .int (iZ z42), .int (iZ z43), .ref a44, .ref a45])), (a10, .inl (cI, 1800, .inl (zA g10))), (a15, .inl (cY, 150, .inl (zA g15))), (a17, .inl (cI, 150, .inl (zA ro)))]
set_option maxHeartbeats 4000000 in
set_option maxRecDepth 100000 in
theorem ctX5_order (l : Launch) (D : va_G) (cB cI cJ cY : ClassId) (m0 : Nat) (a6 : Nat) (a8 : Nat) (a10 : Nat) (a11 : Nat) (a12 : Nat) (a13 : Nat) (a14 : Nat) (a15 : Nat) (a17 : Nat) (a19 : Nat) (a20 : Nat) (a21 : Nat) (a22 : Nat) (a23 : Nat) (a24 : Nat) (a26 : Nat) (a27 : Nat) (a28 : Nat) (a35 : Nat) (a36 : Nat) (a37 : Nat) (a38 : Nat) (a39 : Nat) (a40 : Nat) (a41 : Nat) (a44 : Nat) (a45 : Nat) (z0 : Int) (z1 : Int) (z2 : Int) (z3 : Int) (z4 : Int) (z5 : Int) (z7 : Int) (z9 : Int) (z16 : Int) (z18 : Int) (z25 : Int) (z29 : Int) (z30 : Int) (z31 : Int) (z32 : Int) (z33 : Int) (z34 : Int) (z42 : Int) (z43 : Int) (g10 : Int → Int) (g15 : Int → Int) (g17 : Int → Int) (k : Int) (h16 : 0 ≤ z16 ∧ z16 ≤ 150) (hok10 : ∀ j : Int, 0 ≤ j ∧ j < 1800 → okV (g10 j)) (h15 : ∀ j : Int, 0 ≤ j ∧ j < 150 → g15 j = 0 ∨ g15 j = 1) (h_k : -2147483648 ≤ k ∧ k ≤ 2147483647) : gM l yX5_order wsX5_order { frames := 2, cells := 0, slots := 0, locals := 46 } D (gT cB cI cJ cY) [.ref m0, .int (iZ k)] [(m0, .inr (5, [.int (iZ z0), .int (iZ z1), .int (iZ z2), .int (iZ z3), .int (iZ z4), .int (iZ z5), .ref a6, .int (iZ z7), .ref a8, .int (iZ z9), .ref a10, .ref a11, .ref a12, .ref a13, .ref a14, .ref a15, .int (iZ z16), .ref a17, .int (iZ z18), .ref a19, .ref a20, .ref a21, .ref a22, .ref a23, .ref a24, .int (iZ z25), .ref a26, .ref a27, .ref a28, .int (iZ z29), .int (iZ z30), .int (iZ z31), .int (iZ z32), .int (iZ z33), .int (iZ z34), .ref a35, .ref a36, .ref a37, .ref a38, .ref a39, .ref a40, .ref a41, .int (iZ z42), .int (iZ z43), .ref a44, .ref a45])), (a10, .inl (cI, 1800, .inl (zA g10))), (a15, .inl (cY, 150, .inl (zA g15))), (a17, .inl (cI, 150, .inl (zA g17)))] 0 0 (qX5_order cB cI cJ cY m0 a6 a8 a10 a11 a12 a13 a14 a15 a17 a19 a20 a21 a22 a23 a24 a26 a27 a28 a35 a36 a37 a38 a39 a40 a41 a44 a45 z0 z1 z2 z3 z4 z5 z7 z9 z16 z18 z25 z29 z30 z31 z32 z33 z34 z42 z43 g10 g15 g17 k) := by
  refine g_start (cc := cX5_order) (maxL := 2) (ret := some .int) (lv := [(0, .ref m0), (1, .int (iZ k))]) (by decide) rfl (Nat.le_of_ble_eq_true rfl) rfl ?_
  intro p e s m args below meth c A X hr hnm
  have hin5 : ∀ w ∈ u_ws RX5 TX5 46, w ∈ wsX5_order := by decide +kernel
  refine g_aload_n X 0 dX5_order_0 rfl rfl ?_
  refine g_iconst X dX5_order_1 ?_
  refine g_put X (index := 116) (ref := "GuideWordsModel") hin5 0 rfl rfl 0 (by decide) rfl tyX5 tyX5_ok nmX5 (by decide +kernel) rfl rfl rfl rfl (Nat.le_of_ble_eq_true rfl) (ws2 := [(m0, .inr (5, [.int (iZ 0), .int (iZ z1), .int (iZ z2), .int (iZ z3), .int (iZ z4), .int (iZ z5), .ref a6, .int (iZ z7), .ref a8, .int (iZ z9), .ref a10, .ref a11, .ref a12, .ref a13, .ref a14, .ref a15, .int (iZ z16), .ref a17, .int (iZ z18), .ref a19, .ref a20, .ref a21, .ref a22, .ref a23, .ref a24, .int (iZ z25), .ref a26, .ref a27, .ref a28, .int (iZ z29), .int (iZ z30), .int (iZ z31), .int (iZ z32), .int (iZ z33), .int (iZ z34), .ref a35, .ref a36, .ref a37, .ref a38, .ref a39, .ref a40, .ref a41, .int (iZ z42), .int (iZ z43), .ref a44, .ref a45])), (a10, .inl (cI, 1800, .inl (zA g10))), (a15, .inl (cY, 150, .inl (zA g15))), (a17, .inl (cI, 150, .inl (zA g17)))]) rfl dX5_order_2 ?_
  refine g_aload_n X 0 dX5_order_5 rfl rfl ?_
  refine g_callV0 X (As := []) (rest := []) (ctX5_sorts l D cB cI cJ cY m0 a6 a8 a10 a11 a12 a13 a14 a15 a17 a19 a20 a21 a22 a23 a24 a26 a27 a28 a35 a36 a37 a38 a39 a40 a41 a44 a45 0 z1 z2 z3 z4 z5 z7 z9 z16 z18 z25 z29 z30 z31 z32 z33 z34 z42 z43 g10 g15 g17 (by first | assumption | omega) (by first | assumption | omega) (by first | assumption | omega)) (cwV 0 X.2.2.2.2.1 gX5_order_X5_sorts rfl rfl rfl (by decide +kernel) ⟨by decide, by decide⟩) 0 rfl rfl (wc := [(m0, .inr (5, [.int (iZ 0), .int (iZ z1), .int (iZ z2), .int (iZ z3), .int (iZ z4), .int (iZ z5), .ref a6, .int (iZ z7), .ref a8, .int (iZ z9), .ref a10, .ref a11, .ref a12, .ref a13, .ref a14, .ref a15, .int (iZ z16), .ref a17, .int (iZ z18), .ref a19, .ref a20, .ref a21, .ref a22, .ref a23, .ref a24, .int (iZ z25), .ref a26, .ref a27, .ref a28, .int (iZ z29), .int (iZ z30), .int (iZ z31), .int (iZ z32), .int (iZ z33), .int (iZ z34), .ref a35, .ref a36, .ref a37, .ref a38, .ref a39, .ref a40, .ref a41, .int (iZ z42), .int (iZ z43), .ref a44, .ref a45])), (a10, .inl (cI, 1800, .inl (zA g10))), (a15, .inl (cY, 150, .inl (zA g15))), (a17, .inl (cI, 150, .inl (zA g17)))]) (wr := []) [0, 1, 2, 3] [] rfl rfl (by decide) (by decide) (by decide) rfl rfl (Nat.le_of_ble_eq_true rfl) ⟨by decide, by decide⟩ dX5_order_6 (fun v w1 hq => ?_)
  obtain ⟨R9, ro, rfl, hs, rfl⟩ := hq
  refine g_eq (ws' := [(m0, .inr (5, [.int (iZ 0), .int (iZ z1), .int (iZ z2), .int (iZ z3), .int (iZ z4), .int (iZ z5), .ref a6, .int (iZ z7), .ref a8, .int (iZ z9), .ref a10, .ref a11, .ref a12, .ref a13, .ref a14, .ref a15, .int (iZ z16), .ref a17, .int (iZ R9), .ref a19, .ref a20, .ref a21, .ref a22, .ref a23, .ref a24, .int (iZ z25), .ref a26, .ref a27, .ref a28, .int (iZ z29), .int (iZ z30), .int (iZ z31), .int (iZ z32), .int (iZ z33), .int (iZ z34), .ref a35, .ref a36, .ref a37, .ref a38, .ref a39, .ref a40, .ref a41, .int (iZ z42), .int (iZ z43), .ref a44, .ref a45])), (a10, .inl (cI, 1800, .inl (zA g10))), (a15, .inl (cY, 150, .inl (zA g15))), (a17, .inl (cI, 150, .inl (zA ro)))]) (pc' := 9) (st' := []) rfl rfl rfl rfl ?_
  have hs0 := hs.1
  refine g_iload_n X 1 dX5_order_9 rfl rfl ?_
  refine g_if_lt X 30 dX5_order_10 (by decide) (by omega) (fun c_10 => ?_) (fun c_10 => ?_)
  · skip
    refine g_iconst X dX5_order_30 ?_
    exact g_iret X hr (by decide) (by decide) dX5_order_31 ⟨_, R9, ro, rfl, hs, by first | exact (if_pos (by omega)).symm | exact (if_neg (by omega)).symm, rfl⟩
  · skip
    refine g_iload_n X 1 dX5_order_13 rfl rfl ?_
    refine g_aload_n X 0 dX5_order_14 rfl rfl ?_
    refine g_get X (index := 148) (ref := "GuideWordsModel") hin5 0 rfl rfl 18 (by decide) rfl (by decide +kernel) (v := .int (iZ R9)) rfl dX5_order_15 ?_
    refine g_icmp_ge X 30 dX5_order_18 (by decide) (by omega) (by omega) (fun c_18 => ?_) (fun c_18 => ?_)
    · skip
      refine g_iconst X dX5_order_30 ?_
      exact g_iret X hr (by decide) (by decide) dX5_order_31 ⟨_, R9, ro, rfl, hs, by first | exact (if_pos (by omega)).symm | exact (if_neg (by omega)).symm, rfl⟩
    · skip
      refine g_aload_n X 0 dX5_order_21 rfl rfl ?_
      refine g_get X (index := 52) (ref := "GuideWordsModel") hin5 0 rfl rfl 17 (by decide) rfl (by decide +kernel) (v := .ref a17) rfl dX5_order_22 ?_
      refine g_iload_n X 1 dX5_order_25 rfl rfl ?_
      refine g_iald X 3 1 rfl rfl (by omega) (by decide) dX5_order_26 ?_
      refine g_goto X 31 dX5_order_27 (by decide) ?_
      exact g_iret X hr (by decide) (by decide) dX5_order_31 ⟨_, R9, ro, rfl, hs, by first | exact (if_pos (by omega)).symm | exact (if_neg (by omega)).symm, rfl⟩
def qX5_count (cB cI cJ cY : ClassId) (m0 : Nat) (a6 : Nat) (a8 : Nat) (a10 : Nat) (a11 : Nat) (a12 : Nat) (a13 : Nat) (a14 : Nat) (a15 : Nat) (a17 : Nat) (a19 : Nat) (a20 : Nat) (a21 : Nat) (a22 : Nat) (a23 : Nat) (a24 : Nat) (a26 : Nat) (a27 : Nat) (a28 : Nat) (a35 : Nat) (a36 : Nat) (a37 : Nat) (a38 : Nat) (a39 : Nat) (a40 : Nat) (a41 : Nat) (a44 : Nat) (a45 : Nat) (z0 : Int) (z1 : Int) (z2 : Int) (z3 : Int) (z4 : Int) (z5 : Int) (z7 : Int) (z9 : Int) (z16 : Int) (z18 : Int) (z25 : Int) (z29 : Int) (z30 : Int) (z31 : Int) (z32 : Int) (z33 : Int) (z34 : Int) (z42 : Int) (z43 : Int) (g10 : Int → Int) (g15 : Int → Int) (g17 : Int → Int) (wh : Int) : Option Value → va_W → Prop := fun rv w1 => ∃ (r : Int) (R9 : Int) (ro : Int → Int), rv = some (.int (iZ r)) ∧ ((wh = 0 ∧ srtZ (hmZ g10) g15 z16 ro R9 ∧ r = R9) ∨ (¬ wh = 0 ∧ ro = g17 ∧ R9 = z18 ∧ ((wh = 1 ∧ r = z16) ∨ (wh = 2 ∧ r = z7) ∨ (wh = 3 ∧ r = z9) ∨ ((wh < 0 ∨ 3 < wh) ∧ r = -1)))) ∧ w1 = [(m0, .inr (5, [.int (iZ 0), .int (iZ z1), .int (iZ z2), .int (iZ z3), .int (iZ z4), .int (iZ z5), .ref a6, .int (iZ z7), .ref a8, .int (iZ z9), .ref a10, .ref a11, .ref a12, .ref a13, .ref a14, .ref a15, .int (iZ z16), .ref a17, .int (iZ R9), .ref a19, .ref a20, .ref a21, .ref a22, .ref a23, .ref a24, .int (iZ z25), .ref a26, .ref a27, .ref a28, .int (iZ z29), .int (iZ z30), .int (iZ z31), .int (iZ z32), .int (iZ z33), .int (iZ z34), .ref a35, .ref a36, .ref a37, .ref a38, .ref a39, .ref a40, .ref a41, .int (iZ z42), .int (iZ z43), .ref a44, .ref a45])), (a10, .inl (cI, 1800, .inl (zA g10))), (a15, .inl (cY, 150, .inl (zA g15))), (a17, .inl (cI, 150, .inl (zA ro)))]
set_option maxHeartbeats 4000000 in
set_option maxRecDepth 100000 in
theorem ctX5_count (l : Launch) (D : va_G) (cB cI cJ cY : ClassId) (m0 : Nat) (a6 : Nat) (a8 : Nat) (a10 : Nat) (a11 : Nat) (a12 : Nat) (a13 : Nat) (a14 : Nat) (a15 : Nat) (a17 : Nat) (a19 : Nat) (a20 : Nat) (a21 : Nat) (a22 : Nat) (a23 : Nat) (a24 : Nat) (a26 : Nat) (a27 : Nat) (a28 : Nat) (a35 : Nat) (a36 : Nat) (a37 : Nat) (a38 : Nat) (a39 : Nat) (a40 : Nat) (a41 : Nat) (a44 : Nat) (a45 : Nat) (z0 : Int) (z1 : Int) (z2 : Int) (z3 : Int) (z4 : Int) (z5 : Int) (z7 : Int) (z9 : Int) (z16 : Int) (z18 : Int) (z25 : Int) (z29 : Int) (z30 : Int) (z31 : Int) (z32 : Int) (z33 : Int) (z34 : Int) (z42 : Int) (z43 : Int) (g10 : Int → Int) (g15 : Int → Int) (g17 : Int → Int) (wh : Int) (h16 : 0 ≤ z16 ∧ z16 ≤ 150) (hok10 : ∀ j : Int, 0 ≤ j ∧ j < 1800 → okV (g10 j)) (h15 : ∀ j : Int, 0 ≤ j ∧ j < 150 → g15 j = 0 ∨ g15 j = 1) (h_wh : -2147483648 ≤ wh ∧ wh ≤ 2147483647) : gM l yX5_count wsX5_count { frames := 2, cells := 0, slots := 0, locals := 46 } D (gT cB cI cJ cY) [.ref m0, .int (iZ wh)] [(m0, .inr (5, [.int (iZ z0), .int (iZ z1), .int (iZ z2), .int (iZ z3), .int (iZ z4), .int (iZ z5), .ref a6, .int (iZ z7), .ref a8, .int (iZ z9), .ref a10, .ref a11, .ref a12, .ref a13, .ref a14, .ref a15, .int (iZ z16), .ref a17, .int (iZ z18), .ref a19, .ref a20, .ref a21, .ref a22, .ref a23, .ref a24, .int (iZ z25), .ref a26, .ref a27, .ref a28, .int (iZ z29), .int (iZ z30), .int (iZ z31), .int (iZ z32), .int (iZ z33), .int (iZ z34), .ref a35, .ref a36, .ref a37, .ref a38, .ref a39, .ref a40, .ref a41, .int (iZ z42), .int (iZ z43), .ref a44, .ref a45])), (a10, .inl (cI, 1800, .inl (zA g10))), (a15, .inl (cY, 150, .inl (zA g15))), (a17, .inl (cI, 150, .inl (zA g17)))] 0 0 (qX5_count cB cI cJ cY m0 a6 a8 a10 a11 a12 a13 a14 a15 a17 a19 a20 a21 a22 a23 a24 a26 a27 a28 a35 a36 a37 a38 a39 a40 a41 a44 a45 z0 z1 z2 z3 z4 z5 z7 z9 z16 z18 z25 z29 z30 z31 z32 z33 z34 z42 z43 g10 g15 g17 wh) := by
  refine g_start (cc := cX5_count) (maxL := 2) (ret := some .int) (lv := [(0, .ref m0), (1, .int (iZ wh))]) (by decide) rfl (Nat.le_of_ble_eq_true rfl) rfl ?_
  intro p e s m args below meth c A X hr hnm
  have hin5 : ∀ w ∈ u_ws RX5 TX5 46, w ∈ wsX5_count := by decide +kernel
  refine g_aload_n X 0 dX5_count_0 rfl rfl ?_
  refine g_iconst X dX5_count_1 ?_
  refine g_put X (index := 116) (ref := "GuideWordsModel") hin5 0 rfl rfl 0 (by decide) rfl tyX5 tyX5_ok nmX5 (by decide +kernel) rfl rfl rfl rfl (Nat.le_of_ble_eq_true rfl) (ws2 := [(m0, .inr (5, [.int (iZ 0), .int (iZ z1), .int (iZ z2), .int (iZ z3), .int (iZ z4), .int (iZ z5), .ref a6, .int (iZ z7), .ref a8, .int (iZ z9), .ref a10, .ref a11, .ref a12, .ref a13, .ref a14, .ref a15, .int (iZ z16), .ref a17, .int (iZ z18), .ref a19, .ref a20, .ref a21, .ref a22, .ref a23, .ref a24, .int (iZ z25), .ref a26, .ref a27, .ref a28, .int (iZ z29), .int (iZ z30), .int (iZ z31), .int (iZ z32), .int (iZ z33), .int (iZ z34), .ref a35, .ref a36, .ref a37, .ref a38, .ref a39, .ref a40, .ref a41, .int (iZ z42), .int (iZ z43), .ref a44, .ref a45])), (a10, .inl (cI, 1800, .inl (zA g10))), (a15, .inl (cY, 150, .inl (zA g15))), (a17, .inl (cI, 150, .inl (zA g17)))]) rfl dX5_count_2 ?_
  refine g_iload_n X 1 dX5_count_5 rfl rfl ?_
  rcases (show wh = 0 ∨ wh = 1 ∨ wh = 2 ∨ wh = 3 ∨ (wh < 0 ∨ 3 < wh) by omega) with c_6 | c_6 | c_6 | c_6 | c_6
  · skip
    refine g_tsw X 0 36 dX5_count_6 c_6 (by decide) (by decide) (by decide) rfl (by decide) ?_
    refine g_aload_n X 0 dX5_count_36 rfl rfl ?_
    refine g_callV0 X (As := []) (rest := []) (ctX5_sorts l D cB cI cJ cY m0 a6 a8 a10 a11 a12 a13 a14 a15 a17 a19 a20 a21 a22 a23 a24 a26 a27 a28 a35 a36 a37 a38 a39 a40 a41 a44 a45 0 z1 z2 z3 z4 z5 z7 z9 z16 z18 z25 z29 z30 z31 z32 z33 z34 z42 z43 g10 g15 g17 (by first | assumption | omega) (by first | assumption | omega) (by first | assumption | omega)) (cwV 0 X.2.2.2.2.1 gX5_count_X5_sorts rfl rfl rfl (by decide +kernel) ⟨by decide, by decide⟩) 0 rfl rfl (wc := [(m0, .inr (5, [.int (iZ 0), .int (iZ z1), .int (iZ z2), .int (iZ z3), .int (iZ z4), .int (iZ z5), .ref a6, .int (iZ z7), .ref a8, .int (iZ z9), .ref a10, .ref a11, .ref a12, .ref a13, .ref a14, .ref a15, .int (iZ z16), .ref a17, .int (iZ z18), .ref a19, .ref a20, .ref a21, .ref a22, .ref a23, .ref a24, .int (iZ z25), .ref a26, .ref a27, .ref a28, .int (iZ z29), .int (iZ z30), .int (iZ z31), .int (iZ z32), .int (iZ z33), .int (iZ z34), .ref a35, .ref a36, .ref a37, .ref a38, .ref a39, .ref a40, .ref a41, .int (iZ z42), .int (iZ z43), .ref a44, .ref a45])), (a10, .inl (cI, 1800, .inl (zA g10))), (a15, .inl (cY, 150, .inl (zA g15))), (a17, .inl (cI, 150, .inl (zA g17)))]) (wr := []) [0, 1, 2, 3] [] rfl rfl (by decide) (by decide) (by decide) rfl rfl (Nat.le_of_ble_eq_true rfl) ⟨by decide, by decide⟩ dX5_count_37 (fun v w1 hq => ?_)
    obtain ⟨R9, ro, rfl, hs, rfl⟩ := hq
    refine g_eq (ws' := [(m0, .inr (5, [.int (iZ 0), .int (iZ z1), .int (iZ z2), .int (iZ z3), .int (iZ z4), .int (iZ z5), .ref a6, .int (iZ z7), .ref a8, .int (iZ z9), .ref a10, .ref a11, .ref a12, .ref a13, .ref a14, .ref a15, .int (iZ z16), .ref a17, .int (iZ R9), .ref a19, .ref a20, .ref a21, .ref a22, .ref a23, .ref a24, .int (iZ z25), .ref a26, .ref a27, .ref a28, .int (iZ z29), .int (iZ z30), .int (iZ z31), .int (iZ z32), .int (iZ z33), .int (iZ z34), .ref a35, .ref a36, .ref a37, .ref a38, .ref a39, .ref a40, .ref a41, .int (iZ z42), .int (iZ z43), .ref a44, .ref a45])), (a10, .inl (cI, 1800, .inl (zA g10))), (a15, .inl (cY, 150, .inl (zA g15))), (a17, .inl (cI, 150, .inl (zA ro)))]) (pc' := 40) (st' := []) rfl rfl rfl rfl ?_
    refine g_aload_n X 0 dX5_count_40 rfl rfl ?_
    refine g_get X (index := 148) (ref := "GuideWordsModel") hin5 0 rfl rfl 18 (by decide) rfl (by decide +kernel) (v := .int (iZ R9)) rfl dX5_count_41 ?_
    exact g_iret X hr (by decide) (by decide) dX5_count_44 ⟨_, R9, ro, rfl, Or.inl ⟨c_6, hs, rfl⟩, rfl⟩
  · skip
    refine g_tsw X 1 45 dX5_count_6 c_6 (by decide) (by decide) (by decide) rfl (by decide) ?_
    refine g_aload_n X 0 dX5_count_45 rfl rfl ?_
    refine g_get X (index := 133) (ref := "GuideWordsModel") hin5 0 rfl rfl 16 (by decide) rfl (by decide +kernel) (v := .int (iZ z16)) rfl dX5_count_46 ?_
    exact g_iret X hr (by decide) (by decide) dX5_count_49 ⟨_, z18, g17, rfl, Or.inr ⟨by omega, rfl, rfl, by omega⟩, rfl⟩
  · skip
    refine g_tsw X 2 50 dX5_count_6 c_6 (by decide) (by decide) (by decide) rfl (by decide) ?_
    refine g_aload_n X 0 dX5_count_50 rfl rfl ?_
    refine g_get X (index := 123) (ref := "GuideWordsModel") hin5 0 rfl rfl 7 (by decide) rfl (by decide +kernel) (v := .int (iZ z7)) rfl dX5_count_51 ?_
    exact g_iret X hr (by decide) (by decide) dX5_count_54 ⟨_, z18, g17, rfl, Or.inr ⟨by omega, rfl, rfl, by omega⟩, rfl⟩
  · skip
    refine g_tsw X 3 55 dX5_count_6 c_6 (by decide) (by decide) (by decide) rfl (by decide) ?_
    refine g_aload_n X 0 dX5_count_55 rfl rfl ?_
    refine g_get X (index := 126) (ref := "GuideWordsModel") hin5 0 rfl rfl 9 (by decide) rfl (by decide +kernel) (v := .int (iZ z9)) rfl dX5_count_56 ?_
    exact g_iret X hr (by decide) (by decide) dX5_count_59 ⟨_, z18, g17, rfl, Or.inr ⟨by omega, rfl, rfl, by omega⟩, rfl⟩
  · skip
    refine g_tswO X 60 dX5_count_6 (by omega) c_6 (by decide) ?_
    refine g_iconst X dX5_count_60 ?_
    exact g_iret X hr (by decide) (by decide) dX5_count_61 ⟨_, z18, g17, rfl, Or.inr ⟨by omega, rfl, rfl, by omega⟩, rfl⟩
