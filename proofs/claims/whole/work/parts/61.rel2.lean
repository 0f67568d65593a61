/-! REL: entries, their order, where what says see leads -/
def RelE (N P : Int) (hd me se ln dr od : Int → Int) (z16 : Int) (g10 g11 g12 g13 g14 g15 : Int → Int) : Prop :=
  N = z16 ∧ (0 ≤ N ∧ N ≤ 150) ∧ srtZ (hmZ g10) g15 N od P ∧ (∀ j : Int, 0 ≤ j ∧ j < 150 → 0 ≤ hd j ∧ hd j < 1152921504606846976) ∧ (∀ j : Int, 0 ≤ j ∧ j < 150 → 0 ≤ me j ∧ me j < 1152921504606846976) ∧
  (∀ j : Int, 0 ≤ j ∧ j < 1800 → okV (g10 j)) ∧ (∀ j : Int, 0 ≤ j ∧ j < 1800 → okV (g11 j)) ∧ (∀ a : Int, 0 ≤ a ∧ a < N → hd a = hmZ g10 a ∧ 97 ≤ g10 (12 * a)) ∧
  (∀ a : Int, 0 ≤ a ∧ a < N → (g14 a = 0 ∧ me a = 0) ∨ (g14 a = 1 ∧ me a = hmZ g11 a ∧ me a ≠ 0)) ∧ (∀ a : Int, 0 ≤ a ∧ a < N → se a = g13 a ∧ 1 ≤ g13 a ∧ g13 a ≤ 6) ∧
  (∀ a t : Int, 0 ≤ a → a < N → 0 ≤ t → t < g13 a → ln (a * 6 + t) = g12 (6 * a + t) ∧ 1 ≤ g12 (6 * a + t)) ∧ (∀ j : Int, 0 ≤ j ∧ j < 900 → 0 ≤ ln j ∧ ln j ≤ 20) ∧ (∀ j : Int, 0 ≤ j ∧ j < 900 → 0 ≤ g12 j ∧ g12 j ≤ 20) ∧
  (∀ j : Int, 0 ≤ j ∧ j < 150 → g14 j = 0 ∨ g14 j = 1) ∧ (∀ j : Int, 0 ≤ j ∧ j < 150 → g15 j = 0 ∨ g15 j = 1) ∧ (∀ j : Int, 0 ≤ j ∧ j < 150 → dr j = 0 ∨ dr j = 1) ∧ (∀ a : Int, 0 ≤ a ∧ a < N → g15 a = 1 - dr a) ∧ (∀ a : Int, N ≤ a ∧ a < 150 → dr a = 0)
theorem srt_congr {hm hm2 th th2 od od2 : Int → Int} {N P : Int} (h : srtZ hm th N od P) (e : ∀ a : Int, 0 ≤ a → a < N → hm a = hm2 a ∧ th a = th2 a) (eo : ∀ k : Int, 0 ≤ k → k < P → od k = od2 k) : srtZ hm2 th2 N od2 P := by
  obtain ⟨h1, h2, h3, h4⟩ := h
  refine ⟨h1, fun k a b => ?_, fun i j a b c => ?_, fun e9 a b c => ?_⟩
  · have q := h2 k a b
    rw [← eo k a b, ← (e _ q.1 q.2.1).2]; exact q
  · have q := h2 i a (by omega)
    have q2 := h2 j (by omega) c
    rw [← eo i a (by omega), ← eo j (by omega) c, ← (e _ q.1 q.2.1).1, ← (e _ q2.1 q2.2.1).1]
    exact h3 i j a b c
  · obtain ⟨k, k1, k2, k3⟩ := h4 e9 a b (by rw [(e _ a b).2]; exact c)
    exact ⟨k, k1, k2, by rw [← eo k k1 k2, k3]⟩
theorem srt_rem {hm th th2 od od2 : Int → Int} {N P r e0 : Int} (h : srtZ hm th N od P) (hr : 0 ≤ r ∧ r < P) (he : od r = e0) (ht : th2 = upZ th e0 0) (e1 : ∀ j : Int, 0 ≤ j → j < r → od2 j = od j) (e2 : ∀ j : Int, r ≤ j → j < P - 1 → od2 j = od (j + 1)) : srtZ hm th2 N od2 (P - 1) := by
  obtain ⟨h1, h2, h3, h4⟩ := h
  have hne : ∀ k : Int, 0 ≤ k → k < P → k ≠ r → od k ≠ e0 := fun k a b c d => by
    rcases (show k < r ∨ r < k by omega) with q | q
    · have := h3 k r a q hr.2; rw [d, he] at this; omega
    · have := h3 r k hr.1 q b; rw [d, he] at this; omega
  refine ⟨by omega, fun k a b => ?_, fun i j a b c => ?_, fun e9 a b c => ?_⟩
  · rcases (show k < r ∨ r ≤ k by omega) with q | q
    · rw [e1 k a q, ht, upZ_n (hne k a (by omega) (by omega))]; exact h2 k a (by omega)
    · rw [e2 k q b, ht, upZ_n (hne (k + 1) (by omega) (by omega) (by omega))]; exact h2 (k + 1) (by omega) (by omega)
  · rcases (show j < r ∨ r ≤ j by omega) with q | q
    · rw [e1 i a (by omega), e1 j (by omega) q]; exact h3 i j a b (by omega)
    · rcases (show i < r ∨ r ≤ i by omega) with q2 | q2
      · rw [e1 i a q2, e2 j q c]; exact h3 i (j + 1) a (by omega) (by omega)
      · rw [e2 i q2 (by omega), e2 j q c]; exact h3 (i + 1) (j + 1) (by omega) (by omega) (by omega)
  · have hn : e9 ≠ e0 := fun q => c (by rw [q, ht, upZ_s])
    rw [ht, upZ_n hn] at c
    obtain ⟨k, k1, k2, k3⟩ := h4 e9 a b c
    have hk : k ≠ r := fun q => hn (by rw [← k3, q, he])
    rcases (show k < r ∨ r < k by omega) with q | q
    · exact ⟨k, k1, by omega, by rw [e1 k k1 q, k3]⟩
    · exact ⟨k - 1, by omega, by omega, by rw [e2 (k - 1) (by omega) (by omega), show k - 1 + 1 = k by omega, k3]⟩
theorem srt_ne {hm th od : Int → Int} {N P : Int} (h : srtZ hm th N od P) {i j : Int} (hi : 0 ≤ i ∧ i < P) (hj : 0 ≤ j ∧ j < P) (e : od i = od j) : i = j := by
  rcases (show i = j ∨ i < j ∨ j < i by omega) with q | q | q
  · exact q
  · have := h.2.2.1 i j hi.1 q hj.2; rw [e] at this; omega
  · have := h.2.2.1 j i hj.1 q hi.2; rw [e] at this; omega
theorem srt_u1 {hm th od ro : Int → Int} {N P R : Int} (h : srtZ hm th N od P) (g : srtZ hm th N ro R) : ∀ n : Nat, (n : Int) ≤ P → (n : Int) ≤ R ∧ ∀ i : Int, 0 ≤ i → i < n → od i = ro i
  | 0, _ => ⟨g.1.1, fun i a b => by omega⟩
  | n + 1, hn => by
    obtain ⟨i1, i2⟩ := srt_u1 h g n (by omega)
    have q := h.2.1 n (by omega) (by omega)
    obtain ⟨j, j1, j2, j3⟩ := g.2.2.2 (od n) q.1 q.2.1 q.2.2
    have hj : j = n := by
      rcases (show j = n ∨ j < n ∨ (n : Int) < j by omega) with c | c | c
      · exact c
      · have := i2 j j1 c
        exact srt_ne h ⟨j1, by omega⟩ ⟨by omega, by omega⟩ (by rw [this, j3])
      · exfalso
        have q2 := g.2.1 n (by omega) (by omega)
        obtain ⟨i, k1, k2, k3⟩ := h.2.2.2 (ro n) q2.1 q2.2.1 q2.2.2
        have lt1 := g.2.2.1 n j (by omega) c j2
        rw [j3] at lt1
        rcases (show i < n ∨ i = n ∨ (n : Int) < i by omega) with d | d | d
        · have e := i2 i k1 d
          have := srt_ne g (i := i) (j := n) ⟨k1, by omega⟩ ⟨by omega, by omega⟩ (by rw [← e, k3])
          omega
        · rw [d] at k3; rw [k3] at lt1; omega
        · have lt2 := h.2.2.1 n i (by omega) d k2
          rw [k3] at lt2; omega
    subst hj
    refine ⟨by omega, fun i a b => ?_⟩
    rcases (show i = (n : Int) ∨ i < n by omega) with c | c
    · rw [c, j3]
    · exact i2 i a c
theorem srt_uniq {hm th od ro : Int → Int} {N P R : Int} (h : srtZ hm th N od P) (g : srtZ hm th N ro R) : P = R ∧ ∀ k : Int, 0 ≤ k → k < P → od k = ro k := by
  have a := srt_u1 h g P.toNat (by have := h.1; omega)
  have b := srt_u1 g h R.toNat (by have := g.1; omega)
  have hp := h.1
  have hg := g.1
  exact ⟨by omega, fun k k1 k2 => a.2 k k1 (by omega)⟩
theorem hm_congr {g h : Int → Int} {a N : Int} (ha : 0 ≤ a ∧ a < N) (e : ∀ j : Int, (j < 12 * N ∨ 12 * N + 12 ≤ j) → h j = g j) : hmZ g a = hmZ h a := encD_pre 12 (fun q hq => (e _ (by omega)).symm)
theorem encD_head {h tf : Int → Int} {b fr : Int} {n : Nat} (hk : ∀ k : Nat, k < n → dgZ (h (b + k)) = tf (fr + k) - 96) : ∀ m : Nat, m ≤ n → encD h b m = encZ tf fr m
  | 0, _ => rfl
  | m + 1, hm => by rw [encD, encZ, encD_head hk m (by omega), hk m (by omega)]
theorem encD_tail {h : Int → Int} {b : Int} {n : Nat} (h0 : ∀ k : Nat, n ≤ k → k < 12 → h (b + k) = 0) : ∀ d : Nat, n + d ≤ 12 → encD h b (n + d) = encD h b n
  | 0, _ => rfl
  | d + 1, hd => by
    rw [← Nat.add_assoc, encD, encD_tail h0 d (by omega), h0 (n + d) (by omega) (by omega), show dgZ 0 = 0 from rfl, Int.zero_mul, Int.add_zero]
theorem encZ_pos {f : Int → Int} {a : Int} {n : Nat} (hn : n + 1 ≤ 12) (h : ∀ j : Nat, j < n + 1 → 97 ≤ f (a + j) ∧ f (a + j) ≤ 122) : 0 < encZ f a (n + 1) := by
  have h1 := (encZ_lt f a n (by omega) (fun j hj => h j (by omega))).1
  have h2 := h n (by omega)
  have h3 := Int.mul_pos (show 0 < f (a + n) - 96 by omega) (pw_pos (55 - 5 * n))
  rw [encZ]; omega
/-- a head that was read: its number, in the model's row -/
theorem hm_head {h tf g8 : Int → Int} {N fr n : Int} (hi : isHd g8 fr n) (e : ∀ k : Int, 0 ≤ k → k < n → tf (fr + k) = g8 (fr + k)) (h1 : ∀ k : Int, 0 ≤ k → k < 12 → h (12 * N + k) = if k < n then g8 (fr + k) else 0) : hmZ h N = encZ tf fr n.toNat ∧ 97 ≤ h (12 * N) ∧ hmZ h N ≠ 0 ∧ ∀ j : Int, 12 * N ≤ j → j < 12 * N + 12 → okV (h j) := by
  obtain ⟨i1, i2, i3⟩ := hi
  have hv : ∀ k : Nat, k < n.toNat → h (12 * N + k) = g8 (fr + k) := fun k hk => by rw [h1 k (by omega) (by omega), if_pos (by omega)]
  have hk : ∀ k : Nat, k < n.toNat → dgZ (h (12 * N + k)) = tf (fr + k) - 96 := fun k hk => by
    have q := i3 k (by omega) (by omega)
    rw [hv k hk, e k (by omega) (by omega)]; unfold dgZ; rw [if_neg (by omega)]
  have ht : ∀ k : Nat, n.toNat ≤ k → k < 12 → h (12 * N + k) = 0 := fun k a b => by rw [h1 k (by omega) (by omega), if_neg (by omega)]
  have e12 : hmZ h N = encZ tf fr n.toNat := by
    have q := encD_tail ht (12 - n.toNat) (by omega)
    rw [show n.toNat + (12 - n.toNat) = 12 by omega] at q
    unfold hmZ
    rw [q, encD_head hk n.toNat (Nat.le_refl _)]
  have hpos : 0 < encZ tf fr n.toNat := by
    rw [show n.toNat = (n.toNat - 1) + 1 by omega]
    exact encZ_pos (by omega) (fun j hj => by rw [e j (by omega) (by omega)]; exact i3 j (by omega) (by omega))
  refine ⟨e12, ?_, by omega, fun j a b => ?_⟩
  · have q := hv 0 (by omega)
    have q2 := i3 0 (by omega) (by omega)
    simp only [Int.natCast_zero, Int.ofNat_zero, Int.add_zero] at q q2
    have q3 : h (12 * N) = g8 fr := by simpa using hv 0 (by omega)
    have q4 : 97 ≤ g8 fr := by simpa using (i3 0 (by omega) (by omega)).1
    omega
  · have q := h1 (j - 12 * N) (by omega) (by omega)
    rw [show 12 * N + (j - 12 * N) = j by omega] at q
    rw [q]
    by_cases c : j - 12 * N < n
    · rw [if_pos c]; exact Or.inr (i3 _ (by omega) c)
    · rw [if_neg c]; exact Or.inl rfl
theorem isHd_rel {tn fr n z9 : Int} {tf g8 : Int → Int} (h : RelT tn tf z9 g8) (hf : 0 ≤ fr ∧ fr + n ≤ tn) : (isHd tf fr n ↔ isHd g8 fr n) ∧ (isHd g8 fr n → ∀ k : Int, 0 ≤ k → k < n → tf (fr + k) = g8 (fr + k)) := by
  obtain ⟨e, h1, h2, h3, h4⟩ := h
  refine ⟨⟨fun ⟨a, b, c⟩ => ⟨a, b, fun j j1 j2 => ?_⟩, fun ⟨a, b, c⟩ => ⟨a, b, fun j j1 j2 => ?_⟩⟩, fun ⟨a, b, c⟩ j j1 j2 => ?_⟩
  · have q := c j j1 j2; have q2 := h4 (fr + j) (by omega) (by omega); have q3 := h3 (fr + j) (by omega); omega
  · have q := c j j1 j2; have q2 := h4 (fr + j) (by omega) (by omega); have q3 := h3 (fr + j) (by omega); omega
  · have q := c j j1 j2; have q2 := h4 (fr + j) (by omega) (by omega); have q3 := h3 (fr + j) (by omega); omega
theorem relE_adm {N P : Int} {hd me se ln dr od : Int → Int} {z16 : Int} {g10 g11 g12 g13 g14 g15 : Int → Int} (h : RelE N P hd me se ln dr od z16 g10 g11 g12 g13 g14 g15) (hN : N < 150) {x y cnt f : Int} {pz : Int → Int} {ln2 od2 h10 h11 h12 : Int → Int} (hcnt : 1 ≤ cnt ∧ cnt ≤ 6) (hpz : ∀ s : Int, 0 ≤ s → s < cnt → 1 ≤ pz s ∧ pz s ≤ 20)
    (l1 : ∀ s : Int, 0 ≤ s → s < cnt → ln2 (N * 6 + s) = pz s) (l2 : ∀ j : Int, (j < N * 6 ∨ N * 6 + cnt ≤ j) → ln2 j = ln j) (hb : ∃ b : Int, belowZ hd od P (x + 1) b ∧ (∀ j : Int, 0 ≤ j → j < b → od2 j = od j) ∧ od2 b = N ∧ (∀ j : Int, b < j → j ≤ P → od2 j = od (j - 1)))
    (hx : x = hmZ h10 N) (hxr : 0 ≤ x ∧ x < 1152921504606846976) (hyr : 0 ≤ y ∧ y < 1152921504606846976) (h97 : 97 ≤ h10 (12 * N)) (o10 : ∀ j : Int, (j < 12 * N ∨ 12 * N + 12 ≤ j) → h10 j = g10 j) (k10 : ∀ j : Int, 12 * N ≤ j → j < 12 * N + 12 → okV (h10 j)) (o11 : ∀ j : Int, (j < 12 * N ∨ 12 * N + 12 ≤ j) → h11 j = g11 j) (k11 : ∀ j : Int, 12 * N ≤ j → j < 12 * N + 12 → okV (h11 j))
    (hf : (f = 0 ∧ y = 0) ∨ (f = 1 ∧ y = hmZ h11 N ∧ y ≠ 0)) (m1 : ∀ s : Int, 0 ≤ s → s < cnt → h12 (6 * N + s) = pz s) (m2 : ∀ j : Int, (j < 6 * N ∨ 6 * N + cnt ≤ j) → h12 j = g12 j) :
    RelE (N + 1) (P + 1) (upZ hd N x) (upZ me N y) (upZ se N cnt) ln2 dr od2 (z16 + 1) h10 h11 h12 (upZ g13 N cnt) (upZ g14 N f) (upZ g15 N 1) := by
  obtain ⟨e, hN0, hs, A, B, C, D, E, F, G, H, I, J, K, L, M, O, Q⟩ := h
  obtain ⟨b, ⟨b1, b2, b3, b4⟩, b5, b6, b7⟩ := hb
  have hs2 : srtZ (hmZ h10) (upZ g15 N 1) N od P := srt_congr hs (fun a a1 a2 => ⟨hm_congr ⟨a1, a2⟩ o10, by rw [upZ_n (by omega)]⟩) (fun _ _ _ => rfl)
  have hdo : ∀ k : Int, 0 ≤ k → k < P → hd (od k) = hmZ h10 (od k) := fun k k1 k2 => by
    have q := hs.2.1 k k1 k2
    rw [(E _ ⟨q.1, q.2.1⟩).1]; exact hm_congr ⟨q.1, q.2.1⟩ o10
  refine ⟨by omega, by omega, ?_, ?_, ?_, ?_, ?_, ?_, ?_, ?_, ?_, ?_, ?_, ?_, ?_, M, ?_, fun a ha => Q a (by omega)⟩
  · refine srt_ins hs2 hN0.1 (by rw [upZ_s]; decide) ⟨b1, b2⟩ (fun k k1 k2 => ?_) (fun k k1 k2 => ?_) b5 b6 b7
    · have q := b3 k k1 k2; rw [hdo k k1 (by omega)] at q; omega
    · have q := b4 k k1 k2; rw [hdo k (by omega) k2] at q; omega
  · exact upZ_all (fun v => 0 ≤ v ∧ v < 1152921504606846976) A hxr
  · exact upZ_all (fun v => 0 ≤ v ∧ v < 1152921504606846976) B hyr
  · intro j hj
    rcases (show (j < 12 * N ∨ 12 * N + 12 ≤ j) ∨ (12 * N ≤ j ∧ j < 12 * N + 12) by omega) with c | c
    · rw [o10 j c]; exact C j hj
    · exact k10 j c.1 c.2
  · intro j hj
    rcases (show (j < 12 * N ∨ 12 * N + 12 ≤ j) ∨ (12 * N ≤ j ∧ j < 12 * N + 12) by omega) with c | c
    · rw [o11 j c]; exact D j hj
    · exact k11 j c.1 c.2
  · intro a ha
    rcases (show a = N ∨ a < N by omega) with c | c
    · subst c; rw [upZ_s]; exact ⟨hx, h97⟩
    · rw [upZ_n (by omega), ← hm_congr ⟨ha.1, c⟩ o10, o10 (12 * a) (by omega)]; exact E a ⟨ha.1, c⟩
  · intro a ha
    rcases (show a = N ∨ a < N by omega) with c | c
    · subst c; rw [upZ_s, upZ_s]; exact hf
    · rw [upZ_n (by omega), upZ_n (by omega), ← hm_congr ⟨ha.1, c⟩ o11]; exact F a ⟨ha.1, c⟩
  · intro a ha
    rcases (show a = N ∨ a < N by omega) with c | c
    · subst c; rw [upZ_s, upZ_s]; exact ⟨rfl, hcnt⟩
    · rw [upZ_n (by omega), upZ_n (by omega)]; exact G a ⟨ha.1, c⟩
  · intro a t a1 a2 t1 t2
    rcases (show a = N ∨ a < N by omega) with c | c
    · subst c; rw [upZ_s] at t2; rw [l1 t t1 t2, m1 t t1 t2]; exact ⟨rfl, (hpz t t1 t2).1⟩
    · rw [upZ_n (by omega)] at t2
      have g := G a ⟨a1, c⟩
      rw [l2 _ (by omega), m2 _ (by omega)]; exact H a t a1 c t1 t2
  · intro j hj
    rcases (show (j < N * 6 ∨ N * 6 + cnt ≤ j) ∨ (N * 6 ≤ j ∧ j < N * 6 + cnt) by omega) with c | c
    · rw [l2 j c]; exact I j hj
    · have q := l1 (j - N * 6) (by omega) (by omega)
      rw [show N * 6 + (j - N * 6) = j by omega] at q
      have q2 := hpz (j - N * 6) (by omega) (by omega)
      omega
  · intro j hj
    rcases (show (j < 6 * N ∨ 6 * N + cnt ≤ j) ∨ (6 * N ≤ j ∧ j < 6 * N + cnt) by omega) with c | c
    · rw [m2 j c]; exact J j hj
    · have q := m1 (j - 6 * N) (by omega) (by omega)
      rw [show 6 * N + (j - 6 * N) = j by omega] at q
      have q2 := hpz (j - 6 * N) (by omega) (by omega)
      omega
  · exact upZ_all (fun v => v = 0 ∨ v = 1) K (by omega)
  · exact upZ_all (fun v => v = 0 ∨ v = 1) L (by omega)
  · intro a ha
    rcases (show a = N ∨ a < N by omega) with c | c
    · subst c; rw [upZ_s, Q a (by omega)]; rfl
    · rw [upZ_n (by omega)]; exact O a ⟨ha.1, c⟩
