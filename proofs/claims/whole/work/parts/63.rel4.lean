/-! REL: the blocks, thumb, volume -/
theorem hm_top {g : Int → Int} {a : Int} (hg : ∀ k : Nat, k < 12 → okV (g (12 * a + k))) (h97 : 97 ≤ g (12 * a)) : hmZ g a / 36028797018963968 - 1 = g (12 * a) - 97 ∧ g (12 * a) ≤ 122 := by
  have h1 := encD_top hg 1 12 (by decide) (by decide)
  have h0 := hg 0 (by decide)
  have e0 : g (12 * a + ((0 : Nat) : Int)) = g (12 * a) := by simp
  rw [e0] at h0
  have e1 : encD g (12 * a) 1 = dgZ (g (12 * a)) * 2 ^ 55 := by
    show encD g (12 * a) 0 + dgZ (g (12 * a + ((0 : Nat) : Int))) * 2 ^ (55 - 5 * 0) = _
    rw [e0]; show 0 + _ = _; rw [Int.zero_add]
  have e2 : dgZ (g (12 * a)) = g (12 * a) - 96 := by unfold dgZ; rw [if_neg (by omega)]
  rw [e1, e2] at h1
  unfold hmZ
  have h122 : g (12 * a) ≤ 122 := by rcases h0 with q | q <;> omega
  simp only [Nat.reduceMul, Nat.reduceSub, Int.reducePow] at h1
  omega
theorem relE_lt {N P : Int} {hd me se ln dr od : Int → Int} {z16 : Int} {g10 g11 g12 g13 g14 g15 : Int → Int} (hE : RelE N P hd me se ln dr od z16 g10 g11 g12 g13 g14 g15) : ∀ a : Int, 0 ≤ a ∧ a < N → ltZ hd a = g10 (12 * a) - 97 ∧ 0 ≤ ltZ hd a ∧ ltZ hd a < 26 := by
  obtain ⟨e, hN0, hs, A, B, C, D, E, F, G, H, I, J, K, L, M, O, Q⟩ := hE
  intro a ha
  have q := E a ha
  have h := hm_top (ok_at C (by omega : 0 ≤ a ∧ a < 150)) q.2
  unfold ltZ
  rw [q.1]
  omega
theorem off_congr {se od se2 od2 : Int → Int} : ∀ n : Nat, (∀ k : Nat, k < n → se (od k) = se2 (od2 k)) → offZ se od n = offZ se2 od2 n
  | 0, _ => rfl
  | n + 1, h => by rw [offZ, offZ, off_congr n (fun k hk => h k (by omega)), h n (by omega)]
/-- the blocks of both are the same -/
def BlkEq (nb : Int) (bk li br h20 h21 h22 h23 h24 : Int → Int) : Prop := ∀ j : Int, 0 ≤ j → j < nb → bk j = h20 j * 6 + h21 j ∧ li j = h22 j ∧ ((br j = 1 ∧ h24 j = 1 ∧ h23 j = 1) ∨ (br j = 2 ∧ h24 j = 0 ∧ h23 j = 1) ∨ (br j = 0 ∧ h24 j = 0 ∧ h23 j = 0)) ∧ 1 ≤ li j
theorem gat_rel {N P : Int} {hd me se ln dr od : Int → Int} {z16 : Int} {g10 g11 g12 g13 g14 g15 : Int → Int} {v2 z3 R9 nb nb2 : Int} {bk li br ro h20 h21 h22 h23 h24 : Int → Int} (hE : RelE N P hd me se ln dr od z16 g10 g11 g12 g13 g14 g15) (hv : v2 = z3) (hv0 : 0 ≤ z3) (hc1 : nb2 = offZ se od P.toNat) (hc2 : gatA bk li br hd se ln od v2 P) (hs2 : srtZ (hmZ g10) g15 z16 ro R9) (hm1 : nb = offZ g13 ro R9.toNat) (hm2 : gatMA h20 h21 h22 h23 h24 g10 g12 g13 ro z3 R9) : nb2 = nb ∧ BlkEq nb bk li br h20 h21 h22 h23 h24 := by
  have hlt := relE_lt hE
  obtain ⟨e, hN0, hs, A, B, C, D, E, F, G, H, I, J, K, L, M, O, Q⟩ := hE
  subst e hv
  obtain ⟨q, q2⟩ := srt_uniq hs hs2
  subst q
  have hsx : ∀ k : Int, 0 ≤ k → k < P → se (od k) = g13 (ro k) ∧ 1 ≤ g13 (ro k) ∧ g13 (ro k) ≤ 6 := fun k k1 k2 => by
    have w := hs.2.1 k k1 k2
    have g := G (od k) ⟨w.1, w.2.1⟩
    rw [← q2 k k1 k2]; exact g
  have hoff : ∀ n : Nat, (n : Int) ≤ P → offZ se od n = offZ g13 ro n := fun n hn => off_congr n (fun k hk => (hsx k (by omega) (by omega)).1)
  have hP0 := hs.1
  refine ⟨by rw [hc1, hm1]; exact hoff _ (by omega), fun j j0 j1 => ?_⟩
  obtain ⟨i, t, i1, i2, t1, t2, hj, hgm⟩ := gatM_cov hm2 hP0.1 (fun k k1 k2 => (hsx k k1 k2).2) j j0 (by rw [← hm1]; exact j1)
  have hga := hc2 i t i1 i2 t1 (by rw [(hsx i i1 i2).1]; exact t2)
  unfold gatP at hga
  unfold gatM at hgm
  rw [hoff i.toNat (by omega), ← hj] at hga
  rw [← hj] at hgm
  obtain ⟨a1, a2, a3⟩ := hga
  obtain ⟨b1, b2, b3, b4, b5⟩ := hgm
  have w := hs.2.1 i i1 i2
  have hro := q2 i i1 i2
  rw [← hro] at b1 b3 b4 b5
  have hg := G (od i) ⟨w.1, w.2.1⟩
  have hh := H (od i) t w.1 w.2.1 t1 (by rw [hro]; exact t2)
  have hab : abvZ hd od v2 i = abvM g10 ro v2 i := by
    unfold abvZ abvM
    by_cases c : i = 0
    · rw [if_pos (Or.inl c), if_pos (Or.inl c)]
    · have w2 := hs.2.1 (i - 1) (by omega) (by omega)
      have l1 := (hlt (od i) ⟨w.1, w.2.1⟩).1
      have l2 := (hlt (od (i - 1)) ⟨w2.1, w2.2.1⟩).1
      rw [← q2 (i - 1) (by omega) (by omega), ← hro, l1, l2]
      by_cases d : g10 (12 * od (i - 1)) = g10 (12 * od i)
      · rw [if_neg (by omega), if_neg (by omega)]
      · rw [if_pos (by omega), if_pos (by omega)]
  have hab0 : 0 ≤ abvM g10 ro v2 i := by unfold abvM; split <;> omega
  rw [hg.1] at a3
  rw [hh.1] at a2 a3
  rw [hab] at a2
  refine ⟨by rw [a1, b1, b2], by rw [a2, b3], ?_, ?_⟩
  · rw [a3, b4, b5]
    unfold brkZ mlZ mbZ
    by_cases c1 : t = g13 (od i) - 1
    · rw [if_pos c1, if_pos c1, if_pos (Or.inl c1)]; exact Or.inl ⟨rfl, rfl, rfl⟩
    · by_cases c2 : 0 < t ∨ 2 ≤ g12 (6 * od i + t)
      · rw [if_neg c1, if_pos c2, if_neg c1, if_pos (by omega)]; exact Or.inr (Or.inl ⟨rfl, rfl, rfl⟩)
      · rw [if_neg c1, if_neg c2, if_neg c1, if_neg (by omega)]; exact Or.inr (Or.inr ⟨rfl, rfl, rfl⟩)
  · rw [a2]; split <;> omega
theorem sumN_app (f : Int → Int) (a : Int) (m : Nat) : ∀ n : Nat, sumN f a (m + n) = sumN f a m + sumN f (a + m) n
  | 0 => by show sumN f a m = sumN f a m + 0; omega
  | n + 1 => by
    rw [← Nat.add_assoc, sumN, sumN, sumN_app f a m n, show a + ((m + n : Nat) : Int) = a + (m : Int) + (n : Int) by omega]; omega
theorem sumN_congr {f g : Int → Int} {a : Int} : ∀ n : Nat, (∀ j : Int, a ≤ j → j < a + n → f j = g j) → sumN f a n = sumN g a n
  | 0, _ => rfl
  | n + 1, h => by rw [sumN, sumN, sumN_congr n (fun j a b => h j a (by omega)), h (a + n) (by omega) (by omega)]
theorem cn_blk {g10 e l g gh : Int → Int} {L : Int} (o : Nat) : ∀ n : Nat, (∀ t : Nat, t < n → g10 (12 * e ((o : Int) + t)) - 97 = L) → (∀ x : Int, cnG g10 e l g (o + n) x = cnG g10 e l g o x + (if x = L then sumN l o n else 0)) ∧ (∀ x : Int, cnH g10 e gh (o + n) x = if x = L ∧ 0 < n then 1 else cnH g10 e gh o x)
  | 0, _ => ⟨fun x => by show cnG g10 e l g o x = _; by_cases c : x = L; rw [if_pos c]; exact (Int.add_zero _).symm; rw [if_neg c]; omega, fun x => by rw [if_neg (by omega)]; rfl⟩
  | n + 1, h => by
    obtain ⟨h1, h2⟩ := cn_blk (g10 := g10) (e := e) (l := l) (g := g) (gh := gh) (L := L) o n (fun t ht => h t (by omega))
    have q := h n (by omega)
    have hc : ((o + n : Nat) : Int) = (o : Int) + n := by omega
    refine ⟨fun x => ?_, fun x => ?_⟩
    · rw [← Nat.add_assoc, cnG, hc, q, sumN]
      by_cases c : x = L
      · rw [c, upZ_s, h1 L, if_pos rfl, if_pos rfl]; omega
      · rw [upZ_n c, h1 x, if_neg c, if_neg c]
    · rw [← Nat.add_assoc, cnH, hc, q]
      by_cases c : x = L
      · rw [c, upZ_s, if_pos ⟨rfl, by omega⟩]
      · rw [upZ_n c, h2 x, if_neg (fun q => c q.1), if_neg (fun q => c q.1)]
theorem seS_blk {h22 ln : Int → Int} {o ab a : Int} : ∀ s : Nat, (∀ t : Int, 0 ≤ t → t < s → h22 (o + t) = ln (a * 6 + t) + (if t = 0 then ab else 0)) → sumN h22 o s = seS ln a s + (if s = 0 then 0 else ab)
  | 0, _ => rfl
  | s + 1, h => by
    rw [sumN, seS, seS_blk s (fun t a b => h t a (by omega)), h s (by omega) (by omega), if_neg (by omega : ¬ s + 1 = 0)]
    by_cases c : s = 0
    · rw [if_pos c, if_pos (by omega : (s : Int) = 0)]; omega
    · rw [if_neg c, if_neg (by omega)]; omega
theorem seS_ge {ln : Int → Int} {a : Int} : ∀ s : Nat, (∀ t : Int, 0 ≤ t → t < s → 1 ≤ ln (a * 6 + t)) → (s : Int) ≤ seS ln a s
  | 0, _ => by show (0 : Int) ≤ 0; omega
  | s + 1, h => by
    have h1 := seS_ge s (fun t a b => h t a (by omega))
    have h2 := h s (by omega) (by omega)
    rw [seS]; omega
theorem smG_has {hd se ln od pz : Int → Int} {ab P : Int} (hab : 0 ≤ ab) (hL : ∀ i : Int, 0 ≤ i → i < P → 0 ≤ ltZ hd (od i) ∧ ltZ hd (od i) < 26) (hc : ∀ i : Int, 0 ≤ i → i < P → 1 ≤ seS ln (od i) (se (od i)).toNat) : ∀ k : Nat, (k : Int) ≤ P → ∀ x : Int, 0 ≤ x ∧ x < 26 → 0 ≤ smG hd se ln od ab (fillZ pz 0 26) k x ∧ (smG hd se ln od ab (fillZ pz 0 26) k x = 0 ↔ ∀ i : Int, 0 ≤ i → i < k → ltZ hd (od i) ≠ x)
  | 0, _, x, hx => by
    rw [smG, fillZ_in hx]
    exact ⟨Int.le_refl _, fun _ i a b => by omega, fun _ => rfl⟩
  | k + 1, hk, x, hx => by
    have ih := smG_has (pz := pz) hab hL hc k (by omega)
    have hl := hL k (by omega) (by omega)
    have h1 := hc k (by omega) (by omega)
    have i1 := ih x hx
    have i2 := ih (ltZ hd (od k)) hl
    rw [smG]
    by_cases c : x = ltZ hd (od k)
    · rw [c, upZ_s]
      have hmo : 1 ≤ moZ hd se ln ab (smG hd se ln od ab (fillZ pz 0 26) k) (od k) := by unfold moZ; split <;> omega
      refine ⟨by omega, fun q => by omega, fun q => absurd rfl (q k (by omega) (by omega))⟩
    · rw [upZ_n c]
      refine ⟨i1.1, fun q i a b => ?_, fun q => i1.2.mpr (fun i a b => q i a (by omega))⟩
      rcases (show i = (k : Int) ∨ i < k by omega) with d | d
      · rw [d]; exact fun w => c w.symm
      · exact i1.2.mp q i a d
theorem cn_all {hd se ln od pz g10 g13 h20 h22 g44 g45 : Int → Int} {ab P : Int} (hab : 0 ≤ ab) (hL : ∀ i : Int, 0 ≤ i → i < P → 0 ≤ ltZ hd (od i) ∧ ltZ hd (od i) < 26) (hse : ∀ i : Int, 0 ≤ i → i < P → 1 ≤ se (od i)) (hmono : ∀ i j : Int, 0 ≤ i → i < j → j < P → ltZ hd (od i) ≤ ltZ hd (od j)) (hc : ∀ i : Int, 0 ≤ i → i < P → 1 ≤ seS ln (od i) (se (od i)).toNat)
    (hb : ∀ i t : Int, 0 ≤ i → i < P → 0 ≤ t → t < se (od i) → g10 (12 * h20 (offZ se od i.toNat + t)) - 97 = ltZ hd (od i) ∧ h22 (offZ se od i.toNat + t) = ln (od i * 6 + t) + (if t = 0 then abvZ hd od ab i else 0)) :
    ∀ k : Nat, (k : Int) ≤ P → 0 ≤ offZ se od k ∧ smT hd se ln od ab (fillZ pz 0 26) k = sumN h22 0 (offZ se od k).toNat ∧ ∀ x : Int, 0 ≤ x ∧ x < 26 → smG hd se ln od ab (fillZ pz 0 26) k x = cnG g10 h20 h22 (fillZ g44 0 26) (offZ se od k).toNat x ∧ (cnH g10 h20 (fillZ g45 0 26) (offZ se od k).toNat x = 0 ↔ smG hd se ln od ab (fillZ pz 0 26) k x = 0)
  | 0, _ => ⟨Int.le_refl _, rfl, fun x hx => by
      show fillZ pz 0 26 x = fillZ g44 0 26 x ∧ (fillZ g45 0 26 x = 0 ↔ fillZ pz 0 26 x = 0)
      rw [fillZ_in hx, fillZ_in hx, fillZ_in hx]; exact ⟨rfl, Iff.rfl⟩⟩
  | k + 1, hk => by
    obtain ⟨o0, hT, hG⟩ := cn_all (pz := pz) (g13 := g13) (g44 := g44) (g45 := g45) hab hL hse hmono hc hb k (by omega)
    have hl := hL k (by omega) (by omega)
    have hs1 := hse k (by omega) (by omega)
    have h1 := hc k (by omega) (by omega)
    have hbk : ∀ t : Int, 0 ≤ t → t < se (od k) → g10 (12 * h20 (offZ se od k + t)) - 97 = ltZ hd (od k) ∧ h22 (offZ se od k + t) = ln (od k * 6 + t) + (if t = 0 then abvZ hd od ab k else 0) := fun t t1 t2 => by
      have q := hb k t (by omega) (by omega) t1 t2
      rw [Int.toNat_natCast] at q; exact q
    obtain ⟨o, ho⟩ : ∃ o : Nat, offZ se od k = (o : Int) := ⟨(offZ se od k).toNat, by omega⟩
    obtain ⟨s, hs⟩ : ∃ s : Nat, se (od k) = (s : Int) := ⟨(se (od k)).toNat, by omega⟩
    have ho2 : (offZ se od (k + 1)).toNat = o + s := by rw [offZ]; omega
    have hos : offZ se od (k + 1) = (o : Int) + s := by rw [offZ]; omega
    rw [ho] at hbk hT hG
    rw [Int.toNat_natCast] at hT hG
    rw [hs] at hbk hs1 h1
    rw [Int.toNat_natCast] at h1
    have hsum := seS_blk (h22 := h22) (ln := ln) (o := (o : Int)) (ab := abvZ hd od ab k) (a := od k) s (fun t t1 t2 => (hbk t t1 t2).2)
    rw [if_neg (by omega)] at hsum
    obtain ⟨b1, b2⟩ := cn_blk (g10 := g10) (e := h20) (l := h22) (g := fillZ g44 0 26) (gh := fillZ g45 0 26) (L := ltZ hd (od k)) o s (fun t ht => (hbk t (by omega) (by omega)).1)
    have hmo : moZ hd se ln ab (smG hd se ln od ab (fillZ pz 0 26) k) (od k) = sumN h22 o s := by
      rw [hsum]
      unfold moZ abvZ
      rw [hs, Int.toNat_natCast]
      have hh := (smG_has (pz := pz) hab hL hc k (by omega) (ltZ hd (od k)) hl).2
      by_cases c : smG hd se ln od ab (fillZ pz 0 26) k (ltZ hd (od k)) = 0
      · rw [if_pos c]
        rw [if_pos]
        · omega
        · by_cases d : (k : Int) = 0
          · exact Or.inl d
          · exact Or.inr (hh.mp c (k - 1) (by omega) (by omega))
      · rw [if_neg c, if_neg]
        · omega
        · intro d
          apply c
          apply hh.mpr
          intro i i1 i2 i3
          rcases d with d | d
          · omega
          · apply d
            have m1 := hmono (k - 1) k (by omega) (by omega) (by omega)
            rcases (show i = (k : Int) - 1 ∨ i < (k : Int) - 1 by omega) with w | w
            · rw [← w]; exact i3
            · have m2 := hmono i (k - 1) i1 w (by omega)
              omega
    refine ⟨by omega, ?_, fun x hx => ?_⟩
    · rw [smT, hmo, hT, ho2, sumN_app h22 0 o s, Int.zero_add]
    · rw [smG, hmo, ho2, b1 x, b2 x]
      obtain ⟨g1, g2⟩ := hG x hx
      obtain ⟨g3, g4⟩ := hG (ltZ hd (od k)) hl
      have p1 := (smG_has (pz := pz) hab hL hc k (by omega) x hx).1
      by_cases c : x = ltZ hd (od k)
      · have hpos : 1 ≤ sumN h22 o s := by rw [hsum]; have q : 0 ≤ abvZ hd od ab k := by unfold abvZ; split <;> omega
                                           omega
        rw [c] at g1 g2 p1
        rw [c, upZ_s, if_pos rfl, if_pos ⟨rfl, by omega⟩, g1]
        exact ⟨rfl, fun q => by omega, fun q => by omega⟩
      · rw [upZ_n c, if_neg c, if_neg (fun q => c q.1), Int.add_zero]
        exact ⟨g1, g2⟩
theorem cn_rel {N P : Int} {hd me se ln dr od : Int → Int} {z16 : Int} {g10 g11 g12 g13 g14 g15 : Int → Int} {v2 z3 R9 nb r0 : Int} {ro h20 h21 h22 h23 h24 pz g44 g45 h44 h45 : Int → Int} (hE : RelE N P hd me se ln dr od z16 g10 g11 g12 g13 g14 g15) (hv : v2 = z3) (hv0 : 0 ≤ z3) (hs2 : srtZ (hmZ g10) g15 z16 ro R9) (hm1 : nb = offZ g13 ro R9.toNat) (hm2 : gatMA h20 h21 h22 h23 h24 g10 g12 g13 ro z3 R9)
    (h44e : h44 = cnG g10 h20 h22 (fillZ g44 0 26) nb.toNat) (h45e : h45 = cnH g10 h20 (fillZ g45 0 26) nb.toNat) (hr0 : r0 = sumN h22 0 nb.toNat) :
    smT hd se ln od v2 (fillZ pz 0 26) P.toNat = r0 ∧ ∀ x : Int, 0 ≤ x ∧ x < 26 → smG hd se ln od v2 (fillZ pz 0 26) P.toNat x = h44 x ∧ (h45 x = 0 ↔ h44 x = 0) ∧ 0 ≤ h44 x := by
  have hlt := relE_lt hE
  have hso := relE_so hE
  obtain ⟨e, hN0, hs, A, B, C, D, E, F, G, H, I, J, K, L, M, O, Q⟩ := hE
  subst e hv
  obtain ⟨q, q2⟩ := srt_uniq hs hs2
  subst q
  have hP0 := hs.1
  have hL : ∀ i : Int, 0 ≤ i → i < P → 0 ≤ ltZ hd (od i) ∧ ltZ hd (od i) < 26 := fun i a b => (hlt (od i) (hso.1 i ⟨a, b⟩)).2
  have hse : ∀ i : Int, 0 ≤ i → i < P → se (od i) = g13 (ro i) ∧ 1 ≤ se (od i) ∧ se (od i) ≤ 6 := fun i a b => by
    have g := G (od i) (hso.1 i ⟨a, b⟩)
    rw [← q2 i a b]; omega
  have hmono : ∀ i j : Int, 0 ≤ i → i < j → j < P → ltZ hd (od i) ≤ ltZ hd (od j) := fun i j a b c => by
    have w := hso.2.1 i j a b c
    unfold ltZ; omega
  have hc : ∀ i : Int, 0 ≤ i → i < P → 1 ≤ seS ln (od i) (se (od i)).toNat := fun i a b => by
    have o := hso.1 i ⟨a, b⟩
    have g := G (od i) o
    have w := seS_ge (ln := ln) (a := od i) (se (od i)).toNat (fun t t1 t2 => by have w := H (od i) t o.1 o.2 t1 (by omega); omega)
    omega
  have hoff : ∀ n : Nat, (n : Int) ≤ P → offZ se od n = offZ g13 ro n := fun n hn => off_congr n (fun k hk => (hse k (by omega) (by omega)).1)
  have hb : ∀ i t : Int, 0 ≤ i → i < P → 0 ≤ t → t < se (od i) → g10 (12 * h20 (offZ se od i.toNat + t)) - 97 = ltZ hd (od i) ∧ h22 (offZ se od i.toNat + t) = ln (od i * 6 + t) + (if t = 0 then abvZ hd od v2 i else 0) := fun i t i1 i2 t1 t2 => by
    have o := hso.1 i ⟨i1, i2⟩
    have g := hm2 i t i1 i2 t1 (by rw [← (hse i i1 i2).1]; exact t2)
    unfold gatM at g
    rw [← hoff i.toNat (by omega)] at g
    obtain ⟨b1, b2, b3, b4, b5⟩ := g
    have hro := q2 i i1 i2
    rw [← hro] at b1 b3
    have hab : abvZ hd od v2 i = abvM g10 ro v2 i := by
      unfold abvZ abvM
      by_cases c : i = 0
      · rw [if_pos (Or.inl c), if_pos (Or.inl c)]
      · have w2 := hso.1 (i - 1) ⟨by omega, by omega⟩
        have l1 := (hlt (od i) o).1
        have l2 := (hlt (od (i - 1)) w2).1
        rw [← q2 (i - 1) (by omega) (by omega), ← hro, l1, l2]
        by_cases d : g10 (12 * od (i - 1)) = g10 (12 * od i)
        · rw [if_neg (by omega), if_neg (by omega)]
        · rw [if_pos (by omega), if_pos (by omega)]
    refine ⟨by rw [b1, (hlt (od i) o).1], ?_⟩
    have g2 := G (od i) o
    rw [b3, hab, (H (od i) t o.1 o.2 t1 (by omega)).1]
  obtain ⟨c1, c2, c3⟩ := cn_all (pz := pz) (g13 := g13) (g44 := g44) (g45 := g45) hv0 hL (fun i a b => (hse i a b).2.1) hmono hc hb P.toNat (by omega)
  have hnb : offZ se od P.toNat = nb := by rw [hm1]; exact hoff _ (by omega)
  rw [hnb] at c2 c3
  refine ⟨by rw [c2, hr0], fun x hx => ?_⟩
  obtain ⟨d1, d2⟩ := c3 x hx
  have d3 := (smG_has (pz := pz) hv0 hL hc P.toNat (by omega) x hx).1
  rw [h44e, h45e, ← d1]
  exact ⟨rfl, d2, d3⟩
theorem vol_rel {pz h44 h45 : Int → Int} {al : Int} (h : ∀ x : Int, 0 ≤ x ∧ x < 26 → pz x = h44 x ∧ (h45 x = 0 ↔ h44 x = 0) ∧ 0 ≤ h44 x) : ∀ (n : Nat) (l9 be lu ah fs : Int), 0 ≤ l9 → l9 + n = 26 → -1 ≤ be → 0 ≤ ah → (fs = 0 ↔ 0 < ah) → volR pz al n l9 be lu ah = vlM h44 h45 al n l9 be lu ah fs
  | 0, _, _, _, _, _, _, _, _, _, _ => rfl
  | n + 1, l9, be, lu, ah, fs, h1, h2, h3, h4, h5 => by
    obtain ⟨a, b, c⟩ := h l9 (by omega)
    have hab : absZ (al - 2 * ah) = absZ (2 * ah - al) := by unfold absZ; split <;> split <;> omega
    rw [volR_s, vlM_s, a, hab]
    by_cases d : h45 l9 = 0
    · have d2 := b.mp d
      rw [if_pos d, if_neg (by omega), d2, Int.add_zero]
      exact vol_rel h n (l9 + 1) be lu ah fs (by omega) (by omega) h3 h4 h5
    · have d2 : 0 < h44 l9 := by
        rcases (show h44 l9 = 0 ∨ 0 < h44 l9 by omega) with q | q
        · exact absurd (b.mpr q) d
        · exact q
      rw [if_neg d]
      by_cases f : fs = 0 ∧ (be < 0 ∨ absZ (2 * ah - al) < lu)
      · rw [if_pos f, if_pos ⟨d2, h5.mp f.1, by omega⟩]
        exact vol_rel h n (l9 + 1) l9 _ _ 0 (by omega) (by omega) (by omega) (by omega) (by omega)
      · rw [if_neg f, if_neg (fun q => f ⟨h5.mpr q.2.1, by omega⟩)]
        exact vol_rel h n (l9 + 1) be lu _ 0 (by omega) (by omega) h3 (by omega) (by omega)
/-- ranges of the model's blocks -/
def RelC (g20 g21 g22 g23 g24 : Int → Int) : Prop := (∀ j : Int, 0 ≤ j ∧ j < 900 → 0 ≤ g20 j ∧ g20 j < 150) ∧ (∀ j : Int, 0 ≤ j ∧ j < 900 → 0 ≤ g21 j ∧ g21 j < 6) ∧ (∀ j : Int, 0 ≤ j ∧ j < 900 → 0 ≤ g22 j ∧ g22 j ≤ 23) ∧ (∀ j : Int, 0 ≤ j ∧ j < 900 → g23 j = 0 ∨ g23 j = 1) ∧ (∀ j : Int, 0 ≤ j ∧ j < 900 → g24 j = 0 ∨ g24 j = 1)
theorem relE_thumb {N P : Int} {hd me se ln dr od : Int → Int} {z16 : Int} {g10 g11 g12 g13 g14 g15 : Int → Int} {vv : Int → Int} {z1 z2 z3 z4 z5 : Int} {pz pz2 g17 g20 g21 g22 g23 g24 g44 g45 ro h20 h21 h22 h23 h24 h44 h45 fo fo2 : Int → Int} {l9 len k r r2 t r0 R9 nb z18 z25 : Int} (hE : RelE N P hd me se ln dr od z16 g10 g11 g12 g13 g14 g15) (hV : RelV vv z1 z2 z3 z4 z5) (hC : RelC g20 g21 g22 g23 g24)
    (hc : (k = 1 ∧ ¬ ((0 ≤ l9 ∧ l9 < 26) ∧ 1 ≤ len ∧ len ≤ 10000) ∧ pz2 = pz ∧ fo2 = fo) ∨ (k = 0 ∧ ((0 ≤ l9 ∧ l9 < 26) ∧ 1 ≤ len ∧ len ≤ 10000) ∧ pz2 = smG hd se ln od (vv 2) (fillZ pz 0 26) P.toNat ∧ thZ pz2 (smT hd se ln od (vv 2) (fillZ pz 0 26) P.toNat) l9 len r ∧ fo2 = upZ fo 0 (cz r)))
    (hm : (¬ ((0 ≤ l9 ∧ l9 < 26) ∧ 1 ≤ len ∧ len ≤ 10000) ∧ t = 1 ∧ r2 = 0 ∧ R9 = z18 ∧ ro = g17 ∧ nb = z25 ∧ h20 = g20 ∧ h21 = g21 ∧ h22 = g22 ∧ h23 = g23 ∧ h24 = g24 ∧ h44 = g44 ∧ h45 = g45) ∨ (((0 ≤ l9 ∧ l9 < 26) ∧ 1 ≤ len ∧ len ≤ 10000) ∧ t = 0 ∧ ((srtZ (hmZ g10) g15 z16 ro R9) ∧ (nb = offZ g13 ro R9.toNat) ∧ (0 ≤ nb ∧ nb ≤ 900) ∧ (gatMA h20 h21 h22 h23 h24 g10 g12 g13 ro z3 R9) ∧ (∀ j : Int, 0 ≤ j ∧ j < 900 → 0 ≤ h20 j ∧ h20 j < 150) ∧ (∀ j : Int, 0 ≤ j ∧ j < 900 → 0 ≤ h21 j ∧ h21 j < 6) ∧ (∀ j : Int, 0 ≤ j ∧ j < 900 → 0 ≤ h22 j ∧ h22 j ≤ 23) ∧ (∀ j : Int, 0 ≤ j ∧ j < 900 → h23 j = 0 ∨ h23 j = 1) ∧ (∀ j : Int, 0 ≤ j ∧ j < 900 → h24 j = 0 ∨ h24 j = 1) ∧ (h44 = cnG g10 h20 h22 (fillZ g44 0 26) nb.toNat) ∧ (h45 = cnH g10 h20 (fillZ g45 0 26) nb.toNat) ∧ (r0 = sumN h22 0 nb.toNat) ∧ (∀ l9 : Int, 0 ≤ l9 ∧ l9 < 26 → 0 ≤ h44 l9 ∧ h44 l9 ≤ 23 * nb) ∧ (∀ l9 : Int, 0 ≤ l9 ∧ l9 < 26 → h45 l9 = 0 ∨ h45 l9 = 1) ∧ (0 ≤ r0 ∧ r0 ≤ 23 * nb) ∧ (nb ≤ r0)) ∧ thM h44 h45 r0 l9 len r2)) : t = k ∧ (k = 0 → fo2 0 = cz r2) ∧ RelC h20 h21 h22 h23 h24 := by
  rcases hc with ⟨k1, hn, c1, c2⟩ | ⟨k0, hn, e2, hz, rfl⟩
  · rcases hm with ⟨m1, m2, m3, rfl, rfl, rfl, rfl, rfl, rfl, rfl, rfl, rfl, rfl⟩ | ⟨m1, m2⟩
    · exact ⟨by omega, fun q => by omega, hC⟩
    · exact absurd m1 hn
  · rcases hm with ⟨m1, m2⟩ | ⟨m1, m2, ⟨a1, a2, a3, a4, a5, a6, a7, a8, a9, a10, a11, a12, a13, a14, a15, a16⟩, m4⟩
    · exact absurd hn m1
    · obtain ⟨c1, c2⟩ := cn_rel (pz := pz) hE hV.1.2.2.1 hV.2.2.2.1.1 a1 a2 a4 a10 a11 a12
      refine ⟨by omega, fun _ => ?_, ⟨a5, a6, a7, a8, a9⟩⟩
      rw [upZ_s]
      congr 1
      rw [c1] at hz
      have s1 : sumN pz2 0 l9.toNat = sumN h44 0 l9.toNat := sumN_congr _ (fun j j1 j2 => by rw [e2]; exact (c2 j ⟨by omega, by omega⟩).1)
      have s2 : pz2 l9 = h44 l9 := by rw [e2]; exact (c2 l9 hn.1).1
      unfold thZ at hz
      rw [s1, s2] at hz
      unfold thM at m4
      have c3 := (c2 l9 hn.1).2.1
      rcases m4 with ⟨n1, n2⟩ | ⟨n1, n2⟩
      · rcases hz with ⟨p1, p2⟩ | ⟨p1, p2⟩
        · rw [p2, n2]
        · exact absurd (Or.inl (c3.mp n1)) p1
      · have hnz := cnH_0 (l9 := l9) hn.1 nb.toNat (by rw [← a11]; exact n1)
        rcases hz with ⟨p1, p2⟩ | ⟨p1, p2⟩
        · rcases p1 with p1 | p1
          · exact absurd (c3.mpr p1) n1
          · exfalso; omega
        · rw [p2, n2]
theorem relE_vol {N P : Int} {hd me se ln dr od : Int → Int} {z16 : Int} {g10 g11 g12 g13 g14 g15 : Int → Int} {vv : Int → Int} {z1 z2 z3 z4 z5 : Int} {pz pz2 g44 g45 ro h20 h21 h22 h23 h24 h44 h45 : Int → Int} {r r2 r0 R9 nb : Int} (hE : RelE N P hd me se ln dr od z16 g10 g11 g12 g13 g14 g15) (hV : RelV vv z1 z2 z3 z4 z5)
    (hc1 : pz2 = smG hd se ln od (vv 2) (fillZ pz 0 26) P.toNat) (hc2 : r = volR pz2 (smT hd se ln od (vv 2) (fillZ pz 0 26) P.toNat) 26 0 (-1) 0 0)
    (a1 : srtZ (hmZ g10) g15 z16 ro R9) (a2 : nb = offZ g13 ro R9.toNat) (a3 : 0 ≤ nb ∧ nb ≤ 900) (a4 : gatMA h20 h21 h22 h23 h24 g10 g12 g13 ro z3 R9) (a5 : ∀ j : Int, 0 ≤ j ∧ j < 900 → 0 ≤ h20 j ∧ h20 j < 150) (a6 : ∀ j : Int, 0 ≤ j ∧ j < 900 → 0 ≤ h21 j ∧ h21 j < 6) (a7 : ∀ j : Int, 0 ≤ j ∧ j < 900 → 0 ≤ h22 j ∧ h22 j ≤ 23) (a8 : ∀ j : Int, 0 ≤ j ∧ j < 900 → h23 j = 0 ∨ h23 j = 1) (a9 : ∀ j : Int, 0 ≤ j ∧ j < 900 → h24 j = 0 ∨ h24 j = 1) (a10 : h44 = cnG g10 h20 h22 (fillZ g44 0 26) nb.toNat) (a11 : h45 = cnH g10 h20 (fillZ g45 0 26) nb.toNat) (a12 : r0 = sumN h22 0 nb.toNat) (a13 : ∀ l9 : Int, 0 ≤ l9 ∧ l9 < 26 → 0 ≤ h44 l9 ∧ h44 l9 ≤ 23 * nb) (a14 : ∀ l9 : Int, 0 ≤ l9 ∧ l9 < 26 → h45 l9 = 0 ∨ h45 l9 = 1) (a15 : 0 ≤ r0 ∧ r0 ≤ 23 * nb) (a16 : nb ≤ r0) (a17 : r2 = vlM h44 h45 r0 26 0 (-1) 0 0 1) : r = r2 ∧ RelC h20 h21 h22 h23 h24 := by
  obtain ⟨c1, c2⟩ := cn_rel (pz := pz) hE hV.1.2.2.1 hV.2.2.2.1.1 a1 a2 a4 a10 a11 a12
  refine ⟨?_, ⟨a5, a6, a7, a8, a9⟩⟩
  rw [hc2, a17, c1]
  exact vol_rel (fun x hx => by rw [hc1]; exact c2 x hx) 26 0 (-1) 0 0 1 (by omega) (by omega) (by omega) (by omega) (by omega)
