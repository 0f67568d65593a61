/-! REL: what is SET, and what is told of it -/
def RelS (bk st cl : Int → Int) (B C w G K ch z29 z30 z31 z32 z33 z34 : Int) (g35 g36 g37 g38 : Int → Int) : Prop :=
  (K = z29 ∧ G = z30 ∧ C = z31 ∧ B = z32 ∧ ch = z33) ∧ (0 ≤ C ∧ C ≤ B ∧ B ≤ 900) ∧ (1 ≤ z34 ∧ z34 ≤ 4) ∧ (0 ≤ w ∧ w ≤ 4) ∧ G = (C + z34 - 1) / z34 ∧ (0 < C → w = z34) ∧ (st 0 = 0 ∧ st C = B) ∧ (∀ c : Int, 0 ≤ c → c < C → st c < st (c + 1)) ∧ (∀ c : Int, 0 ≤ c → c ≤ C → st c = g37 c ∧ 0 ≤ st c ∧ st c ≤ B) ∧
  (∀ c : Int, 0 ≤ c → c < C → cl c = g38 c) ∧ (∀ k : Int, 0 ≤ k → k < B → bk k = g35 k * 6 + g36 k) ∧ (∀ j : Int, 0 ≤ j ∧ j < 900 → 0 ≤ bk j ∧ bk j < 900) ∧ (∀ j : Int, 0 ≤ j ∧ j < 900 → 0 ≤ g35 j ∧ g35 j < 150) ∧ (∀ j : Int, 0 ≤ j ∧ j < 900 → 0 ≤ g36 j ∧ g36 j < 6)
theorem un_congr {b1 b2 : Int → Int} : ∀ n : Nat, (∀ q : Nat, q < n → b1 q = b2 q) → unN b1 n = unN b2 n
  | 0, _ => rfl
  | n + 1, h => by rw [unN, unN, un_congr n (fun q hq => h q (by omega)), h n (by omega)]
theorem pg_min {C w q : Int} (hw : 1 ≤ w) (hq : q * w < C) : minZ (q * w) C = q * w ∧ minZ ((q + 1) * w) C - q * w = mnM (C - q * w) w := by
  have e : (q + 1) * w = q * w + w := by rw [Int.add_mul, Int.one_mul]
  rw [e]
  generalize q * w = x at *
  have a := minZ_b x C
  have b := minZ_b (x + w) C
  have c := mnM_b (C - x) w
  omega
theorem al_rel {bk st bk2 st2 g35 g36 g37 g39 g40 g41 : Int → Int} {B C w B2 C2 w2 q : Int} (hw : 1 ≤ w ∧ w ≤ 4) (hw2 : 1 ≤ w2 ∧ w2 ≤ 4) (hq0 : 0 ≤ q * w ∧ q * w < C) (hq2 : 0 ≤ q * w2 ∧ q * w2 < C2)
    (h1 : ∀ c : Int, 0 ≤ c → c ≤ C → st c = g37 c ∧ 0 ≤ st c ∧ st c ≤ B) (h2 : ∀ c : Int, 0 ≤ c → c ≤ C2 → st2 c = g41 c ∧ 0 ≤ st2 c ∧ st2 c ≤ B2)
    (hb : ∀ k : Int, 0 ≤ k → k < B → bk k = g35 k * 6 + g36 k ∧ 0 ≤ g36 k ∧ g36 k < 6) (hb2 : ∀ k : Int, 0 ≤ k → k < B2 → bk2 k = g39 k * 6 + g40 k ∧ 0 ≤ g40 k ∧ g40 k < 6) : pgEq bk st C w bk2 st2 C2 w2 q ↔ alM g35 g36 g37 g39 g40 g41 C w C2 w2 q := by
  obtain ⟨m1, m2⟩ := pg_min (C := C) hw.1 hq0.2
  obtain ⟨m3, m4⟩ := pg_min (C := C2) hw2.1 hq2.2
  unfold pgEq alM colEq
  rw [m1, m3, m2, m4]
  generalize q * w = x at *
  generalize q * w2 = x2 at *
  have b1 := mnM_b (C - x) w
  have b2 := mnM_b (C2 - x2) w2
  refine and_congr_right (fun hl => ?_)
  refine forall_congr' (fun c => forall_congr' (fun c1 => forall_congr' (fun c2 => ?_)))
  have a1 := h1 (x + c) (by omega) (by omega)
  have a2 := h1 (x + c + 1) (by omega) (by omega)
  have a3 := h2 (x2 + c) (by omega) (by omega)
  have a4 := h2 (x2 + c + 1) (by omega) (by omega)
  rw [← a1.1, ← a2.1, ← a3.1, ← a4.1]
  refine and_congr_right (fun hd => ?_)
  refine forall_congr' (fun k => forall_congr' (fun k1 => forall_congr' (fun k2 => ?_)))
  have d1 := hb (st (x + c) + k) (by omega) (by omega)
  have d2 := hb2 (st2 (x2 + c) + k) (by omega) (by omega)
  constructor
  · intro h; constructor <;> omega
  · intro h; omega
theorem relS_f1 {bks sts cls : Int → Int} {Bs Cs ws Gs Ks ch z29 z30 z31 z32 z33 z34 : Int} {g35 g36 g37 g38 : Int → Int} (hS : RelS bks sts cls Bs Cs ws Gs Ks ch z29 z30 z31 z32 z33 z34 g35 g36 g37 g38) : (0 ≤ Cs ∧ Cs ≤ 900) ∧ (∀ j : Int, 0 ≤ j ∧ j ≤ Cs → 0 ≤ sts j ∧ sts j ≤ 900) ∧ (∀ j : Int, 0 ≤ j ∧ j < Cs → sts j < 900) ∧ (0 ≤ Gs ∧ Gs ≤ 900 ∧ 0 ≤ ws ∧ ws ≤ 4) ∧ (∀ q : Int, 0 ≤ q → q < Gs → sts (minZ (q * ws) Cs) < 900) := by
  obtain ⟨⟨e1, e2, e3, e4, e5⟩, s1, s2, s3, s4, s5, s6, s7, s8, sl9, s10, s11, s12, s13⟩ := hS
  subst e1 e2 e3 e4 e5
  have hj : ∀ j : Int, 0 ≤ j ∧ j < Cs → sts j < 900 := fun j hj => by
    have a := s7 j hj.1 hj.2
    have b := s8 (j + 1) (by omega) (by omega)
    omega
  have gb := (pg_b (q := 0) s2 s1.1 s4).1
  refine ⟨by omega, fun j hj => by have a := s8 j hj.1 hj.2; omega, hj, by omega, fun q q1 q2 => ?_⟩
  have g := (pg_b (q := q) s2 s1.1 s4).2 q1 q2
  rw [← s5 (by omega)] at g
  have a := minZ_b (q * ws) Cs
  generalize q * ws = x at *
  exact hj _ (by omega)
theorem relS_f2 {bks sts cls : Int → Int} {Bs Cs ws Gs Ks ch z29 z30 z31 z32 z33 z34 : Int} {g35 g36 g37 g38 : Int → Int} (hS : RelS bks sts cls Bs Cs ws Gs Ks ch z29 z30 z31 z32 z33 z34 g35 g36 g37 g38) : (0 ≤ z31 ∧ z31 ≤ 900) ∧ (∀ j : Int, 0 ≤ j ∧ j ≤ z31 → 0 ≤ g37 j ∧ g37 j ≤ 900) ∧ (∀ j : Int, 0 ≤ j ∧ j < z31 → g37 j < 900) ∧ (0 ≤ z30 ∧ z30 ≤ 900 ∧ 0 ≤ z32 ∧ z32 ≤ 900) ∧ (∀ q : Int, 0 ≤ q → q < z30 → (0 ≤ q * z34 ∧ q * z34 < z31) ∧ (0 ≤ (q + 1) * z34 ∧ (q + 1) * z34 ≤ 4000)) := by
  have f := relS_f1 hS
  obtain ⟨⟨e1, e2, e3, e4, e5⟩, s1, s2, s3, s4, s5, s6, s7, s8, sl9, s10, s11, s12, s13⟩ := hS
  subst e1 e2 e3 e4 e5
  obtain ⟨f1, f2, f3, f4, f5⟩ := f
  refine ⟨f1, fun j hj => by rw [← (s8 j hj.1 hj.2).1]; exact f2 j hj, fun j hj => by rw [← (s8 j hj.1 (by omega)).1]; exact f3 j hj, by omega, fun q q1 q2 => ?_⟩
  have g := (pg_b (q := q) s2 s1.1 s4).2 q1 q2
  have e : (q + 1) * z34 = q * z34 + z34 := by rw [Int.add_mul, Int.one_mul]
  rw [e]
  generalize q * z34 = x at *
  omega
theorem relS_told {bks sts cls : Int → Int} {Bs Cs ws Gs Ks ch z29 z30 z31 z32 z33 z34 : Int} {g35 g36 g37 g38 : Int → Int} {wh k r r2 t : Int} {fo fo2 : Int → Int} (hS : RelS bks sts cls Bs Cs ws Gs Ks ch z29 z30 z31 z32 z33 z34 g35 g36 g37 g38) (hc : (k = 1 ∧ (wh < 0 ∨ 4 < wh) ∧ fo2 = fo) ∨ (k = 0 ∧ tlZ Ks Gs Cs Bs ch wh r ∧ fo2 = upZ fo 0 (cz r))) (hm : tldM z29 z30 z31 z32 z33 wh r2 t) : t = k ∧ (k = 0 → fo2 0 = cz r2) := by
  obtain ⟨⟨e1, e2, e3, e4, e5⟩, s1, s2, s3, s4, s5, s6, s7, s8, sl9, s10, s11, s12, s13⟩ := hS
  subst e1 e2 e3 e4 e5
  unfold tlZ at hc
  unfold tldM tlZ at hm
  rcases hc with ⟨k1, hn, rfl⟩ | ⟨k0, hz, rfl⟩
  · rcases hm with m | m <;> refine ⟨by omega, fun q => by omega⟩
  · rcases hm with m | ⟨m1, m2, m3⟩
    · exfalso; omega
    · refine ⟨by omega, fun _ => ?_⟩
      rw [upZ_s]; congr 1
      rcases m3 with m | m | m | m | m <;> rcases hz with h | h | h | h | h <;> omega
theorem relS_col {bks sts cls : Int → Int} {Bs Cs ws Gs Ks ch z29 z30 z31 z32 z33 z34 : Int} {g35 g36 g37 g38 : Int → Int} {k9 wh k r r2 t : Int} {fo fo2 : Int → Int} (hS : RelS bks sts cls Bs Cs ws Gs Ks ch z29 z30 z31 z32 z33 z34 g35 g36 g37 g38) (hc : (k = 1 ∧ ¬ (0 ≤ k9 ∧ k9 < Cs) ∧ fo2 = fo) ∨ (k = 2 ∧ (0 ≤ k9 ∧ k9 < Cs) ∧ (wh < 0 ∨ 3 < wh) ∧ fo2 = fo) ∨ (k = 0 ∧ (0 ≤ k9 ∧ k9 < Cs) ∧ clmZ bks sts cls k9 wh r ∧ fo2 = upZ fo 0 (cz r))) (hm : clmM z31 g35 g36 g37 g38 k9 wh r2 t) : t = k ∧ (k = 0 → fo2 0 = cz r2) := by
  obtain ⟨⟨e1, e2, e3, e4, e5⟩, s1, s2, s3, s4, s5, s6, s7, s8, sl9, s10, s11, s12, s13⟩ := hS
  subst e1 e2 e3 e4 e5
  rcases hc with ⟨k1, hn, rfl⟩ | ⟨k2, hn, hw, rfl⟩ | ⟨k0, hn, hz, rfl⟩
  · rcases hm with m | ⟨m, m2⟩ | ⟨m, m2⟩
    · exact ⟨by omega, fun q => by omega⟩
    · exact absurd m hn
    · exact absurd m hn
  · rcases hm with m | m | ⟨m, m2, m3⟩
    · exact absurd hn m.1
    · exact ⟨by omega, fun q => by omega⟩
    · exfalso; omega
  · unfold clmZ at hz
    rcases hm with m | ⟨m, m2, m3⟩ | ⟨m, m2, m3, m4⟩
    · exact absurd hn m.1
    · exfalso; rcases hz with h | h | h | h <;> omega
    · refine ⟨by omega, fun _ => ?_⟩
      rw [upZ_s]; congr 1
      have a1 := s8 k9 hn.1 (by omega)
      have a2 := s8 (k9 + 1) (by omega) (by omega)
      have a3 := s7 k9 hn.1 hn.2
      have a4 := sl9 k9 hn.1 hn.2
      have a5 := s10 (sts k9) (by omega) (by omega)
      have a6 := s13 (sts k9) (by omega)
      rw [← a1.1, ← a2.1] at m4
      rcases m4 with m | m | m | m <;> rcases hz with h | h | h | h <;> omega
theorem relS_where {N P : Int} {hd me se ln dr od : Int → Int} {z16 : Int} {g10 g11 g12 g13 g14 g15 : Int → Int} {bks sts cls : Int → Int} {Bs Cs ws Gs Ks ch z29 z30 z31 z32 z33 z34 : Int} {g35 g36 g37 g38 : Int → Int} {e9 s9 k r r2 t : Int} {fo fo2 : Int → Int} (hE : RelE N P hd me se ln dr od z16 g10 g11 g12 g13 g14 g15) (hS : RelS bks sts cls Bs Cs ws Gs Ks ch z29 z30 z31 z32 z33 z34 g35 g36 g37 g38) (hc : (k = 1 ∧ ¬ (0 ≤ e9 ∧ e9 < N) ∧ fo2 = fo) ∨ (k = 0 ∧ (0 ≤ e9 ∧ e9 < N) ∧ (((s9 < 0 ∨ 6 ≤ s9) ∧ r = -1) ∨ ((0 ≤ s9 ∧ s9 < 6) ∧ colW bks sts Cs (e9 * 6 + s9) r)) ∧ fo2 = upZ fo 0 (cz r))) (hm : (¬ (0 ≤ e9 ∧ e9 < z16) ∧ t = 1 ∧ r2 = 0) ∨ ((0 ≤ e9 ∧ e9 < z16) ∧ t = 0 ∧ whM g35 g36 g37 z31 e9 s9 r2)) : t = k ∧ (k = 0 → fo2 0 = cz r2) := by
  have e := hE.1
  subst e
  obtain ⟨⟨e1, e2, e3, e4, e5⟩, s1, s2, s3, s4, s5, s6, s7, s8, sl9, s10, s11, s12, s13⟩ := hS
  subst e1 e2 e3 e4 e5
  rcases hc with ⟨k1, hn, rfl⟩ | ⟨k0, hn, hz, rfl⟩
  · rcases hm with ⟨m1, m2⟩ | ⟨m1, m2⟩
    · exact ⟨by omega, fun q => by omega⟩
    · exact absurd m1 hn
  · rcases hm with ⟨m1, m2⟩ | ⟨m1, m2, m3⟩
    · exact absurd hn m1
    · refine ⟨by omega, fun _ => ?_⟩
      rw [upZ_s]; congr 1
      have hk : ∀ c k : Int, 0 ≤ c → c < Cs → g37 c ≤ k → k < g37 (c + 1) → (sts c ≤ k ∧ k < sts (c + 1)) ∧ bks k = g35 k * 6 + g36 k ∧ 0 ≤ g36 k ∧ g36 k < 6 := fun c k c1 c2 k1 k2 => by
        have a1 := s8 c c1 (by omega)
        have a2 := s8 (c + 1) (by omega) (by omega)
        have a5 := s10 k (by omega) (by omega)
        have a6 := s13 k (by omega)
        omega
      have hk2 : ∀ c k : Int, 0 ≤ c → c < Cs → sts c ≤ k → k < sts (c + 1) → (g37 c ≤ k ∧ k < g37 (c + 1)) ∧ bks k = g35 k * 6 + g36 k ∧ 0 ≤ g36 k ∧ g36 k < 6 := fun c k c1 c2 k1 k2 => by
        have a1 := s8 c c1 (by omega)
        have a2 := s8 (c + 1) (by omega) (by omega)
        have a5 := s10 k (by omega) (by omega)
        have a6 := s13 k (by omega)
        omega
      rcases m3 with ⟨c, c1, c2, ⟨q, q1, q2, q3, q4⟩, c4, c5⟩ | ⟨c4, c5⟩
      · have w := hk c q c1 c2 q1 q2
        rcases hz with ⟨h1, h2⟩ | ⟨h1, h2⟩
        · omega
        · rcases h2 with ⟨d, d1, d2, ⟨u, u1, u2, u3⟩, d4, d5⟩ | ⟨d4, d5⟩
          · rw [d5, c5]
            rcases (show d = c ∨ d < c ∨ c < d by omega) with x | x | x
            · exact x
            · have v := hk2 d u d1 d2 u1 u2
              exact absurd (show g35 u = e9 ∧ g36 u = s9 by omega) (c4 d d1 x u v.1.1 v.1.2)
            · exact absurd (show bks q = e9 * 6 + s9 by omega) (d4 c c1 x q w.1.1 w.1.2)
          · exact absurd (show bks q = e9 * 6 + s9 by omega) (d4 c c1 c2 q w.1.1 w.1.2)
      · rcases hz with ⟨h1, h2⟩ | ⟨h1, h2⟩
        · omega
        · rcases h2 with ⟨d, d1, d2, ⟨u, u1, u2, u3⟩, d4, d5⟩ | ⟨d4, d5⟩
          · have v := hk2 d u d1 d2 u1 u2
            exact absurd (show g35 u = e9 ∧ g36 u = s9 by omega) (c4 d d1 d2 u v.1.1 v.1.2)
          · omega
theorem fg_rel {bk g35 g36 : Int → Int} {a b r r2 : Int} (hb : ∀ k : Int, a ≤ k → (k < b ∨ k = a) → bk k = g35 k * 6 + g36 k ∧ 0 ≤ g36 k ∧ g36 k < 6) (h : fgZ bk a b r) (h2 : fgM g35 g36 a b r2) : r = r2 := by
  have h0 := hb a (Int.le_refl _) (Or.inr rfl)
  rcases h with ⟨k, k1, k2, k3, k4, k5⟩ | ⟨k4, k5⟩
  · have w := hb k k1 (Or.inl k2)
    rcases h2 with ⟨q, q1, q2, q3, q4, q5⟩ | ⟨q4, q5⟩
    · have v := hb q q1 (Or.inl q2)
      rcases (show k = q ∨ k < q ∨ q < k by omega) with x | x | x
      · rw [x] at k5 w; omega
      · have y := q4 k k1 x; omega
      · have y := k4 q q1 x; omega
    · have y := q4 k k1 k2; omega
  · rcases h2 with ⟨q, q1, q2, q3, q4, q5⟩ | ⟨q4, q5⟩
    · have v := hb q q1 (Or.inl q2)
      have y := k4 q q1 q2; omega
    · omega
theorem lg_rel {bk g35 g36 : Int → Int} {a b r r2 : Int} (hb : ∀ k : Int, a ≤ k → (k < b ∨ k = a) → bk k = g35 k * 6 + g36 k ∧ 0 ≤ g36 k ∧ g36 k < 6) (h : lgZ bk a b r) (h2 : lgM g35 g36 a b r2) : r = r2 := by
  have h0 := hb a (Int.le_refl _) (Or.inr rfl)
  rcases h with ⟨k, k1, k2, k3, k4, k5⟩ | ⟨k4, k5⟩
  · have w := hb k k1 (Or.inl k2)
    rcases h2 with ⟨q, q1, q2, q3, q4, q5⟩ | ⟨q4, q5⟩
    · have v := hb q q1 (Or.inl q2)
      rcases (show k = q ∨ k < q ∨ q < k by omega) with x | x | x
      · rw [x] at k5 w; omega
      · have y := k4 q x q2; omega
      · have y := q4 k x k2; omega
    · have y := q4 k k1 k2; omega
  · rcases h2 with ⟨q, q1, q2, q3, q4, q5⟩ | ⟨q4, q5⟩
    · have v := hb q q1 (Or.inl q2)
      have y := k4 q q1 q2; omega
    · omega
theorem relS_guide {bks sts cls : Int → Int} {Bs Cs ws Gs Ks ch z29 z30 z31 z32 z33 z34 : Int} {g35 g36 g37 g38 : Int → Int} {pg wh k r r2 t : Int} {fo fo2 : Int → Int} (hS : RelS bks sts cls Bs Cs ws Gs Ks ch z29 z30 z31 z32 z33 z34 g35 g36 g37 g38) (hc : (k = 1 ∧ ¬ (0 ≤ pg ∧ pg < Gs) ∧ fo2 = fo) ∨ (k = 2 ∧ (0 ≤ pg ∧ pg < Gs) ∧ (¬ wh = 0 ∧ ¬ wh = 1) ∧ fo2 = fo) ∨ (k = 0 ∧ (0 ≤ pg ∧ pg < Gs) ∧ ((wh = 0 ∧ fgZ bks (sts (minZ (pg * ws) Cs)) (sts (minZ ((pg + 1) * ws) Cs)) r) ∨ (wh = 1 ∧ lgZ bks (sts (minZ (pg * ws) Cs)) (sts (minZ ((pg + 1) * ws) Cs)) r)) ∧ fo2 = upZ fo 0 (cz r))) (hm : (¬ (0 ≤ pg ∧ pg < z30) ∧ t = 1 ∧ r2 = 0) ∨ ((0 ≤ pg ∧ pg < z30) ∧ ¬ (0 ≤ wh ∧ wh ≤ 1) ∧ t = 2 ∧ r2 = 0) ∨ ((0 ≤ pg ∧ pg < z30) ∧ (0 ≤ wh ∧ wh ≤ 1) ∧ t = 0 ∧ ((wh = 0 ∧ fgM g35 g36 (g37 (pg * z34)) (toM z31 z32 z34 g37 pg) r2) ∨ (wh = 1 ∧ lgM g35 g36 (g37 (pg * z34)) (toM z31 z32 z34 g37 pg) r2)))) : t = k ∧ (k = 0 → fo2 0 = cz r2) := by
  obtain ⟨⟨e1, e2, e3, e4, e5⟩, s1, s2, s3, s4, s5, s6, s7, s8, sl9, s10, s11, s12, s13⟩ := hS
  subst e1 e2 e3 e4 e5
  rcases hc with ⟨k1, hn, rfl⟩ | ⟨k2, hn, hw, rfl⟩ | ⟨k0, hn, hz, rfl⟩
  · rcases hm with m | ⟨m, m2⟩ | ⟨m, m2⟩
    · exact ⟨by omega, fun q => by omega⟩
    · exact absurd m hn
    · exact absurd m hn
  · rcases hm with m | m | ⟨m, m2, m3⟩
    · exact absurd hn m.1
    · exact ⟨by omega, fun q => by omega⟩
    · exfalso; omega
  · rcases hm with m | ⟨m, m2, m3⟩ | ⟨m, m2, m3, m4⟩
    · exact absurd hn m.1
    · exfalso; rcases hz with h | h <;> omega
    · refine ⟨by omega, fun _ => ?_⟩
      rw [upZ_s]; congr 1
      have g := (pg_b (q := pg) s2 s1.1 s4).2 hn.1 hn.2
      rw [s5 (by omega)] at hz
      obtain ⟨p1, p2⟩ := pg_min (C := Cs) s2.1 g.2
      have e : (pg + 1) * z34 = pg * z34 + z34 := by rw [Int.add_mul, Int.one_mul]
      unfold toM at m4
      rw [p1] at hz
      rw [e] at m4 hz
      generalize pg * z34 = x at *
      have mb := minZ_b (x + z34) Cs
      have a1 := s8 x g.1 (by omega)
      have a3 := s7 x g.1 g.2
      have a2 := s8 (x + 1) (by omega) (by omega)
      have hto : (if x + z34 < Cs then g37 (x + z34) else Bs) = sts (minZ (x + z34) Cs) := by
        by_cases d : x + z34 < Cs
        · rw [if_pos d, show minZ (x + z34) Cs = x + z34 by omega, (s8 (x + z34) (by omega) (by omega)).1]
        · rw [if_neg d, show minZ (x + z34) Cs = Cs by omega, s6.2]
      have a4 := s8 (minZ (x + z34) Cs) (by omega) (by omega)
      rw [hto, ← a1.1] at m4
      have hb : ∀ k : Int, sts x ≤ k → (k < sts (minZ (x + z34) Cs) ∨ k = sts x) → bks k = g35 k * 6 + g36 k ∧ 0 ≤ g36 k ∧ g36 k < 6 := fun k k1 k2 => by
        have b1 := s10 k (by omega) (by omega)
        have b2 := s13 k (by omega)
        omega
      rcases hz with ⟨h1, h2⟩ | ⟨h1, h2⟩
      · rcases m4 with ⟨n1, n2⟩ | ⟨n1, n2⟩
        · exact fg_rel hb h2 n2
        · omega
      · rcases m4 with ⟨n1, n2⟩ | ⟨n1, n2⟩
        · omega
        · exact lg_rel hb h2 n2
