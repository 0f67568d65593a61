/-! REL: entry, see, drop, order, count, leads -/
theorem hd_pos {tf : Int → Int} {a n : Int} (h : isHd tf a n) : 0 < encZ tf a n.toNat ∧ encZ tf a n.toNat < 1152921504606846976 := by
  obtain ⟨h1, h2, h3⟩ := h
  refine ⟨?_, (encZ_lt tf a n.toNat (by omega) (fun j hj => h3 j (by omega) (by omega))).2⟩
  rw [show n.toNat = (n.toNat - 1) + 1 by omega]
  exact encZ_pos (by omega) (fun j hj => h3 j (by omega) (by omega))
theorem relE_ent {N P : Int} {hd me se ln dr od : Int → Int} {z16 : Int} {g10 g11 g12 g13 g14 g15 : Int → Int} {pn z7 tn z9 : Int} {pz g6 tf g8 fo fo2 : Int → Int} {n r x k r2 t y7 y9 y16 pn2 tn2 N2 P2 : Int} {hd2 me2 se2 ln2 od2 h10 h12 h13 h14 h15 : Int → Int}
    (hE : RelE N P hd me se ln dr od z16 g10 g11 g12 g13 g14 g15) (hP : RelP pn pz z7 g6) (hT : RelT tn tf z9 g8)
    (hc : (k = 1 ∧ ¬ (0 ≤ n ∧ n ≤ tn) ∧ pn2 = pn ∧ tn2 = tn ∧ hd2 = hd ∧ me2 = me ∧ se2 = se ∧ ln2 = ln ∧ od2 = od ∧ N2 = N ∧ P2 = P ∧ fo2 = fo) ∨ (k = 0 ∧ (0 ≤ n ∧ n ≤ tn) ∧ pn2 = 0 ∧ tn2 = 0 ∧ entZ tf hd me se ln od pz N P pn n r x hd2 me2 se2 ln2 od2 N2 P2 ∧ fo2 = upZ fo 0 (cz r)))
    (hm : entM z7 z9 z16 g6 g8 g10 g12 g13 g14 g15 n r2 t y7 y9 y16 h10 h12 h13 h14 h15) :
    t = k ∧ (k = 0 → fo2 0 = cz r2) ∧ RelP pn2 pz y7 g6 ∧ RelT tn2 tf y9 g8 ∧ RelE N2 P2 hd2 me2 se2 ln2 dr od2 y16 h10 g11 h12 h13 h14 h15 := by
  have e7 := hP.1
  have e9 := hT.1
  have e16 := hE.1
  have hN0 := hE.2.1
  subst e7 e9 e16
  rcases hc with ⟨k1, hn, rfl, rfl, rfl, rfl, rfl, rfl, rfl, rfl, rfl, rfl⟩ | ⟨k0, hn, rfl, rfl, ⟨hx, hz⟩, rfl⟩
  · rcases hm with ⟨m1, m2, m3, rfl, rfl, rfl, rfl, rfl, rfl, rfl, rfl⟩ | ⟨m1, m2⟩
    · exact ⟨by omega, fun q => by omega, hP, hT, hE⟩
    · exact absurd m1 hn
  · rcases hm with ⟨m1, m2⟩ | ⟨m1, m2, rfl, rfl, hm⟩
    · exact absurd hn m1
    · have hP0 : RelP 0 pz 0 g6 := ⟨rfl, by omega, fun k a b => by omega⟩
      have hT0 : RelT 0 tf 0 g8 := ⟨rfl, by omega, hT.2.2.1, hT.2.2.2.1, fun j a b => by omega⟩
      obtain ⟨hiff, heq⟩ := isHd_rel hT (fr := 0) (n := n) (by omega)
      rcases hx with ⟨hx1, hx2⟩ | ⟨hx1, hx2⟩
      · have hg := hiff.mp hx1
        have hxp := hd_pos hx1
        rw [← hx2] at hxp
        rcases hm with ⟨q, m3⟩ | ⟨q, z0, m4, rfl, rfl, rfl, rfl, rfl, rfl⟩ | ⟨q, z0, z150, m4, rfl, rfl, rfl, rfl, rfl, rfl⟩ | ⟨q, z0, z150, m4, rfl, ⟨a1, a2⟩, a3, a4, rfl, rfl, rfl⟩
        · exact absurd hg q
        · rcases hz with ⟨c1, c2⟩ | ⟨c1, c2, c3, rfl, rfl, rfl, rfl, rfl, rfl, rfl⟩ | ⟨c1, c2, c3⟩
          · omega
          · exact ⟨by omega, fun _ => by rw [upZ_s]; congr 1; omega, hP0, hT0, hE⟩
          · omega
        · rcases hz with ⟨c1, c2⟩ | ⟨c1, c2, c3⟩ | ⟨c1, c2, ⟨d1, d2, rfl, rfl, rfl, rfl, rfl, rfl, rfl⟩ | ⟨d1, d2⟩⟩
          · omega
          · omega
          · exact ⟨by omega, fun _ => by rw [upZ_s]; congr 1; omega, hP0, hT0, hE⟩
          · omega
        · rcases hz with ⟨c1, c2⟩ | ⟨c1, c2, c3⟩ | ⟨c1, c2, ⟨d1, d2⟩ | ⟨d1, d2, rfl, rfl, rfl, d3, d4, d5, rfl, rfl⟩⟩
          · omega
          · omega
          · omega
          · have hh := hm_head hg (heq hg) a1
            refine ⟨by omega, fun _ => by rw [upZ_s]; congr 1; omega, hP0, hT0, ?_⟩
            exact relE_adm hE d1 ⟨by have := hP.2.1; omega, by have := hP.2.1; omega⟩ (fun s s1 s2 => by have q := hP.2.2 s s1 s2; omega) d3 d4 d5 (by rw [hx2, hh.1]) (by omega) (by omega) hh.2.1 a2 hh.2.2.2 (fun _ _ => rfl) (fun j j1 j2 => hE.2.2.2.2.2.2.1 j (by omega)) (Or.inl ⟨rfl, rfl⟩) (fun s s1 s2 => by rw [a3 s s1 s2, (hP.2.2 s s1 s2).1]) a4
      · have hg : ¬ isHd g8 0 n := fun q => hx1 (hiff.mpr q)
        rcases hm with ⟨q, m3, rfl, rfl, rfl, rfl, rfl, rfl⟩ | ⟨q, m3⟩ | ⟨q, m3⟩ | ⟨q, m3⟩
        · rcases hz with ⟨c1, c2, rfl, rfl, rfl, rfl, rfl, rfl, rfl⟩ | ⟨c1, c2⟩ | ⟨c1, c2⟩
          · exact ⟨by omega, fun _ => by rw [upZ_s]; congr 1; omega, hP0, hT0, hE⟩
          · exact absurd hx2 c1
          · exact absurd hx2 c1
        · exact absurd q hg
        · exact absurd q hg
        · exact absurd q hg
theorem relE_see {N P : Int} {hd me se ln dr od : Int → Int} {z16 : Int} {g10 g11 g12 g13 g14 g15 : Int → Int} {tn z9 : Int} {tf g8 fo fo2 : Int → Int} {n m9 r x y k r2 t y9 y16 tn2 N2 P2 : Int} {hd2 me2 se2 ln2 od2 h10 h11 h12 h13 h14 h15 : Int → Int}
    (hE : RelE N P hd me se ln dr od z16 g10 g11 g12 g13 g14 g15) (hT : RelT tn tf z9 g8)
    (hc : (k = 1 ∧ ¬ (0 ≤ n ∧ 0 ≤ m9 ∧ n + m9 ≤ tn) ∧ tn2 = tn ∧ hd2 = hd ∧ me2 = me ∧ se2 = se ∧ ln2 = ln ∧ od2 = od ∧ N2 = N ∧ P2 = P ∧ fo2 = fo) ∨ (k = 0 ∧ (0 ≤ n ∧ 0 ≤ m9 ∧ n + m9 ≤ tn) ∧ tn2 = 0 ∧ seeZ tf hd me se ln od N P n m9 r x y hd2 me2 se2 ln2 od2 N2 P2 ∧ fo2 = upZ fo 0 (cz r)))
    (hm : seeM z9 z16 g8 g10 g11 g12 g13 g14 g15 n m9 r2 t y9 y16 h10 h11 h12 h13 h14 h15) :
    t = k ∧ (k = 0 → fo2 0 = cz r2) ∧ RelT tn2 tf y9 g8 ∧ RelE N2 P2 hd2 me2 se2 ln2 dr od2 y16 h10 h11 h12 h13 h14 h15 := by
  have e9 := hT.1
  have e16 := hE.1
  have hN0 := hE.2.1
  subst e9 e16
  rcases hc with ⟨k1, hn, rfl, rfl, rfl, rfl, rfl, rfl, rfl, rfl, rfl⟩ | ⟨k0, hn, rfl, ⟨hx, hy, hz⟩, rfl⟩
  · rcases hm with ⟨m1, m2, m3, rfl, rfl, rfl, rfl, rfl, rfl, rfl, rfl⟩ | ⟨m1, m2⟩
    · exact ⟨by omega, fun q => by omega, hT, hE⟩
    · exact absurd m1 hn
  · rcases hm with ⟨m1, m2⟩ | ⟨m1, m2, rfl, hm⟩
    · exact absurd hn m1
    · have hT0 : RelT 0 tf 0 g8 := ⟨rfl, by omega, hT.2.2.1, hT.2.2.2.1, fun j a b => by omega⟩
      obtain ⟨hiff, heq⟩ := isHd_rel hT (fr := 0) (n := n) (by omega)
      obtain ⟨hiff2, heq2⟩ := isHd_rel hT (fr := n) (n := m9) (by omega)
      by_cases hb : isHd g8 0 n ∧ isHd g8 n m9
      · obtain ⟨hg, hg2⟩ := hb
        have hx3 : x = encZ tf 0 n.toNat := by
          rcases hx with ⟨-, q⟩ | ⟨q, -⟩
          · exact q
          · exact absurd (hiff.mpr hg) q
        have hy3 : y = encZ tf n m9.toNat := by
          rcases hy with ⟨-, q⟩ | ⟨q, -⟩
          · exact q
          · exact absurd (hiff2.mpr hg2) q
        have hxp := hd_pos (hiff.mpr hg)
        have hyp := hd_pos (hiff2.mpr hg2)
        rw [← hx3] at hxp
        rw [← hy3] at hyp
        rcases hm with ⟨q, m3⟩ | ⟨q, q2, z150, m4, rfl, rfl, rfl, rfl, rfl, rfl, rfl⟩ | ⟨q, q2, z150, m4, rfl, ⟨a1, a2⟩, ⟨b1, b2⟩, rfl, rfl, rfl, rfl⟩
        · rcases q with q | q
          · exact absurd hg q
          · exact absurd hg2 q
        · rcases hz with ⟨c1, c2⟩ | ⟨c1, c2, ⟨d1, d2, rfl, rfl, rfl, rfl, rfl, rfl, rfl⟩ | ⟨d1, d2⟩⟩
          · omega
          · exact ⟨by omega, fun _ => by rw [upZ_s]; congr 1; omega, hT0, hE⟩
          · omega
        · rcases hz with ⟨c1, c2⟩ | ⟨c1, c2, ⟨d1, d2⟩ | ⟨d1, d2, rfl, rfl, rfl, d3, d4, d5, rfl, rfl⟩⟩
          · omega
          · omega
          · have hh := hm_head hg (heq hg) a1
            have hh2 := hm_head hg2 (heq2 hg2) b1
            refine ⟨by omega, fun _ => by rw [upZ_s]; congr 1; omega, hT0, ?_⟩
            exact relE_adm hE d1 ⟨by omega, by omega⟩ (fun s s1 s2 => ⟨Int.le_refl _, by decide⟩) d3 d4 d5 (by rw [hx3, hh.1]) (by omega) (by omega) hh.2.1 a2 hh.2.2.2 b2 hh2.2.2.2 (Or.inr ⟨rfl, by rw [hy3, hh2.1], by omega⟩) (fun s s1 s2 => by rw [show s = 0 by omega, Int.add_zero, upZ_s]) (fun j hj => upZ_n (by omega))
      · have hxy : x = 0 ∨ y = 0 := by
          rcases hx with ⟨q, -⟩ | ⟨-, q⟩
          · rcases hy with ⟨q2, -⟩ | ⟨-, q2⟩
            · exact absurd ⟨hiff.mp q, hiff2.mp q2⟩ hb
            · exact Or.inr q2
          · exact Or.inl q
        rcases hm with ⟨q, m3, rfl, rfl, rfl, rfl, rfl, rfl, rfl⟩ | ⟨q, q2, m3⟩ | ⟨q, q2, m3⟩
        · rcases hz with ⟨c1, c2, rfl, rfl, rfl, rfl, rfl, rfl, rfl⟩ | ⟨c1, c2, c3⟩
          · exact ⟨by omega, fun _ => by rw [upZ_s]; congr 1; omega, hT0, hE⟩
          · omega
        · exact absurd ⟨q, q2⟩ hb
        · exact absurd ⟨q, q2⟩ hb
theorem relE_pos {N P : Int} {hd me se ln dr od : Int → Int} {z16 : Int} {g10 g11 g12 g13 g14 g15 : Int → Int} (hE : RelE N P hd me se ln dr od z16 g10 g11 g12 g13 g14 g15) (e9 : Int) : ∃ r : Int, (0 ≤ e9 ∧ e9 < N) → dr e9 = 0 → 0 ≤ r ∧ r < P ∧ od r = e9 ∧ ∀ k : Int, 0 ≤ k → k < P → k ≠ r → od k ≠ e9 := by
  obtain ⟨e, hN0, hs, A, B, C, D, E, F, G, H, I, J, K, L, M, O, Q⟩ := hE
  subst e
  by_cases h : (0 ≤ e9 ∧ e9 < N) ∧ dr e9 = 0
  · have hg := O e9 h.1
    obtain ⟨r, r1, r2, r3⟩ := hs.2.2.2 e9 h.1.1 h.1.2 (by omega)
    exact ⟨r, fun _ _ => ⟨r1, r2, r3, fun k k1 k2 k3 k4 => k3 (srt_ne hs ⟨k1, k2⟩ ⟨r1, r2⟩ (by rw [k4, r3]))⟩⟩
  · exact ⟨0, fun a b => absurd ⟨a, b⟩ h⟩
theorem relE_drop {N P : Int} {hd me se ln dr od : Int → Int} {z16 : Int} {g10 g11 g12 g13 g14 g15 : Int → Int} {e9 r k res r2 t P2 : Int} {od2 dr2 fo fo2 h : Int → Int} (hE : RelE N P hd me se ln dr od z16 g10 g11 g12 g13 g14 g15)
    (hr0 : (0 ≤ e9 ∧ e9 < N) → dr e9 = 0 → 0 ≤ r ∧ r < P ∧ od r = e9 ∧ ∀ k : Int, 0 ≤ k → k < P → k ≠ r → od k ≠ e9)
    (hc : (k = 1 ∧ ¬ (0 ≤ e9 ∧ e9 < N) ∧ od2 = od ∧ dr2 = dr ∧ P2 = P ∧ fo2 = fo) ∨ (k = 0 ∧ (0 ≤ e9 ∧ e9 < N) ∧ remZ od dr P e9 r res od2 dr2 P2 ∧ fo2 = upZ fo 0 res))
    (hm : ((0 ≤ e9 ∧ e9 < z16) ∧ t = 0 ∧ r2 = g15 e9 ∧ h = upZ g15 e9 0) ∨ (¬ (0 ≤ e9 ∧ e9 < z16) ∧ t = 1 ∧ r2 = 0 ∧ h = g15)) :
    t = k ∧ (k = 0 → fo2 0 = r2) ∧ (r2 = 0 ∨ r2 = 1) ∧ RelE N P2 hd me se ln dr2 od2 z16 g10 g11 g12 g13 g14 h := by
  have hE0 := hE
  obtain ⟨e, hN0, hs, A, B, C, D, E, F, G, H, I, J, K, L, M, O, Q⟩ := hE
  subst e
  rcases hc with ⟨k1, hn, rfl, rfl, rfl, rfl⟩ | ⟨k0, hn, hz, rfl⟩
  · rcases hm with ⟨m1, m2⟩ | ⟨m1, m2, m3, rfl⟩
    · exact absurd m1 hn
    · exact ⟨by omega, fun q => by omega, Or.inl m3, hE0⟩
  · rcases hm with ⟨m1, m2, m3, rfl⟩ | ⟨m1, m2⟩
    case inr => exact absurd hn m1
    have hg := O e9 hn
    have hd9 := M e9 (by omega)
    rcases hz with ⟨c1, c2, rfl, rfl, rfl⟩ | ⟨c1, c2, rfl, rfl, c3, c4⟩
    · refine ⟨by omega, fun _ => by rw [upZ_s]; omega, by omega, ?_⟩
      rw [upZ_same (show g15 e9 = 0 by omega)]
      exact hE0
    · obtain ⟨q1, q2, q3, q4⟩ := hr0 hn c1
      refine ⟨by omega, fun _ => by rw [upZ_s]; omega, by omega, ?_⟩
      refine ⟨rfl, hN0, srt_rem hs ⟨q1, q2⟩ q3 rfl c3 c4, A, B, C, D, E, F, G, H, I, J, K, upZ_all (fun v => v = 0 ∨ v = 1) L (Or.inl rfl), upZ_all (fun v => v = 0 ∨ v = 1) M (Or.inr rfl), fun a ha => ?_, fun a ha => ?_⟩
      · have u := upZ_at g15 e9 0 a
        have v := upZ_at dr e9 1 a
        have w := O a ha
        omega
      · rw [upZ_n (by omega)]; exact Q a ha
theorem relE_order {N P : Int} {hd me se ln dr od : Int → Int} {z16 : Int} {g10 g11 g12 g13 g14 g15 : Int → Int} {k r r2 R9 : Int} {ro : Int → Int} (hE : RelE N P hd me se ln dr od z16 g10 g11 g12 g13 g14 g15) (hc : r = (if 0 ≤ k ∧ k < P then od k else -1)) (hs2 : srtZ (hmZ g10) g15 z16 ro R9) (hm : r2 = (if 0 ≤ k ∧ k < R9 then ro k else -1)) : r = r2 := by
  obtain ⟨e, hN0, hs, -⟩ := hE
  subst e
  obtain ⟨q, q2⟩ := srt_uniq hs hs2
  subst q
  rw [hc, hm]
  by_cases h : 0 ≤ k ∧ k < P
  · rw [if_pos h, if_pos h]; exact q2 k h.1 h.2
  · rw [if_neg h, if_neg h]
theorem relE_count {N P : Int} {hd me se ln dr od : Int → Int} {z16 : Int} {g10 g11 g12 g13 g14 g15 : Int → Int} {pn z7 tn z9 z18 : Int} {pz g6 tf g8 g17 : Int → Int} {wh r r2 R9 : Int} {ro : Int → Int} (hE : RelE N P hd me se ln dr od z16 g10 g11 g12 g13 g14 g15) (hP : RelP pn pz z7 g6) (hT : RelT tn tf z9 g8) (hc : cntZ P N pn tn wh r) (hm : (wh = 0 ∧ srtZ (hmZ g10) g15 z16 ro R9 ∧ r2 = R9) ∨ (¬ wh = 0 ∧ ro = g17 ∧ R9 = z18 ∧ ((wh = 1 ∧ r2 = z16) ∨ (wh = 2 ∧ r2 = z7) ∨ (wh = 3 ∧ r2 = z9) ∨ ((wh < 0 ∨ 3 < wh) ∧ r2 = -1)))) : r = r2 := by
  have e7 := hP.1
  have e9 := hT.1
  have e16 := hE.1
  have hs := hE.2.2.1
  rcases hm with ⟨m1, m2, m3⟩ | ⟨m1, -, -, m2⟩
  · rw [← e16] at m2
    have q := (srt_uniq hs m2).1
    rcases hc with c | c | c | c | c <;> omega
  · rcases hc with c | c | c | c | c <;> omega
theorem fw_min {hd od : Int → Int} {P x : Int} (hso : ∀ i j : Int, 0 ≤ i → i < j → j < P → hd (od i) ≤ hd (od j)) : ∀ n : Nat, (n : Int) ≤ P → (∃ k : Int, 0 ≤ k ∧ k < n ∧ hd (od k) = x ∧ (∀ i : Int, 0 ≤ i → i < k → hd (od i) < x)) ∨ (∀ k : Int, 0 ≤ k → k < n → hd (od k) ≠ x)
  | 0, _ => Or.inr (fun k a b => by omega)
  | n + 1, hn => by
    rcases fw_min hso n (by omega) with ⟨k, k1, k2, k3, k4⟩ | h
    · exact Or.inl ⟨k, k1, by omega, k3, k4⟩
    · by_cases e : hd (od n) = x
      · refine Or.inl ⟨n, by omega, by omega, e, fun i i1 i2 => ?_⟩
        have q := hso i n i1 i2 (by omega)
        have q2 := h i i1 i2
        omega
      · refine Or.inr (fun k k1 k2 => ?_)
        rcases (show k = (n : Int) ∨ k < n by omega) with c | c
        · rw [c]; exact e
        · exact h k k1 c
theorem fw_ex {hd od : Int → Int} {P : Int} (hP : 0 ≤ P) (hso : ∀ i j : Int, 0 ≤ i → i < j → j < P → hd (od i) ≤ hd (od j)) (x : Int) : ∃ r : Int, fwZ hd od P x r := by
  rcases fw_min (x := x) hso P.toNat (by omega) with ⟨k, k1, k2, k3, k4⟩ | h
  · exact ⟨od k, Or.inl ⟨k, k1, by omega, k3, k4, rfl⟩⟩
  · exact ⟨-1, Or.inr ⟨fun k k1 k2 => h k k1 (by omega), rfl⟩⟩
theorem fw_congr {hd hd2 od od2 : Int → Int} {P x r : Int} (h : fwZ hd od P x r) (e : ∀ k : Int, 0 ≤ k → k < P → od k = od2 k ∧ hd (od k) = hd2 (od k)) : fwZ hd2 od2 P x r := by
  rcases h with ⟨k, k1, k2, k3, k4, k5⟩ | ⟨h1, h2⟩
  · refine Or.inl ⟨k, k1, k2, ?_, fun i i1 i2 => ?_, ?_⟩
    · have q := e k k1 k2; rw [← q.1, ← q.2]; exact k3
    · have q := e i i1 (by omega); rw [← q.1, ← q.2]; exact k4 i i1 i2
    · rw [← (e k k1 k2).1]; exact k5
  · refine Or.inr ⟨fun k k1 k2 => ?_, h2⟩
    have q := e k k1 k2; rw [← q.1, ← q.2]; exact h1 k k1 k2
theorem relE_so {N P : Int} {hd me se ln dr od : Int → Int} {z16 : Int} {g10 g11 g12 g13 g14 g15 : Int → Int} (hE : RelE N P hd me se ln dr od z16 g10 g11 g12 g13 g14 g15) : (∀ j : Int, 0 ≤ j ∧ j < P → 0 ≤ od j ∧ od j < N) ∧ (∀ i j : Int, 0 ≤ i → i < j → j < P → hd (od i) ≤ hd (od j)) ∧ (∀ k : Int, 0 ≤ k → k < P → hd (od k) = hmZ g10 (od k)) := by
  obtain ⟨e, hN0, hs, A, B, C, D, E, F, G, H, I, J, K, L, M, O, Q⟩ := hE
  subst e
  have ho : ∀ j : Int, 0 ≤ j ∧ j < P → 0 ≤ od j ∧ od j < N := fun j hj => by have q := hs.2.1 j hj.1 hj.2; exact ⟨q.1, q.2.1⟩
  have hh : ∀ k : Int, 0 ≤ k → k < P → hd (od k) = hmZ g10 (od k) := fun k k1 k2 => (E _ (ho k ⟨k1, k2⟩)).1
  exact ⟨ho, fun i j i1 i2 i3 => by rw [hh i i1 (by omega), hh j (by omega) i3]; exact srt_le hs i j i1 i2 i3, hh⟩
theorem relE_nx {N P : Int} {hd me se ln dr od : Int → Int} {z16 : Int} {g10 g11 g12 g13 g14 g15 : Int → Int} (hE : RelE N P hd me se ln dr od z16 g10 g11 g12 g13 g14 g15) : ∃ nx : Int → Int, (∀ a : Int, 0 ≤ a ∧ a < N → fwZ hd od P (me a) (nx a)) ∧ (∀ (ro : Int → Int) (R9 : Int), srtZ (hmZ g10) g15 z16 ro R9 → ∀ a : Int, 0 ≤ a ∧ a < z16 → g14 a ≠ 0 → fwZ (hmZ g10) ro R9 (hmZ g11 a) (nx a)) := by
  obtain ⟨ho, hso, hh⟩ := relE_so hE
  have hs := hE.2.2.1
  have F := hE.2.2.2.2.2.2.2.2.1
  have e := hE.1
  subst e
  refine ⟨fun a => Classical.choose (fw_ex hs.1.1 hso (me a)), fun a _ => Classical.choose_spec (fw_ex hs.1.1 hso (me a)), fun ro R9 h2 a ha hg => ?_⟩
  have h1 := Classical.choose_spec (fw_ex hs.1.1 hso (me a))
  obtain ⟨q, q2⟩ := srt_uniq hs h2
  subst q
  have hf := F a ha
  have hme : me a = hmZ g11 a := by
    rcases hf with h | h
    · exact absurd h.1 hg
    · exact h.2.1
  rw [← hme]
  exact fw_congr h1 (fun k k1 k2 => ⟨q2 k k1 k2, hh k k1 k2⟩)
theorem lead_rel {nx me g14 : Int → Int} {N : Int} (hme : ∀ a : Int, 0 ≤ a → a < N → (me a = 0 ↔ g14 a = 0)) (hnx : ∀ a : Int, 0 ≤ a → a < N → nx a = -1 ∨ (0 ≤ nx a ∧ nx a < N)) : ∀ (n : Nat) (pa pb : Int → Int) (a : Int), 0 ≤ a → a < N → (∀ j : Int, 0 ≤ j → j < N → pa j = pb j) → leadR nx me n pa a = leadR nx g14 n pb a
  | 0, _, _, _, _, _, _ => rfl
  | n + 1, pa, pb, a, a1, a2, hp => by
    rw [leadR_s, leadR_s, hp a a1 a2]
    by_cases h : me a = 0
    · rw [if_pos h, if_pos ((hme a a1 a2).mp h)]
    · rw [if_neg h, if_neg (fun q => h ((hme a a1 a2).mpr q))]
      by_cases h2 : pb a ≠ 0
      · rw [if_pos h2, if_pos h2]
      · rw [if_neg h2, if_neg h2]
        by_cases h3 : nx a = -1
        · rw [if_pos h3, if_pos h3]
        · rw [if_neg h3, if_neg h3]
          have q := hnx a a1 a2
          refine lead_rel hme hnx n _ _ (nx a) (by omega) (by omega) (fun j j1 j2 => ?_)
          have u := upZ_at pa a 1 j
          have v := upZ_at pb a 1 j
          have w := hp j j1 j2
          omega
theorem relE_leads {N P : Int} {hd me se ln dr od : Int → Int} {z16 : Int} {g10 g11 g12 g13 g14 g15 : Int → Int} {nx pa g19 : Int → Int} {e9 k r r2 t R9 z18 : Int} {ro g17 h19 fo fo2 : Int → Int} (hE : RelE N P hd me se ln dr od z16 g10 g11 g12 g13 g14 g15) (h1 : ∀ a : Int, 0 ≤ a ∧ a < N → fwZ hd od P (me a) (nx a))
    (hc : (k = 1 ∧ ¬ (0 ≤ e9 ∧ e9 < N) ∧ fo2 = fo) ∨ (k = 0 ∧ (0 ≤ e9 ∧ e9 < N) ∧ r = leadR nx me 151 (fillZ pa 0 150) e9 ∧ fo2 = upZ fo 0 (cz r)))
    (hm : (¬ (0 ≤ e9 ∧ e9 < z16) ∧ t = 1 ∧ r2 = 0 ∧ R9 = z18 ∧ ro = g17 ∧ h19 = g19) ∨ ((0 ≤ e9 ∧ e9 < z16) ∧ t = 0 ∧ srtZ (hmZ g10) g15 z16 ro R9 ∧ r2 = leadR nx g14 151 (fillZ g19 0 z16) e9)) :
    t = k ∧ (k = 0 → fo2 0 = cz r2) := by
  obtain ⟨ho, hso, hh⟩ := relE_so hE
  have e := hE.1
  have hN0 := hE.2.1
  have F := hE.2.2.2.2.2.2.2.2.1
  subst e
  rcases hc with ⟨k1, hn, rfl⟩ | ⟨k0, hn, hz, rfl⟩
  · rcases hm with ⟨m1, m2⟩ | ⟨m1, m2⟩
    · exact ⟨by omega, fun q => by omega⟩
    · exact absurd m1 hn
  · rcases hm with ⟨m1, m2⟩ | ⟨m1, m2, m3, m4⟩
    · exact absurd hn m1
    · refine ⟨by omega, fun _ => ?_⟩
      rw [upZ_s, hz, m4]
      congr 1
      refine lead_rel (N := N) (fun a a1 a2 => ?_) (fun a a1 a2 => ?_) 151 _ _ e9 hn.1 hn.2 (fun j j1 j2 => ?_)
      · have f := F a ⟨a1, a2⟩
        omega
      · rcases h1 a ⟨a1, a2⟩ with ⟨q, q1, q2, -, -, q3⟩ | ⟨-, q⟩
        · have := ho q ⟨q1, q2⟩; omega
        · exact Or.inl q
      · rw [fillZ_in (by omega), fillZ_in (by omega)]
