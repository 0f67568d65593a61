/-! REL: set() -/
theorem relS_set {N P : Int} {hd me se ln dr od : Int → Int} {z16 : Int} {g10 g11 g12 g13 g14 g15 : Int → Int} {bks sts cls : Int → Int} {Bs Cs ws Gs Ks ch z29 z30 z31 z32 z33 z34 : Int} {g35 g36 g37 g38 : Int → Int} {vv st cl g26 g39 g40 g41 : Int → Int} {z1 z2 z3 z4 z5 C w G K z42 z43 r2 : Int} {hs hz : Nat} {r : Int} {nb2 : Int} {li2 : Int → Int} {br2 : Int → Int} {le2 : Int → Int} {bk2 : Int → Int} {st2 : Int → Int} {cl2 : Int → Int} {C2 : Int} {w2 : Int} {G2 : Int} {K2 : Int} {s2 : Nat} {d2 : Nat} {ch2 : Int} {bad : Int → Int} {R9 : Int} {ro : Int → Int} {nb : Int} {h20 : Int → Int} {h21 : Int → Int} {h22 : Int → Int} {h23 : Int → Int} {h24 : Int → Int} {h26 : Int → Int} {h27 : Int → Int} {h28 : Int → Int} {y29 : Int} {y30 : Int} {y31 : Int} {y32 : Int} {y33 : Int} {y34 : Int} {h35 : Int → Int} {h36 : Int → Int} {h37 : Int → Int} {h38 : Int → Int} {h39 : Int → Int} {h40 : Int → Int} {h41 : Int → Int} {y42 : Int} {y43 : Int} {bad2 : Int → Int} (hE : RelE N P hd me se ln dr od z16 g10 g11 g12 g13 g14 g15) (hV : RelV vv z1 z2 z3 z4 z5) (hS : RelS bks sts cls Bs Cs ws Gs Ks ch z29 z30 z31 z32 z33 z34 g35 g36 g37 g38)
    (c0 : nb2 = offZ se od P.toNat) (c1 : 0 ≤ nb2 ∧ nb2 ≤ 900) (c2 : gatA bk2 li2 br2 hd se ln od (vv 2) P) (c3 : ∀ j : Int, 0 ≤ j ∧ j < 900 → 0 ≤ li2 j ∧ li2 j ≤ 23) (c4 : ∀ j : Int, 0 ≤ j ∧ j < 900 → 0 ≤ br2 j ∧ br2 j ≤ 2) (c5 : ∀ j : Int, 0 ≤ j ∧ j < 900 → 0 ≤ bk2 j ∧ bk2 j < 900) (c6 : ∀ j : Int, 0 ≤ j ∧ j < 3600 → 0 ≤ le2 j ∧ le2 j ≤ 1000000000000000000) (c7 : LeOk vv li2 br2 le2 nb2) (c8 : (r = -1 ∧ (nb2 = 0 ∨ le2 0 = 1000000000000000000) ∧ st2 = st ∧ cl2 = cl ∧ C2 = C ∧ w2 = w ∧ G2 = G ∧ K2 = K ∧ s2 = hs ∧ d2 = hz ∧ ch2 = ch) ∨ (0 < nb2 ∧ le2 0 ≠ 1000000000000000000 ∧ layP vv li2 br2 le2 st2 cl2 nb2 C2 G2 ∧ w2 = vv 1 ∧ K2 = le2 0 / 1024 ∧ r = K2 ∧ s2 = hz ∧ d2 = hs ∧ ch2 = unN bad (maxZ G2 Gs).toNat ∧ (∀ q : Int, 0 ≤ q → (bad q = 0 ∨ bad q = 1) ∧ (bad q = 0 ↔ (q < G2 ∧ q < Gs ∧ pgEq bk2 st2 C2 w2 bks sts Cs ws q)))))
    (m0 : srtZ (hmZ g10) g15 z16 ro R9) (m1 : nb = offZ g13 ro R9.toNat) (m2 : 0 ≤ nb ∧ nb ≤ 900) (m3 : gatMA h20 h21 h22 h23 h24 g10 g12 g13 ro z3 R9) (m4 : ∀ j : Int, 0 ≤ j ∧ j < 900 → 0 ≤ h20 j ∧ h20 j < 150) (m5 : ∀ j : Int, 0 ≤ j ∧ j < 900 → 0 ≤ h21 j ∧ h21 j < 6) (m6 : ∀ j : Int, 0 ≤ j ∧ j < 900 → 0 ≤ h22 j ∧ h22 j ≤ 23) (m7 : ∀ j : Int, 0 ≤ j ∧ j < 900 → h23 j = 0 ∨ h23 j = 1) (m8 : ∀ j : Int, 0 ≤ j ∧ j < 900 → h24 j = 0 ∨ h24 j = 1) (m9 : ∀ j : Int, 0 ≤ j ∧ j < 3604 → 0 ≤ h26 j ∧ h26 j ≤ 1152921504606846976) (m10 : BtOk z1 z2 z4 z5 h22 h23 h24 h26 h27 h28 nb (-1)) (m11 : ∀ j : Int, 0 ≤ j ∧ j < 900 → 0 ≤ h35 j ∧ h35 j < 150) (m12 : ∀ j : Int, 0 ≤ j ∧ j < 900 → 0 ≤ h36 j ∧ h36 j < 6) (m13 : ∀ j : Int, 0 ≤ j ∧ j < 900 → 0 ≤ h39 j ∧ h39 j < 150) (m14 : ∀ j : Int, 0 ≤ j ∧ j < 900 → 0 ≤ h40 j ∧ h40 j < 6) (m15 : (r2 = -1 ∧ (nb = 0 ∨ 1152921504606846976 ≤ h26 0) ∧ y29 = z29 ∧ y30 = z30 ∧ y31 = z31 ∧ y32 = z32 ∧ y33 = z33 ∧ y34 = z34 ∧ y42 = z42 ∧ y43 = z43 ∧ h35 = g35 ∧ h36 = g36 ∧ h37 = g37 ∧ h38 = g38 ∧ h39 = g39 ∧ h40 = g40 ∧ h41 = g41) ∨ (0 < nb ∧ h26 0 < 1152921504606846976 ∧ layM z2 h22 h28 h37 h38 nb y31 y30 ∧ y29 = h26 0 ∧ r2 = y29 ∧ y32 = nb ∧ y34 = z2 ∧ y42 = z31 ∧ y43 = z34 ∧ (∀ k : Int, 0 ≤ k → k < nb → h35 k = h20 k ∧ h36 k = h21 k) ∧ (∀ k : Int, 0 ≤ k → k < z32 → h39 k = g35 k ∧ h40 k = g36 k) ∧ (∀ k : Int, 0 ≤ k → k ≤ z31 → h41 k = g37 k) ∧ y33 = unN bad2 (maxZ y30 ((z31 + z34 - 1) / z34)).toNat ∧ (∀ q : Int, 0 ≤ q → (bad2 q = 0 ∨ bad2 q = 1) ∧ (bad2 q = 0 ↔ (q < y30 ∧ q < ((z31 + z34 - 1) / z34) ∧ alM h35 h36 h37 h39 h40 h41 y31 y34 y42 y43 q))))) :
    r = r2 ∧ ((s2 = hs ∧ d2 = hz ∧ RelS bks sts cls Bs Cs ws Gs Ks ch2 y29 y30 y31 y32 y33 y34 h35 h36 h37 h38) ∨ (s2 = hz ∧ d2 = hs ∧ RelS bk2 st2 cl2 nb2 C2 w2 G2 K2 ch2 y29 y30 y31 y32 y33 y34 h35 h36 h37 h38)) := by
  obtain ⟨⟨v0, v1, v2, v3, v4⟩, vr⟩ := hV
  subst v0 v1 v2 v3 v4
  obtain ⟨hnb, hB⟩ := gat_rel hE rfl vr.2.2.1.1 c0 c2 m0 m1 m3
  subst hnb
  have hB2 : BlkE nb2 li2 br2 h22 h23 h24 := fun j a b => by
    have q := hB j a b
    exact ⟨q.2.1, q.2.2.1, by omega⟩
  have hr : (4 ≤ vv 0 ∧ vv 0 ≤ 60) ∧ (1 ≤ vv 1 ∧ vv 1 ≤ 4) ∧ (0 ≤ vv 3 ∧ vv 3 ≤ 1000) ∧ (0 ≤ vv 4 ∧ vv 4 ≤ 1000) := ⟨vr.1, vr.2.1, vr.2.2.2.1, vr.2.2.2.2⟩
  have hT := tab_rel hr c1.2 hB2 c7 m10 nb2.toNat 0 (Int.le_refl _) (by omega)
  have h00 : 0 < nb2 → (le2 0 = 1000000000000000000 ∧ 1152921504606846976 ≤ h26 0) ∨ (le2 0 ≠ 1000000000000000000 ∧ h26 0 < 1152921504606846976 ∧ le2 0 / 1024 = h26 0) := fun q => by
    have t := (hT 0 0 (Int.le_refl _) q (Int.le_refl _) (by omega)).1
    unfold TabR at t
    simp only [Int.zero_mul, Int.mul_zero, Int.add_zero] at t
    omega
  rcases c8 with ⟨a1, a2, -, -, -, -, -, -, a9, a10, a11⟩ | ⟨a1, a2, a3, a4, a5, a6, a7, a8, a9, a10⟩
  · rcases m15 with ⟨b1, b2, rfl, rfl, rfl, rfl, rfl, rfl, b9, b10, rfl, rfl, rfl, rfl, -, -, -⟩ | ⟨b1, b2, -⟩
    · exact ⟨by omega, Or.inl ⟨a9, a10, by rw [a11]; exact hS⟩⟩
    · exfalso
      have q := h00 b1
      omega
  · rcases m15 with ⟨b1, b2, -⟩ | ⟨b1, b2, b3, b4, b5, b6, b7, b8, b9, b10, b11, b12, b13, b14⟩
    · exfalso
      have q := h00 a1
      omega
    · have q := h00 a1
      have hT2 : ∀ j c : Int, 0 ≤ j → j < nb2 → 0 ≤ c → c < vv 1 → le2 (j * 4 + c) ≠ 1000000000000000000 → (wghF vv li2 br2 le2 nb2 j c).2 = h28 (4 * j + c) := fun j c x1 x2 x3 x4 x5 => by
        obtain ⟨t1, t2⟩ := hT j c x1 x2 x3 x4
        apply t2
        rcases t1 with t1 | t1
        · exact absurd t1.1 x5
        · omega
      obtain ⟨l1, l2, l3, l4⟩ := lay_rel hr.2.1 (fun j x1 x2 => (hB2 j x1 x2).1) c7 hT2 a2 a3 b3
      replace b6 := b6.symm
      replace b8 := b8.symm
      replace b9 := b9.symm
      subst l1 l2 b4 b6 b7 b8 b9
      refine ⟨by omega, Or.inr ⟨a7, a8, ?_⟩⟩
      obtain ⟨p1, p2, p3, p4, p5, p6, p7⟩ := a3
      obtain ⟨⟨e1, e2, e3, e4, e5⟩, s1, s2, s3, s4, s5, s6, s7, s8, sl9, s10, s11, s12, s13⟩ := hS
      subst e1 e2 e3 e4 e5
      have hch : ch2 = y33 := by
        rw [a9, b13, ← s4]
        refine un_congr _ (fun x hx => ?_)
        have u1 := a10 x (by omega)
        have u2 := b14 x (by omega)
        rw [← s4] at u2
        by_cases g : (x : Int) < G2 ∧ (x : Int) < Gs
        · have g1 := (pg_b (q := (x : Int)) hr.2.1 (by omega) p7).2 (by omega) g.1
          have g2 := (pg_b (q := (x : Int)) s2 s1.1 s4).2 (by omega) g.2
          have hw : ws = z34 := s5 (by omega)
          have al := al_rel (bk := bk2) (st := st2) (bk2 := bks) (st2 := sts) (g35 := h35) (g36 := h36) (g37 := h37) (g39 := h39) (g40 := h40) (g41 := h41) (B := nb2) (B2 := Bs) hr.2.1 s2 g1 g2 (fun c x1 x2 => ⟨l3 c x1 x2, p6 c x1 x2⟩) (fun c x1 x2 => by have w := s8 c x1 x2; rw [b12 c x1 x2]; exact w)
            (fun k x1 x2 => by have w := hB k x1 x2; have w2 := b10 k x1 x2; have w3 := m5 k (by omega); rw [w.1, w2.1, w2.2]; omega) (fun k x1 x2 => by have w := s10 k x1 x2; have w2 := b11 k x1 x2; have w3 := s13 k (by omega); rw [w, w2.1, w2.2]; omega)
          rw [a4, hw] at u1
          by_cases y : pgEq bk2 st2 C2 (vv 1) bks sts Cs z34 x
          · have y1 := u1.2.mpr ⟨g.1, g.2, y⟩
            have y2 := u2.2.mpr ⟨g.1, g.2, al.mp y⟩
            omega
          · have y1 : ¬ bad x = 0 := fun z => y (u1.2.mp z).2.2
            have y2 : ¬ bad2 x = 0 := fun z => y (al.mpr (u2.2.mp z).2.2)
            omega
        · have y1 : ¬ bad x = 0 := fun z => g ⟨(u1.2.mp z).1, (u1.2.mp z).2.1⟩
          have y2 : ¬ bad2 x = 0 := fun z => g ⟨(u2.2.mp z).1, (u2.2.mp z).2.1⟩
          omega
      refine ⟨⟨by omega, rfl, rfl, rfl, hch⟩, by omega, hr.2.1, by omega, p7, fun _ => a4, ⟨p1, p2⟩, fun c x1 x2 => (p5 c x1 x2).1, fun c x1 x2 => ⟨l3 c x1 x2, p6 c x1 x2⟩, l4, fun k x1 x2 => ?_, c5, m11, m12⟩
      rw [(hB k x1 x2).1, (b10 k x1 x2).1, (b10 k x1 x2).2]
