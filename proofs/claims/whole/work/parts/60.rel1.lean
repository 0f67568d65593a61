/-! REL: how the two states answer alike: values, what was pushed, the tape -/
/-- an int as it stands in 32 bits -/
def cz (z : Int) : Int := (iZ z).toInt
def RelV (vv : Int → Int) (z1 z2 z3 z4 z5 : Int) : Prop := (vv 0 = z1 ∧ vv 1 = z2 ∧ vv 2 = z3 ∧ vv 3 = z4 ∧ vv 4 = z5) ∧ (4 ≤ z1 ∧ z1 ≤ 60) ∧ (1 ≤ z2 ∧ z2 ≤ 4) ∧ (0 ≤ z3 ∧ z3 ≤ 3) ∧ (0 ≤ z4 ∧ z4 ≤ 1000) ∧ (0 ≤ z5 ∧ z5 ≤ 1000)
theorem in_RM {wh v : Int} : inRZ wh v ↔ inM wh v := by
  unfold inRZ inM
  constructor
  · rintro ⟨h1, h2, h3, h4⟩
    rcases (show wh = 0 ∨ wh = 1 ∨ wh = 2 ∨ wh = 3 ∨ wh = 4 by omega) with rfl | rfl | rfl | rfl | rfl <;> simp [loF, hiF] at h3 h4 <;> omega
  · intro h
    rcases (show wh = 0 ∨ wh = 1 ∨ wh = 2 ∨ wh = 3 ∨ wh = 4 by omega) with rfl | rfl | rfl | rfl | rfl <;> simp [loF, hiF] <;> omega
theorem upZ_at (f : Int → Int) (k v j : Int) : (j = k ∧ upZ f k v j = v) ∨ (j ≠ k ∧ upZ f k v j = f j) := by
  by_cases h : j = k
  · exact Or.inl ⟨h, by rw [h, upZ_s]⟩
  · exact Or.inr ⟨h, upZ_n h⟩
theorem relV_set {vv vv2 fo fo2 : Int → Int} {z1 z2 z3 z4 z5 wh v k r t y1 y2 y3 y4 y5 : Int} (h : RelV vv z1 z2 z3 z4 z5) (hc : (k = 1 ∧ ¬ inRZ wh v ∧ vv2 = vv ∧ fo2 = fo) ∨ (k = 0 ∧ inRZ wh v ∧ vv2 = upZ vv wh v ∧ fo2 = upZ fo 0 (cz (vv wh)))) (hm : setM z1 z2 z3 z4 z5 wh v r t y1 y2 y3 y4 y5) : t = k ∧ (k = 0 → fo2 0 = cz r) ∧ RelV vv2 y1 y2 y3 y4 y5 := by
  rcases hc with ⟨hk, hn, rfl, rfl⟩ | ⟨hk, hn, rfl, rfl⟩
  · rcases hm with ⟨m1, m2, m3, rfl, rfl, rfl, rfl, rfl⟩ | ⟨m1, m2, m3⟩
    · exact ⟨by omega, fun q => by omega, h⟩
    · exact absurd (in_RM.mpr m1) hn
  · rcases hm with ⟨m1, m2, m3⟩ | ⟨m1, m2, m3⟩
    · exact absurd (in_RM.mp hn) m1
    · refine ⟨by omega, fun _ => ?_, ?_⟩
      · rw [upZ_s]
        obtain ⟨⟨e0, e1, e2, e3, e4⟩, -⟩ := h
        rcases m3 with m | m | m | m | m <;> (obtain ⟨w, rr, -⟩ := m; rw [w, rr]; first | rw [e0] | rw [e1] | rw [e2] | rw [e3] | rw [e4])
      · obtain ⟨⟨e0, e1, e2, e3, e4⟩, hr⟩ := h
        unfold inM at m1
        have u0 := upZ_at vv wh v 0
        have u1 := upZ_at vv wh v 1
        have u2 := upZ_at vv wh v 2
        have u3 := upZ_at vv wh v 3
        have u4 := upZ_at vv wh v 4
        unfold RelV
        rcases m3 with m | m | m | m | m <;> omega
def RelP (pn : Int) (pz : Int → Int) (z7 : Int) (g6 : Int → Int) : Prop := pn = z7 ∧ (0 ≤ pn ∧ pn ≤ 6) ∧ ∀ k : Int, 0 ≤ k → k < pn → pz k = g6 k ∧ 1 ≤ g6 k ∧ g6 k ≤ 20
theorem relP_push {pz pz2 fo fo2 g6 h6 : Int → Int} {pn pn2 z7 li r r2 t k y7 : Int} (h : RelP pn pz z7 g6) (hc : (k = 1 ∧ ¬ (1 ≤ li ∧ li ≤ 20) ∧ pn2 = pn ∧ pz2 = pz ∧ fo2 = fo) ∨ (k = 0 ∧ pshZ pn pz li r pn2 pz2 ∧ fo2 = upZ fo 0 (cz r))) (hm : pshM z7 g6 li r2 t y7 h6) : t = k ∧ (k = 0 → fo2 0 = cz r2) ∧ RelP pn2 pz2 y7 h6 := by
  obtain ⟨e, hn, hk⟩ := h
  subst e
  rcases hc with ⟨hk0, hn0, rfl, rfl, rfl⟩ | ⟨hk0, ⟨c1, c2⟩, rfl⟩
  · rcases hm with ⟨m1, m2, m3, rfl, rfl⟩ | ⟨m1, m2, m3⟩
    · exact ⟨by omega, fun q => by omega, rfl, hn, hk⟩
    · exact absurd m1 hn0
  · rcases hm with ⟨m1, m2, m3⟩ | ⟨m1, m2, m3⟩
    · exact absurd c1 m1
    · refine ⟨by omega, fun _ => ?_, ?_⟩
      · rw [upZ_s]
        congr 1
        omega
      · rcases m3 with ⟨a, b, rfl, rfl⟩ | ⟨a, b, rfl, rfl⟩
        · rcases c2 with ⟨d, f, rfl, rfl⟩ | ⟨d, f, rfl, rfl⟩
          · exact ⟨rfl, hn, hk⟩
          · omega
        · rcases c2 with ⟨d, f, rfl, rfl⟩ | ⟨d, f, rfl, rfl⟩
          · omega
          · refine ⟨rfl, by omega, fun q h1 h2 => ?_⟩
            have u := upZ_at pz pn li q
            have v := upZ_at g6 pn li q
            have w := hk q h1
            omega
def RelT (tn : Int) (tf : Int → Int) (z9 : Int) (g8 : Int → Int) : Prop := tn = z9 ∧ (0 ≤ tn ∧ tn ≤ 60) ∧ (∀ j : Int, 0 ≤ j ∧ j < 60 → 0 ≤ tf j ∧ tf j ≤ 255) ∧ (∀ j : Int, 0 ≤ j ∧ j < 60 → -128 ≤ g8 j ∧ g8 j ≤ 127) ∧ ∀ j : Int, 0 ≤ j → j < tn → tf j = g8 j % 256
theorem by_sb (v : Int) (k : Nat) : byZ v k = sbZ v k % 256 := by unfold byZ sbZ; omega
theorem ap4_rel {tf g8 : Int → Int} {n : Int} (v : Int) (h : ∀ j : Int, 0 ≤ j → j < n → tf j = g8 j % 256) : ∀ j : Int, 0 ≤ j → j < n + 1 + 1 + 1 + 1 → ap4 tf n v j = ap4M g8 n v j % 256 := by
  intro j h0 h1
  unfold ap4 ap4M
  rcases (show j = n + 1 + 1 + 1 ∨ j = n + 1 + 1 ∨ j = n + 1 ∨ j = n ∨ j < n by omega) with e | e | e | e | e
  · rw [e, upZ_s, upZ_s]; exact by_sb v 0
  · rw [e, upZ_n (by omega), upZ_n (by omega) (f := upZ (upZ (upZ g8 _ _) _ _) _ _), upZ_s, upZ_s]; exact by_sb v 8
  · rw [e, upZ_n (by omega), upZ_n (by omega), upZ_s, upZ_n (by omega), upZ_n (by omega), upZ_s]; exact by_sb v 16
  · rw [e, upZ_n (by omega), upZ_n (by omega), upZ_n (by omega), upZ_s, upZ_n (by omega), upZ_n (by omega), upZ_n (by omega), upZ_s]; exact by_sb v 24
  · rw [upZ_n (by omega), upZ_n (by omega), upZ_n (by omega), upZ_n (by omega), upZ_n (by omega), upZ_n (by omega), upZ_n (by omega), upZ_n (by omega)]; exact h j h0 e
theorem ap4_rng {tf : Int → Int} {n : Int} (v : Int) (h : ∀ j : Int, 0 ≤ j ∧ j < 60 → 0 ≤ tf j ∧ tf j ≤ 255) : ∀ j : Int, 0 ≤ j ∧ j < 60 → 0 ≤ ap4 tf n v j ∧ ap4 tf n v j ≤ 255 :=
  upZ_all (fun x => 0 ≤ x ∧ x ≤ 255) (upZ_all (fun x => 0 ≤ x ∧ x ≤ 255) (upZ_all (fun x => 0 ≤ x ∧ x ≤ 255) (upZ_all (fun x => 0 ≤ x ∧ x ≤ 255) h (byZ_rng _ _)) (byZ_rng _ _)) (byZ_rng _ _)) (byZ_rng _ _)
theorem ap4M_rng {tf : Int → Int} {n : Int} (v : Int) (h : ∀ j : Int, 0 ≤ j ∧ j < 60 → -128 ≤ tf j ∧ tf j ≤ 127) : ∀ j : Int, 0 ≤ j ∧ j < 60 → -128 ≤ ap4M tf n v j ∧ ap4M tf n v j ≤ 127 :=
  upZ_all (fun x => -128 ≤ x ∧ x ≤ 127) (upZ_all (fun x => -128 ≤ x ∧ x ≤ 127) (upZ_all (fun x => -128 ≤ x ∧ x ≤ 127) (upZ_all (fun x => -128 ≤ x ∧ x ≤ 127) h (sbZ_rng _ _)) (sbZ_rng _ _)) (sbZ_rng _ _)) (sbZ_rng _ _)
theorem relT_feed {tf tf2 g8 h8 : Int → Int} {tn tn2 z9 y9 r r2 a b c9 d9 e9 : Int} (h : RelT tn tf z9 g8) (hc : (40 < tn ∧ r = -1 ∧ tn2 = tn ∧ tf2 = tf) ∨ (tn ≤ 40 ∧ r = tn + 20 ∧ tn2 = tn + 20 ∧ tf2 = fdZ tf tn a b c9 d9 e9)) (hm : (40 < z9 ∧ r2 = -1 ∧ y9 = z9 ∧ h8 = g8) ∨ (z9 ≤ 40 ∧ r2 = z9 + 20 ∧ y9 = z9 + 20 ∧ h8 = fdM g8 z9 a b c9 d9 e9)) : r = r2 ∧ RelT tn2 tf2 y9 h8 := by
  obtain ⟨e, h1, h2, h3, h4⟩ := h
  subst e
  rcases hc with ⟨q1, q2, rfl, rfl⟩ | ⟨q1, q2, rfl, rfl⟩
  · rcases hm with ⟨m1, m2, rfl, rfl⟩ | ⟨m1, m2, rfl, rfl⟩
    · exact ⟨by omega, rfl, h1, h2, h3, h4⟩
    · omega
  · rcases hm with ⟨m1, m2, rfl, rfl⟩ | ⟨m1, m2, rfl, rfl⟩
    · omega
    · refine ⟨by omega, rfl, by omega, ?_, ?_, fun j a1 a2 => ?_⟩
      · exact ap4_rng e9 (ap4_rng d9 (ap4_rng c9 (ap4_rng b (ap4_rng a h2))))
      · exact ap4M_rng e9 (ap4M_rng d9 (ap4M_rng c9 (ap4M_rng b (ap4M_rng a h3))))
      · exact ap4_rel e9 (ap4_rel d9 (ap4_rel c9 (ap4_rel b (ap4_rel a h4)))) j a1 (by omega)
