/-! REL: the table of the class and that of the model say the same -/
def Acc (nb f be en v n e9 : Int) : Prop := (be = 1000000000000000000 ∧ v = 1152921504606846976) ∨ (be = v * 1024 + n ∧ (0 ≤ v ∧ v ≤ 5600 * (nb - f)) ∧ (1 ≤ n ∧ n ≤ nb - f) ∧ en = e9)
def TabR (nb : Int) (le le2 fe : Int → Int) (f c : Int) : Prop := (le (f * 4 + c) = 1000000000000000000 ∧ 1152921504606846976 ≤ le2 (4 * f + c)) ∨ (le (f * 4 + c) = le2 (4 * f + c) * 1024 + fe (4 * f + c) ∧ (0 ≤ le2 (4 * f + c) ∧ le2 (4 * f + c) ≤ 5600 * (nb - f)) ∧ (1 ≤ fe (4 * f + c) ∧ fe (4 * f + c) ≤ nb - f))
def BlkE (nb : Int) (li br h22 h23 h24 : Int → Int) : Prop := ∀ j : Int, 0 ≤ j → j < nb → li j = h22 j ∧ ((br j = 1 ∧ h24 j = 1 ∧ h23 j = 1) ∨ (br j = 2 ∧ h24 j = 0 ∧ h23 j = 1) ∨ (br j = 0 ∧ h24 j = 0 ∧ h23 j = 0)) ∧ 0 ≤ li j
theorem nx_mod {vv : Int → Int} {c : Int} (hW : 1 ≤ vv 1 ∧ vv 1 ≤ 4) (hc : 0 ≤ c ∧ c < vv 1) : nxZ vv c = (c + 1) % vv 1 ∧ (0 ≤ (c + 1) % vv 1 ∧ (c + 1) % vv 1 < vv 1) ∧ ((c + 1) % vv 1 = 0 ↔ c = vv 1 - 1) := by
  unfold nxZ
  have h2 := mod_rng (w := vv 1) (C := c + 1) (by omega)
  by_cases h : c + 1 < vv 1
  · rw [if_pos h, Int.emod_eq_of_lt (by omega) h]; omega
  · have e : c + 1 = vv 1 := by omega
    rw [if_neg h, e, Int.emod_self]; omega
theorem wt_rel {vv li br le h22 h23 h24 le2 fe : Int → Int} {nb c f la us : Int} (hr : (4 ≤ vv 0 ∧ vv 0 ≤ 60) ∧ (1 ≤ vv 1 ∧ vv 1 ≤ 4) ∧ (0 ≤ vv 3 ∧ vv 3 ≤ 1000) ∧ (0 ≤ vv 4 ∧ vv 4 ≤ 1000)) (hc : 0 ≤ c ∧ c < vv 1) (hnb : nb ≤ 900) (hB : BlkE nb li br h22 h23 h24) (hf : 0 ≤ f) (hT : ∀ j c1 : Int, f < j → j < nb → 0 ≤ c1 → c1 < vv 1 → TabR nb le le2 fe j c1) (hla : f ≤ la ∧ la < nb) (hus : 0 ≤ us ∧ us ≤ vv 0) :
    (wtZ vv br le nb la us (nxZ vv c) = 1000000000000000000 ∧ ((la + 1 < nb ∧ h23 la = 0) ∨ 1152921504606846976 ≤ vvM (vv 0) (vv 1) (vv 3) (vv 4) h24 le2 nb c (la + 1) us)) ∨
    (¬ (la + 1 < nb ∧ h23 la = 0) ∧ wtZ vv br le nb la us (nxZ vv c) = vvM (vv 0) (vv 1) (vv 3) (vv 4) h24 le2 nb c (la + 1) us * 1024 + nnM (vv 1) fe nb c (la + 1) ∧ (0 ≤ vvM (vv 0) (vv 1) (vv 3) (vv 4) h24 le2 nb c (la + 1) us ∧ vvM (vv 0) (vv 1) (vv 3) (vv 4) h24 le2 nb c (la + 1) us ≤ 5600 * (nb - f)) ∧ (1 ≤ nnM (vv 1) fe nb c (la + 1) ∧ nnM (vv 1) fe nb c (la + 1) ≤ nb - f)) := by
  by_cases e : la = nb - 1
  · right
    have hw : wtZ vv br le nb la us (nxZ vv c) = 1 := by unfold wtZ; rw [if_pos e]
    have hvv : vvM (vv 0) (vv 1) (vv 3) (vv 4) h24 le2 nb c (la + 1) us = 0 := by unfold vvM; rw [if_neg (show ¬ la + 1 < nb by omega)]
    have hnn : nnM (vv 1) fe nb c (la + 1) = 1 := by unfold nnM; rw [if_neg (show ¬ la + 1 < nb by omega)]
    rw [hw, hvv, hnn]
    omega
  · obtain ⟨n1, n2, n3⟩ := nx_mod hr.2.1 hc
    have hv := vvM_lt (H := vv 0) (W := vv 1) (SP := vv 3) (TU := vv 4) (il := h24) (le := le2) (nb := nb) (c9 := c) (j := la + 1) (ln := us) (by omega) (by omega) (by omega)
    obtain ⟨b1, b2, b3⟩ := hB la (by omega) hla.2
    have hq := sq_rng (a := vv 0 - us) (by omega)
    have hl1 : la + 1 < nb := by omega
    have hnn : nnM (vv 1) fe nb c (la + 1) = 1 + fe (4 * (la + 1) + (c + 1) % vv 1) := by unfold nnM; rw [if_pos hl1]
    have hvv : vvM (vv 0) (vv 1) (vv 3) (vv 4) h24 le2 nb c (la + 1) us = (vv 0 - us) * (vv 0 - us) + (if ¬ h24 la = 0 then 0 else vv 3 + (if c = vv 1 - 1 then vv 4 else 0)) + le2 (4 * (la + 1) + (c + 1) % vv 1) := by unfold vvM; rw [if_pos hl1, show la + 1 - 1 = la by omega]
    rcases hT (la + 1) ((c + 1) % vv 1) (by omega) (by omega) n2.1 n2.2 with ⟨t1, t2⟩ | ⟨t1, t2, t3⟩
    · left
      refine ⟨?_, Or.inr (by omega)⟩
      unfold wtZ
      rw [if_neg e, n1, if_pos t1]
      split <;> rfl
    · have hle : le ((la + 1) * 4 + (c + 1) % vv 1) ≠ 1000000000000000000 := by omega
      rcases b2 with ⟨c1, c2, c3⟩ | ⟨c1, c2, c3⟩ | ⟨c1, c2, c3⟩
      · right
        have hw : wtZ vv br le nb la us (nxZ vv c) = le ((la + 1) * 4 + (c + 1) % vv 1) + ((vv 0 - us) * (vv 0 - us) + 0) * 1024 + 1 := by
          unfold wtZ; rw [if_neg e, if_neg (show ¬ br la = 0 by omega), n1, if_neg hle, if_neg (show ¬ br la = 2 by omega)]
        rw [if_pos (show ¬ h24 la = 0 by omega)] at hvv
        rw [hw, hvv, hnn]
        omega
      · right
        have hw : wtZ vv br le nb la us (nxZ vv c) = le ((la + 1) * 4 + (c + 1) % vv 1) + ((vv 0 - us) * (vv 0 - us) + (vv 3 + (if (c + 1) % vv 1 = 0 then vv 4 else 0))) * 1024 + 1 := by
          unfold wtZ; rw [if_neg e, if_neg (show ¬ br la = 0 by omega), n1, if_neg hle, if_pos c1]
        rw [if_neg (show ¬ ¬ h24 la = 0 by omega)] at hvv
        by_cases d : c = vv 1 - 1
        · rw [if_pos d] at hvv; rw [if_pos (n3.mpr d)] at hw; rw [hw, hvv, hnn]; omega
        · rw [if_neg d] at hvv; rw [if_neg (fun q => d (n3.mp q))] at hw; rw [hw, hvv, hnn]; omega
      · left
        refine ⟨?_, Or.inl ⟨by omega, c3⟩⟩
        unfold wtZ
        rw [if_neg e, if_pos c1]
theorem wb_rel {vv li br le h22 h23 h24 le2 fe : Int → Int} {nb c f : Int} (hr : (4 ≤ vv 0 ∧ vv 0 ≤ 60) ∧ (1 ≤ vv 1 ∧ vv 1 ≤ 4) ∧ (0 ≤ vv 3 ∧ vv 3 ≤ 1000) ∧ (0 ≤ vv 4 ∧ vv 4 ≤ 1000)) (hc : 0 ≤ c ∧ c < vv 1) (hnb : nb ≤ 900) (hB : BlkE nb li br h22 h23 h24) (hf : 0 ≤ f) (hT : ∀ j c1 : Int, f < j → j < nb → 0 ≤ c1 → c1 < vv 1 → TabR nb le le2 fe j c1) : ∀ (m : Nat) (la us be en v n e9 : Int), f ≤ la → la + m = nb → 0 ≤ us → Acc nb f be en v n e9 →
    Acc nb f (wgh vv li br le nb (nxZ vv c) m la us be en).1 (wgh vv li br le nb (nxZ vv c) m la us be en).2 (btR (vv 0) (vv 1) (vv 3) (vv 4) h22 h23 h24 le2 fe nb c m (la + 1) us v n e9).1 (btR (vv 0) (vv 1) (vv 3) (vv 4) h22 h23 h24 le2 fe nb c m (la + 1) us v n e9).2.1 (btR (vv 0) (vv 1) (vv 3) (vv 4) h22 h23 h24 le2 fe nb c m (la + 1) us v n e9).2.2
  | 0, _, _, _, _, _, _, _, _, _, _, h => h
  | m + 1, la, us, be, en, v, n, e9, h1, h2, h3, h => by
    have ih := wb_rel hr hc hnb hB hf hT m (la + 1) (us + li la)
    obtain ⟨b1, b2, b3⟩ := hB la (by omega) (by omega)
    rw [wgh_s, btR_s, show la + 1 - 1 = la by omega, ← b1]
    by_cases hH : us + li la ≤ vv 0
    · rw [if_pos hH, if_neg (show ¬ vv 0 < us + li la by omega)]
      rcases wt_rel (us := us + li la) hr hc hnb hB hf hT ⟨h1, by omega⟩ ⟨by omega, hH⟩ with ⟨w1, w2⟩ | ⟨w1, w2, w3, w4⟩
      · rw [if_neg (show ¬ (wtZ vv br le nb la (us + li la) (nxZ vv c) ≠ 1000000000000000000 ∧ wtZ vv br le nb la (us + li la) (nxZ vv c) ≤ be) from fun q => q.1 w1)]
        by_cases s : la + 1 < nb ∧ h23 la = 0
        · rw [if_pos s]; exact ih be en v n e9 (by omega) (by omega) (by omega) h
        · have w3 : 1152921504606846976 ≤ vvM (vv 0) (vv 1) (vv 3) (vv 4) h24 le2 nb c (la + 1) (us + li la) := by
            rcases w2 with w2 | w2
            · exact absurd w2 s
            · exact w2
          rw [if_neg s, if_pos (Or.inl w3)]
          exact ih be en v n e9 (by omega) (by omega) (by omega) h
      · rw [if_neg w1]
        have hne : wtZ vv br le nb la (us + li la) (nxZ vv c) ≠ 1000000000000000000 := by omega
        have hlt : ¬ 1152921504606846976 ≤ vvM (vv 0) (vv 1) (vv 3) (vv 4) h24 le2 nb c (la + 1) (us + li la) := by omega
        by_cases s : wtZ vv br le nb la (us + li la) (nxZ vv c) ≤ be
        · have hk : ¬ (1152921504606846976 ≤ vvM (vv 0) (vv 1) (vv 3) (vv 4) h24 le2 nb c (la + 1) (us + li la) ∨ v < vvM (vv 0) (vv 1) (vv 3) (vv 4) h24 le2 nb c (la + 1) (us + li la) ∨ (vvM (vv 0) (vv 1) (vv 3) (vv 4) h24 le2 nb c (la + 1) (us + li la) = v ∧ n < nnM (vv 1) fe nb c (la + 1))) := by rcases h with h | h <;> omega
          rw [if_pos ⟨hne, s⟩, if_neg hk]
          exact ih _ _ _ _ _ (by omega) (by omega) (by omega) (Or.inr ⟨w2, w3, w4, rfl⟩)
        · have hk : (1152921504606846976 ≤ vvM (vv 0) (vv 1) (vv 3) (vv 4) h24 le2 nb c (la + 1) (us + li la) ∨ v < vvM (vv 0) (vv 1) (vv 3) (vv 4) h24 le2 nb c (la + 1) (us + li la) ∨ (vvM (vv 0) (vv 1) (vv 3) (vv 4) h24 le2 nb c (la + 1) (us + li la) = v ∧ n < nnM (vv 1) fe nb c (la + 1))) := by rcases h with h | h <;> omega
          rw [if_neg (show ¬ (wtZ vv br le nb la (us + li la) (nxZ vv c) ≠ 1000000000000000000 ∧ wtZ vv br le nb la (us + li la) (nxZ vv c) ≤ be) from fun q => s q.2), if_pos hk]
          exact ih be en v n e9 (by omega) (by omega) (by omega) h
    · rw [if_neg hH, if_pos (show vv 0 < us + li la by omega)]; exact h
theorem tab_rel {vv li br le h22 h23 h24 le2 fe en : Int → Int} {nb : Int} (hr : (4 ≤ vv 0 ∧ vv 0 ≤ 60) ∧ (1 ≤ vv 1 ∧ vv 1 ≤ 4) ∧ (0 ≤ vv 3 ∧ vv 3 ≤ 1000) ∧ (0 ≤ vv 4 ∧ vv 4 ≤ 1000)) (hnb : nb ≤ 900) (hB : BlkE nb li br h22 h23 h24) (hL : LeOk vv li br le nb) (hM : BtOk (vv 0) (vv 1) (vv 3) (vv 4) h22 h23 h24 le2 fe en nb (-1)) : ∀ (m : Nat) (f : Int), 0 ≤ f → f + m = nb → ∀ j c : Int, f ≤ j → j < nb → 0 ≤ c → c < vv 1 → TabR nb le le2 fe j c ∧ (le2 (4 * j + c) < 1152921504606846976 → (wghF vv li br le nb j c).2 = en (4 * j + c))
  | 0, f, h0, h1, j, c, j1, j2, _, _ => by omega
  | m + 1, f, h0, h1, j, c, j1, j2, c1, c2 => by
    have ih := tab_rel hr hnb hB hL hM m (f + 1) (by omega) (by omega)
    rcases (show j = f ∨ f + 1 ≤ j by omega) with e | e
    · subst e
      have A : Acc nb j (wghF vv li br le nb j c).1 (wghF vv li br le nb j c).2 (btG (vv 0) (vv 1) (vv 3) (vv 4) h22 h23 h24 le2 fe nb j c).1 (btG (vv 0) (vv 1) (vv 3) (vv 4) h22 h23 h24 le2 fe nb j c).2.1 (btG (vv 0) (vv 1) (vv 3) (vv 4) h22 h23 h24 le2 fe nb j c).2.2 :=
        wb_rel hr ⟨c1, c2⟩ hnb hB h0 (fun q x q1 q2 x1 x2 => (ih q x (by omega) q2 x1 x2).1) (nb - j).toNat j 0 _ _ _ _ _ (Int.le_refl _) (by omega) (Int.le_refl _) (Or.inl ⟨rfl, rfl⟩)
      have l1 := hL j c h0 j2 c1 c2
      obtain ⟨m1, m2⟩ := hM j c (by omega) j2 c1 c2
      rcases A with ⟨a1, a2⟩ | ⟨a1, a2, a3, a4⟩
      · exact ⟨Or.inl ⟨by rw [l1, a1], by rw [m1, a2]; exact Int.le_refl _⟩, fun q => by omega⟩
      · obtain ⟨m3, m4⟩ := m2 (by omega)
        exact ⟨Or.inr ⟨by rw [l1, a1, m1, m3], by rw [m1]; exact a2, by rw [m3]; exact a3⟩, fun _ => by rw [a4, m4]⟩
    · exact ih j c e j2 c1 c2
/-- the columns of both are the same -/
theorem lay_u {vv li br le en st cl st2 cl2 h22 : Int → Int} {nb C G C2 G2 : Int} (hW : 1 ≤ vv 1 ∧ vv 1 ≤ 4) (hL : LeOk vv li br le nb) (hT : ∀ j c : Int, 0 ≤ j → j < nb → 0 ≤ c → c < vv 1 → le (j * 4 + c) ≠ 1000000000000000000 → (wghF vv li br le nb j c).2 = en (4 * j + c)) (h0 : le 0 ≠ 1000000000000000000) (hp : layP vv li br le st cl nb C G) (hm : layM (vv 1) h22 en st2 cl2 nb C2 G2) : ∀ n : Nat, (n : Int) ≤ C → (n : Int) ≤ C2 ∧ (∀ i : Int, 0 ≤ i → i ≤ n → st i = st2 i) ∧ (st n < nb → le (st n * 4 + (n : Int) % vv 1) ≠ 1000000000000000000)
  | 0, _ => by
    obtain ⟨p1, p2, p3, p4, p5, p6, p7⟩ := hp
    obtain ⟨m1, m2, m3, m4, m5, m6, m7⟩ := hm
    refine ⟨by omega, fun i i1 i2 => by rw [show i = 0 by omega, p1, m1], fun _ => ?_⟩
    rw [show ((0 : Nat) : Int) = 0 from rfl, p1, Int.zero_emod]; simpa using h0
  | n + 1, hn => by
    obtain ⟨i1, i2, i3⟩ := lay_u hW hL hT h0 hp hm n (by omega)
    obtain ⟨p1, p2, p3, p4, p5, p6, p7⟩ := hp
    obtain ⟨m1, m2, m3, m4, m5, m6, m7⟩ := hm
    obtain ⟨q1, q2, q3⟩ := p5 n (by omega) (by omega)
    have r1 := p6 (n + 1) (by omega) (by omega)
    have r0 := p6 n (by omega) (by omega)
    have hs := i2 n (by omega) (by omega)
    have hlt : (n : Int) < C2 := by
      rcases (show (n : Int) = C2 ∨ (n : Int) < C2 by omega) with e | e
      · have hq : st2 n = nb := by rw [e, m2]
        omega
      · exact e
    obtain ⟨s1, s2, s3⟩ := m5 n (by omega) hlt
    have hmr := mod_rng (w := vv 1) (C := (n : Int)) (by omega)
    have hg := i3 (by omega)
    have he := hT (st n) ((n : Int) % vv 1) r0.1 (by omega) hmr.1 hmr.2 hg
    have heq : st (n + 1) = st2 (n + 1) := by rw [q2, he, s2, ← hs]
    have hle := hL (st n) ((n : Int) % vv 1) r0.1 (by omega) hmr.1 hmr.2
    have hgood := wghF_good (vv := vv) (li := li) (br := br) (le := le) (nb := nb) (f := st n) (p9 := (n : Int) % vv 1) (by omega) (by rw [← hle]; exact hg)
    rw [← q2, (nx_mod hW ⟨hmr.1, hmr.2⟩).1, mod_s hW] at hgood
    refine ⟨by omega, fun i a b => ?_, fun w => ?_⟩
    · rcases (show i = (n : Int) + 1 ∨ i ≤ n by omega) with e | e
      · rw [e]; exact heq
      · exact i2 i a e
    · rw [show ((n + 1 : Nat) : Int) = (n : Int) + 1 by omega] at w ⊢
      rcases hgood.2.2 with e | e
      · omega
      · exact e
theorem lay_rel {vv li br le en st cl st2 cl2 h22 : Int → Int} {nb C G C2 G2 : Int} (hW : 1 ≤ vv 1 ∧ vv 1 ≤ 4) (hB : ∀ j : Int, 0 ≤ j → j < nb → li j = h22 j) (hL : LeOk vv li br le nb) (hT : ∀ j c : Int, 0 ≤ j → j < nb → 0 ≤ c → c < vv 1 → le (j * 4 + c) ≠ 1000000000000000000 → (wghF vv li br le nb j c).2 = en (4 * j + c)) (h0 : le 0 ≠ 1000000000000000000) (hp : layP vv li br le st cl nb C G) (hm : layM (vv 1) h22 en st2 cl2 nb C2 G2) : C = C2 ∧ G = G2 ∧ (∀ i : Int, 0 ≤ i → i ≤ C → st i = st2 i) ∧ (∀ i : Int, 0 ≤ i → i < C → cl i = cl2 i) := by
  have h := lay_u hW hL hT h0 hp hm C.toNat (by have := hp.2.2.1; omega)
  obtain ⟨p1, p2, p3, p4, p5, p6, p7⟩ := hp
  obtain ⟨m1, m2, m3, m4, m5, m6, m7⟩ := hm
  obtain ⟨i1, i2, i3⟩ := h
  have hst : ∀ i : Int, 0 ≤ i → i ≤ C → st i = st2 i := fun i a b => i2 i a (by omega)
  have hC : C = C2 := by
    rcases (show C = C2 ∨ C < C2 by omega) with e | e
    · exact e
    · have q := m5 C (by omega) e
      have w := m6 (C + 1) (by omega) (by omega)
      rw [← hst C (by omega) (by omega), p2] at q
      omega
  refine ⟨hC, by rw [p7, m7, hC], hst, fun i a b => ?_⟩
  obtain ⟨q1, q2, q3⟩ := p5 i a b
  obtain ⟨s1, s2, s3⟩ := m5 i a (by omega)
  have r1 := p6 i a (by omega)
  have r2 := p6 (i + 1) (by omega) (by omega)
  rw [q3, s3, ← hst i a (by omega), ← hst (i + 1) (by omega) (by omega)]
  exact sumN_congr _ (fun j j1 j2 => hB j (by omega) (by omega))
