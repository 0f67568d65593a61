theorem wtZ_congr {vv br le le2 : Int → Int} {nb la us nx : Int} (h : le ((la + 1) * 4 + nx) = le2 ((la + 1) * 4 + nx)) : wtZ vv br le nb la us nx = wtZ vv br le2 nb la us nx := by
  unfold wtZ; rw [h]
theorem wgh_congr {vv li br le le2 : Int → Int} {nb nx : Int} (hn : 0 ≤ nx) : ∀ (n : Nat) (la us be en : Int), (∀ j : Int, (la + 1) * 4 ≤ j → le j = le2 j) → wgh vv li br le nb nx n la us be en = wgh vv li br le2 nb nx n la us be en
  | 0, _, _, _, _, _ => rfl
  | n + 1, la, us, be, en, h => by
    have e1 : wtZ vv br le nb la (us + li la) nx = wtZ vv br le2 nb la (us + li la) nx := wtZ_congr (h _ (by omega))
    have h2 : ∀ j : Int, (la + 1 + 1) * 4 ≤ j → le j = le2 j := fun j hj => h j (by omega)
    rw [wgh_s, wgh_s, e1, wgh_congr hn n _ _ _ _ h2, wgh_congr hn n _ _ _ _ h2]
theorem wghF_congr {vv li br le le2 : Int → Int} {nb f p9 : Int} (hp : 0 ≤ p9) (h : ∀ j : Int, (f + 1) * 4 ≤ j → le j = le2 j) : wghF vv li br le nb f p9 = wghF vv li br le2 nb f p9 := wgh_congr (by unfold nxZ; split <;> omega) _ _ _ _ _ h
theorem wtZ_good {vv br le : Int → Int} {nb la us nx : Int} (h : wtZ vv br le nb la us nx ≠ 1000000000000000000) : la + 1 = nb ∨ le ((la + 1) * 4 + nx) ≠ 1000000000000000000 := by
  unfold wtZ at h
  by_cases h1 : la = nb - 1
  · exact Or.inl (by omega)
  · rw [if_neg h1] at h
    by_cases h2 : br la = 0
    · rw [if_pos h2] at h; exact absurd rfl h
    · rw [if_neg h2] at h
      by_cases h3 : le ((la + 1) * 4 + nx) = 1000000000000000000
      · rw [if_pos h3] at h; exact absurd rfl h
      · exact Or.inr h3
theorem wgh_good {vv li br le : Int → Int} {nb nx f : Int} : ∀ (n : Nat) (la us be en : Int), f ≤ la → la + n = nb → (be ≠ 1000000000000000000 → f < en ∧ en ≤ nb ∧ (en = nb ∨ le (en * 4 + nx) ≠ 1000000000000000000)) → (wgh vv li br le nb nx n la us be en).1 ≠ 1000000000000000000 → f < (wgh vv li br le nb nx n la us be en).2 ∧ (wgh vv li br le nb nx n la us be en).2 ≤ nb ∧ ((wgh vv li br le nb nx n la us be en).2 = nb ∨ le ((wgh vv li br le nb nx n la us be en).2 * 4 + nx) ≠ 1000000000000000000)
  | 0, _, _, _, _, _, _, h, h1 => h h1
  | n + 1, la, us, be, en, hf, hla, h, h1 => by
    rw [wgh_s] at h1 ⊢
    by_cases c1 : us + li la ≤ vv 0
    · rw [if_pos c1] at h1 ⊢
      by_cases c2 : wtZ vv br le nb la (us + li la) nx ≠ 1000000000000000000 ∧ wtZ vv br le nb la (us + li la) nx ≤ be
      · rw [if_pos c2] at h1 ⊢
        exact wgh_good n _ _ _ _ (by omega) (by omega) (fun _ => ⟨by omega, by omega, wtZ_good c2.1⟩) h1
      · rw [if_neg c2] at h1 ⊢
        exact wgh_good n _ _ _ _ (by omega) (by omega) h h1
    · rw [if_neg c1] at h1 ⊢
      exact h h1
theorem wghF_good {vv li br le : Int → Int} {nb f p9 : Int} (hf : f ≤ nb) (h : (wghF vv li br le nb f p9).1 ≠ 1000000000000000000) : f < (wghF vv li br le nb f p9).2 ∧ (wghF vv li br le nb f p9).2 ≤ nb ∧ ((wghF vv li br le nb f p9).2 = nb ∨ le ((wghF vv li br le nb f p9).2 * 4 + nxZ vv p9) ≠ 1000000000000000000) :=
  wgh_good _ _ _ _ _ (Int.le_refl f) (by omega) (fun h => absurd rfl h) h
def LeOk (vv li br le : Int → Int) (nb : Int) : Prop := ∀ f p9 : Int, 0 ≤ f → f < nb → 0 ≤ p9 → p9 < vv 1 → le (f * 4 + p9) = (wghF vv li br le nb f p9).1
def layP (vv li br le st cl : Int → Int) (nb C G : Int) : Prop := st 0 = 0 ∧ st C = nb ∧ 0 < C ∧ C ≤ nb ∧ (∀ c : Int, 0 ≤ c → c < C → st c < st (c + 1) ∧ st (c + 1) = (wghF vv li br le nb (st c) (c % vv 1)).2 ∧ cl c = sumN li (st c) (st (c + 1) - st c).toNat) ∧ (∀ c : Int, 0 ≤ c → c ≤ C → 0 ≤ st c ∧ st c ≤ nb) ∧ G = (C + vv 1 - 1) / vv 1
theorem mod_step {w C p9 G : Int} (hw : 1 ≤ w ∧ w ≤ 4) (hc : 0 ≤ C) (hp : p9 = C % w) (hg : G = (C + w - 1) / w) : (if p9 + 1 < w then p9 + 1 else 0) = (C + 1) % w ∧ G + (if p9 = 0 then 1 else 0) = (C + 1 + w - 1) / w := by
  rcases (show w = 1 ∨ w = 2 ∨ w = 3 ∨ w = 4 by omega) with rfl | rfl | rfl | rfl <;> (constructor <;> split <;> omega)
theorem mod_rng {w C : Int} (hw : 1 ≤ w) : 0 ≤ C % w ∧ C % w < w := ⟨Int.emod_nonneg _ (by omega), Int.emod_lt_of_pos _ (by omega)⟩
def qX3_layOut (cB cI cJ cY : ClassId) (ht : Nat) (qv : Nat) (qi : Nat) (qr : Nat) (qe : Nat) (hz : Nat) (qk : Nat) (qt : Nat) (qn : Nat) (vv : Int → Int) (li : Int → Int) (br : Int → Int) (le : Int → Int) (st : Int → Int) (cl : Int → Int) (nb : Int) (B : Int) (C : Int) (w : Int) (G : Int) (K : Int) : Option Value → va_W → Prop := fun rv w1 => ∃ (st2 : Int → Int) (cl2 : Int → Int) (C2 : Int) (G2 : Int), rv = none ∧ layP vv li br le st2 cl2 nb C2 G2 ∧ w1 = [(ht, .inr (3, [.ref qv, .ref qi, .ref qr, .ref qe, .int (iZ nb)])), (qv, .inl (cI, 5, .inl (zA vv))), (qi, .inl (cI, 900, .inl (zA li))), (qr, .inl (cI, 900, .inl (zA br))), (qe, .inl (cJ, 3600, .inr (.inl (lA le)))), (hz, .inr (1, [.ref qk, .ref qt, .ref qn, .int (iZ B), .int (iZ C2), .int (iZ (vv 1)), .int (iZ G2), .int (iZ K)])), (qt, .inl (cI, 901, .inl (zA st2))), (qn, .inl (cI, 900, .inl (zA cl2)))]
set_option maxHeartbeats 4000000 in
set_option maxRecDepth 100000 in
theorem ctX3_layOut (l : Launch) (D : va_G) (cB cI cJ cY : ClassId) (ht : Nat) (qv : Nat) (qi : Nat) (qr : Nat) (qe : Nat) (hz : Nat) (qk : Nat) (qt : Nat) (qn : Nat) (vv : Int → Int) (li : Int → Int) (br : Int → Int) (le : Int → Int) (st : Int → Int) (cl : Int → Int) (nb : Int) (B : Int) (C : Int) (w : Int) (G : Int) (K : Int) (hvv : (4 ≤ vv 0 ∧ vv 0 ≤ 60) ∧ (1 ≤ vv 1 ∧ vv 1 ≤ 4) ∧ (0 ≤ vv 2 ∧ vv 2 ≤ 3) ∧ (0 ≤ vv 3 ∧ vv 3 ≤ 1000) ∧ (0 ≤ vv 4 ∧ vv 4 ≤ 1000)) (hli : ∀ j : Int, 0 ≤ j ∧ j < 900 → 0 ≤ li j ∧ li j ≤ 23) (hbr : ∀ j : Int, 0 ≤ j ∧ j < 900 → 0 ≤ br j ∧ br j ≤ 2) (hle : ∀ j : Int, 0 ≤ j ∧ j < 3600 → 0 ≤ le j ∧ le j ≤ 1000000000000000000) (hnb : 0 ≤ nb ∧ nb ≤ 900) (hn0 : 0 < nb) (hok : LeOk vv li br le nb) (h00 : le 0 ≠ 1000000000000000000) : gM l yX3_layOut wsX3_layOut { frames := 2, cells := 0, slots := 0, locals := 57 } D (gT cB cI cJ cY) [.ref ht, .ref hz] [(ht, .inr (3, [.ref qv, .ref qi, .ref qr, .ref qe, .int (iZ nb)])), (qv, .inl (cI, 5, .inl (zA vv))), (qi, .inl (cI, 900, .inl (zA li))), (qr, .inl (cI, 900, .inl (zA br))), (qe, .inl (cJ, 3600, .inr (.inl (lA le)))), (hz, .inr (1, [.ref qk, .ref qt, .ref qn, .int (iZ B), .int (iZ C), .int (iZ w), .int (iZ G), .int (iZ K)])), (qt, .inl (cI, 901, .inl (zA st))), (qn, .inl (cI, 900, .inl (zA cl)))] 0 0 (qX3_layOut cB cI cJ cY ht qv qi qr qe hz qk qt qn vv li br le st cl nb B C w G K) := by
  refine g_start (cc := cX3_layOut) (maxL := 8) (ret := none) (lv := [(0, .ref ht), (1, .ref hz)]) (by decide) rfl (Nat.le_of_ble_eq_true rfl) rfl ?_
  intro p e s m args below meth c A X hr hnm
  have hin1 : ∀ w ∈ u_ws RX1 TX1 8, w ∈ wsX3_layOut := by decide +kernel
  have hin3 : ∀ w ∈ u_ws RX3 TX3 5, w ∈ wsX3_layOut := by decide +kernel
  refine g_aload_n X 1 dX3_layOut_0 rfl rfl ?_
  refine g_aload_n X 0 dX3_layOut_1 rfl rfl ?_
  refine g_get X (index := 9) (ref := "GuideWords$Typesetter") hin3 0 rfl rfl 0 (by decide) rfl (by decide +kernel) (v := .ref qv) rfl dX3_layOut_2 ?_
  refine g_iconst X dX3_layOut_5 ?_
  refine g_iald X 1 1 rfl rfl (by omega) (by decide) dX3_layOut_6 ?_
  refine g_callV0 X (As := [.int (iZ (vv 1))]) (rest := []) (ctX1_openEmpty l D cB cI cJ cY hz qk qt qn st B C w G K (vv 1) ) (cwV 1 X.2.2.2.2.1 gX3_layOut_X1_openEmpty rfl rfl rfl (by decide +kernel) ⟨by decide, by decide⟩) 0 rfl rfl (wc := [(hz, .inr (1, [.ref qk, .ref qt, .ref qn, .int (iZ B), .int (iZ C), .int (iZ w), .int (iZ G), .int (iZ K)])), (qt, .inl (cI, 901, .inl (zA st)))]) (wr := [(ht, .inr (3, [.ref qv, .ref qi, .ref qr, .ref qe, .int (iZ nb)])), (qv, .inl (cI, 5, .inl (zA vv))), (qi, .inl (cI, 900, .inl (zA li))), (qr, .inl (cI, 900, .inl (zA br))), (qe, .inl (cJ, 3600, .inr (.inl (lA le)))), (qn, .inl (cI, 900, .inl (zA cl)))]) [5, 6] [0, 1, 2, 3, 4, 7] rfl rfl (by decide) (by decide) (by decide) rfl rfl (Nat.le_of_ble_eq_true rfl) ⟨by decide, by decide⟩ dX3_layOut_7 (fun v w1 hq => ?_)
  obtain ⟨rfl, rfl⟩ := hq
  refine g_eq (ws' := [(ht, .inr (3, [.ref qv, .ref qi, .ref qr, .ref qe, .int (iZ nb)])), (qv, .inl (cI, 5, .inl (zA vv))), (qi, .inl (cI, 900, .inl (zA li))), (qr, .inl (cI, 900, .inl (zA br))), (qe, .inl (cJ, 3600, .inr (.inl (lA le)))), (qn, .inl (cI, 900, .inl (zA cl))), (hz, .inr (1, [.ref qk, .ref qt, .ref qn, .int (iZ B), .int (iZ 0), .int (iZ ((vv 1))), .int (iZ 0), .int (iZ K)])), (qt, .inl (cI, 901, .inl (zA (upZ st 0 0))))]) (pc' := 10) (st' := []) rfl rfl rfl rfl ?_
  refine g_perm (ws' := [(ht, .inr (3, [.ref qv, .ref qi, .ref qr, .ref qe, .int (iZ nb)])), (qv, .inl (cI, 5, .inl (zA vv))), (qi, .inl (cI, 900, .inl (zA li))), (qr, .inl (cI, 900, .inl (zA br))), (qe, .inl (cJ, 3600, .inr (.inl (lA le)))), (hz, .inr (1, [.ref qk, .ref qt, .ref qn, .int (iZ B), .int (iZ 0), .int (iZ ((vv 1))), .int (iZ 0), .int (iZ K)])), (qt, .inl (cI, 901, .inl (zA (upZ st 0 0)))), (qn, .inl (cI, 900, .inl (zA cl)))]) [0, 1, 2, 3, 4, 6, 7, 5] (by decide) rfl ?_
  refine g_iconst X dX3_layOut_10 ?_
  refine g_istore_n (lv2 := [(2, .int (iZ 0)), (0, .ref ht), (1, .ref hz)]) X dX3_layOut_11 rfl (by decide) rfl ?_
  refine g_iconst X dX3_layOut_12 ?_
  refine g_istore_n (lv2 := [(3, .int (iZ 0)), (2, .int (iZ 0)), (0, .ref ht), (1, .ref hz)]) X dX3_layOut_13 rfl (by decide) rfl ?_
  refine g_iconst X dX3_layOut_14 ?_
  refine g_istore (lv2 := [(4, .int (iZ 0)), (3, .int (iZ 0)), (2, .int (iZ 0)), (0, .ref ht), (1, .ref hz)]) X dX3_layOut_15 (by decide) rfl ?_
  have hG0 : (0 : Int) = (0 + vv 1 - 1) / vv 1 := by rcases (show vv 1 = 1 ∨ vv 1 = 2 ∨ vv 1 = 3 ∨ vv 1 = 4 by omega) with h | h | h | h <;> rw [h] <;> rfl
  refine g_lv (lv' := [(0, .ref ht), (1, .ref hz), (2, .int (iZ 0)), (3, .int (iZ 0)), (4, .int (iZ 0))]) [3, 4, 2, 1, 0] rfl ?_
  have loop_17 : ∀ (kf : Nat) (fi : Int) (pl : Int) (co : Int) (C1 : Int) (G1 : Int) (st1 : Int → Int) (cl1 : Int → Int), (hco : 0 ≤ co ∧ co ≤ fi ∧ fi ≤ nb ∧ C1 = co) → (hfi : fi = st1 co) → (hs0 : st1 0 = 0) → (hpl : pl = co % vv 1) → (hG1 : G1 = (co + vv 1 - 1) / vv 1) → (hgd : fi < nb → le (fi * 4 + pl) ≠ 1000000000000000000) → (hch : ∀ c9 : Int, 0 ≤ c9 → c9 < co → st1 c9 < st1 (c9 + 1) ∧ st1 (c9 + 1) = (wghF vv li br le nb (st1 c9) (c9 % vv 1)).2 ∧ cl1 c9 = sumN li (st1 c9) (st1 (c9 + 1) - st1 c9).toNat) → (hsr : ∀ c9 : Int, 0 ≤ c9 → c9 ≤ co → 0 ≤ st1 c9 ∧ st1 c9 ≤ nb) → (nb - fi).toNat < kf → gW p l e { frames := 2, cells := 0, slots := 0, locals := 57 } s m args below meth c D A 8 0 0 (MQ below (gQ D (gT cB cI cJ cY) (qX3_layOut cB cI cJ cY ht qv qi qr qe hz qk qt qn vv li br le st cl nb B C w G K) A) args s 0 0 A) [(ht, .inr (3, [.ref qv, .ref qi, .ref qr, .ref qe, .int (iZ nb)])), (qv, .inl (cI, 5, .inl (zA vv))), (qi, .inl (cI, 900, .inl (zA li))), (qr, .inl (cI, 900, .inl (zA br))), (qe, .inl (cJ, 3600, .inr (.inl (lA le)))), (hz, .inr (1, [.ref qk, .ref qt, .ref qn, .int (iZ B), .int (iZ C1), .int (iZ ((vv 1))), .int (iZ G1), .int (iZ K)])), (qt, .inl (cI, 901, .inl (zA st1))), (qn, .inl (cI, 900, .inl (zA cl1)))] 17 [(0, .ref ht), (1, .ref hz), (2, .int (iZ fi)), (3, .int (iZ pl)), (4, .int (iZ co))] [] := by
    intro kf
    induction kf with
    | zero => intro fi pl co C1 G1 st1 cl1 hco hfi hs0 hpl hG1 hgd hch hsr hm; exact absurd hm (Nat.not_lt_zero _)
    | succ kf ih_17 =>
      intro fi pl co C1 G1 st1 cl1 hco hfi hs0 hpl hG1 hgd hch hsr hm
      have hpr := mod_rng (w := vv 1) (C := co) (by omega)
      refine g_iload X 4 dX3_layOut_17 rfl ?_
      refine g_sipush X dX3_layOut_19 (by decide) ?_
      refine g_icmp_ge X 104 dX3_layOut_22 (by decide) (by omega) (by omega) (fun c_22 => ?_) (fun c_22 => ?_)
      · skip
        have hc0 : co ≠ 0 := fun h => by rw [h, hs0] at hfi; omega
        exact g_vret X hr (by decide) (by decide) dX3_layOut_104 ⟨st1, cl1, C1, G1, rfl, ⟨hs0, by rw [show C1 = co by omega, ← hfi]; omega, by omega, by omega, by rw [show C1 = co by omega]; exact hch, by rw [show C1 = co by omega]; exact hsr, by rw [show C1 = co by omega]; exact hG1⟩, rfl⟩
      · skip
        refine g_iload_n X 2 dX3_layOut_25 rfl rfl ?_
        refine g_aload_n X 0 dX3_layOut_26 rfl rfl ?_
        refine g_get X (index := 35) (ref := "GuideWords$Typesetter") hin3 0 rfl rfl 4 (by decide) rfl (by decide +kernel) (v := .int (iZ nb)) rfl dX3_layOut_27 ?_
        refine g_icmp_ge X 104 dX3_layOut_30 (by decide) (by omega) (by omega) (fun c_30 => ?_) (fun c_30 => ?_)
        · skip
          have hc0 : co ≠ 0 := fun h => by rw [h, hs0] at hfi; omega
          exact g_vret X hr (by decide) (by decide) dX3_layOut_104 ⟨st1, cl1, C1, G1, rfl, ⟨hs0, by rw [show C1 = co by omega, ← hfi]; omega, by omega, by omega, by rw [show C1 = co by omega]; exact hch, by rw [show C1 = co by omega]; exact hsr, by rw [show C1 = co by omega]; exact hG1⟩, rfl⟩
        · skip
          refine g_aload_n X 0 dX3_layOut_33 rfl rfl ?_
          refine g_iload_n X 2 dX3_layOut_34 rfl rfl ?_
          refine g_iload_n X 3 dX3_layOut_35 rfl rfl ?_
          refine g_callV0 X (As := [.int (iZ fi), .int (iZ pl)]) (rest := []) (ctX3_weigh l D cB cI cJ cY ht qv qi qr qe vv li br le nb fi pl (by first | assumption | omega) (by first | assumption | omega) (by first | assumption | omega) (by first | assumption | omega) (by first | assumption | omega) (by first | assumption | omega) (by first | assumption | omega)) (cwV 2 X.2.2.2.2.1 gX3_layOut_X3_weigh rfl rfl rfl (by decide +kernel) ⟨by decide, by decide⟩) 0 rfl rfl (wc := [(ht, .inr (3, [.ref qv, .ref qi, .ref qr, .ref qe, .int (iZ nb)])), (qv, .inl (cI, 5, .inl (zA vv))), (qi, .inl (cI, 900, .inl (zA li))), (qr, .inl (cI, 900, .inl (zA br))), (qe, .inl (cJ, 3600, .inr (.inl (lA le))))]) (wr := [(hz, .inr (1, [.ref qk, .ref qt, .ref qn, .int (iZ B), .int (iZ C1), .int (iZ ((vv 1))), .int (iZ G1), .int (iZ K)])), (qt, .inl (cI, 901, .inl (zA st1))), (qn, .inl (cI, 900, .inl (zA cl1)))]) [0, 1, 2, 3, 4] [5, 6, 7] rfl rfl (by decide) (by decide) (by decide) rfl rfl (Nat.le_of_ble_eq_true rfl) ⟨by decide, by decide⟩ dX3_layOut_36 (fun v w1 hq => ?_)
          obtain ⟨en, le9, rfl, hen, hle9, hw1, hw2, rfl⟩ := hq
          refine g_eq (ws' := [(hz, .inr (1, [.ref qk, .ref qt, .ref qn, .int (iZ B), .int (iZ C1), .int (iZ ((vv 1))), .int (iZ G1), .int (iZ K)])), (qt, .inl (cI, 901, .inl (zA st1))), (qn, .inl (cI, 900, .inl (zA cl1))), (ht, .inr (3, [.ref qv, .ref qi, .ref qr, .ref qe, .int (iZ nb)])), (qv, .inl (cI, 5, .inl (zA vv))), (qi, .inl (cI, 900, .inl (zA li))), (qr, .inl (cI, 900, .inl (zA br))), (qe, .inl (cJ, 3600, .inr (.inl (lA le9))))]) (pc' := 39) (st' := [.int (iZ en)]) rfl rfl rfl rfl ?_
          refine g_perm (ws' := [(ht, .inr (3, [.ref qv, .ref qi, .ref qr, .ref qe, .int (iZ nb)])), (qv, .inl (cI, 5, .inl (zA vv))), (qi, .inl (cI, 900, .inl (zA li))), (qr, .inl (cI, 900, .inl (zA br))), (qe, .inl (cJ, 3600, .inr (.inl (lA le9)))), (hz, .inr (1, [.ref qk, .ref qt, .ref qn, .int (iZ B), .int (iZ C1), .int (iZ ((vv 1))), .int (iZ G1), .int (iZ K)])), (qt, .inl (cI, 901, .inl (zA st1))), (qn, .inl (cI, 900, .inl (zA cl1)))]) [3, 4, 5, 6, 7, 0, 1, 2] (by decide) rfl ?_
          subst hen
          have hok9 := hok fi pl (by omega) (by omega) (by omega) (by omega)
          have hle8 : le = le9 := by rw [hle9]; exact (upZ_same hok9).symm
          subst hle8
          have hgood := wghF_good (vv := vv) (li := li) (br := br) (le := le) (nb := nb) (f := fi) (p9 := pl) (by omega) (by rw [← hok9]; exact hgd (by omega))
          refine g_istore (lv2 := [(5, .int (iZ (((wghF vv li br le nb fi pl).2)))), (0, .ref ht), (1, .ref hz), (2, .int (iZ fi)), (3, .int (iZ pl)), (4, .int (iZ co))]) X dX3_layOut_39 (by decide) rfl ?_
          refine g_iconst X dX3_layOut_41 ?_
          refine g_istore (lv2 := [(6, .int (iZ 0)), (5, .int (iZ (((wghF vv li br le nb fi pl).2)))), (0, .ref ht), (1, .ref hz), (2, .int (iZ fi)), (3, .int (iZ pl)), (4, .int (iZ co))]) X dX3_layOut_42 (by decide) rfl ?_
          refine g_iload_n X 4 dX3_layOut_44 rfl rfl ?_
          refine g_istore (lv2 := [(7, .int (iZ fi)), (6, .int (iZ 0)), (5, .int (iZ (((wghF vv li br le nb fi pl).2)))), (0, .ref ht), (1, .ref hz), (2, .int (iZ fi)), (3, .int (iZ pl)), (4, .int (iZ co))]) X dX3_layOut_45 (by decide) rfl ?_
          refine g_lv (lv' := [(0, .ref ht), (1, .ref hz), (2, .int (iZ fi)), (3, .int (iZ pl)), (4, .int (iZ co)), (5, .int (iZ (((wghF vv li br le nb fi pl).2)))), (6, .int (iZ 0)), (7, .int (iZ fi))]) [3, 4, 5, 6, 7, 2, 1, 0] rfl ?_
          have loop_47 : ∀ (kf : Nat) (us : Int) (k : Int), (hk : fi ≤ k ∧ k ≤ (wghF vv li br le nb fi pl).2) → (hus : us = sumN li fi (k - fi).toNat) → ((wghF vv li br le nb fi pl).2 - k).toNat < kf → gW p l e { frames := 2, cells := 0, slots := 0, locals := 57 } s m args below meth c D A 8 0 0 (MQ below (gQ D (gT cB cI cJ cY) (qX3_layOut cB cI cJ cY ht qv qi qr qe hz qk qt qn vv li br le st cl nb B C w G K) A) args s 0 0 A) [(ht, .inr (3, [.ref qv, .ref qi, .ref qr, .ref qe, .int (iZ nb)])), (qv, .inl (cI, 5, .inl (zA vv))), (qi, .inl (cI, 900, .inl (zA li))), (qr, .inl (cI, 900, .inl (zA br))), (qe, .inl (cJ, 3600, .inr (.inl (lA le)))), (hz, .inr (1, [.ref qk, .ref qt, .ref qn, .int (iZ B), .int (iZ C1), .int (iZ ((vv 1))), .int (iZ G1), .int (iZ K)])), (qt, .inl (cI, 901, .inl (zA st1))), (qn, .inl (cI, 900, .inl (zA cl1)))] 47 [(0, .ref ht), (1, .ref hz), (2, .int (iZ fi)), (3, .int (iZ pl)), (4, .int (iZ co)), (5, .int (iZ (((wghF vv li br le nb fi pl).2)))), (6, .int (iZ us)), (7, .int (iZ k))] [] := by
            intro kf
            induction kf with
            | zero => intro us k hk hus hm; exact absurd hm (Nat.not_lt_zero _)
            | succ kf ih_47 =>
              intro us k hk hus hm
              refine g_iload X 7 dX3_layOut_47 rfl ?_
              refine g_iload X 5 dX3_layOut_49 rfl ?_
              refine g_icmp_ge X 72 dX3_layOut_51 (by decide) (by omega) (by omega) (fun c_51 => ?_) (fun c_51 => ?_)
              · skip
                refine g_aload_n X 1 dX3_layOut_72 rfl rfl ?_
                refine g_iload X 5 dX3_layOut_73 rfl ?_
                refine g_iload X 6 dX3_layOut_75 rfl ?_
                refine g_iload_n X 3 dX3_layOut_77 rfl rfl ?_
                refine g_if_ne X 85 dX3_layOut_78 (by decide) (by omega) (fun c_78 => ?_) (fun c_78 => ?_)
                · skip
                  refine g_iconst X dX3_layOut_85 ?_
                  refine g_callV0 X (As := [.int (iZ (((wghF vv li br le nb fi pl).2))), .int (iZ us), .int (iZ 0)]) (rest := []) (ctX1_addColumn l D cB cI cJ cY hz qk qt qn st1 cl1 B C1 ((vv 1)) G1 K (((wghF vv li br le nb fi pl).2)) us 0 (by first | assumption | omega) (by first | assumption | omega)) (cwV 3 X.2.2.2.2.1 gX3_layOut_X1_addColumn rfl rfl rfl (by decide +kernel) ⟨by decide, by decide⟩) 0 rfl rfl (wc := [(hz, .inr (1, [.ref qk, .ref qt, .ref qn, .int (iZ B), .int (iZ C1), .int (iZ ((vv 1))), .int (iZ G1), .int (iZ K)])), (qt, .inl (cI, 901, .inl (zA st1))), (qn, .inl (cI, 900, .inl (zA cl1)))]) (wr := [(ht, .inr (3, [.ref qv, .ref qi, .ref qr, .ref qe, .int (iZ nb)])), (qv, .inl (cI, 5, .inl (zA vv))), (qi, .inl (cI, 900, .inl (zA li))), (qr, .inl (cI, 900, .inl (zA br))), (qe, .inl (cJ, 3600, .inr (.inl (lA le))))]) [5, 6, 7] [0, 1, 2, 3, 4] rfl rfl (by decide) (by decide) (by decide) rfl rfl (Nat.le_of_ble_eq_true rfl) ⟨by decide, by decide⟩ dX3_layOut_86 (fun v w1 hq => ?_)
                  obtain ⟨G2_86, rfl, p0_86, rfl⟩ := hq
                  refine g_eq (ws' := [(ht, .inr (3, [.ref qv, .ref qi, .ref qr, .ref qe, .int (iZ nb)])), (qv, .inl (cI, 5, .inl (zA vv))), (qi, .inl (cI, 900, .inl (zA li))), (qr, .inl (cI, 900, .inl (zA br))), (qe, .inl (cJ, 3600, .inr (.inl (lA le)))), (hz, .inr (1, [.ref qk, .ref qt, .ref qn, .int (iZ B), .int (iZ (C1 + 1)), .int (iZ (((vv 1)))), .int (iZ G2_86), .int (iZ K)])), (qt, .inl (cI, 901, .inl (zA (upZ st1 (C1 + 1) (((wghF vv li br le nb fi pl).2)))))), (qn, .inl (cI, 900, .inl (zA (upZ cl1 C1 us))))]) (pc' := 89) (st' := []) rfl rfl rfl rfl ?_
                  refine g_iload X 5 dX3_layOut_89 rfl ?_
                  refine g_istore_n (lv2 := [(2, .int (iZ (((wghF vv li br le nb fi pl).2)))), (0, .ref ht), (1, .ref hz), (3, .int (iZ pl)), (4, .int (iZ co)), (5, .int (iZ (((wghF vv li br le nb fi pl).2)))), (6, .int (iZ us)), (7, .int (iZ k))]) X dX3_layOut_91 rfl (by decide) rfl ?_
                  refine g_aload_n X 1 dX3_layOut_92 rfl rfl ?_
                  refine g_iload_n X 3 dX3_layOut_93 rfl rfl ?_
                  refine g_callV0 X (As := [.int (iZ pl)]) (rest := []) (ctX3_placeBehind l D cB cI cJ cY ht qv qi qr qe vv nb pl (by first | assumption | omega) (by first | assumption | omega)) (cwV 1 X.2.2.2.2.1 gX3_layOut_X3_placeBehind rfl rfl rfl (by decide +kernel) ⟨by decide, by decide⟩) 0 rfl rfl (wc := [(ht, .inr (3, [.ref qv, .ref qi, .ref qr, .ref qe, .int (iZ nb)])), (qv, .inl (cI, 5, .inl (zA vv)))]) (wr := [(qi, .inl (cI, 900, .inl (zA li))), (qr, .inl (cI, 900, .inl (zA br))), (qe, .inl (cJ, 3600, .inr (.inl (lA le)))), (hz, .inr (1, [.ref qk, .ref qt, .ref qn, .int (iZ B), .int (iZ (C1 + 1)), .int (iZ (((vv 1)))), .int (iZ G2_86), .int (iZ K)])), (qt, .inl (cI, 901, .inl (zA (upZ st1 (C1 + 1) (((wghF vv li br le nb fi pl).2)))))), (qn, .inl (cI, 900, .inl (zA (upZ cl1 C1 us))))]) [0, 1] [2, 3, 4, 5, 6, 7] rfl rfl (by decide) (by decide) (by decide) rfl rfl (Nat.le_of_ble_eq_true rfl) ⟨by decide, by decide⟩ dX3_layOut_94 (fun v w1 hq => ?_)
                  obtain ⟨nx, rfl, hnx, rfl⟩ := hq
                  refine g_eq (ws' := [(qi, .inl (cI, 900, .inl (zA li))), (qr, .inl (cI, 900, .inl (zA br))), (qe, .inl (cJ, 3600, .inr (.inl (lA le)))), (hz, .inr (1, [.ref qk, .ref qt, .ref qn, .int (iZ B), .int (iZ (C1 + 1)), .int (iZ (((vv 1)))), .int (iZ G2_86), .int (iZ K)])), (qt, .inl (cI, 901, .inl (zA (upZ st1 (C1 + 1) (((wghF vv li br le nb fi pl).2)))))), (qn, .inl (cI, 900, .inl (zA (upZ cl1 C1 us)))), (ht, .inr (3, [.ref qv, .ref qi, .ref qr, .ref qe, .int (iZ nb)])), (qv, .inl (cI, 5, .inl (zA vv)))]) (pc' := 97) (st' := [.int (iZ nx)]) rfl rfl rfl rfl ?_
                  refine g_perm (ws' := [(ht, .inr (3, [.ref qv, .ref qi, .ref qr, .ref qe, .int (iZ nb)])), (qv, .inl (cI, 5, .inl (zA vv))), (qi, .inl (cI, 900, .inl (zA li))), (qr, .inl (cI, 900, .inl (zA br))), (qe, .inl (cJ, 3600, .inr (.inl (lA le)))), (hz, .inr (1, [.ref qk, .ref qt, .ref qn, .int (iZ B), .int (iZ (C1 + 1)), .int (iZ (((vv 1)))), .int (iZ G2_86), .int (iZ K)])), (qt, .inl (cI, 901, .inl (zA (upZ st1 (C1 + 1) (((wghF vv li br le nb fi pl).2)))))), (qn, .inl (cI, 900, .inl (zA (upZ cl1 C1 us))))]) [6, 7, 0, 1, 2, 3, 4, 5] (by decide) rfl ?_
                  subst hnx
                  refine g_istore_n (lv2 := [(3, .int (iZ ((nxZ vv pl)))), (2, .int (iZ (((wghF vv li br le nb fi pl).2)))), (0, .ref ht), (1, .ref hz), (4, .int (iZ co)), (5, .int (iZ (((wghF vv li br le nb fi pl).2)))), (6, .int (iZ us)), (7, .int (iZ k))]) X dX3_layOut_97 rfl (by decide) rfl ?_
                  refine g_iinc (q := 4) (lv2 := [(4, .int (iZ (co + 1))), (3, .int (iZ ((nxZ vv pl)))), (2, .int (iZ (((wghF vv li br le nb fi pl).2)))), (0, .ref ht), (1, .ref hz), (5, .int (iZ (((wghF vv li br le nb fi pl).2)))), (6, .int (iZ us)), (7, .int (iZ k))]) X dX3_layOut_98 rfl (by decide) rfl ?_
                  refine g_goto X 17 dX3_layOut_101 (by decide) ?_
                  have hms := mod_step (w := vv 1) (C := co) (p9 := pl) (G := G1) (by omega) (by omega) hpl hG1
                  have hpl2 : nxZ vv pl = (co + 1) % vv 1 := hms.1
                  have hG2 : G2_86 = (co + 1 + vv 1 - 1) / vv 1 := by
                    have q1 := hms.2
                    first
                    | rw [if_pos c_78] at q1; omega
                    | rw [if_neg c_78] at q1; omega
                  have hgd2 : (wghF vv li br le nb fi pl).2 < nb → le ((wghF vv li br le nb fi pl).2 * 4 + nxZ vv pl) ≠ 1000000000000000000 := fun q => by
                    rcases hgood.2.2 with h | h
                    · omega
                    · exact h
                  have hch2 : ∀ c9 : Int, 0 ≤ c9 → c9 < co + 1 → upZ st1 (C1 + 1) (wghF vv li br le nb fi pl).2 c9 < upZ st1 (C1 + 1) (wghF vv li br le nb fi pl).2 (c9 + 1) ∧ upZ st1 (C1 + 1) (wghF vv li br le nb fi pl).2 (c9 + 1) = (wghF vv li br le nb (upZ st1 (C1 + 1) (wghF vv li br le nb fi pl).2 c9) (c9 % vv 1)).2 ∧ upZ cl1 C1 us c9 = sumN li (upZ st1 (C1 + 1) (wghF vv li br le nb fi pl).2 c9) (upZ st1 (C1 + 1) (wghF vv li br le nb fi pl).2 (c9 + 1) - upZ st1 (C1 + 1) (wghF vv li br le nb fi pl).2 c9).toNat := fun c9 h1 h2 => by
                    rw [upZ_n (show c9 ≠ C1 + 1 by omega)]
                    rcases (show c9 = co ∨ c9 < co by omega) with h | h
                    · rw [show c9 + 1 = C1 + 1 by omega, upZ_s, h, ← hfi, ← hpl, show C1 = co by omega, upZ_s]
                      refine ⟨by omega, rfl, ?_⟩
                      rw [hus, show k = (wghF vv li br le nb fi pl).2 by omega]
                    · rw [upZ_n (show c9 + 1 ≠ C1 + 1 by omega), upZ_n (show c9 ≠ C1 by omega)]
                      exact hch c9 h1 h
                  have hsr2 : ∀ c9 : Int, 0 ≤ c9 → c9 ≤ co + 1 → 0 ≤ upZ st1 (C1 + 1) (wghF vv li br le nb fi pl).2 c9 ∧ upZ st1 (C1 + 1) (wghF vv li br le nb fi pl).2 c9 ≤ nb := fun c9 h1 h2 => by
                    rcases (show c9 = C1 + 1 ∨ c9 ≤ co by omega) with h | h
                    · rw [h, upZ_s]; omega
                    · rw [upZ_n (by omega)]; exact hsr c9 h1 h
                  refine g_lv (lv' := [(0, .ref ht), (1, .ref hz), (2, .int (iZ (((wghF vv li br le nb fi pl).2)))), (3, .int (iZ ((nxZ vv pl)))), (4, .int (iZ (co + 1)))]) [3, 4, 2, 1, 0] rfl ?_
                  exact ih_17 (((wghF vv li br le nb fi pl).2)) ((nxZ vv pl)) (co + 1) (C1 + 1) G2_86 (upZ st1 (C1 + 1) (((wghF vv li br le nb fi pl).2))) (upZ cl1 C1 us) (by omega) (by rw [show C1 = co by omega, upZ_s]) (by rw [upZ_n (by omega)]; exact hs0) hpl2 hG2 hgd2 hch2 hsr2 (by omega)
                · skip
                  refine g_iconst X dX3_layOut_81 ?_
                  refine g_goto X 86 dX3_layOut_82 (by decide) ?_
                  refine g_callV0 X (As := [.int (iZ (((wghF vv li br le nb fi pl).2))), .int (iZ us), .int (iZ 1)]) (rest := []) (ctX1_addColumn l D cB cI cJ cY hz qk qt qn st1 cl1 B C1 ((vv 1)) G1 K (((wghF vv li br le nb fi pl).2)) us 1 (by first | assumption | omega) (by first | assumption | omega)) (cwV 3 X.2.2.2.2.1 gX3_layOut_X1_addColumn rfl rfl rfl (by decide +kernel) ⟨by decide, by decide⟩) 0 rfl rfl (wc := [(hz, .inr (1, [.ref qk, .ref qt, .ref qn, .int (iZ B), .int (iZ C1), .int (iZ ((vv 1))), .int (iZ G1), .int (iZ K)])), (qt, .inl (cI, 901, .inl (zA st1))), (qn, .inl (cI, 900, .inl (zA cl1)))]) (wr := [(ht, .inr (3, [.ref qv, .ref qi, .ref qr, .ref qe, .int (iZ nb)])), (qv, .inl (cI, 5, .inl (zA vv))), (qi, .inl (cI, 900, .inl (zA li))), (qr, .inl (cI, 900, .inl (zA br))), (qe, .inl (cJ, 3600, .inr (.inl (lA le))))]) [5, 6, 7] [0, 1, 2, 3, 4] rfl rfl (by decide) (by decide) (by decide) rfl rfl (Nat.le_of_ble_eq_true rfl) ⟨by decide, by decide⟩ dX3_layOut_86 (fun v w1 hq => ?_)
                  obtain ⟨G2_86, rfl, p0_86, rfl⟩ := hq
                  refine g_eq (ws' := [(ht, .inr (3, [.ref qv, .ref qi, .ref qr, .ref qe, .int (iZ nb)])), (qv, .inl (cI, 5, .inl (zA vv))), (qi, .inl (cI, 900, .inl (zA li))), (qr, .inl (cI, 900, .inl (zA br))), (qe, .inl (cJ, 3600, .inr (.inl (lA le)))), (hz, .inr (1, [.ref qk, .ref qt, .ref qn, .int (iZ B), .int (iZ (C1 + 1)), .int (iZ (((vv 1)))), .int (iZ G2_86), .int (iZ K)])), (qt, .inl (cI, 901, .inl (zA (upZ st1 (C1 + 1) (((wghF vv li br le nb fi pl).2)))))), (qn, .inl (cI, 900, .inl (zA (upZ cl1 C1 us))))]) (pc' := 89) (st' := []) rfl rfl rfl rfl ?_
                  refine g_iload X 5 dX3_layOut_89 rfl ?_
                  refine g_istore_n (lv2 := [(2, .int (iZ (((wghF vv li br le nb fi pl).2)))), (0, .ref ht), (1, .ref hz), (3, .int (iZ pl)), (4, .int (iZ co)), (5, .int (iZ (((wghF vv li br le nb fi pl).2)))), (6, .int (iZ us)), (7, .int (iZ k))]) X dX3_layOut_91 rfl (by decide) rfl ?_
                  refine g_aload_n X 1 dX3_layOut_92 rfl rfl ?_
                  refine g_iload_n X 3 dX3_layOut_93 rfl rfl ?_
                  refine g_callV0 X (As := [.int (iZ pl)]) (rest := []) (ctX3_placeBehind l D cB cI cJ cY ht qv qi qr qe vv nb pl (by first | assumption | omega) (by first | assumption | omega)) (cwV 1 X.2.2.2.2.1 gX3_layOut_X3_placeBehind rfl rfl rfl (by decide +kernel) ⟨by decide, by decide⟩) 0 rfl rfl (wc := [(ht, .inr (3, [.ref qv, .ref qi, .ref qr, .ref qe, .int (iZ nb)])), (qv, .inl (cI, 5, .inl (zA vv)))]) (wr := [(qi, .inl (cI, 900, .inl (zA li))), (qr, .inl (cI, 900, .inl (zA br))), (qe, .inl (cJ, 3600, .inr (.inl (lA le)))), (hz, .inr (1, [.ref qk, .ref qt, .ref qn, .int (iZ B), .int (iZ (C1 + 1)), .int (iZ (((vv 1)))), .int (iZ G2_86), .int (iZ K)])), (qt, .inl (cI, 901, .inl (zA (upZ st1 (C1 + 1) (((wghF vv li br le nb fi pl).2)))))), (qn, .inl (cI, 900, .inl (zA (upZ cl1 C1 us))))]) [0, 1] [2, 3, 4, 5, 6, 7] rfl rfl (by decide) (by decide) (by decide) rfl rfl (Nat.le_of_ble_eq_true rfl) ⟨by decide, by decide⟩ dX3_layOut_94 (fun v w1 hq => ?_)
                  obtain ⟨nx, rfl, hnx, rfl⟩ := hq
                  refine g_eq (ws' := [(qi, .inl (cI, 900, .inl (zA li))), (qr, .inl (cI, 900, .inl (zA br))), (qe, .inl (cJ, 3600, .inr (.inl (lA le)))), (hz, .inr (1, [.ref qk, .ref qt, .ref qn, .int (iZ B), .int (iZ (C1 + 1)), .int (iZ (((vv 1)))), .int (iZ G2_86), .int (iZ K)])), (qt, .inl (cI, 901, .inl (zA (upZ st1 (C1 + 1) (((wghF vv li br le nb fi pl).2)))))), (qn, .inl (cI, 900, .inl (zA (upZ cl1 C1 us)))), (ht, .inr (3, [.ref qv, .ref qi, .ref qr, .ref qe, .int (iZ nb)])), (qv, .inl (cI, 5, .inl (zA vv)))]) (pc' := 97) (st' := [.int (iZ nx)]) rfl rfl rfl rfl ?_
                  refine g_perm (ws' := [(ht, .inr (3, [.ref qv, .ref qi, .ref qr, .ref qe, .int (iZ nb)])), (qv, .inl (cI, 5, .inl (zA vv))), (qi, .inl (cI, 900, .inl (zA li))), (qr, .inl (cI, 900, .inl (zA br))), (qe, .inl (cJ, 3600, .inr (.inl (lA le)))), (hz, .inr (1, [.ref qk, .ref qt, .ref qn, .int (iZ B), .int (iZ (C1 + 1)), .int (iZ (((vv 1)))), .int (iZ G2_86), .int (iZ K)])), (qt, .inl (cI, 901, .inl (zA (upZ st1 (C1 + 1) (((wghF vv li br le nb fi pl).2)))))), (qn, .inl (cI, 900, .inl (zA (upZ cl1 C1 us))))]) [6, 7, 0, 1, 2, 3, 4, 5] (by decide) rfl ?_
                  subst hnx
                  refine g_istore_n (lv2 := [(3, .int (iZ ((nxZ vv pl)))), (2, .int (iZ (((wghF vv li br le nb fi pl).2)))), (0, .ref ht), (1, .ref hz), (4, .int (iZ co)), (5, .int (iZ (((wghF vv li br le nb fi pl).2)))), (6, .int (iZ us)), (7, .int (iZ k))]) X dX3_layOut_97 rfl (by decide) rfl ?_
                  refine g_iinc (q := 4) (lv2 := [(4, .int (iZ (co + 1))), (3, .int (iZ ((nxZ vv pl)))), (2, .int (iZ (((wghF vv li br le nb fi pl).2)))), (0, .ref ht), (1, .ref hz), (5, .int (iZ (((wghF vv li br le nb fi pl).2)))), (6, .int (iZ us)), (7, .int (iZ k))]) X dX3_layOut_98 rfl (by decide) rfl ?_
                  refine g_goto X 17 dX3_layOut_101 (by decide) ?_
                  have hms := mod_step (w := vv 1) (C := co) (p9 := pl) (G := G1) (by omega) (by omega) hpl hG1
                  have hpl2 : nxZ vv pl = (co + 1) % vv 1 := hms.1
                  have hG2 : G2_86 = (co + 1 + vv 1 - 1) / vv 1 := by
                    have q1 := hms.2
                    first
                    | rw [if_pos c_78] at q1; omega
                    | rw [if_neg c_78] at q1; omega
                  have hgd2 : (wghF vv li br le nb fi pl).2 < nb → le ((wghF vv li br le nb fi pl).2 * 4 + nxZ vv pl) ≠ 1000000000000000000 := fun q => by
                    rcases hgood.2.2 with h | h
                    · omega
                    · exact h
                  have hch2 : ∀ c9 : Int, 0 ≤ c9 → c9 < co + 1 → upZ st1 (C1 + 1) (wghF vv li br le nb fi pl).2 c9 < upZ st1 (C1 + 1) (wghF vv li br le nb fi pl).2 (c9 + 1) ∧ upZ st1 (C1 + 1) (wghF vv li br le nb fi pl).2 (c9 + 1) = (wghF vv li br le nb (upZ st1 (C1 + 1) (wghF vv li br le nb fi pl).2 c9) (c9 % vv 1)).2 ∧ upZ cl1 C1 us c9 = sumN li (upZ st1 (C1 + 1) (wghF vv li br le nb fi pl).2 c9) (upZ st1 (C1 + 1) (wghF vv li br le nb fi pl).2 (c9 + 1) - upZ st1 (C1 + 1) (wghF vv li br le nb fi pl).2 c9).toNat := fun c9 h1 h2 => by
                    rw [upZ_n (show c9 ≠ C1 + 1 by omega)]
                    rcases (show c9 = co ∨ c9 < co by omega) with h | h
                    · rw [show c9 + 1 = C1 + 1 by omega, upZ_s, h, ← hfi, ← hpl, show C1 = co by omega, upZ_s]
                      refine ⟨by omega, rfl, ?_⟩
                      rw [hus, show k = (wghF vv li br le nb fi pl).2 by omega]
                    · rw [upZ_n (show c9 + 1 ≠ C1 + 1 by omega), upZ_n (show c9 ≠ C1 by omega)]
                      exact hch c9 h1 h
                  have hsr2 : ∀ c9 : Int, 0 ≤ c9 → c9 ≤ co + 1 → 0 ≤ upZ st1 (C1 + 1) (wghF vv li br le nb fi pl).2 c9 ∧ upZ st1 (C1 + 1) (wghF vv li br le nb fi pl).2 c9 ≤ nb := fun c9 h1 h2 => by
                    rcases (show c9 = C1 + 1 ∨ c9 ≤ co by omega) with h | h
                    · rw [h, upZ_s]; omega
                    · rw [upZ_n (by omega)]; exact hsr c9 h1 h
                  refine g_lv (lv' := [(0, .ref ht), (1, .ref hz), (2, .int (iZ (((wghF vv li br le nb fi pl).2)))), (3, .int (iZ ((nxZ vv pl)))), (4, .int (iZ (co + 1)))]) [3, 4, 2, 1, 0] rfl ?_
                  exact ih_17 (((wghF vv li br le nb fi pl).2)) ((nxZ vv pl)) (co + 1) (C1 + 1) G2_86 (upZ st1 (C1 + 1) (((wghF vv li br le nb fi pl).2))) (upZ cl1 C1 us) (by omega) (by rw [show C1 = co by omega, upZ_s]) (by rw [upZ_n (by omega)]; exact hs0) hpl2 hG2 hgd2 hch2 hsr2 (by omega)
              · skip
                refine g_iload X 6 dX3_layOut_54 rfl ?_
                refine g_aload_n X 0 dX3_layOut_56 rfl rfl ?_
                refine g_get X (index := 15) (ref := "GuideWords$Typesetter") hin3 0 rfl rfl 1 (by decide) rfl (by decide +kernel) (v := .ref qi) rfl dX3_layOut_57 ?_
                refine g_iload X 7 dX3_layOut_60 rfl ?_
                refine g_iald X 2 1 rfl rfl (by omega) (by decide) dX3_layOut_62 ?_
                have r_62 := hli k (by omega)
                refine g_iadd X dX3_layOut_63 ?_
                refine g_istore (lv2 := [(6, .int (iZ (us + (li k)))), (0, .ref ht), (1, .ref hz), (2, .int (iZ fi)), (3, .int (iZ pl)), (4, .int (iZ co)), (5, .int (iZ (((wghF vv li br le nb fi pl).2)))), (7, .int (iZ k))]) X dX3_layOut_64 (by decide) rfl ?_
                refine g_iinc (q := 7) (lv2 := [(7, .int (iZ (k + 1))), (6, .int (iZ (us + (li k)))), (0, .ref ht), (1, .ref hz), (2, .int (iZ fi)), (3, .int (iZ pl)), (4, .int (iZ co)), (5, .int (iZ (((wghF vv li br le nb fi pl).2))))]) X dX3_layOut_66 rfl (by decide) rfl ?_
                refine g_goto X 47 dX3_layOut_69 (by decide) ?_
                refine g_lv (lv' := [(0, .ref ht), (1, .ref hz), (2, .int (iZ fi)), (3, .int (iZ pl)), (4, .int (iZ co)), (5, .int (iZ (((wghF vv li br le nb fi pl).2)))), (6, .int (iZ (us + (li k)))), (7, .int (iZ (k + 1)))]) [2, 3, 4, 5, 6, 7, 1, 0] rfl ?_
                exact ih_47 (us + (li k)) (k + 1) (by omega) (by rw [show (k + 1 - fi).toNat = (k - fi).toNat + 1 by omega, sumN, ← hus, show fi + ((k - fi).toNat : Int) = k by omega]) (by omega)
          exact loop_47 _ 0 fi (by omega) (by simp [sumN]) (Nat.lt_succ_self _)
  exact loop_17 _ 0 0 0 0 0 (upZ st 0 0) cl (by omega) (by rw [upZ_s]) (by rw [upZ_s]) (by simp) hG0 (fun _ => h00) (fun c9 h1 h2 => by omega) (fun c9 h1 h2 => by rw [show c9 = 0 by omega, upZ_s]; omega) (Nat.lt_succ_self _)
