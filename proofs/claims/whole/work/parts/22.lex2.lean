def remZ (od dr : Int → Int) (P e0 r res : Int) (od2 dr2 : Int → Int) (P2 : Int) : Prop := (¬ dr e0 = 0 ∧ res = 0 ∧ od2 = od ∧ dr2 = dr ∧ P2 = P) ∨ (dr e0 = 0 ∧ res = 1 ∧ dr2 = upZ dr e0 1 ∧ P2 = P - 1 ∧ (∀ j : Int, 0 ≤ j → j < r → od2 j = od j) ∧ (∀ j : Int, r ≤ j → j < P - 1 → od2 j = od (j + 1)))
def admZ (hd me se ln od pz : Int → Int) (N P x y cnt res : Int) (hd2 me2 se2 ln2 od2 : Int → Int) (N2 P2 : Int) : Prop := (N = 150 ∧ res = -3 ∧ hd2 = hd ∧ me2 = me ∧ se2 = se ∧ ln2 = ln ∧ od2 = od ∧ N2 = N ∧ P2 = P) ∨ (N < 150 ∧ res = N ∧ hd2 = upZ hd N x ∧ me2 = upZ me N y ∧ se2 = upZ se N cnt ∧ (∀ s : Int, 0 ≤ s → s < cnt → ln2 (N * 6 + s) = pz s) ∧ (∀ j : Int, (j < N * 6 ∨ N * 6 + cnt ≤ j) → ln2 j = ln j) ∧ (∃ b : Int, belowZ hd od P (x + 1) b ∧ (∀ j : Int, 0 ≤ j → j < b → od2 j = od j) ∧ od2 b = N ∧ (∀ j : Int, b < j → j ≤ P → od2 j = od (j - 1))) ∧ N2 = N + 1 ∧ P2 = P + 1)
def ltZ (hd : Int → Int) (e9 : Int) : Int := hd e9 / 36028797018963968 - 1
def seS (ln : Int → Int) (e9 : Int) : Nat → Int
  | 0 => 0
  | s + 1 => seS ln e9 s + ln (e9 * 6 + s)
def moZ (hd se ln : Int → Int) (ab : Int) (g : Int → Int) (e9 : Int) : Int := (if g (ltZ hd e9) = 0 then ab else 0) + seS ln e9 (se e9).toNat
def smG (hd se ln od : Int → Int) (ab : Int) (g : Int → Int) : Nat → (Int → Int)
  | 0 => g
  | k + 1 => upZ (smG hd se ln od ab g k) (ltZ hd (od k)) (smG hd se ln od ab g k (ltZ hd (od k)) + moZ hd se ln ab (smG hd se ln od ab g k) (od k))
def smT (hd se ln od : Int → Int) (ab : Int) (g : Int → Int) : Nat → Int
  | 0 => 0
  | k + 1 => smT hd se ln od ab g k + moZ hd se ln ab (smG hd se ln od ab g k) (od k)
def qX0_remove (cB cI cJ cY : ClassId) (h : Nat) (qh : Nat) (qm : Nat) (qs : Nat) (ql : Nat) (qd : Nat) (qo : Nat) (qp : Nat) (dr : Int → Int) (od : Int → Int) (N : Int) (P : Int) (e0 : Int) (r : Int) : Option Value → va_W → Prop := fun rv w1 => ∃ (res : Int) (od2 : Int → Int) (dr2 : Int → Int) (P2 : Int), rv = some (.int (iZ res)) ∧ remZ od dr P e0 r res od2 dr2 P2 ∧ w1 = [(h, .inr (0, [.ref qh, .ref qm, .ref qs, .ref ql, .ref qd, .ref qo, .ref qp, .int (iZ N), .int (iZ P2)])), (qd, .inl (cY, 150, .inl (zA dr2))), (qo, .inl (cI, 150, .inl (zA od2)))]
set_option maxHeartbeats 4000000 in
set_option maxRecDepth 100000 in
theorem ctX0_remove (l : Launch) (D : va_G) (cB cI cJ cY : ClassId) (h : Nat) (qh : Nat) (qm : Nat) (qs : Nat) (ql : Nat) (qd : Nat) (qo : Nat) (qp : Nat) (dr : Int → Int) (od : Int → Int) (N : Int) (P : Int) (e0 : Int) (r : Int) (hp : 0 ≤ P ∧ P ≤ N ∧ N ≤ 150) (hod : ∀ j : Int, 0 ≤ j ∧ j < P → 0 ≤ od j ∧ od j < N) (he : 0 ≤ e0 ∧ e0 < N) (hdr : ∀ j : Int, 0 ≤ j ∧ j < 150 → dr j = 0 ∨ dr j = 1) (hr0 : dr e0 = 0 → 0 ≤ r ∧ r < P ∧ od r = e0 ∧ ∀ k : Int, 0 ≤ k → k < P → k ≠ r → od k ≠ e0) : gM l yX0_remove wsX0_remove { frames := 0, cells := 0, slots := 0, locals := 0 } D (gT cB cI cJ cY) [.ref h, .int (iZ e0)] [(h, .inr (0, [.ref qh, .ref qm, .ref qs, .ref ql, .ref qd, .ref qo, .ref qp, .int (iZ N), .int (iZ P)])), (qd, .inl (cY, 150, .inl (zA dr))), (qo, .inl (cI, 150, .inl (zA od)))] 0 0 (qX0_remove cB cI cJ cY h qh qm qs ql qd qo qp dr od N P e0 r) := by
  refine g_start (cc := cX0_remove) (maxL := 4) (ret := some .boolean) (lv := [(0, .ref h), (1, .int (iZ e0))]) (by decide) rfl (Nat.le_of_ble_eq_true rfl) rfl ?_
  intro p e s m args below meth c A X hr hnm
  have hin0 : ∀ w ∈ u_ws RX0 TX0 9, w ∈ wsX0_remove := by decide +kernel
  refine g_aload_n X 0 dX0_remove_0 rfl rfl ?_
  refine g_get X (index := 25) (ref := "GuideWords$Lexicon") hin0 0 rfl rfl 4 (by decide) rfl (by decide +kernel) (v := .ref qd) rfl dX0_remove_1 ?_
  refine g_iload_n X 1 dX0_remove_4 rfl rfl ?_
  refine g_zald X 1 3 rfl rfl (by omega) (by decide) dX0_remove_5 ?_
  have r_5 := hdr e0 (by omega)
  refine g_if_eq X 11 dX0_remove_6 (by decide) (by omega) (fun c_6 => ?_) (fun c_6 => ?_)
  · skip
    obtain ⟨hr1, hr2, hr3, hr4⟩ := hr0 c_6
    refine g_aload_n X 0 dX0_remove_11 rfl rfl ?_
    refine g_get X (index := 25) (ref := "GuideWords$Lexicon") hin0 0 rfl rfl 4 (by decide) rfl (by decide +kernel) (v := .ref qd) rfl dX0_remove_12 ?_
    refine g_iload_n X 1 dX0_remove_15 rfl rfl ?_
    refine g_iconst X dX0_remove_16 ?_
    refine g_zast X 1 3 rfl rfl (by omega) (by decide) (Or.inr rfl) (ws2 := [(h, .inr (0, [.ref qh, .ref qm, .ref qs, .ref ql, .ref qd, .ref qo, .ref qp, .int (iZ N), .int (iZ P)])), (qd, .inl (cY, 150, .inl (zA (upZ dr e0 1)))), (qo, .inl (cI, 150, .inl (zA od)))]) rfl dX0_remove_17 ?_
    refine g_iconst X dX0_remove_18 ?_
    refine g_istore_n (lv2 := [(2, .int (iZ 0)), (0, .ref h), (1, .int (iZ e0))]) X dX0_remove_19 rfl (by decide) rfl ?_
    refine g_iconst X dX0_remove_20 ?_
    refine g_istore_n (lv2 := [(3, .int (iZ 0)), (2, .int (iZ 0)), (0, .ref h), (1, .int (iZ e0))]) X dX0_remove_21 rfl (by decide) rfl ?_
    refine g_lv (lv' := [(0, .ref h), (1, .int (iZ e0)), (2, .int (iZ 0)), (3, .int (iZ 0))]) [2, 3, 1, 0] rfl ?_
    have loop_22 : ∀ (kf : Nat) (kp : Int) (k : Int) (g : Int → Int), (hk : 0 ≤ kp ∧ kp ≤ k ∧ k ≤ P) → (hg1 : ∀ j : Int, k ≤ j → g j = od j) → (hg2 : (k ≤ r ∧ kp = k ∧ ∀ j : Int, 0 ≤ j → j < k → g j = od j) ∨ (r < k ∧ kp = k - 1 ∧ (∀ j : Int, 0 ≤ j → j < r → g j = od j) ∧ (∀ j : Int, r ≤ j → j < k - 1 → g j = od (j + 1)))) → (P - k).toNat < kf → gW p l e { frames := 0, cells := 0, slots := 0, locals := 0 } s m args below meth c D A 4 0 0 (MQ below (gQ D (gT cB cI cJ cY) (qX0_remove cB cI cJ cY h qh qm qs ql qd qo qp dr od N P e0 r) A) args s 0 0 A) [(h, .inr (0, [.ref qh, .ref qm, .ref qs, .ref ql, .ref qd, .ref qo, .ref qp, .int (iZ N), .int (iZ P)])), (qd, .inl (cY, 150, .inl (zA (upZ dr e0 1)))), (qo, .inl (cI, 150, .inl (zA g)))] 22 [(0, .ref h), (1, .int (iZ e0)), (2, .int (iZ kp)), (3, .int (iZ k))] [] := by
      intro kf
      induction kf with
      | zero => intro kp k g hk hg1 hg2 hm; exact absurd hm (Nat.not_lt_zero _)
      | succ kf ih_22 =>
        intro kp k g hk hg1 hg2 hm
        refine g_iload_n X 3 dX0_remove_22 rfl rfl ?_
        refine g_aload_n X 0 dX0_remove_23 rfl rfl ?_
        refine g_get X (index := 43) (ref := "GuideWords$Lexicon") hin0 0 rfl rfl 8 (by decide) rfl (by decide +kernel) (v := .int (iZ P)) rfl dX0_remove_24 ?_
        refine g_icmp_ge X 61 dX0_remove_27 (by decide) (by omega) (by omega) (fun c_27 => ?_) (fun c_27 => ?_)
        · skip
          have hfin : kp = P - 1 ∧ (∀ j : Int, 0 ≤ j → j < r → g j = od j) ∧ (∀ j : Int, r ≤ j → j < P - 1 → g j = od (j + 1)) := by
            rcases hg2 with ⟨a1, a2, a3⟩ | ⟨a1, a2, a3, a4⟩
            · omega
            · exact ⟨by omega, a3, fun j h1 h2 => a4 j h1 (by omega)⟩
          refine g_aload_n X 0 dX0_remove_61 rfl rfl ?_
          refine g_iload_n X 2 dX0_remove_62 rfl rfl ?_
          refine g_put X (index := 43) (ref := "GuideWords$Lexicon") hin0 0 rfl rfl 8 (by decide) rfl tyX0 tyX0_ok nmX0 (by decide +kernel) rfl rfl rfl rfl (Nat.le_of_ble_eq_true rfl) (ws2 := [(h, .inr (0, [.ref qh, .ref qm, .ref qs, .ref ql, .ref qd, .ref qo, .ref qp, .int (iZ N), .int (iZ kp)])), (qd, .inl (cY, 150, .inl (zA (upZ dr e0 1)))), (qo, .inl (cI, 150, .inl (zA g)))]) rfl dX0_remove_63 ?_
          refine g_iconst X dX0_remove_66 ?_
          exact g_zret X (by omega) hr (by decide) (by decide) dX0_remove_67 ⟨_, g, upZ dr e0 1, kp, rfl, Or.inr ⟨c_6, rfl, rfl, hfin.1, hfin.2.1, hfin.2.2⟩, rfl⟩
        · skip
          refine g_aload_n X 0 dX0_remove_30 rfl rfl ?_
          refine g_get X (index := 29) (ref := "GuideWords$Lexicon") hin0 0 rfl rfl 5 (by decide) rfl (by decide +kernel) (v := .ref qo) rfl dX0_remove_31 ?_
          refine g_iload_n X 3 dX0_remove_34 rfl rfl ?_
          refine g_iald X 2 1 rfl rfl (by omega) (by decide) dX0_remove_35 ?_
          refine g_topi (b := od k) (hg1 k (by omega)) ?_
          have r_35 := hod k (by omega)
          refine g_iload_n X 1 dX0_remove_36 rfl rfl ?_
          refine g_icmp_eq X 55 dX0_remove_37 (by decide) (by omega) (by omega) (fun c_37 => ?_) (fun c_37 => ?_)
          · skip
            have hkr : k = r := by
              rcases Int.decEq k r with h | h
              · exact absurd c_37 (hr4 k (by omega) (by omega) h)
              · exact h
            have G1 : ∀ j : Int, k + 1 ≤ j → g j = od j := fun j h => hg1 j (by omega)
            have G2 : (k + 1 ≤ r ∧ kp = k + 1 ∧ ∀ j : Int, 0 ≤ j → j < k + 1 → g j = od j) ∨ (r < k + 1 ∧ kp = k + 1 - 1 ∧ (∀ j : Int, 0 ≤ j → j < r → g j = od j) ∧ (∀ j : Int, r ≤ j → j < k + 1 - 1 → g j = od (j + 1))) := by
              rcases hg2 with ⟨a1, a2, a3⟩ | ⟨a1, a2, a3, a4⟩
              · exact Or.inr ⟨by omega, by omega, fun j h1 h2 => a3 j h1 (by omega), fun j h1 h2 => by omega⟩
              · omega
            refine g_iinc (q := 3) (lv2 := [(3, .int (iZ (k + 1))), (0, .ref h), (1, .int (iZ e0)), (2, .int (iZ kp))]) X dX0_remove_55 rfl (by decide) rfl ?_
            refine g_goto X 22 dX0_remove_58 (by decide) ?_
            refine g_lv (lv' := [(0, .ref h), (1, .int (iZ e0)), (2, .int (iZ kp)), (3, .int (iZ (k + 1)))]) [1, 2, 3, 0] rfl ?_
            exact ih_22 kp (k + 1) g (by omega) G1 G2 (by omega)
          · skip
            have hkr : k ≠ r := fun h => c_37 (by rw [h]; exact hr3)
            have G1 : ∀ j : Int, k + 1 ≤ j → upZ g kp (od k) j = od j := fun j h => by rw [upZ_n (by omega)]; exact hg1 j (by omega)
            have G2 : (k + 1 ≤ r ∧ kp + 1 = k + 1 ∧ ∀ j : Int, 0 ≤ j → j < k + 1 → upZ g kp (od k) j = od j) ∨ (r < k + 1 ∧ kp + 1 = k + 1 - 1 ∧ (∀ j : Int, 0 ≤ j → j < r → upZ g kp (od k) j = od j) ∧ (∀ j : Int, r ≤ j → j < k + 1 - 1 → upZ g kp (od k) j = od (j + 1))) := by
              rcases hg2 with ⟨a1, a2, a3⟩ | ⟨a1, a2, a3, a4⟩
              · refine Or.inl ⟨by omega, by omega, fun j h1 h2 => ?_⟩
                rcases (show j = kp ∨ j < kp by omega) with h | h
                · rw [h, upZ_s, a2]
                · rw [upZ_n (by omega)]; exact a3 j h1 (by omega)
              · refine Or.inr ⟨by omega, by omega, fun j h1 h2 => by rw [upZ_n (by omega)]; exact a3 j h1 h2, fun j h1 h2 => ?_⟩
                rcases (show j = kp ∨ j < kp by omega) with h | h
                · rw [h, upZ_s, show kp + 1 = k by omega]
                · rw [upZ_n (by omega)]; exact a4 j h1 (by omega)
            refine g_aload_n X 0 dX0_remove_40 rfl rfl ?_
            refine g_get X (index := 29) (ref := "GuideWords$Lexicon") hin0 0 rfl rfl 5 (by decide) rfl (by decide +kernel) (v := .ref qo) rfl dX0_remove_41 ?_
            refine g_iload_n X 2 dX0_remove_44 rfl rfl ?_
            refine g_aload_n X 0 dX0_remove_45 rfl rfl ?_
            refine g_get X (index := 29) (ref := "GuideWords$Lexicon") hin0 0 rfl rfl 5 (by decide) rfl (by decide +kernel) (v := .ref qo) rfl dX0_remove_46 ?_
            refine g_iload_n X 3 dX0_remove_49 rfl rfl ?_
            refine g_iald X 2 1 rfl rfl (by omega) (by decide) dX0_remove_50 ?_
            refine g_topi (b := od k) (hg1 k (by omega)) ?_
            refine g_iast X 2 1 rfl rfl (by omega) (by decide) (ws2 := [(h, .inr (0, [.ref qh, .ref qm, .ref qs, .ref ql, .ref qd, .ref qo, .ref qp, .int (iZ N), .int (iZ P)])), (qd, .inl (cY, 150, .inl (zA (upZ dr e0 1)))), (qo, .inl (cI, 150, .inl (zA (upZ g kp (od k)))))]) rfl dX0_remove_51 ?_
            refine g_iinc (q := 2) (lv2 := [(2, .int (iZ (kp + 1))), (0, .ref h), (1, .int (iZ e0)), (3, .int (iZ k))]) X dX0_remove_52 rfl (by decide) rfl ?_
            refine g_iinc (q := 3) (lv2 := [(3, .int (iZ (k + 1))), (2, .int (iZ (kp + 1))), (0, .ref h), (1, .int (iZ e0))]) X dX0_remove_55 rfl (by decide) rfl ?_
            refine g_goto X 22 dX0_remove_58 (by decide) ?_
            refine g_lv (lv' := [(0, .ref h), (1, .int (iZ e0)), (2, .int (iZ (kp + 1))), (3, .int (iZ (k + 1)))]) [2, 3, 1, 0] rfl ?_
            exact ih_22 (kp + 1) (k + 1) (upZ g kp (od k)) (by omega) G1 G2 (by omega)
    exact loop_22 _ 0 0 od (by omega) (fun j _ => rfl) (Or.inl ⟨by omega, rfl, fun j _ _ => rfl⟩) (Nat.lt_succ_self _)
  · skip
    refine g_iconst X dX0_remove_9 ?_
    exact g_zret X (by omega) hr (by decide) (by decide) dX0_remove_10 ⟨_, od, dr, P, rfl, Or.inl ⟨c_6, rfl, rfl, rfl, rfl⟩, rfl⟩
def qX0_admit (cB cI cJ cY : ClassId) (h : Nat) (qh : Nat) (qm : Nat) (qs : Nat) (ql : Nat) (qd : Nat) (qo : Nat) (qp : Nat) (qz : Nat) (hd : Int → Int) (me : Int → Int) (se : Int → Int) (ln : Int → Int) (od : Int → Int) (pz : Int → Int) (N : Int) (P : Int) (x : Int) (y : Int) (cnt : Int) : Option Value → va_W → Prop := fun rv w1 => ∃ (res : Int) (hd2 : Int → Int) (me2 : Int → Int) (se2 : Int → Int) (ln2 : Int → Int) (od2 : Int → Int) (N2 : Int) (P2 : Int), rv = some (.int (iZ res)) ∧ admZ hd me se ln od pz N P x y cnt res hd2 me2 se2 ln2 od2 N2 P2 ∧ w1 = [(h, .inr (0, [.ref qh, .ref qm, .ref qs, .ref ql, .ref qd, .ref qo, .ref qp, .int (iZ N2), .int (iZ P2)])), (qh, .inl (cJ, 150, .inr (.inl (lA hd2)))), (qm, .inl (cJ, 150, .inr (.inl (lA me2)))), (qs, .inl (cI, 150, .inl (zA se2))), (ql, .inl (cI, 900, .inl (zA ln2))), (qo, .inl (cI, 150, .inl (zA od2))), (qz, .inl (cI, 6, .inl (zA pz)))]
set_option maxHeartbeats 4000000 in
set_option maxRecDepth 100000 in
theorem ctX0_admit (l : Launch) (D : va_G) (cB cI cJ cY : ClassId) (h : Nat) (qh : Nat) (qm : Nat) (qs : Nat) (ql : Nat) (qd : Nat) (qo : Nat) (qp : Nat) (qz : Nat) (hd : Int → Int) (me : Int → Int) (se : Int → Int) (ln : Int → Int) (od : Int → Int) (pz : Int → Int) (N : Int) (P : Int) (x : Int) (y : Int) (cnt : Int) (hp : 0 ≤ P ∧ P ≤ N ∧ N ≤ 150) (hhd : ∀ j : Int, 0 ≤ j ∧ j < 150 → 0 ≤ hd j ∧ hd j < 1152921504606846976) (hod : ∀ j : Int, 0 ≤ j ∧ j < P → 0 ≤ od j ∧ od j < N) (hso : ∀ i j : Int, 0 ≤ i → i < j → j < P → hd (od i) ≤ hd (od j)) (hx : 0 ≤ x ∧ x < 1152921504606846976) (hcnt : 0 ≤ cnt ∧ cnt ≤ 6) : gM l yX0_admit wsX0_admit { frames := 1, cells := 0, slots := 0, locals := 26 } D (gT cB cI cJ cY) [.ref h, .long (lZ x), .long (lZ y), .ref qz, .int (iZ cnt)] [(h, .inr (0, [.ref qh, .ref qm, .ref qs, .ref ql, .ref qd, .ref qo, .ref qp, .int (iZ N), .int (iZ P)])), (qh, .inl (cJ, 150, .inr (.inl (lA hd)))), (qm, .inl (cJ, 150, .inr (.inl (lA me)))), (qs, .inl (cI, 150, .inl (zA se))), (ql, .inl (cI, 900, .inl (zA ln))), (qo, .inl (cI, 150, .inl (zA od))), (qz, .inl (cI, 6, .inl (zA pz)))] 0 0 (qX0_admit cB cI cJ cY h qh qm qs ql qd qo qp qz hd me se ln od pz N P x y cnt) := by
  refine g_start (cc := cX0_admit) (maxL := 10) (ret := some .int) (lv := [(0, .ref h), (1, .long (lZ x)), (3, .long (lZ y)), (5, .ref qz), (6, .int (iZ cnt))]) (by decide) rfl (Nat.le_of_ble_eq_true rfl) rfl ?_
  intro p e s m args below meth c A X hr hnm
  have hin0 : ∀ w ∈ u_ws RX0 TX0 9, w ∈ wsX0_admit := by decide +kernel
  refine g_aload_n X 0 dX0_admit_0 rfl rfl ?_
  refine g_get X (index := 35) (ref := "GuideWords$Lexicon") hin0 0 rfl rfl 7 (by decide) rfl (by decide +kernel) (v := .int (iZ N)) rfl dX0_admit_1 ?_
  refine g_sipush X dX0_admit_4 (by decide) ?_
  refine g_icmp_lt X 13 dX0_admit_7 (by decide) (by omega) (by omega) (fun c_7 => ?_) (fun c_7 => ?_)
  · skip
    refine g_aload_n X 0 dX0_admit_13 rfl rfl ?_
    refine g_get X (index := 35) (ref := "GuideWords$Lexicon") hin0 0 rfl rfl 7 (by decide) rfl (by decide +kernel) (v := .int (iZ N)) rfl dX0_admit_14 ?_
    refine g_istore (lv2 := [(7, .int (iZ N)), (0, .ref h), (1, .long (lZ x)), (3, .long (lZ y)), (5, .ref qz), (6, .int (iZ cnt))]) X dX0_admit_17 (by decide) rfl ?_
    refine g_aload_n X 1 dX0_admit_19 rfl rfl ?_
    refine g_get X (index := 9) (ref := "GuideWords$Lexicon") hin0 0 rfl rfl 0 (by decide) rfl (by decide +kernel) (v := .ref qh) rfl dX0_admit_20 ?_
    refine g_iload X 0 dX0_admit_23 rfl ?_
    refine g_lload_n X 2 dX0_admit_25 rfl rfl ?_
    refine g_last X 1 2 rfl rfl (by omega) (by decide) (ws2 := [(h, .inr (0, [.ref qh, .ref qm, .ref qs, .ref ql, .ref qd, .ref qo, .ref qp, .int (iZ N), .int (iZ P)])), (qh, .inl (cJ, 150, .inr (.inl (lA (upZ hd N x))))), (qm, .inl (cJ, 150, .inr (.inl (lA me)))), (qs, .inl (cI, 150, .inl (zA se))), (ql, .inl (cI, 900, .inl (zA ln))), (qo, .inl (cI, 150, .inl (zA od))), (qz, .inl (cI, 6, .inl (zA pz)))]) rfl dX0_admit_26 ?_
    refine g_aload_n X 1 dX0_admit_27 rfl rfl ?_
    refine g_get X (index := 15) (ref := "GuideWords$Lexicon") hin0 0 rfl rfl 1 (by decide) rfl (by decide +kernel) (v := .ref qm) rfl dX0_admit_28 ?_
    refine g_iload X 0 dX0_admit_31 rfl ?_
    refine g_lload_n X 3 dX0_admit_33 rfl rfl ?_
    refine g_last X 2 2 rfl rfl (by omega) (by decide) (ws2 := [(h, .inr (0, [.ref qh, .ref qm, .ref qs, .ref ql, .ref qd, .ref qo, .ref qp, .int (iZ N), .int (iZ P)])), (qh, .inl (cJ, 150, .inr (.inl (lA (upZ hd N x))))), (qm, .inl (cJ, 150, .inr (.inl (lA (upZ me N y))))), (qs, .inl (cI, 150, .inl (zA se))), (ql, .inl (cI, 900, .inl (zA ln))), (qo, .inl (cI, 150, .inl (zA od))), (qz, .inl (cI, 6, .inl (zA pz)))]) rfl dX0_admit_34 ?_
    refine g_aload_n X 1 dX0_admit_35 rfl rfl ?_
    refine g_get X (index := 18) (ref := "GuideWords$Lexicon") hin0 0 rfl rfl 2 (by decide) rfl (by decide +kernel) (v := .ref qs) rfl dX0_admit_36 ?_
    refine g_iload X 0 dX0_admit_39 rfl ?_
    refine g_iload X 5 dX0_admit_41 rfl ?_
    refine g_iast X 3 1 rfl rfl (by omega) (by decide) (ws2 := [(h, .inr (0, [.ref qh, .ref qm, .ref qs, .ref ql, .ref qd, .ref qo, .ref qp, .int (iZ N), .int (iZ P)])), (qh, .inl (cJ, 150, .inr (.inl (lA (upZ hd N x))))), (qm, .inl (cJ, 150, .inr (.inl (lA (upZ me N y))))), (qs, .inl (cI, 150, .inl (zA (upZ se N cnt)))), (ql, .inl (cI, 900, .inl (zA ln))), (qo, .inl (cI, 150, .inl (zA od))), (qz, .inl (cI, 6, .inl (zA pz)))]) rfl dX0_admit_43 ?_
    refine g_iconst X dX0_admit_44 ?_
    refine g_istore (lv2 := [(8, .int (iZ 0)), (7, .int (iZ N)), (0, .ref h), (1, .long (lZ x)), (3, .long (lZ y)), (5, .ref qz), (6, .int (iZ cnt))]) X dX0_admit_45 (by decide) rfl ?_
    refine g_lv (lv' := [(0, .ref h), (1, .long (lZ x)), (3, .long (lZ y)), (5, .ref qz), (6, .int (iZ cnt)), (7, .int (iZ N)), (8, .int (iZ 0))]) [2, 3, 4, 5, 6, 1, 0] rfl ?_
    have loop_47 : ∀ (kf : Nat) (i : Int) (g : Int → Int), (hi : 0 ≤ i ∧ i ≤ cnt) → (hg1 : ∀ s : Int, 0 ≤ s → s < i → g (N * 6 + s) = pz s) → (hg2 : ∀ j : Int, (j < N * 6 ∨ N * 6 + i ≤ j) → g j = ln j) → (cnt - i).toNat < kf → gW p l e { frames := 1, cells := 0, slots := 0, locals := 26 } s m args below meth c D A 10 0 0 (MQ below (gQ D (gT cB cI cJ cY) (qX0_admit cB cI cJ cY h qh qm qs ql qd qo qp qz hd me se ln od pz N P x y cnt) A) args s 0 0 A) [(h, .inr (0, [.ref qh, .ref qm, .ref qs, .ref ql, .ref qd, .ref qo, .ref qp, .int (iZ N), .int (iZ P)])), (qh, .inl (cJ, 150, .inr (.inl (lA (upZ hd N x))))), (qm, .inl (cJ, 150, .inr (.inl (lA (upZ me N y))))), (qs, .inl (cI, 150, .inl (zA (upZ se N cnt)))), (ql, .inl (cI, 900, .inl (zA g))), (qo, .inl (cI, 150, .inl (zA od))), (qz, .inl (cI, 6, .inl (zA pz)))] 47 [(0, .ref h), (1, .long (lZ x)), (3, .long (lZ y)), (5, .ref qz), (6, .int (iZ cnt)), (7, .int (iZ N)), (8, .int (iZ i))] [] := by
      intro kf
      induction kf with
      | zero => intro i g hi hg1 hg2 hm; exact absurd hm (Nat.not_lt_zero _)
      | succ kf ih_47 =>
        intro i g hi hg1 hg2 hm
        refine g_iload X 6 dX0_admit_47 rfl ?_
        refine g_iload X 4 dX0_admit_49 rfl ?_
        refine g_icmp_ge X 78 dX0_admit_51 (by decide) (by omega) (by omega) (fun c_51 => ?_) (fun c_51 => ?_)
        · skip
          have hhd2 : ∀ j : Int, 0 ≤ j ∧ j < 150 → 0 ≤ upZ hd N x j ∧ upZ hd N x j < 1152921504606846976 := fun j hj => by
            unfold upZ; split
            · exact hx
            · exact hhd j hj
          have hso2 : ∀ i j : Int, 0 ≤ i → i < j → j < P → upZ hd N x (od i) ≤ upZ hd N x (od j) := fun i j h1 h2 h3 => by
            have h4 := hod i (by omega); have h5 := hod j (by omega)
            rw [upZ_n (by omega), upZ_n (by omega)]; exact hso i j h1 h2 h3
          refine g_aload_n X 0 dX0_admit_78 rfl rfl ?_
          refine g_lload_n X 1 dX0_admit_79 rfl rfl ?_
          refine g_lconst (z := 1) X dX0_admit_80 rfl ?_
          refine g_ladd X dX0_admit_81 ?_
          refine g_callV0 X (As := [.long (lZ (x + 1))]) (rest := []) (ctX0_headsBelow l D cB cI cJ cY h qh qm qs ql qd qo qp (upZ hd N x) od N P (x + 1) (by first | assumption | omega) hhd2 hod hso2 (by first | assumption | omega)) (cwV 1 X.2.2.2.2.1 gX0_admit_X0_headsBelow rfl rfl rfl (by decide +kernel) ⟨by decide, by decide⟩) 0 rfl rfl (wc := [(h, .inr (0, [.ref qh, .ref qm, .ref qs, .ref ql, .ref qd, .ref qo, .ref qp, .int (iZ N), .int (iZ P)])), (qh, .inl (cJ, 150, .inr (.inl (lA (upZ hd N x))))), (qo, .inl (cI, 150, .inl (zA od)))]) (wr := [(qm, .inl (cJ, 150, .inr (.inl (lA (upZ me N y))))), (qs, .inl (cI, 150, .inl (zA (upZ se N cnt)))), (ql, .inl (cI, 900, .inl (zA g))), (qz, .inl (cI, 6, .inl (zA pz)))]) [0, 1, 5] [2, 3, 4, 6] rfl rfl (by decide) (by decide) (by decide) rfl rfl (Nat.le_of_ble_eq_true rfl) ⟨by decide, by decide⟩ dX0_admit_82 (fun v w1 hq => ?_)
          obtain ⟨b, rfl, hb, rfl⟩ := hq
          refine g_eq (ws' := [(qm, .inl (cJ, 150, .inr (.inl (lA (upZ me N y))))), (qs, .inl (cI, 150, .inl (zA (upZ se N cnt)))), (ql, .inl (cI, 900, .inl (zA g))), (qz, .inl (cI, 6, .inl (zA pz))), (h, .inr (0, [.ref qh, .ref qm, .ref qs, .ref ql, .ref qd, .ref qo, .ref qp, .int (iZ N), .int (iZ P)])), (qh, .inl (cJ, 150, .inr (.inl (lA ((upZ hd N x)))))), (qo, .inl (cI, 150, .inl (zA od)))]) (pc' := 85) (st' := [.int (iZ b)]) rfl rfl rfl rfl ?_
          refine g_perm (ws' := [(h, .inr (0, [.ref qh, .ref qm, .ref qs, .ref ql, .ref qd, .ref qo, .ref qp, .int (iZ N), .int (iZ P)])), (qh, .inl (cJ, 150, .inr (.inl (lA ((upZ hd N x)))))), (qm, .inl (cJ, 150, .inr (.inl (lA (upZ me N y))))), (qs, .inl (cI, 150, .inl (zA (upZ se N cnt)))), (ql, .inl (cI, 900, .inl (zA g))), (qo, .inl (cI, 150, .inl (zA od))), (qz, .inl (cI, 6, .inl (zA pz)))]) [4, 5, 0, 1, 2, 6, 3] (by decide) rfl ?_
          have hb2 : belowZ hd od P (x + 1) b := ⟨hb.1, hb.2.1, fun k h1 h2 => by have h3 := hb.2.2.1 k h1 h2; have h4 := hod k (by have := hb.2.1; omega); rw [upZ_n (by omega)] at h3; exact h3, fun k h1 h2 => by have h3 := hb.2.2.2 k h1 h2; have h4 := hod k (by have := hb.1; omega); rw [upZ_n (by omega)] at h3; exact h3⟩
          obtain ⟨b1, b2, b3, b4⟩ := id hb2
          refine g_istore (lv2 := [(8, .int (iZ b)), (0, .ref h), (1, .long (lZ x)), (3, .long (lZ y)), (5, .ref qz), (6, .int (iZ cnt)), (7, .int (iZ N))]) X dX0_admit_85 (by decide) rfl ?_
          refine g_aload_n X 1 dX0_admit_87 rfl rfl ?_
          refine g_get X (index := 43) (ref := "GuideWords$Lexicon") hin0 0 rfl rfl 8 (by decide) rfl (by decide +kernel) (v := .int (iZ P)) rfl dX0_admit_88 ?_
          refine g_istore (lv2 := [(9, .int (iZ P)), (8, .int (iZ b)), (0, .ref h), (1, .long (lZ x)), (3, .long (lZ y)), (5, .ref qz), (6, .int (iZ cnt)), (7, .int (iZ N))]) X dX0_admit_91 (by decide) rfl ?_
          refine g_lv (lv' := [(0, .ref h), (7, .int (iZ N)), (8, .int (iZ b)), (9, .int (iZ P))]) [2, 7, 1, 0] rfl ?_
          have loop_93 : ∀ (kf : Nat) (k : Int) (g2 : Int → Int), (hk : b ≤ k ∧ k ≤ P) → (hm1 : ∀ j : Int, 0 ≤ j → j ≤ k → g2 j = od j) → (hm2 : ∀ j : Int, k < j → j ≤ P → g2 j = od (j - 1)) → (k - b).toNat < kf → gW p l e { frames := 1, cells := 0, slots := 0, locals := 26 } s m args below meth c D A 10 0 0 (MQ below (gQ D (gT cB cI cJ cY) (qX0_admit cB cI cJ cY h qh qm qs ql qd qo qp qz hd me se ln od pz N P x y cnt) A) args s 0 0 A) [(h, .inr (0, [.ref qh, .ref qm, .ref qs, .ref ql, .ref qd, .ref qo, .ref qp, .int (iZ N), .int (iZ P)])), (qh, .inl (cJ, 150, .inr (.inl (lA ((upZ hd N x)))))), (qm, .inl (cJ, 150, .inr (.inl (lA (upZ me N y))))), (qs, .inl (cI, 150, .inl (zA (upZ se N cnt)))), (ql, .inl (cI, 900, .inl (zA g))), (qo, .inl (cI, 150, .inl (zA g2))), (qz, .inl (cI, 6, .inl (zA pz)))] 93 [(0, .ref h), (7, .int (iZ N)), (8, .int (iZ b)), (9, .int (iZ k))] [] := by
            intro kf
            induction kf with
            | zero => intro k g2 hk hm1 hm2 hm; exact absurd hm (Nat.not_lt_zero _)
            | succ kf ih_93 =>
              intro k g2 hk hm1 hm2 hm
              refine g_iload X 3 dX0_admit_93 rfl ?_
              refine g_iload X 2 dX0_admit_95 rfl ?_
              refine g_icmp_le X 122 dX0_admit_97 (by decide) (by omega) (by omega) (fun c_97 => ?_) (fun c_97 => ?_)
              · skip
                refine g_aload_n X 0 dX0_admit_122 rfl rfl ?_
                refine g_get X (index := 29) (ref := "GuideWords$Lexicon") hin0 0 rfl rfl 5 (by decide) rfl (by decide +kernel) (v := .ref qo) rfl dX0_admit_123 ?_
                refine g_iload X 2 dX0_admit_126 rfl ?_
                refine g_iload X 1 dX0_admit_128 rfl ?_
                refine g_iast X 5 1 rfl rfl (by omega) (by decide) (ws2 := [(h, .inr (0, [.ref qh, .ref qm, .ref qs, .ref ql, .ref qd, .ref qo, .ref qp, .int (iZ N), .int (iZ P)])), (qh, .inl (cJ, 150, .inr (.inl (lA ((upZ hd N x)))))), (qm, .inl (cJ, 150, .inr (.inl (lA (upZ me N y))))), (qs, .inl (cI, 150, .inl (zA (upZ se N cnt)))), (ql, .inl (cI, 900, .inl (zA g))), (qo, .inl (cI, 150, .inl (zA (upZ g2 b N)))), (qz, .inl (cI, 6, .inl (zA pz)))]) rfl dX0_admit_130 ?_
                refine g_aload_n X 0 dX0_admit_131 rfl rfl ?_
                refine g_dup X dX0_admit_132 rfl ?_
                refine g_get X (index := 43) (ref := "GuideWords$Lexicon") hin0 0 rfl rfl 8 (by decide) rfl (by decide +kernel) (v := .int (iZ P)) rfl dX0_admit_133 ?_
                refine g_iconst X dX0_admit_136 ?_
                refine g_iadd X dX0_admit_137 ?_
                refine g_put X (index := 43) (ref := "GuideWords$Lexicon") hin0 0 rfl rfl 8 (by decide) rfl tyX0 tyX0_ok nmX0 (by decide +kernel) rfl rfl rfl rfl (Nat.le_of_ble_eq_true rfl) (ws2 := [(h, .inr (0, [.ref qh, .ref qm, .ref qs, .ref ql, .ref qd, .ref qo, .ref qp, .int (iZ N), .int (iZ (P + 1))])), (qh, .inl (cJ, 150, .inr (.inl (lA ((upZ hd N x)))))), (qm, .inl (cJ, 150, .inr (.inl (lA (upZ me N y))))), (qs, .inl (cI, 150, .inl (zA (upZ se N cnt)))), (ql, .inl (cI, 900, .inl (zA g))), (qo, .inl (cI, 150, .inl (zA (upZ g2 b N)))), (qz, .inl (cI, 6, .inl (zA pz)))]) rfl dX0_admit_138 ?_
                refine g_aload_n X 0 dX0_admit_141 rfl rfl ?_
                refine g_dup X dX0_admit_142 rfl ?_
                refine g_get X (index := 35) (ref := "GuideWords$Lexicon") hin0 0 rfl rfl 7 (by decide) rfl (by decide +kernel) (v := .int (iZ N)) rfl dX0_admit_143 ?_
                refine g_iconst X dX0_admit_146 ?_
                refine g_iadd X dX0_admit_147 ?_
                refine g_put X (index := 35) (ref := "GuideWords$Lexicon") hin0 0 rfl rfl 7 (by decide) rfl tyX0 tyX0_ok nmX0 (by decide +kernel) rfl rfl rfl rfl (Nat.le_of_ble_eq_true rfl) (ws2 := [(h, .inr (0, [.ref qh, .ref qm, .ref qs, .ref ql, .ref qd, .ref qo, .ref qp, .int (iZ (N + 1)), .int (iZ (P + 1))])), (qh, .inl (cJ, 150, .inr (.inl (lA ((upZ hd N x)))))), (qm, .inl (cJ, 150, .inr (.inl (lA (upZ me N y))))), (qs, .inl (cI, 150, .inl (zA (upZ se N cnt)))), (ql, .inl (cI, 900, .inl (zA g))), (qo, .inl (cI, 150, .inl (zA (upZ g2 b N)))), (qz, .inl (cI, 6, .inl (zA pz)))]) rfl dX0_admit_148 ?_
                refine g_iload X 1 dX0_admit_151 rfl ?_
                exact g_iret X hr (by decide) (by decide) dX0_admit_153 ⟨_, _, _, _, _, _, _, _, rfl, Or.inr ⟨by omega, rfl, rfl, rfl, rfl, fun s h1 h2 => hg1 s h1 (by omega), fun j h => hg2 j (by omega), ⟨b, hb2, fun j h1 h2 => by rw [upZ_n (by omega)]; exact hm1 j h1 (by omega), by rw [upZ_s], fun j h1 h2 => by rw [upZ_n (by omega)]; exact hm2 j (by omega) h2⟩, rfl, rfl⟩, rfl⟩
              · skip
                refine g_aload_n X 0 dX0_admit_100 rfl rfl ?_
                refine g_get X (index := 29) (ref := "GuideWords$Lexicon") hin0 0 rfl rfl 5 (by decide) rfl (by decide +kernel) (v := .ref qo) rfl dX0_admit_101 ?_
                refine g_iload X 3 dX0_admit_104 rfl ?_
                refine g_aload_n X 0 dX0_admit_106 rfl rfl ?_
                refine g_get X (index := 29) (ref := "GuideWords$Lexicon") hin0 0 rfl rfl 5 (by decide) rfl (by decide +kernel) (v := .ref qo) rfl dX0_admit_107 ?_
                refine g_iload X 3 dX0_admit_110 rfl ?_
                refine g_iconst X dX0_admit_112 ?_
                refine g_isub X dX0_admit_113 ?_
                refine g_iald X 5 1 rfl rfl (by omega) (by decide) dX0_admit_114 ?_
                refine g_topi (b := od (k - 1)) (hm1 (k - 1) (by omega) (by omega)) ?_
                refine g_iast X 5 1 rfl rfl (by omega) (by decide) (ws2 := [(h, .inr (0, [.ref qh, .ref qm, .ref qs, .ref ql, .ref qd, .ref qo, .ref qp, .int (iZ N), .int (iZ P)])), (qh, .inl (cJ, 150, .inr (.inl (lA ((upZ hd N x)))))), (qm, .inl (cJ, 150, .inr (.inl (lA (upZ me N y))))), (qs, .inl (cI, 150, .inl (zA (upZ se N cnt)))), (ql, .inl (cI, 900, .inl (zA g))), (qo, .inl (cI, 150, .inl (zA (upZ g2 k (od (k - 1)))))), (qz, .inl (cI, 6, .inl (zA pz)))]) rfl dX0_admit_115 ?_
                refine g_iinc (q := 3) (lv2 := [(9, .int (iZ (k + (-1)))), (0, .ref h), (7, .int (iZ N)), (8, .int (iZ b))]) X dX0_admit_116 rfl (by decide) rfl ?_
                refine g_goto X 93 dX0_admit_119 (by decide) ?_
                refine g_lv (lv' := [(0, .ref h), (7, .int (iZ N)), (8, .int (iZ b)), (9, .int (iZ (k + (-1))))]) [1, 2, 3, 0] rfl ?_
                exact ih_93 (k + (-1)) (upZ g2 k (od (k - 1))) (by omega) (fun j h1 h2 => by rw [upZ_n (by omega)]; exact hm1 j h1 (by omega)) (fun j h1 h2 => by
                    rcases (show j = k ∨ k < j by omega) with h | h
                    · rw [h, upZ_s]
                    · rw [upZ_n (by omega)]; exact hm2 j h h2) (by omega)
          exact loop_93 _ P od (by omega) (fun j _ _ => rfl) (fun j h1 h2 => by omega) (Nat.lt_succ_self _)
        · skip
          refine g_aload_n X 0 dX0_admit_54 rfl rfl ?_
          refine g_get X (index := 22) (ref := "GuideWords$Lexicon") hin0 0 rfl rfl 3 (by decide) rfl (by decide +kernel) (v := .ref ql) rfl dX0_admit_55 ?_
          refine g_iload X 5 dX0_admit_58 rfl ?_
          refine g_bipush X dX0_admit_60 (by decide) ?_
          refine g_imul X dX0_admit_62 ?_
          refine g_iload X 6 dX0_admit_63 rfl ?_
          refine g_iadd X dX0_admit_65 ?_
          refine g_aload X 3 dX0_admit_66 rfl ?_
          refine g_iload X 6 dX0_admit_68 rfl ?_
          refine g_iald X 6 1 rfl rfl (by omega) (by decide) dX0_admit_70 ?_
          refine g_iast X 4 1 rfl rfl (by omega) (by decide) (ws2 := [(h, .inr (0, [.ref qh, .ref qm, .ref qs, .ref ql, .ref qd, .ref qo, .ref qp, .int (iZ N), .int (iZ P)])), (qh, .inl (cJ, 150, .inr (.inl (lA (upZ hd N x))))), (qm, .inl (cJ, 150, .inr (.inl (lA (upZ me N y))))), (qs, .inl (cI, 150, .inl (zA (upZ se N cnt)))), (ql, .inl (cI, 900, .inl (zA (upZ g ((N * 6) + i) (pz i))))), (qo, .inl (cI, 150, .inl (zA od))), (qz, .inl (cI, 6, .inl (zA pz)))]) rfl dX0_admit_71 ?_
          refine g_iinc (q := 6) (lv2 := [(8, .int (iZ (i + 1))), (0, .ref h), (1, .long (lZ x)), (3, .long (lZ y)), (5, .ref qz), (6, .int (iZ cnt)), (7, .int (iZ N))]) X dX0_admit_72 rfl (by decide) rfl ?_
          refine g_goto X 47 dX0_admit_75 (by decide) ?_
          refine g_lv (lv' := [(0, .ref h), (1, .long (lZ x)), (3, .long (lZ y)), (5, .ref qz), (6, .int (iZ cnt)), (7, .int (iZ N)), (8, .int (iZ (i + 1)))]) [1, 2, 3, 4, 5, 6, 0] rfl ?_
          exact ih_47 (i + 1) (upZ g ((N * 6) + i) (pz i)) (by omega) (fun s h1 h2 => by
              rcases (show s = i ∨ s < i by omega) with h | h
              · rw [h, upZ_s]
              · rw [upZ_n (by omega)]; exact hg1 s h1 h) (fun j h => by rw [upZ_n (by omega)]; exact hg2 j (by omega)) (by omega)
    exact loop_47 _ 0 ln (by omega) (fun s h1 h2 => by omega) (fun j _ => rfl) (Nat.lt_succ_self _)
  · skip
    refine g_bipush X dX0_admit_10 (by decide) ?_
    exact g_iret X hr (by decide) (by decide) dX0_admit_12 ⟨_, hd, me, se, ln, od, N, P, rfl, Or.inl ⟨by omega, rfl, rfl, rfl, rfl, rfl, rfl, rfl, rfl⟩, rfl⟩
def qX0_sumLines (cB cI cJ cY : ClassId) (h : Nat) (qh : Nat) (qm : Nat) (qs : Nat) (ql : Nat) (qd : Nat) (qo : Nat) (qp : Nat) (qz : Nat) (hd : Int → Int) (se : Int → Int) (ln : Int → Int) (od : Int → Int) (pz : Int → Int) (N : Int) (P : Int) (ab : Int) : Option Value → va_W → Prop := fun rv w1 => ∃ (r : Int) (pz2 : Int → Int), rv = some (.int (iZ r)) ∧ r = smT hd se ln od ab (fillZ pz 0 26) P.toNat ∧ pz2 = smG hd se ln od ab (fillZ pz 0 26) P.toNat ∧ (∀ l9 : Int, 0 ≤ l9 ∧ l9 < 26 → 0 ≤ pz2 l9 ∧ pz2 l9 ≤ 123 * P) ∧ (0 ≤ r ∧ r ≤ 123 * P) ∧ w1 = [(h, .inr (0, [.ref qh, .ref qm, .ref qs, .ref ql, .ref qd, .ref qo, .ref qp, .int (iZ N), .int (iZ P)])), (qh, .inl (cJ, 150, .inr (.inl (lA hd)))), (qs, .inl (cI, 150, .inl (zA se))), (ql, .inl (cI, 900, .inl (zA ln))), (qo, .inl (cI, 150, .inl (zA od))), (qz, .inl (cI, 26, .inl (zA pz2)))]
set_option maxHeartbeats 4000000 in
set_option maxRecDepth 100000 in
theorem ctX0_sumLines (l : Launch) (D : va_G) (cB cI cJ cY : ClassId) (h : Nat) (qh : Nat) (qm : Nat) (qs : Nat) (ql : Nat) (qd : Nat) (qo : Nat) (qp : Nat) (qz : Nat) (hd : Int → Int) (se : Int → Int) (ln : Int → Int) (od : Int → Int) (pz : Int → Int) (N : Int) (P : Int) (ab : Int) (hp : 0 ≤ P ∧ P ≤ N ∧ N ≤ 150) (hhd : ∀ j : Int, 0 ≤ j ∧ j < 150 → 0 ≤ hd j ∧ hd j < 1152921504606846976) (hod : ∀ j : Int, 0 ≤ j ∧ j < P → 0 ≤ od j ∧ od j < N) (hlt : ∀ a : Int, 0 ≤ a ∧ a < N → 0 ≤ ltZ hd a ∧ ltZ hd a < 26) (hse : ∀ a : Int, 0 ≤ a ∧ a < N → 0 ≤ se a ∧ se a ≤ 6) (hln : ∀ j : Int, 0 ≤ j ∧ j < 900 → 0 ≤ ln j ∧ ln j ≤ 20) (hab : 0 ≤ ab ∧ ab ≤ 3) : gM l yX0_sumLines wsX0_sumLines { frames := 2, cells := 0, slots := 0, locals := 42 } D (gT cB cI cJ cY) [.ref h, .ref qz, .int (iZ ab)] [(h, .inr (0, [.ref qh, .ref qm, .ref qs, .ref ql, .ref qd, .ref qo, .ref qp, .int (iZ N), .int (iZ P)])), (qh, .inl (cJ, 150, .inr (.inl (lA hd)))), (qs, .inl (cI, 150, .inl (zA se))), (ql, .inl (cI, 900, .inl (zA ln))), (qo, .inl (cI, 150, .inl (zA od))), (qz, .inl (cI, 26, .inl (zA pz)))] 0 0 (qX0_sumLines cB cI cJ cY h qh qm qs ql qd qo qp qz hd se ln od pz N P ab) := by
  refine g_start (cc := cX0_sumLines) (maxL := 9) (ret := some .int) (lv := [(0, .ref h), (1, .ref qz), (2, .int (iZ ab))]) (by decide) rfl (Nat.le_of_ble_eq_true rfl) rfl ?_
  intro p e s m args below meth c A X hr hnm
  have hin0 : ∀ w ∈ u_ws RX0 TX0 9, w ∈ wsX0_sumLines := by decide +kernel
  refine g_aload_n X 1 dX0_sumLines_0 rfl rfl ?_
  refine g_iconst X dX0_sumLines_1 ?_
  refine g_callS0 X (As := [.ref qz, .int (iZ 0)]) (rest := []) (ctJ7_fill_53178 l D cB cI cJ cY qz 26 pz 0 (by first | assumption | omega)) (va_cwS 2 X.2.2.2.2.1 gX0_sumLines_J7_fill_53178 rfl rfl rfl (by decide +kernel) ⟨by decide, by decide⟩) (wc := [(qz, .inl (cI, 26, .inl (zA pz)))]) (wr := [(h, .inr (0, [.ref qh, .ref qm, .ref qs, .ref ql, .ref qd, .ref qo, .ref qp, .int (iZ N), .int (iZ P)])), (qh, .inl (cJ, 150, .inr (.inl (lA hd)))), (qs, .inl (cI, 150, .inl (zA se))), (ql, .inl (cI, 900, .inl (zA ln))), (qo, .inl (cI, 150, .inl (zA od)))]) [5] [0, 1, 2, 3, 4] rfl rfl (by decide) (by decide) (by decide) rfl rfl (Nat.le_of_ble_eq_true rfl) ⟨by decide, by decide⟩ dX0_sumLines_2 (fun v w1 hq => ?_)
  obtain ⟨rfl, rfl⟩ := hq
  refine g_eq (ws' := [(h, .inr (0, [.ref qh, .ref qm, .ref qs, .ref ql, .ref qd, .ref qo, .ref qp, .int (iZ N), .int (iZ P)])), (qh, .inl (cJ, 150, .inr (.inl (lA hd)))), (qs, .inl (cI, 150, .inl (zA se))), (ql, .inl (cI, 900, .inl (zA ln))), (qo, .inl (cI, 150, .inl (zA od))), (qz, .inl (cI, 26, .inl (zA (fillZ pz 0 26))))]) (pc' := 5) (st' := []) rfl rfl rfl rfl ?_
  refine g_iconst X dX0_sumLines_5 ?_
  refine g_istore_n (lv2 := [(3, .int (iZ 0)), (0, .ref h), (1, .ref qz), (2, .int (iZ ab))]) X dX0_sumLines_6 rfl (by decide) rfl ?_
  refine g_iconst X dX0_sumLines_7 ?_
  refine g_istore (lv2 := [(4, .int (iZ 0)), (3, .int (iZ 0)), (0, .ref h), (1, .ref qz), (2, .int (iZ ab))]) X dX0_sumLines_8 (by decide) rfl ?_
  refine g_lv (lv' := [(0, .ref h), (1, .ref qz), (2, .int (iZ ab)), (3, .int (iZ 0)), (4, .int (iZ 0))]) [2, 3, 4, 1, 0] rfl ?_
  have loop_10 : ∀ (kf : Nat) (sm : Int) (k : Int) (g : Int → Int), (hk : 0 ≤ k ∧ k ≤ P) → (hg : g = smG hd se ln od ab (fillZ pz 0 26) k.toNat) → (hs : sm = smT hd se ln od ab (fillZ pz 0 26) k.toNat) → (hgr : ∀ l9 : Int, 0 ≤ l9 ∧ l9 < 26 → 0 ≤ g l9 ∧ g l9 ≤ 123 * k) → (hsr : 0 ≤ sm ∧ sm ≤ 123 * k) → (P - k).toNat < kf → gW p l e { frames := 2, cells := 0, slots := 0, locals := 42 } s m args below meth c D A 9 0 0 (MQ below (gQ D (gT cB cI cJ cY) (qX0_sumLines cB cI cJ cY h qh qm qs ql qd qo qp qz hd se ln od pz N P ab) A) args s 0 0 A) [(h, .inr (0, [.ref qh, .ref qm, .ref qs, .ref ql, .ref qd, .ref qo, .ref qp, .int (iZ N), .int (iZ P)])), (qh, .inl (cJ, 150, .inr (.inl (lA hd)))), (qs, .inl (cI, 150, .inl (zA se))), (ql, .inl (cI, 900, .inl (zA ln))), (qo, .inl (cI, 150, .inl (zA od))), (qz, .inl (cI, 26, .inl (zA g)))] 10 [(0, .ref h), (1, .ref qz), (2, .int (iZ ab)), (3, .int (iZ sm)), (4, .int (iZ k))] [] := by
    intro kf
    induction kf with
    | zero => intro sm k g hk hg hs hgr hsr hm; exact absurd hm (Nat.not_lt_zero _)
    | succ kf ih_10 =>
      intro sm k g hk hg hs hgr hsr hm
      refine g_iload X 4 dX0_sumLines_10 rfl ?_
      refine g_aload_n X 0 dX0_sumLines_12 rfl rfl ?_
      refine g_get X (index := 43) (ref := "GuideWords$Lexicon") hin0 0 rfl rfl 8 (by decide) rfl (by decide +kernel) (v := .int (iZ P)) rfl dX0_sumLines_13 ?_
      refine g_icmp_ge X 109 dX0_sumLines_16 (by decide) (by omega) (by omega) (fun c_16 => ?_) (fun c_16 => ?_)
      · skip
        refine g_iload_n X 3 dX0_sumLines_109 rfl rfl ?_
        exact g_iret X hr (by decide) (by decide) dX0_sumLines_110 ⟨_, g, rfl, by rw [hs, show k = P by omega], by rw [hg, show k = P by omega], fun l9 h => by have := hgr l9 h; omega, by omega, rfl⟩
      · skip
        refine g_aload_n X 0 dX0_sumLines_19 rfl rfl ?_
        refine g_get X (index := 29) (ref := "GuideWords$Lexicon") hin0 0 rfl rfl 5 (by decide) rfl (by decide +kernel) (v := .ref qo) rfl dX0_sumLines_20 ?_
        refine g_iload X 4 dX0_sumLines_23 rfl ?_
        refine g_iald X 4 1 rfl rfl (by omega) (by decide) dX0_sumLines_25 ?_
        have r_25 := hod k (by omega)
        refine g_istore (lv2 := [(5, .int (iZ (od k))), (0, .ref h), (1, .ref qz), (2, .int (iZ ab)), (3, .int (iZ sm)), (4, .int (iZ k))]) X dX0_sumLines_26 (by decide) rfl ?_
        refine g_aload_n X 1 dX0_sumLines_28 rfl rfl ?_
        refine g_iload X 0 dX0_sumLines_29 rfl ?_
        refine g_callV0 X (As := [.int (iZ (od k))]) (rest := []) (ctX0_letterOf l D cB cI cJ cY h qh qm qs ql qd qo qp hd N P (od k) (by first | assumption | omega) (by first | assumption | omega)) (cwV 1 X.2.2.2.2.1 gX0_sumLines_X0_letterOf rfl rfl rfl (by decide +kernel) ⟨by decide, by decide⟩) 0 rfl rfl (wc := [(h, .inr (0, [.ref qh, .ref qm, .ref qs, .ref ql, .ref qd, .ref qo, .ref qp, .int (iZ N), .int (iZ P)])), (qh, .inl (cJ, 150, .inr (.inl (lA hd))))]) (wr := [(qs, .inl (cI, 150, .inl (zA se))), (ql, .inl (cI, 900, .inl (zA ln))), (qo, .inl (cI, 150, .inl (zA od))), (qz, .inl (cI, 26, .inl (zA g)))]) [0, 1] [2, 3, 4, 5] rfl rfl (by decide) (by decide) (by decide) rfl rfl (Nat.le_of_ble_eq_true rfl) ⟨by decide, by decide⟩ dX0_sumLines_31 (fun v w1 hq => ?_)
        obtain ⟨rfl, rfl⟩ := hq
        refine g_eq (ws' := [(qs, .inl (cI, 150, .inl (zA se))), (ql, .inl (cI, 900, .inl (zA ln))), (qo, .inl (cI, 150, .inl (zA od))), (qz, .inl (cI, 26, .inl (zA g))), (h, .inr (0, [.ref qh, .ref qm, .ref qs, .ref ql, .ref qd, .ref qo, .ref qp, .int (iZ N), .int (iZ P)])), (qh, .inl (cJ, 150, .inr (.inl (lA hd))))]) (pc' := 34) (st' := [.int (iZ (hd (od k) / 36028797018963968 - 1))]) rfl rfl rfl rfl ?_
        refine g_perm (ws' := [(h, .inr (0, [.ref qh, .ref qm, .ref qs, .ref ql, .ref qd, .ref qo, .ref qp, .int (iZ N), .int (iZ P)])), (qh, .inl (cJ, 150, .inr (.inl (lA hd)))), (qs, .inl (cI, 150, .inl (zA se))), (ql, .inl (cI, 900, .inl (zA ln))), (qo, .inl (cI, 150, .inl (zA od))), (qz, .inl (cI, 26, .inl (zA g)))]) [4, 5, 0, 1, 2, 3] (by decide) rfl ?_
        refine g_istore (lv2 := [(6, .int (iZ (hd (od k) / 36028797018963968 - 1))), (5, .int (iZ (od k))), (0, .ref h), (1, .ref qz), (2, .int (iZ ab)), (3, .int (iZ sm)), (4, .int (iZ k))]) X dX0_sumLines_34 (by decide) rfl ?_
        have h26 : 0 ≤ (hd (od k) / 36028797018963968 - 1) ∧ (hd (od k) / 36028797018963968 - 1) < 26 := hlt (od k) r_25
        refine g_aload_n X 3 dX0_sumLines_36 rfl rfl ?_
        refine g_iload X 0 dX0_sumLines_37 rfl ?_
        refine g_iald X 5 1 rfl rfl (by omega) (by decide) dX0_sumLines_39 ?_
        have r_39 := hgr (hd (od k) / 36028797018963968 - 1) (by omega)
        refine g_if_ne X 47 dX0_sumLines_40 (by decide) (by omega) (fun c_40 => ?_) (fun c_40 => ?_)
        · skip
          refine g_iconst X dX0_sumLines_47 ?_
          refine g_istore (lv2 := [(7, .int (iZ 0)), (6, .int (iZ (hd (od k) / 36028797018963968 - 1))), (5, .int (iZ (od k))), (0, .ref h), (1, .ref qz), (2, .int (iZ ab)), (3, .int (iZ sm)), (4, .int (iZ k))]) X dX0_sumLines_48 (by decide) rfl ?_
          have r_59 := hse (od k) r_25
          refine g_iconst X dX0_sumLines_50 ?_
          refine g_istore (lv2 := [(8, .int (iZ 0)), (7, .int (iZ 0)), (6, .int (iZ (hd (od k) / 36028797018963968 - 1))), (5, .int (iZ (od k))), (0, .ref h), (1, .ref qz), (2, .int (iZ ab)), (3, .int (iZ sm)), (4, .int (iZ k))]) X dX0_sumLines_51 (by decide) rfl ?_
          refine g_lv (lv' := [(0, .ref h), (1, .ref qz), (2, .int (iZ ab)), (3, .int (iZ sm)), (4, .int (iZ k)), (5, .int (iZ (od k))), (6, .int (iZ (hd (od k) / 36028797018963968 - 1))), (7, .int (iZ 0)), (8, .int (iZ 0))]) [4, 5, 6, 7, 8, 3, 2, 1, 0] rfl ?_
          have loop_53 : ∀ (kf : Nat) (mo : Int) (s9 : Int), (hs9 : 0 ≤ s9 ∧ s9 ≤ se (od k)) → (hmo : mo = (if g (hd (od k) / 36028797018963968 - 1) = 0 then ab else 0) + seS ln (od k) s9.toNat) → (hmr : 0 ≤ mo ∧ mo ≤ 3 + 20 * s9) → (se (od k) - s9).toNat < kf → gW p l e { frames := 2, cells := 0, slots := 0, locals := 42 } s m args below meth c D A 9 0 0 (MQ below (gQ D (gT cB cI cJ cY) (qX0_sumLines cB cI cJ cY h qh qm qs ql qd qo qp qz hd se ln od pz N P ab) A) args s 0 0 A) [(h, .inr (0, [.ref qh, .ref qm, .ref qs, .ref ql, .ref qd, .ref qo, .ref qp, .int (iZ N), .int (iZ P)])), (qh, .inl (cJ, 150, .inr (.inl (lA hd)))), (qs, .inl (cI, 150, .inl (zA se))), (ql, .inl (cI, 900, .inl (zA ln))), (qo, .inl (cI, 150, .inl (zA od))), (qz, .inl (cI, 26, .inl (zA g)))] 53 [(0, .ref h), (1, .ref qz), (2, .int (iZ ab)), (3, .int (iZ sm)), (4, .int (iZ k)), (5, .int (iZ (od k))), (6, .int (iZ (hd (od k) / 36028797018963968 - 1))), (7, .int (iZ mo)), (8, .int (iZ s9))] [] := by
            intro kf
            induction kf with
            | zero => intro mo s9 hs9 hmo hmr hm; exact absurd hm (Nat.not_lt_zero _)
            | succ kf ih_53 =>
              intro mo s9 hs9 hmo hmr hm
              refine g_iload X 8 dX0_sumLines_53 rfl ?_
              refine g_aload_n X 0 dX0_sumLines_55 rfl rfl ?_
              refine g_get X (index := 18) (ref := "GuideWords$Lexicon") hin0 0 rfl rfl 2 (by decide) rfl (by decide +kernel) (v := .ref qs) rfl dX0_sumLines_56 ?_
              refine g_iload X 5 dX0_sumLines_59 rfl ?_
              refine g_iald X 2 1 rfl rfl (by omega) (by decide) dX0_sumLines_61 ?_
              have r_61 := hse (od k) (by omega)
              refine g_icmp_ge X 89 dX0_sumLines_62 (by decide) (by omega) (by omega) (fun c_62 => ?_) (fun c_62 => ?_)
              · skip
                have hse9 : s9 = se (od k) := by omega
                have hmo2 : mo = moZ hd se ln ab g (od k) := by rw [hmo, hse9]; rfl
                have hk1 : (k + 1).toNat = k.toNat + 1 := by omega
                have hk2 : ((k.toNat : Nat) : Int) = k := by omega
                have G1 : upZ g (hd (od k) / 36028797018963968 - 1) (g (hd (od k) / 36028797018963968 - 1) + mo) = smG hd se ln od ab (fillZ pz 0 26) (k + 1).toNat := by
                  rw [hk1, smG, hk2, ← hg, ← hmo2]; rfl
                have G2 : sm + mo = smT hd se ln od ab (fillZ pz 0 26) (k + 1).toNat := by
                  rw [hk1, smT, hk2, ← hg, ← hs, ← hmo2]
                have G3 : ∀ l9 : Int, 0 ≤ l9 ∧ l9 < 26 → 0 ≤ upZ g (hd (od k) / 36028797018963968 - 1) (g (hd (od k) / 36028797018963968 - 1) + mo) l9 ∧ upZ g (hd (od k) / 36028797018963968 - 1) (g (hd (od k) / 36028797018963968 - 1) + mo) l9 ≤ 123 * (k + 1) := fun l9 h => by
                  have q1 := hgr l9 h; have q2 := hgr (hd (od k) / 36028797018963968 - 1) h26
                  unfold upZ; split <;> omega
                refine g_aload_n X 1 dX0_sumLines_89 rfl rfl ?_
                refine g_iload X 6 dX0_sumLines_90 rfl ?_
                refine g_dup2 X dX0_sumLines_92 rfl rfl ?_
                refine g_iald X 5 1 rfl rfl (by omega) (by decide) dX0_sumLines_93 ?_
                have r_93 := hgr (hd (od k) / 36028797018963968 - 1) (by omega)
                refine g_iload X 7 dX0_sumLines_94 rfl ?_
                refine g_iadd X dX0_sumLines_96 ?_
                refine g_iast X 5 1 rfl rfl (by omega) (by decide) (ws2 := [(h, .inr (0, [.ref qh, .ref qm, .ref qs, .ref ql, .ref qd, .ref qo, .ref qp, .int (iZ N), .int (iZ P)])), (qh, .inl (cJ, 150, .inr (.inl (lA hd)))), (qs, .inl (cI, 150, .inl (zA se))), (ql, .inl (cI, 900, .inl (zA ln))), (qo, .inl (cI, 150, .inl (zA od))), (qz, .inl (cI, 26, .inl (zA (upZ g (hd (od k) / 36028797018963968 - 1) ((g (hd (od k) / 36028797018963968 - 1)) + mo)))))]) rfl dX0_sumLines_97 ?_
                refine g_iload_n X 3 dX0_sumLines_98 rfl rfl ?_
                refine g_iload X 7 dX0_sumLines_99 rfl ?_
                refine g_iadd X dX0_sumLines_101 ?_
                refine g_istore_n (lv2 := [(3, .int (iZ (sm + mo))), (0, .ref h), (1, .ref qz), (2, .int (iZ ab)), (4, .int (iZ k)), (5, .int (iZ (od k))), (6, .int (iZ (hd (od k) / 36028797018963968 - 1))), (7, .int (iZ mo)), (8, .int (iZ s9))]) X dX0_sumLines_102 rfl (by decide) rfl ?_
                refine g_iinc (q := 4) (lv2 := [(4, .int (iZ (k + 1))), (3, .int (iZ (sm + mo))), (0, .ref h), (1, .ref qz), (2, .int (iZ ab)), (5, .int (iZ (od k))), (6, .int (iZ (hd (od k) / 36028797018963968 - 1))), (7, .int (iZ mo)), (8, .int (iZ s9))]) X dX0_sumLines_103 rfl (by decide) rfl ?_
                refine g_goto X 10 dX0_sumLines_106 (by decide) ?_
                refine g_lv (lv' := [(0, .ref h), (1, .ref qz), (2, .int (iZ ab)), (3, .int (iZ (sm + mo))), (4, .int (iZ (k + 1)))]) [2, 3, 4, 1, 0] rfl ?_
                exact ih_10 (sm + mo) (k + 1) (upZ g (hd (od k) / 36028797018963968 - 1) ((g (hd (od k) / 36028797018963968 - 1)) + mo)) (by omega) G1 G2 G3 (by omega) (by omega)
              · skip
                refine g_iload X 7 dX0_sumLines_65 rfl ?_
                refine g_aload_n X 0 dX0_sumLines_67 rfl rfl ?_
                refine g_get X (index := 22) (ref := "GuideWords$Lexicon") hin0 0 rfl rfl 3 (by decide) rfl (by decide +kernel) (v := .ref ql) rfl dX0_sumLines_68 ?_
                refine g_iload X 5 dX0_sumLines_71 rfl ?_
                refine g_bipush X dX0_sumLines_73 (by decide) ?_
                refine g_imul X dX0_sumLines_75 ?_
                refine g_iload X 8 dX0_sumLines_76 rfl ?_
                refine g_iadd X dX0_sumLines_78 ?_
                refine g_iald X 3 1 rfl rfl (by omega) (by decide) dX0_sumLines_79 ?_
                have r_79 := hln (((od k) * 6) + s9) (by omega)
                refine g_iadd X dX0_sumLines_80 ?_
                refine g_istore (lv2 := [(7, .int (iZ (mo + (ln (((od k) * 6) + s9))))), (0, .ref h), (1, .ref qz), (2, .int (iZ ab)), (3, .int (iZ sm)), (4, .int (iZ k)), (5, .int (iZ (od k))), (6, .int (iZ (hd (od k) / 36028797018963968 - 1))), (8, .int (iZ s9))]) X dX0_sumLines_81 (by decide) rfl ?_
                refine g_iinc (q := 8) (lv2 := [(8, .int (iZ (s9 + 1))), (7, .int (iZ (mo + (ln (((od k) * 6) + s9))))), (0, .ref h), (1, .ref qz), (2, .int (iZ ab)), (3, .int (iZ sm)), (4, .int (iZ k)), (5, .int (iZ (od k))), (6, .int (iZ (hd (od k) / 36028797018963968 - 1)))]) X dX0_sumLines_83 rfl (by decide) rfl ?_
                refine g_goto X 53 dX0_sumLines_86 (by decide) ?_
                refine g_lv (lv' := [(0, .ref h), (1, .ref qz), (2, .int (iZ ab)), (3, .int (iZ sm)), (4, .int (iZ k)), (5, .int (iZ (od k))), (6, .int (iZ (hd (od k) / 36028797018963968 - 1))), (7, .int (iZ (mo + (ln (((od k) * 6) + s9))))), (8, .int (iZ (s9 + 1)))]) [2, 3, 4, 5, 6, 7, 8, 1, 0] rfl ?_
                exact ih_53 (mo + (ln (((od k) * 6) + s9))) (s9 + 1) (by omega) (by rw [show (s9 + 1).toNat = s9.toNat + 1 by omega, seS, hmo, show ((s9.toNat : Nat) : Int) = s9 by omega, Int.add_assoc]) (by omega) (by omega)
          exact loop_53 _ 0 0 (by omega) (by simp [seS, c_40]) (by omega) (Nat.lt_succ_self _)
        · skip
          refine g_iload_n X 4 dX0_sumLines_43 rfl rfl ?_
          refine g_goto X 48 dX0_sumLines_44 (by decide) ?_
          refine g_istore (lv2 := [(7, .int (iZ ab)), (6, .int (iZ (hd (od k) / 36028797018963968 - 1))), (5, .int (iZ (od k))), (0, .ref h), (1, .ref qz), (2, .int (iZ ab)), (3, .int (iZ sm)), (4, .int (iZ k))]) X dX0_sumLines_48 (by decide) rfl ?_
          have r_59 := hse (od k) r_25
          refine g_iconst X dX0_sumLines_50 ?_
          refine g_istore (lv2 := [(8, .int (iZ 0)), (7, .int (iZ ab)), (6, .int (iZ (hd (od k) / 36028797018963968 - 1))), (5, .int (iZ (od k))), (0, .ref h), (1, .ref qz), (2, .int (iZ ab)), (3, .int (iZ sm)), (4, .int (iZ k))]) X dX0_sumLines_51 (by decide) rfl ?_
          refine g_lv (lv' := [(0, .ref h), (1, .ref qz), (2, .int (iZ ab)), (3, .int (iZ sm)), (4, .int (iZ k)), (5, .int (iZ (od k))), (6, .int (iZ (hd (od k) / 36028797018963968 - 1))), (7, .int (iZ ab)), (8, .int (iZ 0))]) [4, 5, 6, 7, 8, 3, 2, 1, 0] rfl ?_
          have loop_53 : ∀ (kf : Nat) (mo : Int) (s9 : Int), (hs9 : 0 ≤ s9 ∧ s9 ≤ se (od k)) → (hmo : mo = (if g (hd (od k) / 36028797018963968 - 1) = 0 then ab else 0) + seS ln (od k) s9.toNat) → (hmr : 0 ≤ mo ∧ mo ≤ 3 + 20 * s9) → (se (od k) - s9).toNat < kf → gW p l e { frames := 2, cells := 0, slots := 0, locals := 42 } s m args below meth c D A 9 0 0 (MQ below (gQ D (gT cB cI cJ cY) (qX0_sumLines cB cI cJ cY h qh qm qs ql qd qo qp qz hd se ln od pz N P ab) A) args s 0 0 A) [(h, .inr (0, [.ref qh, .ref qm, .ref qs, .ref ql, .ref qd, .ref qo, .ref qp, .int (iZ N), .int (iZ P)])), (qh, .inl (cJ, 150, .inr (.inl (lA hd)))), (qs, .inl (cI, 150, .inl (zA se))), (ql, .inl (cI, 900, .inl (zA ln))), (qo, .inl (cI, 150, .inl (zA od))), (qz, .inl (cI, 26, .inl (zA g)))] 53 [(0, .ref h), (1, .ref qz), (2, .int (iZ ab)), (3, .int (iZ sm)), (4, .int (iZ k)), (5, .int (iZ (od k))), (6, .int (iZ (hd (od k) / 36028797018963968 - 1))), (7, .int (iZ mo)), (8, .int (iZ s9))] [] := by
            intro kf
            induction kf with
            | zero => intro mo s9 hs9 hmo hmr hm; exact absurd hm (Nat.not_lt_zero _)
            | succ kf ih_53 =>
              intro mo s9 hs9 hmo hmr hm
              refine g_iload X 8 dX0_sumLines_53 rfl ?_
              refine g_aload_n X 0 dX0_sumLines_55 rfl rfl ?_
              refine g_get X (index := 18) (ref := "GuideWords$Lexicon") hin0 0 rfl rfl 2 (by decide) rfl (by decide +kernel) (v := .ref qs) rfl dX0_sumLines_56 ?_
              refine g_iload X 5 dX0_sumLines_59 rfl ?_
              refine g_iald X 2 1 rfl rfl (by omega) (by decide) dX0_sumLines_61 ?_
              have r_61 := hse (od k) (by omega)
              refine g_icmp_ge X 89 dX0_sumLines_62 (by decide) (by omega) (by omega) (fun c_62 => ?_) (fun c_62 => ?_)
              · skip
                have hse9 : s9 = se (od k) := by omega
                have hmo2 : mo = moZ hd se ln ab g (od k) := by rw [hmo, hse9]; rfl
                have hk1 : (k + 1).toNat = k.toNat + 1 := by omega
                have hk2 : ((k.toNat : Nat) : Int) = k := by omega
                have G1 : upZ g (hd (od k) / 36028797018963968 - 1) (g (hd (od k) / 36028797018963968 - 1) + mo) = smG hd se ln od ab (fillZ pz 0 26) (k + 1).toNat := by
                  rw [hk1, smG, hk2, ← hg, ← hmo2]; rfl
                have G2 : sm + mo = smT hd se ln od ab (fillZ pz 0 26) (k + 1).toNat := by
                  rw [hk1, smT, hk2, ← hg, ← hs, ← hmo2]
                have G3 : ∀ l9 : Int, 0 ≤ l9 ∧ l9 < 26 → 0 ≤ upZ g (hd (od k) / 36028797018963968 - 1) (g (hd (od k) / 36028797018963968 - 1) + mo) l9 ∧ upZ g (hd (od k) / 36028797018963968 - 1) (g (hd (od k) / 36028797018963968 - 1) + mo) l9 ≤ 123 * (k + 1) := fun l9 h => by
                  have q1 := hgr l9 h; have q2 := hgr (hd (od k) / 36028797018963968 - 1) h26
                  unfold upZ; split <;> omega
                refine g_aload_n X 1 dX0_sumLines_89 rfl rfl ?_
                refine g_iload X 6 dX0_sumLines_90 rfl ?_
                refine g_dup2 X dX0_sumLines_92 rfl rfl ?_
                refine g_iald X 5 1 rfl rfl (by omega) (by decide) dX0_sumLines_93 ?_
                have r_93 := hgr (hd (od k) / 36028797018963968 - 1) (by omega)
                refine g_iload X 7 dX0_sumLines_94 rfl ?_
                refine g_iadd X dX0_sumLines_96 ?_
                refine g_iast X 5 1 rfl rfl (by omega) (by decide) (ws2 := [(h, .inr (0, [.ref qh, .ref qm, .ref qs, .ref ql, .ref qd, .ref qo, .ref qp, .int (iZ N), .int (iZ P)])), (qh, .inl (cJ, 150, .inr (.inl (lA hd)))), (qs, .inl (cI, 150, .inl (zA se))), (ql, .inl (cI, 900, .inl (zA ln))), (qo, .inl (cI, 150, .inl (zA od))), (qz, .inl (cI, 26, .inl (zA (upZ g (hd (od k) / 36028797018963968 - 1) ((g (hd (od k) / 36028797018963968 - 1)) + mo)))))]) rfl dX0_sumLines_97 ?_
                refine g_iload_n X 3 dX0_sumLines_98 rfl rfl ?_
                refine g_iload X 7 dX0_sumLines_99 rfl ?_
                refine g_iadd X dX0_sumLines_101 ?_
                refine g_istore_n (lv2 := [(3, .int (iZ (sm + mo))), (0, .ref h), (1, .ref qz), (2, .int (iZ ab)), (4, .int (iZ k)), (5, .int (iZ (od k))), (6, .int (iZ (hd (od k) / 36028797018963968 - 1))), (7, .int (iZ mo)), (8, .int (iZ s9))]) X dX0_sumLines_102 rfl (by decide) rfl ?_
                refine g_iinc (q := 4) (lv2 := [(4, .int (iZ (k + 1))), (3, .int (iZ (sm + mo))), (0, .ref h), (1, .ref qz), (2, .int (iZ ab)), (5, .int (iZ (od k))), (6, .int (iZ (hd (od k) / 36028797018963968 - 1))), (7, .int (iZ mo)), (8, .int (iZ s9))]) X dX0_sumLines_103 rfl (by decide) rfl ?_
                refine g_goto X 10 dX0_sumLines_106 (by decide) ?_
                refine g_lv (lv' := [(0, .ref h), (1, .ref qz), (2, .int (iZ ab)), (3, .int (iZ (sm + mo))), (4, .int (iZ (k + 1)))]) [2, 3, 4, 1, 0] rfl ?_
                exact ih_10 (sm + mo) (k + 1) (upZ g (hd (od k) / 36028797018963968 - 1) ((g (hd (od k) / 36028797018963968 - 1)) + mo)) (by omega) G1 G2 G3 (by omega) (by omega)
              · skip
                refine g_iload X 7 dX0_sumLines_65 rfl ?_
                refine g_aload_n X 0 dX0_sumLines_67 rfl rfl ?_
                refine g_get X (index := 22) (ref := "GuideWords$Lexicon") hin0 0 rfl rfl 3 (by decide) rfl (by decide +kernel) (v := .ref ql) rfl dX0_sumLines_68 ?_
                refine g_iload X 5 dX0_sumLines_71 rfl ?_
                refine g_bipush X dX0_sumLines_73 (by decide) ?_
                refine g_imul X dX0_sumLines_75 ?_
                refine g_iload X 8 dX0_sumLines_76 rfl ?_
                refine g_iadd X dX0_sumLines_78 ?_
                refine g_iald X 3 1 rfl rfl (by omega) (by decide) dX0_sumLines_79 ?_
                have r_79 := hln (((od k) * 6) + s9) (by omega)
                refine g_iadd X dX0_sumLines_80 ?_
                refine g_istore (lv2 := [(7, .int (iZ (mo + (ln (((od k) * 6) + s9))))), (0, .ref h), (1, .ref qz), (2, .int (iZ ab)), (3, .int (iZ sm)), (4, .int (iZ k)), (5, .int (iZ (od k))), (6, .int (iZ (hd (od k) / 36028797018963968 - 1))), (8, .int (iZ s9))]) X dX0_sumLines_81 (by decide) rfl ?_
                refine g_iinc (q := 8) (lv2 := [(8, .int (iZ (s9 + 1))), (7, .int (iZ (mo + (ln (((od k) * 6) + s9))))), (0, .ref h), (1, .ref qz), (2, .int (iZ ab)), (3, .int (iZ sm)), (4, .int (iZ k)), (5, .int (iZ (od k))), (6, .int (iZ (hd (od k) / 36028797018963968 - 1)))]) X dX0_sumLines_83 rfl (by decide) rfl ?_
                refine g_goto X 53 dX0_sumLines_86 (by decide) ?_
                refine g_lv (lv' := [(0, .ref h), (1, .ref qz), (2, .int (iZ ab)), (3, .int (iZ sm)), (4, .int (iZ k)), (5, .int (iZ (od k))), (6, .int (iZ (hd (od k) / 36028797018963968 - 1))), (7, .int (iZ (mo + (ln (((od k) * 6) + s9))))), (8, .int (iZ (s9 + 1)))]) [2, 3, 4, 5, 6, 7, 8, 1, 0] rfl ?_
                exact ih_53 (mo + (ln (((od k) * 6) + s9))) (s9 + 1) (by omega) (by rw [show (s9 + 1).toNat = s9.toNat + 1 by omega, seS, hmo, show ((s9.toNat : Nat) : Int) = s9 by omega, Int.add_assoc]) (by omega) (by omega)
          exact loop_53 _ ab 0 (by omega) (by simp [seS, c_40]) (by omega) (Nat.lt_succ_self _)
  exact loop_10 _ 0 0 (fillZ pz 0 26) (by omega) rfl rfl (fun l9 h => by rw [fillZ_in (by omega)]; omega) (by omega) (Nat.lt_succ_self _)
