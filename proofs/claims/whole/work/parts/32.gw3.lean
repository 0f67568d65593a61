theorem sumN_up (g : Int → Int) (i v : Int) : ∀ n : Nat, sumN (upZ g i v) 0 n = sumN g 0 n + (if 0 ≤ i ∧ i < n then v - g i else 0)
  | 0 => by simp [sumN]; omega
  | n + 1 => by
    rw [sumN, sumN, sumN_up g i v n]
    simp only [Int.zero_add]
    by_cases e : (n : Int) = i
    · subst e; rw [upZ_s, if_neg (by omega), if_pos (by omega)]; omega
    · rw [upZ_n e]
      by_cases e2 : 0 ≤ i ∧ i < n
      · rw [if_pos e2, if_pos (by omega)]; omega
      · rw [if_neg e2, if_neg (by omega)]; omega
theorem sumN_fill (f : Int → Int) : ∀ n : Nat, n ≤ 26 → sumN (fillZ f 0 26) 0 n = 0
  | 0, _ => rfl
  | n + 1, h => by rw [sumN, sumN_fill f n (by omega), fillZ_in (by omega)]; rfl
theorem smG_sum (hd se ln od : Int → Int) (ab : Int) (g : Int → Int) : ∀ k : Nat, (∀ i : Nat, i < k → 0 ≤ ltZ hd (od i) ∧ ltZ hd (od i) < 26) → sumN (smG hd se ln od ab g k) 0 26 = sumN g 0 26 + smT hd se ln od ab g k
  | 0, _ => by simp [smG, smT]
  | k + 1, h => by
    rw [smG, smT, sumN_up, smG_sum hd se ln od ab g k (fun i hi => h i (by omega)), if_pos (by have := h k (by omega); omega)]
    omega
theorem sumN_mono {g : Int → Int} (n : Nat) : ∀ d : Nat, (∀ j : Int, 0 ≤ j ∧ j < n + d → 0 ≤ g j) → sumN g 0 n ≤ sumN g 0 (n + d)
  | 0, _ => Int.le_refl _
  | d + 1, h => by
    have h1 := sumN_mono n d (fun j hj => h j (by omega))
    have h2 := h ((n + d : Nat) : Int) (by omega)
    rw [← Nat.add_assoc, sumN]
    simp only [Int.zero_add]
    omega
theorem sumN_nn {g : Int → Int} (n : Nat) (h : ∀ j : Int, 0 ≤ j ∧ j < n → 0 ≤ g j) : 0 ≤ sumN g 0 n := by
  have := sumN_mono (g := g) 0 n (by simpa using h)
  simpa [sumN] using this
def thZ (pz : Int → Int) (al l9 len r : Int) : Prop := ((pz l9 = 0 ∨ al = 0) ∧ r = -1) ∨ (¬ (pz l9 = 0 ∨ al = 0) ∧ r = len * (2 * sumN pz 0 l9.toNat + pz l9) / (2 * al))
def volR (pz : Int → Int) (al : Int) : Nat → Int → Int → Int → Int → Int
  | 0, _, be, _, _ => be
  | n + 1, l9, be, lu, ah => if 0 < pz l9 ∧ 0 < ah ∧ (be = -1 ∨ absZ (al - 2 * ah) < lu) then volR pz al n (l9 + 1) l9 (absZ (al - 2 * ah)) (ah + pz l9) else volR pz al n (l9 + 1) be lu (ah + pz l9)
theorem volR_s (pz : Int → Int) (al : Int) (n : Nat) (l9 be lu ah : Int) : volR pz al (n + 1) l9 be lu ah = if 0 < pz l9 ∧ 0 < ah ∧ (be = -1 ∨ absZ (al - 2 * ah) < lu) then volR pz al n (l9 + 1) l9 (absZ (al - 2 * ah)) (ah + pz l9) else volR pz al n (l9 + 1) be lu (ah + pz l9) := rfl
theorem absZ_b (a : Int) : 0 ≤ absZ a ∧ (absZ a = a ∨ absZ a = -a) := by unfold absZ; split <;> omega
def qX4_thumb (cB cI cJ cY : ClassId) (g0 : Nat) (qv : Nat) (qz : Nat) (tp : Nat) (h : Nat) (ht : Nat) (qL : Nat) (hs : Nat) (hz : Nat) (pn : Int) (ch : Int) (qh : Nat) (qm : Nat) (qs : Nat) (ql : Nat) (qd : Nat) (qo : Nat) (qp : Nat) (vv : Int → Int) (hd : Int → Int) (se : Int → Int) (ln : Int → Int) (od : Int → Int) (pz : Int → Int) (N : Int) (P : Int) (l9 : Int) (len : Int) : Option Value → va_W → Prop := fun rv w1 => ∃ (r : Int) (pz2 : Int → Int), rv = some (.int (iZ r)) ∧ ((0 ≤ l9 ∧ l9 < 26) ∧ 1 ≤ len ∧ len ≤ 10000) ∧ pz2 = smG hd se ln od (vv 2) (fillZ pz 0 26) P.toNat ∧ thZ pz2 (smT hd se ln od (vv 2) (fillZ pz 0 26) P.toNat) l9 len r ∧ w1 = [(g0, .inr (4, [.ref qv, .ref qz, .int (iZ pn), .ref tp, .ref h, .ref ht, .ref qL, .ref hs, .ref hz, .int (iZ ch)])), (qv, .inl (cI, 5, .inl (zA vv))), (h, .inr (0, [.ref qh, .ref qm, .ref qs, .ref ql, .ref qd, .ref qo, .ref qp, .int (iZ N), .int (iZ P)])), (qh, .inl (cJ, 150, .inr (.inl (lA hd)))), (qs, .inl (cI, 150, .inl (zA se))), (ql, .inl (cI, 900, .inl (zA ln))), (qo, .inl (cI, 150, .inl (zA od))), (qL, .inl (cI, 26, .inl (zA pz2)))]
def xX4_thumb (cB cI cJ cY : ClassId) (g0 : Nat) (qv : Nat) (qz : Nat) (tp : Nat) (h : Nat) (ht : Nat) (qL : Nat) (hs : Nat) (hz : Nat) (pn : Int) (ch : Int) (qh : Nat) (qm : Nat) (qs : Nat) (ql : Nat) (qd : Nat) (qo : Nat) (qp : Nat) (vv : Int → Int) (hd : Int → Int) (se : Int → Int) (ln : Int → Int) (od : Int → Int) (pz : Int → Int) (N : Int) (P : Int) (l9 : Int) (len : Int) : String → va_W → Prop := fun E9 w1 => E9 = "java/lang/IllegalArgumentException" ∧ (¬ ((0 ≤ l9 ∧ l9 < 26) ∧ 1 ≤ len ∧ len ≤ 10000)) ∧ w1 = [(g0, .inr (4, [.ref qv, .ref qz, .int (iZ pn), .ref tp, .ref h, .ref ht, .ref qL, .ref hs, .ref hz, .int (iZ ch)])), (qv, .inl (cI, 5, .inl (zA vv))), (h, .inr (0, [.ref qh, .ref qm, .ref qs, .ref ql, .ref qd, .ref qo, .ref qp, .int (iZ N), .int (iZ P)])), (qh, .inl (cJ, 150, .inr (.inl (lA hd)))), (qs, .inl (cI, 150, .inl (zA se))), (ql, .inl (cI, 900, .inl (zA ln))), (qo, .inl (cI, 150, .inl (zA od))), (qL, .inl (cI, 26, .inl (zA pz)))]
set_option maxHeartbeats 4000000 in
set_option maxRecDepth 100000 in
theorem ctX4_thumb (l : Launch) (hl : l.stackTraces = false) (tL tH tS : Nat) (D : va_G) (cB cI cJ cY : ClassId) (g0 : Nat) (qv : Nat) (qz : Nat) (tp : Nat) (h : Nat) (ht : Nat) (qL : Nat) (hs : Nat) (hz : Nat) (pn : Int) (ch : Int) (qh : Nat) (qm : Nat) (qs : Nat) (ql : Nat) (qd : Nat) (qo : Nat) (qp : Nat) (vv : Int → Int) (hd : Int → Int) (se : Int → Int) (ln : Int → Int) (od : Int → Int) (pz : Int → Int) (N : Int) (P : Int) (l9 : Int) (len : Int) (hvv : (4 ≤ vv 0 ∧ vv 0 ≤ 60) ∧ (1 ≤ vv 1 ∧ vv 1 ≤ 4) ∧ (0 ≤ vv 2 ∧ vv 2 ≤ 3) ∧ (0 ≤ vv 3 ∧ vv 3 ≤ 1000) ∧ (0 ≤ vv 4 ∧ vv 4 ≤ 1000)) (hp : 0 ≤ P ∧ P ≤ N ∧ N ≤ 150) (hhd : ∀ j : Int, 0 ≤ j ∧ j < 150 → 0 ≤ hd j ∧ hd j < 1152921504606846976) (hod : ∀ j : Int, 0 ≤ j ∧ j < P → 0 ≤ od j ∧ od j < N) (hlt : ∀ a : Int, 0 ≤ a ∧ a < N → 0 ≤ ltZ hd a ∧ ltZ hd a < 26) (hse : ∀ a : Int, 0 ≤ a ∧ a < N → 0 ≤ se a ∧ se a ≤ 6) (hln : ∀ j : Int, 0 ≤ j ∧ j < 900 → 0 ≤ ln j ∧ ln j ≤ 20) (h_l9 : -2147483648 ≤ l9 ∧ l9 ≤ 2147483647) (h_len : -2147483648 ≤ len ∧ len ≤ 2147483647) : gMx l yX4_thumb wsX4_thumb { frames := 6, cells := 1, slots := 6, locals := 90 } tL tH tS D (gT cB cI cJ cY) [.ref g0, .int (iZ l9), .int (iZ len)] [(g0, .inr (4, [.ref qv, .ref qz, .int (iZ pn), .ref tp, .ref h, .ref ht, .ref qL, .ref hs, .ref hz, .int (iZ ch)])), (qv, .inl (cI, 5, .inl (zA vv))), (h, .inr (0, [.ref qh, .ref qm, .ref qs, .ref ql, .ref qd, .ref qo, .ref qp, .int (iZ N), .int (iZ P)])), (qh, .inl (cJ, 150, .inr (.inl (lA hd)))), (qs, .inl (cI, 150, .inl (zA se))), (ql, .inl (cI, 900, .inl (zA ln))), (qo, .inl (cI, 150, .inl (zA od))), (qL, .inl (cI, 26, .inl (zA pz)))] 1 6 (qX4_thumb cB cI cJ cY g0 qv qz tp h ht qL hs hz pn ch qh qm qs ql qd qo qp vv hd se ln od pz N P l9 len) (xX4_thumb cB cI cJ cY g0 qv qz tp h ht qL hs hz pn ch qh qm qs ql qd qo qp vv hd se ln od pz N P l9 len) := by
  refine g_startX (cc := cX4_thumb) (maxL := 7) (ret := some .int) (lv := [(0, .ref g0), (1, .int (iZ l9)), (2, .int (iZ len))]) (by decide) rfl (Nat.le_of_ble_eq_true rfl) rfl ?_
  intro p e s m args below meth c A X hE htab hr
  have hin0 : ∀ w ∈ u_ws RX0 TX0 9, w ∈ wsX4_thumb := by decide +kernel
  have hin4 : ∀ w ∈ u_ws RX4 TX4 10, w ∈ wsX4_thumb := by decide +kernel
  refine g_iload_n X 1 dX4_thumb_0 rfl rfl ?_
  refine g_if_lt X 10 dX4_thumb_1 (by decide) (by omega) (fun c_1 => ?_) (fun c_1 => ?_)
  · skip
    exact g_throw X hE hl htab (cls := "java/lang/IllegalArgumentException") (is := 170) (ic := 54) (by decide) (by decide) (by decide +kernel) (by decide +kernel) (List.mem_of_getElem? (i := 5) rfl) (by decide +kernel) (by decide +kernel) (by decide +kernel) dX4_thumb_10 dX4_thumb_13 dX4_thumb_14 dX4_thumb_16 dX4_thumb_19 (by decide) (Nat.le_of_ble_eq_true rfl) (by decide) (by decide) (by decide) (by decide) ⟨rfl, by omega, rfl⟩
  · skip
    refine g_iload_n X 1 dX4_thumb_4 rfl rfl ?_
    refine g_bipush X dX4_thumb_5 (by decide) ?_
    refine g_icmp_lt X 20 dX4_thumb_7 (by decide) (by omega) (by omega) (fun c_7 => ?_) (fun c_7 => ?_)
    · skip
      refine g_iload_n X 2 dX4_thumb_20 rfl rfl ?_
      refine g_iconst X dX4_thumb_21 ?_
      refine g_icmp_lt X 32 dX4_thumb_22 (by decide) (by omega) (by omega) (fun c_22 => ?_) (fun c_22 => ?_)
      · skip
        exact g_throw X hE hl htab (cls := "java/lang/IllegalArgumentException") (is := 172) (ic := 54) (by decide) (by decide) (by decide +kernel) (by decide +kernel) (List.mem_of_getElem? (i := 6) rfl) (by decide +kernel) (by decide +kernel) (by decide +kernel) dX4_thumb_32 dX4_thumb_35 dX4_thumb_36 dX4_thumb_38 dX4_thumb_41 (by decide) (Nat.le_of_ble_eq_true rfl) (by decide) (by decide) (by decide) (by decide) ⟨rfl, by omega, rfl⟩
      · skip
        refine g_iload_n X 2 dX4_thumb_25 rfl rfl ?_
        refine g_sipush X dX4_thumb_26 (by decide) ?_
        refine g_icmp_le X 42 dX4_thumb_29 (by decide) (by omega) (by omega) (fun c_29 => ?_) (fun c_29 => ?_)
        · skip
          refine g_aload_n X 0 dX4_thumb_42 rfl rfl ?_
          refine g_get X (index := 26) (ref := "GuideWords") hin4 0 rfl rfl 4 (by decide) rfl (by decide +kernel) (v := .ref h) rfl dX4_thumb_43 ?_
          refine g_aload_n X 0 dX4_thumb_46 rfl rfl ?_
          refine g_get X (index := 37) (ref := "GuideWords") hin4 0 rfl rfl 6 (by decide) rfl (by decide +kernel) (v := .ref qL) rfl dX4_thumb_47 ?_
          refine g_aload_n X 0 dX4_thumb_50 rfl rfl ?_
          refine g_get X (index := 9) (ref := "GuideWords") hin4 0 rfl rfl 0 (by decide) rfl (by decide +kernel) (v := .ref qv) rfl dX4_thumb_51 ?_
          refine g_iconst X dX4_thumb_54 ?_
          refine g_iald X 1 1 rfl rfl (by omega) (by decide) dX4_thumb_55 ?_
          refine g_callV0 X (As := [.ref qL, .int (iZ (vv 2))]) (rest := []) (ctX0_sumLines l D cB cI cJ cY h qh qm qs ql qd qo qp qL hd se ln od pz N P (vv 2) (by first | assumption | omega) (by first | assumption | omega) (by first | assumption | omega) (by first | assumption | omega) (by first | assumption | omega) (by first | assumption | omega) (by first | assumption | omega)) (cwV 2 X.2.2.2.2.1 gX4_thumb_X0_sumLines rfl rfl rfl (by decide +kernel) ⟨by decide, by decide⟩) 0 rfl rfl (wc := [(h, .inr (0, [.ref qh, .ref qm, .ref qs, .ref ql, .ref qd, .ref qo, .ref qp, .int (iZ N), .int (iZ P)])), (qh, .inl (cJ, 150, .inr (.inl (lA hd)))), (qs, .inl (cI, 150, .inl (zA se))), (ql, .inl (cI, 900, .inl (zA ln))), (qo, .inl (cI, 150, .inl (zA od))), (qL, .inl (cI, 26, .inl (zA pz)))]) (wr := [(g0, .inr (4, [.ref qv, .ref qz, .int (iZ pn), .ref tp, .ref h, .ref ht, .ref qL, .ref hs, .ref hz, .int (iZ ch)])), (qv, .inl (cI, 5, .inl (zA vv)))]) [2, 3, 4, 5, 6, 7] [0, 1] rfl rfl (by decide) (by decide) (by decide) rfl rfl (Nat.le_of_ble_eq_true rfl) ⟨by decide, by decide⟩ dX4_thumb_56 (fun v w1 hq => ?_)
          obtain ⟨al, pz2, rfl, hal, hpz2, hpr, har, rfl⟩ := hq
          refine g_eq (ws' := [(g0, .inr (4, [.ref qv, .ref qz, .int (iZ pn), .ref tp, .ref h, .ref ht, .ref qL, .ref hs, .ref hz, .int (iZ ch)])), (qv, .inl (cI, 5, .inl (zA vv))), (h, .inr (0, [.ref qh, .ref qm, .ref qs, .ref ql, .ref qd, .ref qo, .ref qp, .int (iZ N), .int (iZ P)])), (qh, .inl (cJ, 150, .inr (.inl (lA hd)))), (qs, .inl (cI, 150, .inl (zA se))), (ql, .inl (cI, 900, .inl (zA ln))), (qo, .inl (cI, 150, .inl (zA od))), (qL, .inl (cI, 26, .inl (zA pz2)))]) (pc' := 59) (st' := [.int (iZ al)]) rfl rfl rfl rfl ?_
          subst hal
          have htot : sumN pz2 0 26 = smT hd se ln od (vv 2) (fillZ pz 0 26) P.toNat := by
            rw [hpz2, smG_sum hd se ln od (vv 2) (fillZ pz 0 26) P.toNat (fun i hi => hlt (od i) (hod i (by omega))), sumN_fill pz 26 (by omega)]; omega
          have hpos : ∀ j : Int, 0 ≤ j ∧ j < 26 → 0 ≤ pz2 j := fun j hj => (hpr j hj).1
          refine g_istore_n (lv2 := [(3, .int (iZ ((smT hd se ln od (vv 2) (fillZ pz 0 26) P.toNat)))), (0, .ref g0), (1, .int (iZ l9)), (2, .int (iZ len))]) X dX4_thumb_59 rfl (by decide) rfl ?_
          refine g_aload_n X 1 dX4_thumb_60 rfl rfl ?_
          refine g_get X (index := 37) (ref := "GuideWords") hin4 0 rfl rfl 6 (by decide) rfl (by decide +kernel) (v := .ref qL) rfl dX4_thumb_61 ?_
          refine g_iload_n X 2 dX4_thumb_64 rfl rfl ?_
          refine g_iald X 7 1 rfl rfl (by omega) (by decide) dX4_thumb_65 ?_
          have r_65 := hpr l9 (by omega)
          refine g_istore (lv2 := [(4, .int (iZ (pz2 l9))), (3, .int (iZ ((smT hd se ln od (vv 2) (fillZ pz 0 26) P.toNat)))), (0, .ref g0), (1, .int (iZ l9)), (2, .int (iZ len))]) X dX4_thumb_66 (by decide) rfl ?_
          refine g_iload X 0 dX4_thumb_68 rfl ?_
          refine g_if_eq X 77 dX4_thumb_70 (by decide) (by omega) (fun c_70 => ?_) (fun c_70 => ?_)
          · skip
            refine g_iconst X dX4_thumb_77 ?_
            exact g_iretX X hr (by decide) (by decide) dX4_thumb_78 ⟨_, pz2, rfl, by omega, hpz2, Or.inl ⟨by first | exact Or.inl c_70 | exact Or.inr c_74, rfl⟩, rfl⟩
          · skip
            refine g_iload_n X 1 dX4_thumb_73 rfl rfl ?_
            refine g_if_ne X 79 dX4_thumb_74 (by decide) (by omega) (fun c_74 => ?_) (fun c_74 => ?_)
            · skip
              refine g_iconst X dX4_thumb_79 ?_
              refine g_istore (lv2 := [(5, .int (iZ 0)), (4, .int (iZ (pz2 l9))), (3, .int (iZ ((smT hd se ln od (vv 2) (fillZ pz 0 26) P.toNat)))), (0, .ref g0), (1, .int (iZ l9)), (2, .int (iZ len))]) X dX4_thumb_80 (by decide) rfl ?_
              refine g_iconst X dX4_thumb_82 ?_
              refine g_istore (lv2 := [(6, .int (iZ 0)), (5, .int (iZ 0)), (4, .int (iZ (pz2 l9))), (3, .int (iZ ((smT hd se ln od (vv 2) (fillZ pz 0 26) P.toNat)))), (0, .ref g0), (1, .int (iZ l9)), (2, .int (iZ len))]) X dX4_thumb_83 (by decide) rfl ?_
              refine g_lv (lv' := [(0, .ref g0), (1, .int (iZ l9)), (2, .int (iZ len)), (3, .int (iZ ((smT hd se ln od (vv 2) (fillZ pz 0 26) P.toNat)))), (4, .int (iZ (pz2 l9))), (5, .int (iZ 0)), (6, .int (iZ 0))]) [4, 5, 6, 3, 2, 1, 0] rfl ?_
              have loop_85 : ∀ (kf : Nat) (ah : Int) (k : Int), (hk : 0 ≤ k ∧ k ≤ l9) → (hah : ah = sumN pz2 0 k.toNat) → (l9 - k).toNat < kf → gW p l e { frames := 6, cells := 1, slots := 6, locals := 90 } s m args below meth c D A 7 0 0 (vx_MQ below (gQ D (gT cB cI cJ cY) (qX4_thumb cB cI cJ cY g0 qv qz tp h ht qL hs hz pn ch qh qm qs ql qd qo qp vv hd se ln od pz N P l9 len) A) (gXC D (gT cB cI cJ cY) (xX4_thumb cB cI cJ cY g0 qv qz tp h ht qL hs hz pn ch qh qm qs ql qd qo qp vv hd se ln od pz N P l9 len) A) args s 1 6 A) [(g0, .inr (4, [.ref qv, .ref qz, .int (iZ pn), .ref tp, .ref h, .ref ht, .ref qL, .ref hs, .ref hz, .int (iZ ch)])), (qv, .inl (cI, 5, .inl (zA vv))), (h, .inr (0, [.ref qh, .ref qm, .ref qs, .ref ql, .ref qd, .ref qo, .ref qp, .int (iZ N), .int (iZ P)])), (qh, .inl (cJ, 150, .inr (.inl (lA hd)))), (qs, .inl (cI, 150, .inl (zA se))), (ql, .inl (cI, 900, .inl (zA ln))), (qo, .inl (cI, 150, .inl (zA od))), (qL, .inl (cI, 26, .inl (zA pz2)))] 85 [(0, .ref g0), (1, .int (iZ l9)), (2, .int (iZ len)), (3, .int (iZ ((smT hd se ln od (vv 2) (fillZ pz 0 26) P.toNat)))), (4, .int (iZ (pz2 l9))), (5, .int (iZ ah)), (6, .int (iZ k))] [] := by
                intro kf
                induction kf with
                | zero => intro ah k hk hah hm; exact absurd hm (Nat.not_lt_zero _)
                | succ kf ih_85 =>
                  intro ah k hk hah hm
                  refine g_iload X 6 dX4_thumb_85 rfl ?_
                  refine g_iload_n X 1 dX4_thumb_87 rfl rfl ?_
                  refine g_icmp_ge X 109 dX4_thumb_88 (by decide) (by omega) (by omega) (fun c_88 => ?_) (fun c_88 => ?_)
                  · skip
                    have hkl : k = l9 := by omega
                    have hm := sumN_mono (g := pz2) (l9.toNat + 1) (25 - l9.toNat) (fun j hj => hpos j (by omega))
                    rw [show l9.toNat + 1 + (25 - l9.toNat) = 26 by omega, sumN, htot, Int.zero_add, show ((l9.toNat : Nat) : Int) = l9 by omega, ← hkl, ← hah, hkl] at hm
                    have hn0 := sumN_nn (g := pz2) k.toNat (fun j hj => hpos j (by omega))
                    rw [← hah] at hn0
                    have r_9 := hpr l9 (by omega)
                    have hmul : 0 ≤ len * (2 * ah + pz2 l9) ∧ len * (2 * ah + pz2 l9) ≤ 10000 * 40000 := ⟨Int.mul_nonneg (by omega) (by omega), Int.mul_le_mul (by omega) (by omega) (by omega) (by omega)⟩
                    refine g_iload_n X 2 dX4_thumb_109 rfl rfl ?_
                    refine g_iconst X dX4_thumb_110 ?_
                    refine g_iload X 5 dX4_thumb_111 rfl ?_
                    refine g_imul X dX4_thumb_113 ?_
                    refine g_iload X 4 dX4_thumb_114 rfl ?_
                    refine g_iadd X dX4_thumb_116 ?_
                    refine g_imul X dX4_thumb_117 ?_
                    refine g_iconst X dX4_thumb_118 ?_
                    refine g_iload_n X 3 dX4_thumb_119 rfl rfl ?_
                    refine g_imul X dX4_thumb_120 ?_
                    refine g_idiv X dX4_thumb_121 (by omega) (by omega) ?_
                    exact g_iretX X hr (by decide) (by decide) dX4_thumb_122 ⟨_, pz2, rfl, by omega, hpz2, Or.inr ⟨fun h9 => h9.elim c_70 c_74, by rw [← hkl, ← hah, hkl]⟩, rfl⟩
                  · skip
                    refine g_iload X 5 dX4_thumb_91 rfl ?_
                    refine g_aload_n X 0 dX4_thumb_93 rfl rfl ?_
                    refine g_get X (index := 37) (ref := "GuideWords") hin4 0 rfl rfl 6 (by decide) rfl (by decide +kernel) (v := .ref qL) rfl dX4_thumb_94 ?_
                    refine g_iload X 6 dX4_thumb_97 rfl ?_
                    refine g_iald X 7 1 rfl rfl (by omega) (by decide) dX4_thumb_99 ?_
                    have r_99 := hpr k (by omega)
                    refine g_iadd X dX4_thumb_100 ?_
                    refine g_istore (lv2 := [(5, .int (iZ (ah + (pz2 k)))), (0, .ref g0), (1, .int (iZ l9)), (2, .int (iZ len)), (3, .int (iZ ((smT hd se ln od (vv 2) (fillZ pz 0 26) P.toNat)))), (4, .int (iZ (pz2 l9))), (6, .int (iZ k))]) X dX4_thumb_101 (by decide) rfl ?_
                    refine g_iinc (q := 6) (lv2 := [(6, .int (iZ (k + 1))), (5, .int (iZ (ah + (pz2 k)))), (0, .ref g0), (1, .int (iZ l9)), (2, .int (iZ len)), (3, .int (iZ ((smT hd se ln od (vv 2) (fillZ pz 0 26) P.toNat)))), (4, .int (iZ (pz2 l9)))]) X dX4_thumb_103 rfl (by decide) rfl ?_
                    refine g_goto X 85 dX4_thumb_106 (by decide) ?_
                    refine g_lv (lv' := [(0, .ref g0), (1, .int (iZ l9)), (2, .int (iZ len)), (3, .int (iZ ((smT hd se ln od (vv 2) (fillZ pz 0 26) P.toNat)))), (4, .int (iZ (pz2 l9))), (5, .int (iZ (ah + (pz2 k)))), (6, .int (iZ (k + 1)))]) [2, 3, 4, 5, 6, 1, 0] rfl ?_
                    exact ih_85 (ah + (pz2 k)) (k + 1) (by omega) (by rw [show (k + 1).toNat = k.toNat + 1 by omega, sumN, hah, Int.zero_add, show ((k.toNat : Nat) : Int) = k by omega]) (by omega)
              exact loop_85 _ 0 0 (by omega) rfl (Nat.lt_succ_self _)
            · skip
              refine g_iconst X dX4_thumb_77 ?_
              exact g_iretX X hr (by decide) (by decide) dX4_thumb_78 ⟨_, pz2, rfl, by omega, hpz2, Or.inl ⟨by first | exact Or.inl c_70 | exact Or.inr c_74, rfl⟩, rfl⟩
        · skip
          exact g_throw X hE hl htab (cls := "java/lang/IllegalArgumentException") (is := 172) (ic := 54) (by decide) (by decide) (by decide +kernel) (by decide +kernel) (List.mem_of_getElem? (i := 6) rfl) (by decide +kernel) (by decide +kernel) (by decide +kernel) dX4_thumb_32 dX4_thumb_35 dX4_thumb_36 dX4_thumb_38 dX4_thumb_41 (by decide) (Nat.le_of_ble_eq_true rfl) (by decide) (by decide) (by decide) (by decide) ⟨rfl, by omega, rfl⟩
    · skip
      exact g_throw X hE hl htab (cls := "java/lang/IllegalArgumentException") (is := 170) (ic := 54) (by decide) (by decide) (by decide +kernel) (by decide +kernel) (List.mem_of_getElem? (i := 5) rfl) (by decide +kernel) (by decide +kernel) (by decide +kernel) dX4_thumb_10 dX4_thumb_13 dX4_thumb_14 dX4_thumb_16 dX4_thumb_19 (by decide) (Nat.le_of_ble_eq_true rfl) (by decide) (by decide) (by decide) (by decide) ⟨rfl, by omega, rfl⟩
def qX4_volume (cB cI cJ cY : ClassId) (g0 : Nat) (qv : Nat) (qz : Nat) (tp : Nat) (h : Nat) (ht : Nat) (qL : Nat) (hs : Nat) (hz : Nat) (pn : Int) (ch : Int) (qh : Nat) (qm : Nat) (qs : Nat) (ql : Nat) (qd : Nat) (qo : Nat) (qp : Nat) (vv : Int → Int) (hd : Int → Int) (se : Int → Int) (ln : Int → Int) (od : Int → Int) (pz : Int → Int) (N : Int) (P : Int) : Option Value → va_W → Prop := fun rv w1 => ∃ (r : Int) (pz2 : Int → Int), rv = some (.int (iZ r)) ∧ pz2 = smG hd se ln od (vv 2) (fillZ pz 0 26) P.toNat ∧ r = volR pz2 (smT hd se ln od (vv 2) (fillZ pz 0 26) P.toNat) 26 0 (-1) 0 0 ∧ w1 = [(g0, .inr (4, [.ref qv, .ref qz, .int (iZ pn), .ref tp, .ref h, .ref ht, .ref qL, .ref hs, .ref hz, .int (iZ ch)])), (qv, .inl (cI, 5, .inl (zA vv))), (h, .inr (0, [.ref qh, .ref qm, .ref qs, .ref ql, .ref qd, .ref qo, .ref qp, .int (iZ N), .int (iZ P)])), (qh, .inl (cJ, 150, .inr (.inl (lA hd)))), (qs, .inl (cI, 150, .inl (zA se))), (ql, .inl (cI, 900, .inl (zA ln))), (qo, .inl (cI, 150, .inl (zA od))), (qL, .inl (cI, 26, .inl (zA pz2)))]
set_option maxHeartbeats 4000000 in
set_option maxRecDepth 100000 in
theorem ctX4_volume (l : Launch) (D : va_G) (cB cI cJ cY : ClassId) (g0 : Nat) (qv : Nat) (qz : Nat) (tp : Nat) (h : Nat) (ht : Nat) (qL : Nat) (hs : Nat) (hz : Nat) (pn : Int) (ch : Int) (qh : Nat) (qm : Nat) (qs : Nat) (ql : Nat) (qd : Nat) (qo : Nat) (qp : Nat) (vv : Int → Int) (hd : Int → Int) (se : Int → Int) (ln : Int → Int) (od : Int → Int) (pz : Int → Int) (N : Int) (P : Int) (hvv : (4 ≤ vv 0 ∧ vv 0 ≤ 60) ∧ (1 ≤ vv 1 ∧ vv 1 ≤ 4) ∧ (0 ≤ vv 2 ∧ vv 2 ≤ 3) ∧ (0 ≤ vv 3 ∧ vv 3 ≤ 1000) ∧ (0 ≤ vv 4 ∧ vv 4 ≤ 1000)) (hp : 0 ≤ P ∧ P ≤ N ∧ N ≤ 150) (hhd : ∀ j : Int, 0 ≤ j ∧ j < 150 → 0 ≤ hd j ∧ hd j < 1152921504606846976) (hod : ∀ j : Int, 0 ≤ j ∧ j < P → 0 ≤ od j ∧ od j < N) (hlt : ∀ a : Int, 0 ≤ a ∧ a < N → 0 ≤ ltZ hd a ∧ ltZ hd a < 26) (hse : ∀ a : Int, 0 ≤ a ∧ a < N → 0 ≤ se a ∧ se a ≤ 6) (hln : ∀ j : Int, 0 ≤ j ∧ j < 900 → 0 ≤ ln j ∧ ln j ≤ 20) : gM l yX4_volume wsX4_volume { frames := 3, cells := 0, slots := 0, locals := 70 } D (gT cB cI cJ cY) [.ref g0] [(g0, .inr (4, [.ref qv, .ref qz, .int (iZ pn), .ref tp, .ref h, .ref ht, .ref qL, .ref hs, .ref hz, .int (iZ ch)])), (qv, .inl (cI, 5, .inl (zA vv))), (h, .inr (0, [.ref qh, .ref qm, .ref qs, .ref ql, .ref qd, .ref qo, .ref qp, .int (iZ N), .int (iZ P)])), (qh, .inl (cJ, 150, .inr (.inl (lA hd)))), (qs, .inl (cI, 150, .inl (zA se))), (ql, .inl (cI, 900, .inl (zA ln))), (qo, .inl (cI, 150, .inl (zA od))), (qL, .inl (cI, 26, .inl (zA pz)))] 0 0 (qX4_volume cB cI cJ cY g0 qv qz tp h ht qL hs hz pn ch qh qm qs ql qd qo qp vv hd se ln od pz N P) := by
  refine g_start (cc := cX4_volume) (maxL := 8) (ret := some .int) (lv := [(0, .ref g0)]) (by decide) rfl (Nat.le_of_ble_eq_true rfl) rfl ?_
  intro p e s m args below meth c A X hr hnm
  have hin0 : ∀ w ∈ u_ws RX0 TX0 9, w ∈ wsX4_volume := by decide +kernel
  have hin4 : ∀ w ∈ u_ws RX4 TX4 10, w ∈ wsX4_volume := by decide +kernel
  refine g_aload_n X 0 dX4_volume_0 rfl rfl ?_
  refine g_get X (index := 26) (ref := "GuideWords") hin4 0 rfl rfl 4 (by decide) rfl (by decide +kernel) (v := .ref h) rfl dX4_volume_1 ?_
  refine g_aload_n X 0 dX4_volume_4 rfl rfl ?_
  refine g_get X (index := 37) (ref := "GuideWords") hin4 0 rfl rfl 6 (by decide) rfl (by decide +kernel) (v := .ref qL) rfl dX4_volume_5 ?_
  refine g_aload_n X 0 dX4_volume_8 rfl rfl ?_
  refine g_get X (index := 9) (ref := "GuideWords") hin4 0 rfl rfl 0 (by decide) rfl (by decide +kernel) (v := .ref qv) rfl dX4_volume_9 ?_
  refine g_iconst X dX4_volume_12 ?_
  refine g_iald X 1 1 rfl rfl (by omega) (by decide) dX4_volume_13 ?_
  refine g_callV0 X (As := [.ref qL, .int (iZ (vv 2))]) (rest := []) (ctX0_sumLines l D cB cI cJ cY h qh qm qs ql qd qo qp qL hd se ln od pz N P (vv 2) (by first | assumption | omega) (by first | assumption | omega) (by first | assumption | omega) (by first | assumption | omega) (by first | assumption | omega) (by first | assumption | omega) (by first | assumption | omega)) (cwV 2 X.2.2.2.2.1 gX4_volume_X0_sumLines rfl rfl rfl (by decide +kernel) ⟨by decide, by decide⟩) 0 rfl rfl (wc := [(h, .inr (0, [.ref qh, .ref qm, .ref qs, .ref ql, .ref qd, .ref qo, .ref qp, .int (iZ N), .int (iZ P)])), (qh, .inl (cJ, 150, .inr (.inl (lA hd)))), (qs, .inl (cI, 150, .inl (zA se))), (ql, .inl (cI, 900, .inl (zA ln))), (qo, .inl (cI, 150, .inl (zA od))), (qL, .inl (cI, 26, .inl (zA pz)))]) (wr := [(g0, .inr (4, [.ref qv, .ref qz, .int (iZ pn), .ref tp, .ref h, .ref ht, .ref qL, .ref hs, .ref hz, .int (iZ ch)])), (qv, .inl (cI, 5, .inl (zA vv)))]) [2, 3, 4, 5, 6, 7] [0, 1] rfl rfl (by decide) (by decide) (by decide) rfl rfl (Nat.le_of_ble_eq_true rfl) ⟨by decide, by decide⟩ dX4_volume_14 (fun v w1 hq => ?_)
  obtain ⟨al, pz2, rfl, hal, hpz2, hpr, har, rfl⟩ := hq
  refine g_eq (ws' := [(g0, .inr (4, [.ref qv, .ref qz, .int (iZ pn), .ref tp, .ref h, .ref ht, .ref qL, .ref hs, .ref hz, .int (iZ ch)])), (qv, .inl (cI, 5, .inl (zA vv))), (h, .inr (0, [.ref qh, .ref qm, .ref qs, .ref ql, .ref qd, .ref qo, .ref qp, .int (iZ N), .int (iZ P)])), (qh, .inl (cJ, 150, .inr (.inl (lA hd)))), (qs, .inl (cI, 150, .inl (zA se))), (ql, .inl (cI, 900, .inl (zA ln))), (qo, .inl (cI, 150, .inl (zA od))), (qL, .inl (cI, 26, .inl (zA pz2)))]) (pc' := 17) (st' := [.int (iZ al)]) rfl rfl rfl rfl ?_
  subst hal
  have htot : sumN pz2 0 26 = smT hd se ln od (vv 2) (fillZ pz 0 26) P.toNat := by
    rw [hpz2, smG_sum hd se ln od (vv 2) (fillZ pz 0 26) P.toNat (fun i hi => hlt (od i) (hod i (by omega))), sumN_fill pz 26 (by omega)]; omega
  have hpos : ∀ j : Int, 0 ≤ j ∧ j < 26 → 0 ≤ pz2 j := fun j hj => (hpr j hj).1
  refine g_istore_n (lv2 := [(1, .int (iZ ((smT hd se ln od (vv 2) (fillZ pz 0 26) P.toNat)))), (0, .ref g0)]) X dX4_volume_17 rfl (by decide) rfl ?_
  refine g_iconst X dX4_volume_18 ?_
  refine g_istore_n (lv2 := [(2, .int (iZ ((-1)))), (1, .int (iZ ((smT hd se ln od (vv 2) (fillZ pz 0 26) P.toNat)))), (0, .ref g0)]) X dX4_volume_19 rfl (by decide) rfl ?_
  refine g_iconst X dX4_volume_20 ?_
  refine g_istore_n (lv2 := [(3, .int (iZ 0)), (2, .int (iZ ((-1)))), (1, .int (iZ ((smT hd se ln od (vv 2) (fillZ pz 0 26) P.toNat)))), (0, .ref g0)]) X dX4_volume_21 rfl (by decide) rfl ?_
  refine g_iconst X dX4_volume_22 ?_
  refine g_istore (lv2 := [(4, .int (iZ 0)), (3, .int (iZ 0)), (2, .int (iZ ((-1)))), (1, .int (iZ ((smT hd se ln od (vv 2) (fillZ pz 0 26) P.toNat)))), (0, .ref g0)]) X dX4_volume_23 (by decide) rfl ?_
  refine g_iconst X dX4_volume_25 ?_
  refine g_istore (lv2 := [(5, .int (iZ 0)), (4, .int (iZ 0)), (3, .int (iZ 0)), (2, .int (iZ ((-1)))), (1, .int (iZ ((smT hd se ln od (vv 2) (fillZ pz 0 26) P.toNat)))), (0, .ref g0)]) X dX4_volume_26 (by decide) rfl ?_
  refine g_lv (lv' := [(0, .ref g0), (1, .int (iZ ((smT hd se ln od (vv 2) (fillZ pz 0 26) P.toNat)))), (2, .int (iZ ((-1)))), (3, .int (iZ 0)), (4, .int (iZ 0)), (5, .int (iZ 0))]) [5, 4, 3, 2, 1, 0] rfl ?_
  have loop_28 : ∀ (kf : Nat) (be : Int) (lu : Int) (ah : Int) (k : Int), (hk : 0 ≤ k ∧ k ≤ 26) → (hbe : -1 ≤ be ∧ be ≤ 26) → (hlu : 0 ≤ lu ∧ lu ≤ 10000000) → (hah : 0 ≤ ah ∧ ah ≤ 20000 * k) → (hv : volR pz2 (smT hd se ln od (vv 2) (fillZ pz 0 26) P.toNat) (26 - k).toNat k be lu ah = volR pz2 (smT hd se ln od (vv 2) (fillZ pz 0 26) P.toNat) 26 0 (-1) 0 0) → (26 - k).toNat < kf → gW p l e { frames := 3, cells := 0, slots := 0, locals := 70 } s m args below meth c D A 8 0 0 (MQ below (gQ D (gT cB cI cJ cY) (qX4_volume cB cI cJ cY g0 qv qz tp h ht qL hs hz pn ch qh qm qs ql qd qo qp vv hd se ln od pz N P) A) args s 0 0 A) [(g0, .inr (4, [.ref qv, .ref qz, .int (iZ pn), .ref tp, .ref h, .ref ht, .ref qL, .ref hs, .ref hz, .int (iZ ch)])), (qv, .inl (cI, 5, .inl (zA vv))), (h, .inr (0, [.ref qh, .ref qm, .ref qs, .ref ql, .ref qd, .ref qo, .ref qp, .int (iZ N), .int (iZ P)])), (qh, .inl (cJ, 150, .inr (.inl (lA hd)))), (qs, .inl (cI, 150, .inl (zA se))), (ql, .inl (cI, 900, .inl (zA ln))), (qo, .inl (cI, 150, .inl (zA od))), (qL, .inl (cI, 26, .inl (zA pz2)))] 28 [(0, .ref g0), (1, .int (iZ ((smT hd se ln od (vv 2) (fillZ pz 0 26) P.toNat)))), (2, .int (iZ be)), (3, .int (iZ lu)), (4, .int (iZ ah)), (5, .int (iZ k))] [] := by
    intro kf
    induction kf with
    | zero => intro be lu ah k hk hbe hlu hah hv hm; exact absurd hm (Nat.not_lt_zero _)
    | succ kf ih_28 =>
      intro be lu ah k hk hbe hlu hah hv hm
      refine g_iload X 5 dX4_volume_28 rfl ?_
      refine g_bipush X dX4_volume_30 (by decide) ?_
      refine g_icmp_ge X 95 dX4_volume_32 (by decide) (by omega) (by omega) (fun c_32 => ?_) (fun c_32 => ?_)
      · skip
        refine g_iload_n X 2 dX4_volume_95 rfl rfl ?_
        exact g_iret X hr (by decide) (by decide) dX4_volume_96 ⟨_, pz2, rfl, hpz2, by rw [← hv, show (26 - k).toNat = 0 by omega]; rfl, rfl⟩
      · skip
        have hk1 : (26 - k).toNat = (26 - (k + 1)).toNat + 1 := by omega
        rw [hk1, volR_s pz2 (smT hd se ln od (vv 2) (fillZ pz 0 26) P.toNat) (26 - (k + 1)).toNat k be lu ah] at hv
        refine g_aload_n X 0 dX4_volume_35 rfl rfl ?_
        refine g_get X (index := 37) (ref := "GuideWords") hin4 0 rfl rfl 6 (by decide) rfl (by decide +kernel) (v := .ref qL) rfl dX4_volume_36 ?_
        refine g_iload X 5 dX4_volume_39 rfl ?_
        refine g_iald X 7 1 rfl rfl (by omega) (by decide) dX4_volume_41 ?_
        have r_41 := hpr k (by omega)
        refine g_istore (lv2 := [(6, .int (iZ (pz2 k))), (0, .ref g0), (1, .int (iZ ((smT hd se ln od (vv 2) (fillZ pz 0 26) P.toNat)))), (2, .int (iZ be)), (3, .int (iZ lu)), (4, .int (iZ ah)), (5, .int (iZ k))]) X dX4_volume_42 (by decide) rfl ?_
        refine g_iload X 0 dX4_volume_44 rfl ?_
        refine g_if_le X 82 dX4_volume_46 (by decide) (by omega) (fun c_46 => ?_) (fun c_46 => ?_)
        · skip
          have hv2 := hv
          rw [if_neg (fun q => by have := q.1; omega)] at hv2
          refine g_iload X 5 dX4_volume_82 rfl ?_
          refine g_iload X 0 dX4_volume_84 rfl ?_
          refine g_iadd X dX4_volume_86 ?_
          refine g_istore (lv2 := [(4, .int (iZ (ah + (pz2 k)))), (6, .int (iZ (pz2 k))), (0, .ref g0), (1, .int (iZ ((smT hd se ln od (vv 2) (fillZ pz 0 26) P.toNat)))), (2, .int (iZ be)), (3, .int (iZ lu)), (5, .int (iZ k))]) X dX4_volume_87 (by decide) rfl ?_
          refine g_iinc (q := 6) (lv2 := [(5, .int (iZ (k + 1))), (4, .int (iZ (ah + (pz2 k)))), (6, .int (iZ (pz2 k))), (0, .ref g0), (1, .int (iZ ((smT hd se ln od (vv 2) (fillZ pz 0 26) P.toNat)))), (2, .int (iZ be)), (3, .int (iZ lu))]) X dX4_volume_89 rfl (by decide) rfl ?_
          refine g_goto X 28 dX4_volume_92 (by decide) ?_
          refine g_lv (lv' := [(0, .ref g0), (1, .int (iZ ((smT hd se ln od (vv 2) (fillZ pz 0 26) P.toNat)))), (2, .int (iZ be)), (3, .int (iZ lu)), (4, .int (iZ (ah + (pz2 k)))), (5, .int (iZ (k + 1)))]) [3, 4, 5, 6, 1, 0] rfl ?_
          exact ih_28 be lu (ah + (pz2 k)) (k + 1) (by omega) (by omega) (by omega) (by omega) hv2 (by omega)
        · skip
          refine g_iload X 5 dX4_volume_49 rfl ?_
          refine g_if_le X 82 dX4_volume_51 (by decide) (by omega) (fun c_51 => ?_) (fun c_51 => ?_)
          · skip
            have hv2 := hv
            rw [if_neg (fun q => by have := q.2.1; omega)] at hv2
            refine g_iload X 5 dX4_volume_82 rfl ?_
            refine g_iload X 0 dX4_volume_84 rfl ?_
            refine g_iadd X dX4_volume_86 ?_
            refine g_istore (lv2 := [(4, .int (iZ (ah + (pz2 k)))), (6, .int (iZ (pz2 k))), (0, .ref g0), (1, .int (iZ ((smT hd se ln od (vv 2) (fillZ pz 0 26) P.toNat)))), (2, .int (iZ be)), (3, .int (iZ lu)), (5, .int (iZ k))]) X dX4_volume_87 (by decide) rfl ?_
            refine g_iinc (q := 6) (lv2 := [(5, .int (iZ (k + 1))), (4, .int (iZ (ah + (pz2 k)))), (6, .int (iZ (pz2 k))), (0, .ref g0), (1, .int (iZ ((smT hd se ln od (vv 2) (fillZ pz 0 26) P.toNat)))), (2, .int (iZ be)), (3, .int (iZ lu))]) X dX4_volume_89 rfl (by decide) rfl ?_
            refine g_goto X 28 dX4_volume_92 (by decide) ?_
            refine g_lv (lv' := [(0, .ref g0), (1, .int (iZ ((smT hd se ln od (vv 2) (fillZ pz 0 26) P.toNat)))), (2, .int (iZ be)), (3, .int (iZ lu)), (4, .int (iZ (ah + (pz2 k)))), (5, .int (iZ (k + 1)))]) [3, 4, 5, 6, 1, 0] rfl ?_
            exact ih_28 be lu (ah + (pz2 k)) (k + 1) (by omega) (by omega) (by omega) (by omega) hv2 (by omega)
          · skip
            refine g_iload_n X 2 dX4_volume_54 rfl rfl ?_
            refine g_iconst X dX4_volume_55 ?_
            refine g_iload X 5 dX4_volume_56 rfl ?_
            refine g_imul X dX4_volume_58 ?_
            refine g_isub X dX4_volume_59 ?_
            refine g_mabs X (index := 178) (by decide +kernel) (by decide +kernel) (by decide +kernel) (by decide +kernel) (by omega) (by decide) (Nat.le_of_ble_eq_true rfl) (by decide) (by decide) dX4_volume_60 ?_
            refine g_istore (lv2 := [(7, .int (iZ (absZ (((smT hd se ln od (vv 2) (fillZ pz 0 26) P.toNat)) - (2 * ah))))), (6, .int (iZ (pz2 k))), (0, .ref g0), (1, .int (iZ ((smT hd se ln od (vv 2) (fillZ pz 0 26) P.toNat)))), (2, .int (iZ be)), (3, .int (iZ lu)), (4, .int (iZ ah)), (5, .int (iZ k))]) X dX4_volume_63 (by decide) rfl ?_
            have ab9 := absZ_b (smT hd se ln od (vv 2) (fillZ pz 0 26) P.toNat - 2 * ah)
            refine g_iload_n X 4 dX4_volume_65 rfl rfl ?_
            refine g_iconst X dX4_volume_66 ?_
            refine g_icmp_eq X 76 dX4_volume_67 (by decide) (by omega) (by omega) (fun c_67 => ?_) (fun c_67 => ?_)
            · skip
              have hv2 := hv
              rw [if_pos ⟨by omega, by omega, Or.inl c_67⟩] at hv2
              refine g_iload X 7 dX4_volume_76 rfl ?_
              refine g_istore_n (lv2 := [(2, .int (iZ k)), (7, .int (iZ (absZ (((smT hd se ln od (vv 2) (fillZ pz 0 26) P.toNat)) - (2 * ah))))), (6, .int (iZ (pz2 k))), (0, .ref g0), (1, .int (iZ ((smT hd se ln od (vv 2) (fillZ pz 0 26) P.toNat)))), (3, .int (iZ lu)), (4, .int (iZ ah)), (5, .int (iZ k))]) X dX4_volume_78 rfl (by decide) rfl ?_
              refine g_iload X 1 dX4_volume_79 rfl ?_
              refine g_istore_n (lv2 := [(3, .int (iZ (absZ (((smT hd se ln od (vv 2) (fillZ pz 0 26) P.toNat)) - (2 * ah))))), (2, .int (iZ k)), (7, .int (iZ (absZ (((smT hd se ln od (vv 2) (fillZ pz 0 26) P.toNat)) - (2 * ah))))), (6, .int (iZ (pz2 k))), (0, .ref g0), (1, .int (iZ ((smT hd se ln od (vv 2) (fillZ pz 0 26) P.toNat)))), (4, .int (iZ ah)), (5, .int (iZ k))]) X dX4_volume_81 rfl (by decide) rfl ?_
              refine g_iload X 6 dX4_volume_82 rfl ?_
              refine g_iload X 3 dX4_volume_84 rfl ?_
              refine g_iadd X dX4_volume_86 ?_
              refine g_istore (lv2 := [(4, .int (iZ (ah + (pz2 k)))), (3, .int (iZ (absZ (((smT hd se ln od (vv 2) (fillZ pz 0 26) P.toNat)) - (2 * ah))))), (2, .int (iZ k)), (7, .int (iZ (absZ (((smT hd se ln od (vv 2) (fillZ pz 0 26) P.toNat)) - (2 * ah))))), (6, .int (iZ (pz2 k))), (0, .ref g0), (1, .int (iZ ((smT hd se ln od (vv 2) (fillZ pz 0 26) P.toNat)))), (5, .int (iZ k))]) X dX4_volume_87 (by decide) rfl ?_
              refine g_iinc (q := 7) (lv2 := [(5, .int (iZ (k + 1))), (4, .int (iZ (ah + (pz2 k)))), (3, .int (iZ (absZ (((smT hd se ln od (vv 2) (fillZ pz 0 26) P.toNat)) - (2 * ah))))), (2, .int (iZ k)), (7, .int (iZ (absZ (((smT hd se ln od (vv 2) (fillZ pz 0 26) P.toNat)) - (2 * ah))))), (6, .int (iZ (pz2 k))), (0, .ref g0), (1, .int (iZ ((smT hd se ln od (vv 2) (fillZ pz 0 26) P.toNat))))]) X dX4_volume_89 rfl (by decide) rfl ?_
              refine g_goto X 28 dX4_volume_92 (by decide) ?_
              refine g_lv (lv' := [(0, .ref g0), (1, .int (iZ ((smT hd se ln od (vv 2) (fillZ pz 0 26) P.toNat)))), (2, .int (iZ k)), (3, .int (iZ (absZ (((smT hd se ln od (vv 2) (fillZ pz 0 26) P.toNat)) - (2 * ah))))), (4, .int (iZ (ah + (pz2 k)))), (5, .int (iZ (k + 1)))]) [6, 7, 3, 2, 1, 0] rfl ?_
              exact ih_28 k (absZ (((smT hd se ln od (vv 2) (fillZ pz 0 26) P.toNat)) - (2 * ah))) (ah + (pz2 k)) (k + 1) (by omega) (by omega) (by omega) (by omega) hv2 (by omega)
            · skip
              refine g_iload X 0 dX4_volume_70 rfl ?_
              refine g_iload_n X 5 dX4_volume_72 rfl rfl ?_
              refine g_icmp_ge X 82 dX4_volume_73 (by decide) (by omega) (by omega) (fun c_73 => ?_) (fun c_73 => ?_)
              · skip
                have hv2 := hv
                rw [if_neg (fun q => by have := q.2.2; omega)] at hv2
                refine g_iload X 6 dX4_volume_82 rfl ?_
                refine g_iload X 1 dX4_volume_84 rfl ?_
                refine g_iadd X dX4_volume_86 ?_
                refine g_istore (lv2 := [(4, .int (iZ (ah + (pz2 k)))), (7, .int (iZ (absZ (((smT hd se ln od (vv 2) (fillZ pz 0 26) P.toNat)) - (2 * ah))))), (6, .int (iZ (pz2 k))), (0, .ref g0), (1, .int (iZ ((smT hd se ln od (vv 2) (fillZ pz 0 26) P.toNat)))), (2, .int (iZ be)), (3, .int (iZ lu)), (5, .int (iZ k))]) X dX4_volume_87 (by decide) rfl ?_
                refine g_iinc (q := 7) (lv2 := [(5, .int (iZ (k + 1))), (4, .int (iZ (ah + (pz2 k)))), (7, .int (iZ (absZ (((smT hd se ln od (vv 2) (fillZ pz 0 26) P.toNat)) - (2 * ah))))), (6, .int (iZ (pz2 k))), (0, .ref g0), (1, .int (iZ ((smT hd se ln od (vv 2) (fillZ pz 0 26) P.toNat)))), (2, .int (iZ be)), (3, .int (iZ lu))]) X dX4_volume_89 rfl (by decide) rfl ?_
                refine g_goto X 28 dX4_volume_92 (by decide) ?_
                refine g_lv (lv' := [(0, .ref g0), (1, .int (iZ ((smT hd se ln od (vv 2) (fillZ pz 0 26) P.toNat)))), (2, .int (iZ be)), (3, .int (iZ lu)), (4, .int (iZ (ah + (pz2 k)))), (5, .int (iZ (k + 1)))]) [4, 5, 6, 7, 1, 0] rfl ?_
                exact ih_28 be lu (ah + (pz2 k)) (k + 1) (by omega) (by omega) (by omega) (by omega) hv2 (by omega)
              · skip
                have hv2 := hv
                rw [if_pos ⟨by omega, by omega, Or.inr (by omega)⟩] at hv2
                refine g_iload X 7 dX4_volume_76 rfl ?_
                refine g_istore_n (lv2 := [(2, .int (iZ k)), (7, .int (iZ (absZ (((smT hd se ln od (vv 2) (fillZ pz 0 26) P.toNat)) - (2 * ah))))), (6, .int (iZ (pz2 k))), (0, .ref g0), (1, .int (iZ ((smT hd se ln od (vv 2) (fillZ pz 0 26) P.toNat)))), (3, .int (iZ lu)), (4, .int (iZ ah)), (5, .int (iZ k))]) X dX4_volume_78 rfl (by decide) rfl ?_
                refine g_iload X 1 dX4_volume_79 rfl ?_
                refine g_istore_n (lv2 := [(3, .int (iZ (absZ (((smT hd se ln od (vv 2) (fillZ pz 0 26) P.toNat)) - (2 * ah))))), (2, .int (iZ k)), (7, .int (iZ (absZ (((smT hd se ln od (vv 2) (fillZ pz 0 26) P.toNat)) - (2 * ah))))), (6, .int (iZ (pz2 k))), (0, .ref g0), (1, .int (iZ ((smT hd se ln od (vv 2) (fillZ pz 0 26) P.toNat)))), (4, .int (iZ ah)), (5, .int (iZ k))]) X dX4_volume_81 rfl (by decide) rfl ?_
                refine g_iload X 6 dX4_volume_82 rfl ?_
                refine g_iload X 3 dX4_volume_84 rfl ?_
                refine g_iadd X dX4_volume_86 ?_
                refine g_istore (lv2 := [(4, .int (iZ (ah + (pz2 k)))), (3, .int (iZ (absZ (((smT hd se ln od (vv 2) (fillZ pz 0 26) P.toNat)) - (2 * ah))))), (2, .int (iZ k)), (7, .int (iZ (absZ (((smT hd se ln od (vv 2) (fillZ pz 0 26) P.toNat)) - (2 * ah))))), (6, .int (iZ (pz2 k))), (0, .ref g0), (1, .int (iZ ((smT hd se ln od (vv 2) (fillZ pz 0 26) P.toNat)))), (5, .int (iZ k))]) X dX4_volume_87 (by decide) rfl ?_
                refine g_iinc (q := 7) (lv2 := [(5, .int (iZ (k + 1))), (4, .int (iZ (ah + (pz2 k)))), (3, .int (iZ (absZ (((smT hd se ln od (vv 2) (fillZ pz 0 26) P.toNat)) - (2 * ah))))), (2, .int (iZ k)), (7, .int (iZ (absZ (((smT hd se ln od (vv 2) (fillZ pz 0 26) P.toNat)) - (2 * ah))))), (6, .int (iZ (pz2 k))), (0, .ref g0), (1, .int (iZ ((smT hd se ln od (vv 2) (fillZ pz 0 26) P.toNat))))]) X dX4_volume_89 rfl (by decide) rfl ?_
                refine g_goto X 28 dX4_volume_92 (by decide) ?_
                refine g_lv (lv' := [(0, .ref g0), (1, .int (iZ ((smT hd se ln od (vv 2) (fillZ pz 0 26) P.toNat)))), (2, .int (iZ k)), (3, .int (iZ (absZ (((smT hd se ln od (vv 2) (fillZ pz 0 26) P.toNat)) - (2 * ah))))), (4, .int (iZ (ah + (pz2 k)))), (5, .int (iZ (k + 1)))]) [6, 7, 3, 2, 1, 0] rfl ?_
                exact ih_28 k (absZ (((smT hd se ln od (vv 2) (fillZ pz 0 26) P.toNat)) - (2 * ah))) (ah + (pz2 k)) (k + 1) (by omega) (by omega) (by omega) (by omega) hv2 (by omega)
  exact loop_28 _ ((-1)) 0 0 0 (by omega) (by omega) (by omega) (by omega) rfl (Nat.lt_succ_self _)
