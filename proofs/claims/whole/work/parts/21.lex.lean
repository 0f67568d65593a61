def fillZ (f : Int → Int) (v : Int) (i : Int) : Int → Int := fun j => if 0 ≤ j ∧ j < i then v else f j
theorem fillZ_0 (f : Int → Int) (v : Int) : fillZ f v 0 = f := by funext j; unfold fillZ; rw [if_neg (by omega)]
theorem fillZ_s (f : Int → Int) (v i : Int) (h : 0 ≤ i) : upZ (fillZ f v i) i v = fillZ f v (i + 1) := by
  funext j; unfold fillZ upZ; dsimp only
  by_cases e : j = i
  · rw [if_pos e, if_pos (by omega)]
  · rw [if_neg e]
    by_cases e2 : 0 ≤ j ∧ j < i
    · rw [if_pos e2, if_pos (by omega)]
    · rw [if_neg e2, if_neg (by omega)]
theorem fillZ_in {f : Int → Int} {v i j : Int} (h : 0 ≤ j ∧ j < i) : fillZ f v i j = v := if_pos h
/-- where a head lies in the order -/
def belowZ (hd od : Int → Int) (P x r : Int) : Prop := 0 ≤ r ∧ r ≤ P ∧ (∀ k : Int, 0 ≤ k → k < r → hd (od k) < x) ∧ (∀ k : Int, r ≤ k → k < P → x ≤ hd (od k))
/-- the first entry in order with the head x, or -1 -/
def fwZ (hd od : Int → Int) (P x r : Int) : Prop := (∃ k : Int, 0 ≤ k ∧ k < P ∧ hd (od k) = x ∧ (∀ i : Int, 0 ≤ i → i < k → hd (od i) < x) ∧ r = od k) ∨ ((∀ k : Int, 0 ≤ k → k < P → hd (od k) ≠ x) ∧ r = -1)
theorem fwZ_fun {hd od : Int → Int} {P x r r2 : Int} (h : fwZ hd od P x r) (h2 : fwZ hd od P x r2) : r = r2 := by
  rcases h with ⟨k, a1, a2, a3, a4, a5⟩ | ⟨a1, a2⟩ <;> rcases h2 with ⟨k2, b1, b2, b3, b4, b5⟩ | ⟨b1, b2⟩
  · rcases (show k < k2 ∨ k = k2 ∨ k2 < k by omega) with h | h | h
    · have := b4 k a1 h; omega
    · subst h; rw [a5, b5]
    · have := a4 k2 b1 h; omega
  · exact absurd a3 (b1 k a1 a2)
  · exact absurd b3 (a1 k2 b1 b2)
  · rw [a2, b2]
/-- where a SEE leads, with so many hops left and the entries that are passed marked -/
def leadR (nx me : Int → Int) : Nat → (Int → Int) → Int → Int
  | 0, _, _ => -2
  | k + 1, pa, a => if me a = 0 then a else if pa a ≠ 0 then -2 else if nx a = -1 then -1 else leadR nx me k (upZ pa a 1) (nx a)
theorem leadR_s (nx me : Int → Int) (k : Nat) (pa : Int → Int) (a : Int) : leadR nx me (k + 1) pa a = if me a = 0 then a else if pa a ≠ 0 then -2 else if nx a = -1 then -1 else leadR nx me k (upZ pa a 1) (nx a) := rfl
def qJ7_fill_53178 (cB cI cJ cY : ClassId) (q : Nat) (nn : Nat) (f : Int → Int) (v : Int) : Option Value → va_W → Prop := fun rv w1 => rv = none ∧ w1 = [(q, .inl (cI, nn, .inl (zA (fillZ f v nn))))]
set_option maxHeartbeats 4000000 in
set_option maxRecDepth 100000 in
theorem ctJ7_fill_53178 (l : Launch) (D : va_G) (cB cI cJ cY : ClassId) (q : Nat) (nn : Nat) (f : Int → Int) (v : Int) (hnn : (nn : Int) ≤ 10000) : gM l yJ7_fill_53178 wsJ7_fill_53178 { frames := 0, cells := 0, slots := 0, locals := 0 } D (gT cB cI cJ cY) [.ref q, .int (iZ v)] [(q, .inl (cI, nn, .inl (zA f)))] 0 0 (qJ7_fill_53178 cB cI cJ cY q nn f v) := by
  refine g_start (cc := cJ7_fill_53178) (maxL := 4) (ret := none) (lv := [(0, .ref q), (1, .int (iZ v))]) (by decide) rfl (Nat.le_of_ble_eq_true rfl) rfl ?_
  intro p e s m args below meth c A X hr hnm
  refine g_iconst X dJ7_fill_53178_0 ?_
  refine g_istore_n (lv2 := [(2, .int (iZ 0)), (0, .ref q), (1, .int (iZ v))]) X dJ7_fill_53178_1 rfl (by decide) rfl ?_
  refine g_aload_n X 1 dJ7_fill_53178_2 rfl rfl ?_
  refine g_alen (z := nn) X 0 1 rfl rfl rfl dJ7_fill_53178_3 ?_
  refine g_istore_n (lv2 := [(3, .int (iZ ((nn : Int)))), (2, .int (iZ 0)), (0, .ref q), (1, .int (iZ v))]) X dJ7_fill_53178_4 rfl (by decide) rfl ?_
  refine g_lv (lv' := [(0, .ref q), (1, .int (iZ v)), (2, .int (iZ 0)), (3, .int (iZ ((nn : Int))))]) [2, 3, 1, 0] rfl ?_
  have loop_5 : ∀ (kf : Nat) (i : Int) (g : Int → Int), (hi : 0 ≤ i ∧ i ≤ nn) → (hg : g = fillZ f v i) → (nn - i).toNat < kf → gW p l e { frames := 0, cells := 0, slots := 0, locals := 0 } s m args below meth c D A 4 0 0 (MQ below (gQ D (gT cB cI cJ cY) (qJ7_fill_53178 cB cI cJ cY q nn f v) A) args s 0 0 A) [(q, .inl (cI, nn, .inl (zA g)))] 5 [(0, .ref q), (1, .int (iZ v)), (2, .int (iZ i)), (3, .int (iZ ((nn : Int))))] [] := by
    intro kf
    induction kf with
    | zero => intro i g hi hg hm; exact absurd hm (Nat.not_lt_zero _)
    | succ kf ih_5 =>
      intro i g hi hg hm
      refine g_iload_n X 2 dJ7_fill_53178_5 rfl rfl ?_
      refine g_iload_n X 3 dJ7_fill_53178_6 rfl rfl ?_
      refine g_icmp_ge X 20 dJ7_fill_53178_7 (by decide) (by omega) (by omega) (fun c_7 => ?_) (fun c_7 => ?_)
      · skip
        exact g_vret X hr (by decide) (by decide) dJ7_fill_53178_20 ⟨rfl, by rw [hg, show i = nn by omega]⟩
      · skip
        refine g_aload_n X 0 dJ7_fill_53178_10 rfl rfl ?_
        refine g_iload_n X 2 dJ7_fill_53178_11 rfl rfl ?_
        refine g_iload_n X 1 dJ7_fill_53178_12 rfl rfl ?_
        refine g_iast X 0 1 rfl rfl (by omega) (by omega) (ws2 := [(q, .inl (cI, nn, .inl (zA (upZ g i v))))]) rfl dJ7_fill_53178_13 ?_
        refine g_iinc (q := 2) (lv2 := [(2, .int (iZ (i + 1))), (0, .ref q), (1, .int (iZ v)), (3, .int (iZ ((nn : Int))))]) X dJ7_fill_53178_14 rfl (by decide) rfl ?_
        refine g_goto X 5 dJ7_fill_53178_17 (by decide) ?_
        refine g_lv (lv' := [(0, .ref q), (1, .int (iZ v)), (2, .int (iZ (i + 1))), (3, .int (iZ ((nn : Int))))]) [1, 2, 0, 3] rfl ?_
        exact ih_5 (i + 1) (upZ g i v) (by omega) (by rw [hg]; exact fillZ_s f v i hi.1) (by omega)
  exact loop_5 _ 0 f (by omega) (fillZ_0 f v).symm (Nat.lt_succ_self _)
def qX0_headsBelow (cB cI cJ cY : ClassId) (h : Nat) (qh : Nat) (qm : Nat) (qs : Nat) (ql : Nat) (qd : Nat) (qo : Nat) (qp : Nat) (hd : Int → Int) (od : Int → Int) (N : Int) (P : Int) (x : Int) : Option Value → va_W → Prop := fun rv w1 => ∃ (r : Int), rv = some (.int (iZ r)) ∧ belowZ hd od P x r ∧ w1 = [(h, .inr (0, [.ref qh, .ref qm, .ref qs, .ref ql, .ref qd, .ref qo, .ref qp, .int (iZ N), .int (iZ P)])), (qh, .inl (cJ, 150, .inr (.inl (lA hd)))), (qo, .inl (cI, 150, .inl (zA od)))]
set_option maxHeartbeats 4000000 in
set_option maxRecDepth 100000 in
theorem ctX0_headsBelow (l : Launch) (D : va_G) (cB cI cJ cY : ClassId) (h : Nat) (qh : Nat) (qm : Nat) (qs : Nat) (ql : Nat) (qd : Nat) (qo : Nat) (qp : Nat) (hd : Int → Int) (od : Int → Int) (N : Int) (P : Int) (x : Int) (hp : 0 ≤ P ∧ P ≤ N ∧ N ≤ 150) (hhd : ∀ j : Int, 0 ≤ j ∧ j < 150 → 0 ≤ hd j ∧ hd j < 1152921504606846976) (hod : ∀ j : Int, 0 ≤ j ∧ j < P → 0 ≤ od j ∧ od j < N) (hso : ∀ i j : Int, 0 ≤ i → i < j → j < P → hd (od i) ≤ hd (od j)) (hx : 0 ≤ x ∧ x ≤ 1152921504606846976) : gM l yX0_headsBelow wsX0_headsBelow { frames := 0, cells := 0, slots := 0, locals := 0 } D (gT cB cI cJ cY) [.ref h, .long (lZ x)] [(h, .inr (0, [.ref qh, .ref qm, .ref qs, .ref ql, .ref qd, .ref qo, .ref qp, .int (iZ N), .int (iZ P)])), (qh, .inl (cJ, 150, .inr (.inl (lA hd)))), (qo, .inl (cI, 150, .inl (zA od)))] 0 0 (qX0_headsBelow cB cI cJ cY h qh qm qs ql qd qo qp hd od N P x) := by
  refine g_start (cc := cX0_headsBelow) (maxL := 7) (ret := some .int) (lv := [(0, .ref h), (1, .long (lZ x))]) (by decide) rfl (Nat.le_of_ble_eq_true rfl) rfl ?_
  intro p e s m args below meth c A X hr hnm
  have hin0 : ∀ w ∈ u_ws RX0 TX0 9, w ∈ wsX0_headsBelow := by decide +kernel
  refine g_iconst X dX0_headsBelow_0 ?_
  refine g_istore_n (lv2 := [(3, .int (iZ 0)), (0, .ref h), (1, .long (lZ x))]) X dX0_headsBelow_1 rfl (by decide) rfl ?_
  refine g_aload_n X 1 dX0_headsBelow_2 rfl rfl ?_
  refine g_get X (index := 43) (ref := "GuideWords$Lexicon") hin0 0 rfl rfl 8 (by decide) rfl (by decide +kernel) (v := .int (iZ P)) rfl dX0_headsBelow_3 ?_
  refine g_istore (lv2 := [(4, .int (iZ P)), (3, .int (iZ 0)), (0, .ref h), (1, .long (lZ x))]) X dX0_headsBelow_6 (by decide) rfl ?_
  refine g_iconst X dX0_headsBelow_8 ?_
  refine g_istore (lv2 := [(5, .int (iZ 0)), (4, .int (iZ P)), (3, .int (iZ 0)), (0, .ref h), (1, .long (lZ x))]) X dX0_headsBelow_9 (by decide) rfl ?_
  refine g_lv (lv' := [(0, .ref h), (1, .long (lZ x)), (3, .int (iZ 0)), (4, .int (iZ P)), (5, .int (iZ 0))]) [3, 4, 2, 1, 0] rfl ?_
  have loop_11 : ∀ (kf : Nat) (lo : Int) (hi : Int) (t : Int), (hl : 0 ≤ lo ∧ lo ≤ hi ∧ hi ≤ P ∧ 0 ≤ t ∧ t ≤ 150 ∧ hi - lo ≤ 150 - t) → (hA : ∀ k : Int, 0 ≤ k → k < lo → hd (od k) < x) → (hB : ∀ k : Int, hi ≤ k → k < P → x ≤ hd (od k)) → (150 - t).toNat < kf → gW p l e { frames := 0, cells := 0, slots := 0, locals := 0 } s m args below meth c D A 7 0 0 (MQ below (gQ D (gT cB cI cJ cY) (qX0_headsBelow cB cI cJ cY h qh qm qs ql qd qo qp hd od N P x) A) args s 0 0 A) [(h, .inr (0, [.ref qh, .ref qm, .ref qs, .ref ql, .ref qd, .ref qo, .ref qp, .int (iZ N), .int (iZ P)])), (qh, .inl (cJ, 150, .inr (.inl (lA hd)))), (qo, .inl (cI, 150, .inl (zA od)))] 11 [(0, .ref h), (1, .long (lZ x)), (3, .int (iZ lo)), (4, .int (iZ hi)), (5, .int (iZ t))] [] := by
    intro kf
    induction kf with
    | zero => intro lo hi t hl hA hB hm; exact absurd hm (Nat.not_lt_zero _)
    | succ kf ih_11 =>
      intro lo hi t hl hA hB hm
      refine g_iload X 4 dX0_headsBelow_11 rfl ?_
      refine g_sipush X dX0_headsBelow_13 (by decide) ?_
      refine g_icmp_ge X 68 dX0_headsBelow_16 (by decide) (by omega) (by omega) (fun c_16 => ?_) (fun c_16 => ?_)
      · skip
        refine g_iload_n X 2 dX0_headsBelow_68 rfl rfl ?_
        exact g_iret X hr (by decide) (by decide) dX0_headsBelow_69 ⟨_, rfl, ⟨by omega, by omega, hA, fun k h1 h2 => hB k (by omega) h2⟩, rfl⟩
      · skip
        refine g_iload_n X 2 dX0_headsBelow_19 rfl rfl ?_
        refine g_iload X 3 dX0_headsBelow_20 rfl ?_
        refine g_icmp_ge X 68 dX0_headsBelow_22 (by decide) (by omega) (by omega) (fun c_22 => ?_) (fun c_22 => ?_)
        · skip
          refine g_iload_n X 2 dX0_headsBelow_68 rfl rfl ?_
          exact g_iret X hr (by decide) (by decide) dX0_headsBelow_69 ⟨_, rfl, ⟨by omega, by omega, hA, fun k h1 h2 => hB k (by omega) h2⟩, rfl⟩
        · skip
          refine g_iload_n X 2 dX0_headsBelow_25 rfl rfl ?_
          refine g_iload X 3 dX0_headsBelow_26 rfl ?_
          refine g_iadd X dX0_headsBelow_28 ?_
          refine g_iconst X dX0_headsBelow_29 ?_
          refine g_idiv X dX0_headsBelow_30 (by omega) (by omega) ?_
          refine g_istore (lv2 := [(6, .int (iZ ((lo + hi) / 2))), (0, .ref h), (1, .long (lZ x)), (3, .int (iZ lo)), (4, .int (iZ hi)), (5, .int (iZ t))]) X dX0_headsBelow_31 (by decide) rfl ?_
          refine g_aload_n X 1 dX0_headsBelow_33 rfl rfl ?_
          refine g_get X (index := 9) (ref := "GuideWords$Lexicon") hin0 0 rfl rfl 0 (by decide) rfl (by decide +kernel) (v := .ref qh) rfl dX0_headsBelow_34 ?_
          refine g_aload_n X 1 dX0_headsBelow_37 rfl rfl ?_
          refine g_get X (index := 29) (ref := "GuideWords$Lexicon") hin0 0 rfl rfl 5 (by decide) rfl (by decide +kernel) (v := .ref qo) rfl dX0_headsBelow_38 ?_
          refine g_iload X 0 dX0_headsBelow_41 rfl ?_
          refine g_iald X 2 1 rfl rfl (by omega) (by decide) dX0_headsBelow_43 ?_
          have r_43 := hod ((lo + hi) / 2) (by omega)
          refine g_lald X 1 2 rfl rfl (by omega) (by decide) dX0_headsBelow_44 ?_
          have r_44 := hhd (od ((lo + hi) / 2)) (by omega)
          refine g_lload_n X 2 dX0_headsBelow_45 rfl rfl ?_
          refine g_lcmp X dX0_headsBelow_46 (by omega) (by omega) ?_
          refine g_if_ge X 58 dX0_headsBelow_47 (by decide) (by have := cmpZ_rng (hd (od ((lo + hi) / 2))) (x); omega) (fun c_47 => ?_) (fun c_47 => ?_)
          · skip
            have c_47 : x ≤ hd (od ((lo + hi) / 2)) := by have h9 := @cmpZ_lt (hd (od ((lo + hi) / 2))) (x); omega
            have hA2 := hA
            have hB2 : ∀ k : Int, (lo + hi) / 2 ≤ k → k < P → x ≤ hd (od k) := fun k h1 h2 => by
              rcases (show k = (lo + hi) / 2 ∨ (lo + hi) / 2 < k by omega) with h | h
              · subst h; exact c_47
              · have := hso ((lo + hi) / 2) k (by omega) h h2; omega
            refine g_iload X 0 dX0_headsBelow_58 rfl ?_
            refine g_istore (lv2 := [(4, .int (iZ ((lo + hi) / 2))), (6, .int (iZ ((lo + hi) / 2))), (0, .ref h), (1, .long (lZ x)), (3, .int (iZ lo)), (5, .int (iZ t))]) X dX0_headsBelow_60 (by decide) rfl ?_
            refine g_iinc (q := 5) (lv2 := [(5, .int (iZ (t + 1))), (4, .int (iZ ((lo + hi) / 2))), (6, .int (iZ ((lo + hi) / 2))), (0, .ref h), (1, .long (lZ x)), (3, .int (iZ lo))]) X dX0_headsBelow_62 rfl (by decide) rfl ?_
            refine g_goto X 11 dX0_headsBelow_65 (by decide) ?_
            refine g_lv (lv' := [(0, .ref h), (1, .long (lZ x)), (3, .int (iZ lo)), (4, .int (iZ ((lo + hi) / 2))), (5, .int (iZ (t + 1)))]) [3, 4, 5, 1, 0] rfl ?_
            exact ih_11 lo ((lo + hi) / 2) (t + 1) (by omega) hA2 hB2 (by omega)
          · skip
            have c_47 : hd (od ((lo + hi) / 2)) < x := by have h9 := @cmpZ_lt (hd (od ((lo + hi) / 2))) (x); omega
            have hB2 := hB
            have hA2 : ∀ k : Int, 0 ≤ k → k < (lo + hi) / 2 + 1 → hd (od k) < x := fun k h1 h2 => by
              rcases (show k = (lo + hi) / 2 ∨ k < (lo + hi) / 2 by omega) with h | h
              · subst h; exact c_47
              · have := hso k ((lo + hi) / 2) h1 h (by omega); omega
            refine g_iload X 0 dX0_headsBelow_50 rfl ?_
            refine g_iconst X dX0_headsBelow_52 ?_
            refine g_iadd X dX0_headsBelow_53 ?_
            refine g_istore_n (lv2 := [(3, .int (iZ (((lo + hi) / 2) + 1))), (6, .int (iZ ((lo + hi) / 2))), (0, .ref h), (1, .long (lZ x)), (4, .int (iZ hi)), (5, .int (iZ t))]) X dX0_headsBelow_54 rfl (by decide) rfl ?_
            refine g_goto X 62 dX0_headsBelow_55 (by decide) ?_
            refine g_iinc (q := 5) (lv2 := [(5, .int (iZ (t + 1))), (3, .int (iZ (((lo + hi) / 2) + 1))), (6, .int (iZ ((lo + hi) / 2))), (0, .ref h), (1, .long (lZ x)), (4, .int (iZ hi))]) X dX0_headsBelow_62 rfl (by decide) rfl ?_
            refine g_goto X 11 dX0_headsBelow_65 (by decide) ?_
            refine g_lv (lv' := [(0, .ref h), (1, .long (lZ x)), (3, .int (iZ (((lo + hi) / 2) + 1))), (4, .int (iZ hi)), (5, .int (iZ (t + 1)))]) [3, 4, 1, 5, 0] rfl ?_
            exact ih_11 (((lo + hi) / 2) + 1) hi (t + 1) (by omega) hA2 hB2 (by omega)
  exact loop_11 _ 0 P 0 (by omega) (fun k h1 h2 => by omega) (fun k h1 h2 => by omega) (Nat.lt_succ_self _)
def qX0_firstWith (cB cI cJ cY : ClassId) (h : Nat) (qh : Nat) (qm : Nat) (qs : Nat) (ql : Nat) (qd : Nat) (qo : Nat) (qp : Nat) (hd : Int → Int) (od : Int → Int) (N : Int) (P : Int) (x : Int) : Option Value → va_W → Prop := fun rv w1 => ∃ (r : Int), rv = some (.int (iZ r)) ∧ fwZ hd od P x r ∧ w1 = [(h, .inr (0, [.ref qh, .ref qm, .ref qs, .ref ql, .ref qd, .ref qo, .ref qp, .int (iZ N), .int (iZ P)])), (qh, .inl (cJ, 150, .inr (.inl (lA hd)))), (qo, .inl (cI, 150, .inl (zA od)))]
set_option maxHeartbeats 4000000 in
set_option maxRecDepth 100000 in
theorem ctX0_firstWith (l : Launch) (D : va_G) (cB cI cJ cY : ClassId) (h : Nat) (qh : Nat) (qm : Nat) (qs : Nat) (ql : Nat) (qd : Nat) (qo : Nat) (qp : Nat) (hd : Int → Int) (od : Int → Int) (N : Int) (P : Int) (x : Int) (hp : 0 ≤ P ∧ P ≤ N ∧ N ≤ 150) (hhd : ∀ j : Int, 0 ≤ j ∧ j < 150 → 0 ≤ hd j ∧ hd j < 1152921504606846976) (hod : ∀ j : Int, 0 ≤ j ∧ j < P → 0 ≤ od j ∧ od j < N) (hso : ∀ i j : Int, 0 ≤ i → i < j → j < P → hd (od i) ≤ hd (od j)) (hx : 0 ≤ x ∧ x ≤ 1152921504606846976) : gM l yX0_firstWith wsX0_firstWith { frames := 1, cells := 0, slots := 0, locals := 26 } D (gT cB cI cJ cY) [.ref h, .long (lZ x)] [(h, .inr (0, [.ref qh, .ref qm, .ref qs, .ref ql, .ref qd, .ref qo, .ref qp, .int (iZ N), .int (iZ P)])), (qh, .inl (cJ, 150, .inr (.inl (lA hd)))), (qo, .inl (cI, 150, .inl (zA od)))] 0 0 (qX0_firstWith cB cI cJ cY h qh qm qs ql qd qo qp hd od N P x) := by
  refine g_start (cc := cX0_firstWith) (maxL := 4) (ret := some .int) (lv := [(0, .ref h), (1, .long (lZ x))]) (by decide) rfl (Nat.le_of_ble_eq_true rfl) rfl ?_
  intro p e s m args below meth c A X hr hnm
  have hin0 : ∀ w ∈ u_ws RX0 TX0 9, w ∈ wsX0_firstWith := by decide +kernel
  refine g_aload_n X 0 dX0_firstWith_0 rfl rfl ?_
  refine g_lload_n X 1 dX0_firstWith_1 rfl rfl ?_
  refine g_callV0 X (As := [.long (lZ x)]) (rest := []) (ctX0_headsBelow l D cB cI cJ cY h qh qm qs ql qd qo qp hd od N P x (by first | assumption | omega) (by first | assumption | omega) (by first | assumption | omega) (by first | assumption | omega) (by first | assumption | omega)) (cwV 1 X.2.2.2.2.1 gX0_firstWith_X0_headsBelow rfl rfl rfl (by decide +kernel) ⟨by decide, by decide⟩) 0 rfl rfl (wc := [(h, .inr (0, [.ref qh, .ref qm, .ref qs, .ref ql, .ref qd, .ref qo, .ref qp, .int (iZ N), .int (iZ P)])), (qh, .inl (cJ, 150, .inr (.inl (lA hd)))), (qo, .inl (cI, 150, .inl (zA od)))]) (wr := []) [0, 1, 2] [] rfl rfl (by decide) (by decide) (by decide) rfl rfl (Nat.le_of_ble_eq_true rfl) ⟨by decide, by decide⟩ dX0_firstWith_2 (fun v w1 hq => ?_)
  obtain ⟨b, rfl, hb, rfl⟩ := hq
  refine g_eq (ws' := [(h, .inr (0, [.ref qh, .ref qm, .ref qs, .ref ql, .ref qd, .ref qo, .ref qp, .int (iZ N), .int (iZ P)])), (qh, .inl (cJ, 150, .inr (.inl (lA hd)))), (qo, .inl (cI, 150, .inl (zA od)))]) (pc' := 5) (st' := [.int (iZ b)]) rfl rfl rfl rfl ?_
  obtain ⟨b1, b2, b3, b4⟩ := hb
  refine g_istore_n (lv2 := [(3, .int (iZ b)), (0, .ref h), (1, .long (lZ x))]) X dX0_firstWith_5 rfl (by decide) rfl ?_
  refine g_iload_n X 0 dX0_firstWith_6 rfl rfl ?_
  refine g_aload_n X 1 dX0_firstWith_7 rfl rfl ?_
  refine g_get X (index := 43) (ref := "GuideWords$Lexicon") hin0 0 rfl rfl 8 (by decide) rfl (by decide +kernel) (v := .int (iZ P)) rfl dX0_firstWith_8 ?_
  refine g_icmp_ge X 37 dX0_firstWith_11 (by decide) (by omega) (by omega) (fun c_11 => ?_) (fun c_11 => ?_)
  · skip
    have hno : ∀ k : Int, 0 ≤ k → k < P → hd (od k) ≠ x := by
      intro k h1 h2 e9
      rcases (show k < b ∨ k = b ∨ b < k by omega) with h | h | h
      · have q9 := b3 k h1 h; omega
      · first | omega | (subst h; exact c_27 e9)
      · first | omega | (have q8 := hso b k b1 h h2; have q7 := b4 b (by omega) (by omega); omega)
    refine g_iconst X dX0_firstWith_37 ?_
    exact g_iret X hr (by decide) (by decide) dX0_firstWith_38 ⟨_, rfl, Or.inr ⟨hno, rfl⟩, rfl⟩
  · skip
    refine g_aload_n X 1 dX0_firstWith_14 rfl rfl ?_
    refine g_get X (index := 9) (ref := "GuideWords$Lexicon") hin0 0 rfl rfl 0 (by decide) rfl (by decide +kernel) (v := .ref qh) rfl dX0_firstWith_15 ?_
    refine g_aload_n X 1 dX0_firstWith_18 rfl rfl ?_
    refine g_get X (index := 29) (ref := "GuideWords$Lexicon") hin0 0 rfl rfl 5 (by decide) rfl (by decide +kernel) (v := .ref qo) rfl dX0_firstWith_19 ?_
    refine g_iload_n X 0 dX0_firstWith_22 rfl rfl ?_
    refine g_iald X 2 1 rfl rfl (by omega) (by decide) dX0_firstWith_23 ?_
    have r_23 := hod b (by omega)
    refine g_lald X 1 2 rfl rfl (by omega) (by decide) dX0_firstWith_24 ?_
    have r_24 := hhd (od b) (by omega)
    refine g_lload_n X 2 dX0_firstWith_25 rfl rfl ?_
    refine g_lcmp X dX0_firstWith_26 (by omega) (by omega) ?_
    refine g_if_ne X 37 dX0_firstWith_27 (by decide) (by have := cmpZ_rng (hd (od b)) (x); omega) (fun c_27 => ?_) (fun c_27 => ?_)
    · skip
      have c_27 : ¬ hd (od b) = x := by have h9 := @cmpZ_eq (hd (od b)) (x); omega
      have hno : ∀ k : Int, 0 ≤ k → k < P → hd (od k) ≠ x := by
        intro k h1 h2 e9
        rcases (show k < b ∨ k = b ∨ b < k by omega) with h | h | h
        · have q9 := b3 k h1 h; omega
        · first | omega | (subst h; exact c_27 e9)
        · first | omega | (have q8 := hso b k b1 h h2; have q7 := b4 b (by omega) (by omega); omega)
      refine g_iconst X dX0_firstWith_37 ?_
      exact g_iret X hr (by decide) (by decide) dX0_firstWith_38 ⟨_, rfl, Or.inr ⟨hno, rfl⟩, rfl⟩
    · skip
      have c_27 : hd (od b) = x := by have h9 := @cmpZ_eq (hd (od b)) (x); omega
      refine g_aload_n X 1 dX0_firstWith_30 rfl rfl ?_
      refine g_get X (index := 29) (ref := "GuideWords$Lexicon") hin0 0 rfl rfl 5 (by decide) rfl (by decide +kernel) (v := .ref qo) rfl dX0_firstWith_31 ?_
      refine g_iload_n X 0 dX0_firstWith_34 rfl rfl ?_
      refine g_iald X 2 1 rfl rfl (by omega) (by decide) dX0_firstWith_35 ?_
      have r_35 := hod b (by omega)
      exact g_iret X hr (by decide) (by decide) dX0_firstWith_36 ⟨_, rfl, Or.inl ⟨b, b1, by omega, c_27, b3, rfl⟩, rfl⟩
def qX0_inOrder (cB cI cJ cY : ClassId) (h : Nat) (qh : Nat) (qm : Nat) (qs : Nat) (ql : Nat) (qd : Nat) (qo : Nat) (qp : Nat) (od : Int → Int) (N : Int) (P : Int) (k : Int) : Option Value → va_W → Prop := fun rv w1 => ∃ (r : Int), rv = some (.int (iZ r)) ∧ (r = (if 0 ≤ k ∧ k < P then od k else -1)) ∧ w1 = [(h, .inr (0, [.ref qh, .ref qm, .ref qs, .ref ql, .ref qd, .ref qo, .ref qp, .int (iZ N), .int (iZ P)])), (qo, .inl (cI, 150, .inl (zA od)))]
set_option maxHeartbeats 4000000 in
set_option maxRecDepth 100000 in
theorem ctX0_inOrder (l : Launch) (D : va_G) (cB cI cJ cY : ClassId) (h : Nat) (qh : Nat) (qm : Nat) (qs : Nat) (ql : Nat) (qd : Nat) (qo : Nat) (qp : Nat) (od : Int → Int) (N : Int) (P : Int) (k : Int) (hp : 0 ≤ P ∧ P ≤ N ∧ N ≤ 150) (hk : -2147483648 ≤ k ∧ k ≤ 2147483647) : gM l yX0_inOrder wsX0_inOrder { frames := 0, cells := 0, slots := 0, locals := 0 } D (gT cB cI cJ cY) [.ref h, .int (iZ k)] [(h, .inr (0, [.ref qh, .ref qm, .ref qs, .ref ql, .ref qd, .ref qo, .ref qp, .int (iZ N), .int (iZ P)])), (qo, .inl (cI, 150, .inl (zA od)))] 0 0 (qX0_inOrder cB cI cJ cY h qh qm qs ql qd qo qp od N P k) := by
  refine g_start (cc := cX0_inOrder) (maxL := 2) (ret := some .int) (lv := [(0, .ref h), (1, .int (iZ k))]) (by decide) rfl (Nat.le_of_ble_eq_true rfl) rfl ?_
  intro p e s m args below meth c A X hr hnm
  have hin0 : ∀ w ∈ u_ws RX0 TX0 9, w ∈ wsX0_inOrder := by decide +kernel
  refine g_iload_n X 1 dX0_inOrder_0 rfl rfl ?_
  refine g_if_lt X 12 dX0_inOrder_1 (by decide) (by omega) (fun c_1 => ?_) (fun c_1 => ?_)
  · skip
    refine g_iconst X dX0_inOrder_12 ?_
    refine g_goto X 22 dX0_inOrder_13 (by decide) ?_
    exact g_iret X hr (by decide) (by decide) dX0_inOrder_22 ⟨_, rfl, by first | exact (if_pos (by omega)).symm | exact (if_neg (by omega)).symm, rfl⟩
  · skip
    refine g_iload_n X 1 dX0_inOrder_4 rfl rfl ?_
    refine g_aload_n X 0 dX0_inOrder_5 rfl rfl ?_
    refine g_get X (index := 43) (ref := "GuideWords$Lexicon") hin0 0 rfl rfl 8 (by decide) rfl (by decide +kernel) (v := .int (iZ P)) rfl dX0_inOrder_6 ?_
    refine g_icmp_lt X 16 dX0_inOrder_9 (by decide) (by omega) (by omega) (fun c_9 => ?_) (fun c_9 => ?_)
    · skip
      refine g_aload_n X 0 dX0_inOrder_16 rfl rfl ?_
      refine g_get X (index := 29) (ref := "GuideWords$Lexicon") hin0 0 rfl rfl 5 (by decide) rfl (by decide +kernel) (v := .ref qo) rfl dX0_inOrder_17 ?_
      refine g_iload_n X 1 dX0_inOrder_20 rfl rfl ?_
      refine g_iald X 1 1 rfl rfl (by omega) (by decide) dX0_inOrder_21 ?_
      exact g_iret X hr (by decide) (by decide) dX0_inOrder_22 ⟨_, rfl, by first | exact (if_pos (by omega)).symm | exact (if_neg (by omega)).symm, rfl⟩
    · skip
      refine g_iconst X dX0_inOrder_12 ?_
      refine g_goto X 22 dX0_inOrder_13 (by decide) ?_
      exact g_iret X hr (by decide) (by decide) dX0_inOrder_22 ⟨_, rfl, by first | exact (if_pos (by omega)).symm | exact (if_neg (by omega)).symm, rfl⟩
def qX0_letterOf (cB cI cJ cY : ClassId) (h : Nat) (qh : Nat) (qm : Nat) (qs : Nat) (ql : Nat) (qd : Nat) (qo : Nat) (qp : Nat) (hd : Int → Int) (N : Int) (P : Int) (e9 : Int) : Option Value → va_W → Prop := fun rv w1 => rv = some (.int (iZ (hd e9 / 36028797018963968 - 1))) ∧ w1 = [(h, .inr (0, [.ref qh, .ref qm, .ref qs, .ref ql, .ref qd, .ref qo, .ref qp, .int (iZ N), .int (iZ P)])), (qh, .inl (cJ, 150, .inr (.inl (lA hd))))]
set_option maxHeartbeats 4000000 in
set_option maxRecDepth 100000 in
theorem ctX0_letterOf (l : Launch) (D : va_G) (cB cI cJ cY : ClassId) (h : Nat) (qh : Nat) (qm : Nat) (qs : Nat) (ql : Nat) (qd : Nat) (qo : Nat) (qp : Nat) (hd : Int → Int) (N : Int) (P : Int) (e9 : Int) (hhd : ∀ j : Int, 0 ≤ j ∧ j < 150 → 0 ≤ hd j ∧ hd j < 1152921504606846976) (he : 0 ≤ e9 ∧ e9 < 150) : gM l yX0_letterOf wsX0_letterOf { frames := 1, cells := 0, slots := 0, locals := 21 } D (gT cB cI cJ cY) [.ref h, .int (iZ e9)] [(h, .inr (0, [.ref qh, .ref qm, .ref qs, .ref ql, .ref qd, .ref qo, .ref qp, .int (iZ N), .int (iZ P)])), (qh, .inl (cJ, 150, .inr (.inl (lA hd))))] 0 0 (qX0_letterOf cB cI cJ cY h qh qm qs ql qd qo qp hd N P e9) := by
  refine g_start (cc := cX0_letterOf) (maxL := 2) (ret := some .int) (lv := [(0, .ref h), (1, .int (iZ e9))]) (by decide) rfl (Nat.le_of_ble_eq_true rfl) rfl ?_
  intro p e s m args below meth c A X hr hnm
  have hin0 : ∀ w ∈ u_ws RX0 TX0 9, w ∈ wsX0_letterOf := by decide +kernel
  refine g_aload_n X 0 dX0_letterOf_0 rfl rfl ?_
  refine g_get X (index := 9) (ref := "GuideWords$Lexicon") hin0 0 rfl rfl 0 (by decide) rfl (by decide +kernel) (v := .ref qh) rfl dX0_letterOf_1 ?_
  refine g_iload_n X 1 dX0_letterOf_4 rfl rfl ?_
  refine g_lald X 1 2 rfl rfl (by omega) (by decide) dX0_letterOf_5 ?_
  have r_5 := hhd e9 (by omega)
  refine g_callS0 X (As := [.long (lZ (hd e9))]) (rest := []) (ctX2_firstLetter l D cB cI cJ cY (hd e9) (by first | assumption | omega)) (va_cwS 1 X.2.2.2.2.1 gX0_letterOf_X2_firstLetter rfl rfl rfl (by decide +kernel) ⟨by decide, by decide⟩) (wc := []) (wr := [(h, .inr (0, [.ref qh, .ref qm, .ref qs, .ref ql, .ref qd, .ref qo, .ref qp, .int (iZ N), .int (iZ P)])), (qh, .inl (cJ, 150, .inr (.inl (lA hd))))]) [] [0, 1] rfl rfl (by decide) (by decide) (by decide) rfl rfl (Nat.le_of_ble_eq_true rfl) ⟨by decide, by decide⟩ dX0_letterOf_6 (fun v w1 hq => ?_)
  obtain ⟨rfl, rfl⟩ := hq
  refine g_eq (ws' := [(h, .inr (0, [.ref qh, .ref qm, .ref qs, .ref ql, .ref qd, .ref qo, .ref qp, .int (iZ N), .int (iZ P)])), (qh, .inl (cJ, 150, .inr (.inl (lA hd))))]) (pc' := 9) (st' := [.int (iZ ((hd e9) / 36028797018963968 - 1))]) rfl rfl rfl rfl ?_
  exact g_iret X hr (by decide) (by decide) dX0_letterOf_9 ⟨rfl, rfl⟩
def qX0_follow (cB cI cJ cY : ClassId) (h : Nat) (qh : Nat) (qm : Nat) (qs : Nat) (ql : Nat) (qd : Nat) (qo : Nat) (qp : Nat) (hd : Int → Int) (me : Int → Int) (od : Int → Int) (pa : Int → Int) (nx : Int → Int) (N : Int) (P : Int) (e0 : Int) : Option Value → va_W → Prop := fun rv w1 => ∃ (r : Int) (pa2 : Int → Int), rv = some (.int (iZ r)) ∧ r = leadR nx me 151 (fillZ pa 0 150) e0 ∧ w1 = [(h, .inr (0, [.ref qh, .ref qm, .ref qs, .ref ql, .ref qd, .ref qo, .ref qp, .int (iZ N), .int (iZ P)])), (qh, .inl (cJ, 150, .inr (.inl (lA hd)))), (qm, .inl (cJ, 150, .inr (.inl (lA me)))), (qo, .inl (cI, 150, .inl (zA od))), (qp, .inl (cI, 150, .inl (zA pa2)))]
set_option maxHeartbeats 4000000 in
set_option maxRecDepth 100000 in
theorem ctX0_follow (l : Launch) (D : va_G) (cB cI cJ cY : ClassId) (h : Nat) (qh : Nat) (qm : Nat) (qs : Nat) (ql : Nat) (qd : Nat) (qo : Nat) (qp : Nat) (hd : Int → Int) (me : Int → Int) (od : Int → Int) (pa : Int → Int) (nx : Int → Int) (N : Int) (P : Int) (e0 : Int) (hp : 0 ≤ P ∧ P ≤ N ∧ N ≤ 150) (hhd : ∀ j : Int, 0 ≤ j ∧ j < 150 → 0 ≤ hd j ∧ hd j < 1152921504606846976) (hme : ∀ j : Int, 0 ≤ j ∧ j < 150 → 0 ≤ me j ∧ me j < 1152921504606846976) (hod : ∀ j : Int, 0 ≤ j ∧ j < P → 0 ≤ od j ∧ od j < N) (hso : ∀ i j : Int, 0 ≤ i → i < j → j < P → hd (od i) ≤ hd (od j)) (hnx : ∀ a : Int, 0 ≤ a ∧ a < N → fwZ hd od P (me a) (nx a)) (he : 0 ≤ e0 ∧ e0 < N) : gM l yX0_follow wsX0_follow { frames := 2, cells := 0, slots := 0, locals := 49 } D (gT cB cI cJ cY) [.ref h, .int (iZ e0)] [(h, .inr (0, [.ref qh, .ref qm, .ref qs, .ref ql, .ref qd, .ref qo, .ref qp, .int (iZ N), .int (iZ P)])), (qh, .inl (cJ, 150, .inr (.inl (lA hd)))), (qm, .inl (cJ, 150, .inr (.inl (lA me)))), (qo, .inl (cI, 150, .inl (zA od))), (qp, .inl (cI, 150, .inl (zA pa)))] 0 0 (qX0_follow cB cI cJ cY h qh qm qs ql qd qo qp hd me od pa nx N P e0) := by
  refine g_start (cc := cX0_follow) (maxL := 5) (ret := some .int) (lv := [(0, .ref h), (1, .int (iZ e0))]) (by decide) rfl (Nat.le_of_ble_eq_true rfl) rfl ?_
  intro p e s m args below meth c A X hr hnm
  have hin0 : ∀ w ∈ u_ws RX0 TX0 9, w ∈ wsX0_follow := by decide +kernel
  refine g_aload_n X 0 dX0_follow_0 rfl rfl ?_
  refine g_get X (index := 32) (ref := "GuideWords$Lexicon") hin0 0 rfl rfl 6 (by decide) rfl (by decide +kernel) (v := .ref qp) rfl dX0_follow_1 ?_
  refine g_iconst X dX0_follow_4 ?_
  refine g_callS0 X (As := [.ref qp, .int (iZ 0)]) (rest := []) (ctJ7_fill_53178 l D cB cI cJ cY qp 150 pa 0 (by first | assumption | omega)) (va_cwS 2 X.2.2.2.2.1 gX0_follow_J7_fill_53178 rfl rfl rfl (by decide +kernel) ⟨by decide, by decide⟩) (wc := [(qp, .inl (cI, 150, .inl (zA pa)))]) (wr := [(h, .inr (0, [.ref qh, .ref qm, .ref qs, .ref ql, .ref qd, .ref qo, .ref qp, .int (iZ N), .int (iZ P)])), (qh, .inl (cJ, 150, .inr (.inl (lA hd)))), (qm, .inl (cJ, 150, .inr (.inl (lA me)))), (qo, .inl (cI, 150, .inl (zA od)))]) [4] [0, 1, 2, 3] rfl rfl (by decide) (by decide) (by decide) rfl rfl (Nat.le_of_ble_eq_true rfl) ⟨by decide, by decide⟩ dX0_follow_5 (fun v w1 hq => ?_)
  obtain ⟨rfl, rfl⟩ := hq
  refine g_eq (ws' := [(h, .inr (0, [.ref qh, .ref qm, .ref qs, .ref ql, .ref qd, .ref qo, .ref qp, .int (iZ N), .int (iZ P)])), (qh, .inl (cJ, 150, .inr (.inl (lA hd)))), (qm, .inl (cJ, 150, .inr (.inl (lA me)))), (qo, .inl (cI, 150, .inl (zA od))), (qp, .inl (cI, 150, .inl (zA (fillZ pa 0 150))))]) (pc' := 8) (st' := []) rfl rfl rfl rfl ?_
  refine g_iload_n X 1 dX0_follow_8 rfl rfl ?_
  refine g_istore_n (lv2 := [(2, .int (iZ e0)), (0, .ref h), (1, .int (iZ e0))]) X dX0_follow_9 rfl (by decide) rfl ?_
  refine g_iconst X dX0_follow_10 ?_
  refine g_istore_n (lv2 := [(3, .int (iZ 0)), (2, .int (iZ e0)), (0, .ref h), (1, .int (iZ e0))]) X dX0_follow_11 rfl (by decide) rfl ?_
  refine g_lv (lv' := [(0, .ref h), (2, .int (iZ e0)), (3, .int (iZ 0))]) [2, 1, 0] rfl ?_
  have loop_12 : ∀ (kf : Nat) (a : Int) (hop : Int) (g : Int → Int), (ha : 0 ≤ a ∧ a < N) → (hh : 0 ≤ hop ∧ hop ≤ 151) → (hg : ∀ j : Int, 0 ≤ j ∧ j < 150 → g j = 0 ∨ g j = 1) → (hr1 : leadR nx me (151 - hop).toNat g a = leadR nx me 151 (fillZ pa 0 150) e0) → (151 - hop).toNat < kf → gW p l e { frames := 2, cells := 0, slots := 0, locals := 49 } s m args below meth c D A 5 0 0 (MQ below (gQ D (gT cB cI cJ cY) (qX0_follow cB cI cJ cY h qh qm qs ql qd qo qp hd me od pa nx N P e0) A) args s 0 0 A) [(h, .inr (0, [.ref qh, .ref qm, .ref qs, .ref ql, .ref qd, .ref qo, .ref qp, .int (iZ N), .int (iZ P)])), (qh, .inl (cJ, 150, .inr (.inl (lA hd)))), (qm, .inl (cJ, 150, .inr (.inl (lA me)))), (qo, .inl (cI, 150, .inl (zA od))), (qp, .inl (cI, 150, .inl (zA g)))] 12 [(0, .ref h), (2, .int (iZ a)), (3, .int (iZ hop))] [] := by
    intro kf
    induction kf with
    | zero => intro a hop g ha hh hg hr1 hm; exact absurd hm (Nat.not_lt_zero _)
    | succ kf ih_12 =>
      intro a hop g ha hh hg hr1 hm
      refine g_iload_n X 2 dX0_follow_12 rfl rfl ?_
      refine g_sipush X dX0_follow_13 (by decide) ?_
      refine g_icmp_gt X 80 dX0_follow_16 (by decide) (by omega) (by omega) (fun c_16 => ?_) (fun c_16 => ?_)
      · skip
        have hz : (151 - hop).toNat = 0 := by omega
        refine g_bipush X dX0_follow_80 (by decide) ?_
        exact g_iret X hr (by decide) (by decide) dX0_follow_82 ⟨_, g, rfl, by rw [← hr1, hz]; rfl, rfl⟩
      · skip
        have hk1 : (151 - hop).toNat = (151 - (hop + 1)).toNat + 1 := by omega
        rw [hk1, leadR_s nx me (151 - (hop + 1)).toNat g a] at hr1
        refine g_aload_n X 0 dX0_follow_19 rfl rfl ?_
        refine g_get X (index := 15) (ref := "GuideWords$Lexicon") hin0 0 rfl rfl 1 (by decide) rfl (by decide +kernel) (v := .ref qm) rfl dX0_follow_20 ?_
        refine g_iload_n X 1 dX0_follow_23 rfl rfl ?_
        refine g_lald X 2 2 rfl rfl (by omega) (by decide) dX0_follow_24 ?_
        have r_24 := hme a (by omega)
        refine g_lconst (z := 0) X dX0_follow_25 rfl ?_
        refine g_lcmp X dX0_follow_26 (by omega) (by omega) ?_
        refine g_if_ne X 32 dX0_follow_27 (by decide) (by have := cmpZ_rng (me a) (0); omega) (fun c_27 => ?_) (fun c_27 => ?_)
        · skip
          have c_27 : ¬ me a = 0 := by have h9 := @cmpZ_eq (me a) (0); omega
          refine g_aload_n X 0 dX0_follow_32 rfl rfl ?_
          refine g_get X (index := 32) (ref := "GuideWords$Lexicon") hin0 0 rfl rfl 6 (by decide) rfl (by decide +kernel) (v := .ref qp) rfl dX0_follow_33 ?_
          refine g_iload_n X 1 dX0_follow_36 rfl rfl ?_
          refine g_iald X 4 1 rfl rfl (by omega) (by decide) dX0_follow_37 ?_
          have r_37 := hg a (by omega)
          refine g_if_eq X 44 dX0_follow_38 (by decide) (by omega) (fun c_38 => ?_) (fun c_38 => ?_)
          · skip
            have hg2 : ∀ j : Int, 0 ≤ j ∧ j < 150 → upZ g a 1 j = 0 ∨ upZ g a 1 j = 1 := fun j h => by
              unfold upZ; split
              · exact Or.inr rfl
              · exact hg j h
            refine g_aload_n X 0 dX0_follow_44 rfl rfl ?_
            refine g_get X (index := 32) (ref := "GuideWords$Lexicon") hin0 0 rfl rfl 6 (by decide) rfl (by decide +kernel) (v := .ref qp) rfl dX0_follow_45 ?_
            refine g_iload_n X 1 dX0_follow_48 rfl rfl ?_
            refine g_iconst X dX0_follow_49 ?_
            refine g_iast X 4 1 rfl rfl (by omega) (by decide) (ws2 := [(h, .inr (0, [.ref qh, .ref qm, .ref qs, .ref ql, .ref qd, .ref qo, .ref qp, .int (iZ N), .int (iZ P)])), (qh, .inl (cJ, 150, .inr (.inl (lA hd)))), (qm, .inl (cJ, 150, .inr (.inl (lA me)))), (qo, .inl (cI, 150, .inl (zA od))), (qp, .inl (cI, 150, .inl (zA (upZ g a 1))))]) rfl dX0_follow_50 ?_
            refine g_aload_n X 0 dX0_follow_51 rfl rfl ?_
            refine g_aload_n X 0 dX0_follow_52 rfl rfl ?_
            refine g_get X (index := 15) (ref := "GuideWords$Lexicon") hin0 0 rfl rfl 1 (by decide) rfl (by decide +kernel) (v := .ref qm) rfl dX0_follow_53 ?_
            refine g_iload_n X 1 dX0_follow_56 rfl rfl ?_
            refine g_lald X 2 2 rfl rfl (by omega) (by decide) dX0_follow_57 ?_
            have r_57 := hme a (by omega)
            refine g_callV0 X (As := [.long (lZ (me a))]) (rest := []) (ctX0_firstWith l D cB cI cJ cY h qh qm qs ql qd qo qp hd od N P (me a) (by first | assumption | omega) (by first | assumption | omega) (by first | assumption | omega) (by first | assumption | omega) (by first | assumption | omega)) (cwV 1 X.2.2.2.2.1 gX0_follow_X0_firstWith rfl rfl rfl (by decide +kernel) ⟨by decide, by decide⟩) 0 rfl rfl (wc := [(h, .inr (0, [.ref qh, .ref qm, .ref qs, .ref ql, .ref qd, .ref qo, .ref qp, .int (iZ N), .int (iZ P)])), (qh, .inl (cJ, 150, .inr (.inl (lA hd)))), (qo, .inl (cI, 150, .inl (zA od)))]) (wr := [(qm, .inl (cJ, 150, .inr (.inl (lA me)))), (qp, .inl (cI, 150, .inl (zA (upZ g a 1))))]) [0, 1, 3] [2, 4] rfl rfl (by decide) (by decide) (by decide) rfl rfl (Nat.le_of_ble_eq_true rfl) ⟨by decide, by decide⟩ dX0_follow_58 (fun v w1 hq => ?_)
            obtain ⟨b, rfl, hb, rfl⟩ := hq
            refine g_eq (ws' := [(qm, .inl (cJ, 150, .inr (.inl (lA me)))), (qp, .inl (cI, 150, .inl (zA (upZ g a 1)))), (h, .inr (0, [.ref qh, .ref qm, .ref qs, .ref ql, .ref qd, .ref qo, .ref qp, .int (iZ N), .int (iZ P)])), (qh, .inl (cJ, 150, .inr (.inl (lA hd)))), (qo, .inl (cI, 150, .inl (zA od)))]) (pc' := 61) (st' := [.int (iZ b)]) rfl rfl rfl rfl ?_
            refine g_perm (ws' := [(h, .inr (0, [.ref qh, .ref qm, .ref qs, .ref ql, .ref qd, .ref qo, .ref qp, .int (iZ N), .int (iZ P)])), (qh, .inl (cJ, 150, .inr (.inl (lA hd)))), (qm, .inl (cJ, 150, .inr (.inl (lA me)))), (qo, .inl (cI, 150, .inl (zA od))), (qp, .inl (cI, 150, .inl (zA (upZ g a 1))))]) [2, 3, 0, 4, 1] (by decide) rfl ?_
            have hbe : b = nx a := fwZ_fun hb (hnx a ha)
            subst hbe
            have hbr : -1 ≤ nx a ∧ nx a < 150 := by
              rcases hb with ⟨k, k1, k2, k3, k4, k5⟩ | ⟨k1, k2⟩
              · have := hod k ⟨k1, k2⟩; omega
              · omega
            have hbn : nx a ≠ -1 → 0 ≤ nx a ∧ nx a < N := by
              rcases hb with ⟨k, k1, k2, k3, k4, k5⟩ | ⟨k1, k2⟩
              · have := hod k ⟨k1, k2⟩; omega
              · omega
            refine g_istore (lv2 := [(4, .int (iZ ((nx a)))), (0, .ref h), (2, .int (iZ a)), (3, .int (iZ hop))]) X dX0_follow_61 (by decide) rfl ?_
            refine g_iload X 0 dX0_follow_63 rfl ?_
            refine g_iconst X dX0_follow_65 ?_
            refine g_icmp_ne X 71 dX0_follow_66 (by decide) (by omega) (by omega) (fun c_66 => ?_) (fun c_66 => ?_)
            · skip
              have hr2 : leadR nx me (151 - (hop + 1)).toNat (upZ g a 1) (nx a) = leadR nx me 151 (fillZ pa 0 150) e0 := by
                rw [← hr1, if_neg c_27, if_neg (by omega), if_neg c_66]
              refine g_iload X 0 dX0_follow_71 rfl ?_
              refine g_istore_n (lv2 := [(2, .int (iZ ((nx a)))), (4, .int (iZ ((nx a)))), (0, .ref h), (3, .int (iZ hop))]) X dX0_follow_73 rfl (by decide) rfl ?_
              refine g_iinc (q := 3) (lv2 := [(3, .int (iZ (hop + 1))), (2, .int (iZ ((nx a)))), (4, .int (iZ ((nx a)))), (0, .ref h)]) X dX0_follow_74 rfl (by decide) rfl ?_
              refine g_goto X 12 dX0_follow_77 (by decide) ?_
              refine g_lv (lv' := [(0, .ref h), (2, .int (iZ ((nx a)))), (3, .int (iZ (hop + 1)))]) [3, 1, 0] rfl ?_
              exact ih_12 ((nx a)) (hop + 1) (upZ g a 1) (by omega) (by omega) hg2 hr2 (by omega)
            · skip
              refine g_iconst X dX0_follow_69 ?_
              exact g_iret X hr (by decide) (by decide) dX0_follow_70 ⟨_, _, rfl, by rw [← hr1, if_neg c_27, if_neg (by omega), if_pos c_66], rfl⟩
          · skip
            refine g_bipush X dX0_follow_41 (by decide) ?_
            exact g_iret X hr (by decide) (by decide) dX0_follow_43 ⟨_, g, rfl, by rw [← hr1, if_neg c_27, if_pos c_38], rfl⟩
        · skip
          have c_27 : me a = 0 := by have h9 := @cmpZ_eq (me a) (0); omega
          refine g_iload_n X 1 dX0_follow_30 rfl rfl ?_
          exact g_iret X hr (by decide) (by decide) dX0_follow_31 ⟨_, g, rfl, by rw [← hr1, if_pos c_27], rfl⟩
  exact loop_12 _ e0 0 (fillZ pa 0 150) he (by omega) (fun j h => Or.inl (fillZ_in (by omega))) rfl (Nat.lt_succ_self _)
