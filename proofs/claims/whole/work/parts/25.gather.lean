def offZ (se od : Int → Int) : Nat → Int
  | 0 => 0
  | k + 1 => offZ se od k + se (od k)
def abvZ (hd od : Int → Int) (v2 i : Int) : Int := if i = 0 ∨ ltZ hd (od (i - 1)) ≠ ltZ hd (od i) then v2 else 0
def gatP (bk li br hd se ln od : Int → Int) (v2 i t : Int) : Prop := bk (offZ se od i.toNat + t) = od i * 6 + t ∧ li (offZ se od i.toNat + t) = ln (od i * 6 + t) + (if t = 0 then abvZ hd od v2 i else 0) ∧ br (offZ se od i.toNat + t) = brkZ t (se (od i)) (ln (od i * 6 + t))
theorem gatP_up {bk li br hd se ln od : Int → Int} {v2 i t p9 x y z : Int} (h : gatP bk li br hd se ln od v2 i t) (hne : offZ se od i.toNat + t ≠ p9) : gatP (upZ bk p9 x) (upZ li p9 y) (upZ br p9 z) hd se ln od v2 i t := by
  unfold gatP at *
  rw [upZ_n hne, upZ_n hne, upZ_n hne]; exact h
theorem gatP_new {bk li br hd se ln od : Int → Int} {v2 i t p9 x y z : Int} (hp : p9 = offZ se od i.toNat + t) (hx : x = od i * 6 + t) (hy : y = ln (od i * 6 + t) + (if t = 0 then abvZ hd od v2 i else 0)) (hz : z = brkZ t (se (od i)) (ln (od i * 6 + t))) : gatP (upZ bk p9 x) (upZ li p9 y) (upZ br p9 z) hd se ln od v2 i t := by
  unfold gatP
  rw [← hp, upZ_s, upZ_s, upZ_s]; exact ⟨hx, hy, hz⟩
theorem off_b {se od : Int → Int} : ∀ n : Nat, (∀ k : Nat, k < n → 1 ≤ se (od k) ∧ se (od k) ≤ 6) → (n : Int) ≤ offZ se od n ∧ offZ se od n ≤ 6 * n
  | 0, _ => by simp [offZ]
  | n + 1, h => by
    have h1 := off_b n (fun k hk => h k (by omega))
    have h2 := h n (by omega)
    rw [offZ]; omega
theorem off_lt {se od : Int → Int} : ∀ (n i : Nat) (t : Int), (∀ k : Nat, k < n → 1 ≤ se (od k) ∧ se (od k) ≤ 6) → i < n → t < se (od i) → offZ se od i + t < offZ se od n
  | 0, i, t, _, hi, _ => by omega
  | n + 1, i, t, h, hi, ht => by
    rw [offZ]
    rcases (show i = n ∨ i < n by omega) with e | e
    · subst e; omega
    · have h1 := off_lt n i t (fun k hk => h k (by omega)) e ht
      have h2 := h n (by omega)
      omega
theorem upZ_all {f : Int → Int} {k v : Int} {Pr : Int → Prop} (Qr : Int → Prop) (h : ∀ j : Int, Pr j → Qr (f j)) (hv : Qr v) : ∀ j : Int, Pr j → Qr (upZ f k v j) := by
  intro j hj
  unfold upZ; split
  · exact hv
  · exact h j hj
theorem upZ_same {f : Int → Int} {k v : Int} (h : f k = v) : upZ f k v = f := by
  funext j; unfold upZ; split
  · next e => rw [e, h]
  · rfl
def gatA (bk li br hd se ln od : Int → Int) (v2 k : Int) : Prop := ∀ i t : Int, 0 ≤ i → i < k → 0 ≤ t → t < se (od i) → gatP bk li br hd se ln od v2 i t
def sumN (li : Int → Int) (a : Int) : Nat → Int
  | 0 => 0
  | n + 1 => sumN li a n + li (a + n)
def qX3_gather (cB cI cJ cY : ClassId) (ht : Nat) (qv : Nat) (qi : Nat) (qr : Nat) (qe : Nat) (h : Nat) (qh : Nat) (qm : Nat) (qs : Nat) (ql : Nat) (qd : Nat) (qo : Nat) (qp : Nat) (hz : Nat) (qk : Nat) (qt : Nat) (qn : Nat) (vv : Int → Int) (li : Int → Int) (br : Int → Int) (hd : Int → Int) (se : Int → Int) (ln : Int → Int) (od : Int → Int) (bk : Int → Int) (nb : Int) (N : Int) (P : Int) (B : Int) (C : Int) (w : Int) (G : Int) (K : Int) : Option Value → va_W → Prop := fun rv w1 => ∃ (nb2 : Int) (li2 : Int → Int) (br2 : Int → Int) (bk2 : Int → Int), rv = none ∧ nb2 = offZ se od P.toNat ∧ (0 ≤ nb2 ∧ nb2 ≤ 900) ∧ gatA bk2 li2 br2 hd se ln od (vv 2) P ∧ (∀ j : Int, 0 ≤ j ∧ j < 900 → 0 ≤ li2 j ∧ li2 j ≤ 23) ∧ (∀ j : Int, 0 ≤ j ∧ j < 900 → 0 ≤ br2 j ∧ br2 j ≤ 2) ∧ (∀ j : Int, 0 ≤ j ∧ j < 900 → 0 ≤ bk2 j ∧ bk2 j < 900) ∧ w1 = [(ht, .inr (3, [.ref qv, .ref qi, .ref qr, .ref qe, .int (iZ nb2)])), (qv, .inl (cI, 5, .inl (zA vv))), (qi, .inl (cI, 900, .inl (zA li2))), (qr, .inl (cI, 900, .inl (zA br2))), (h, .inr (0, [.ref qh, .ref qm, .ref qs, .ref ql, .ref qd, .ref qo, .ref qp, .int (iZ N), .int (iZ P)])), (qh, .inl (cJ, 150, .inr (.inl (lA hd)))), (qs, .inl (cI, 150, .inl (zA se))), (ql, .inl (cI, 900, .inl (zA ln))), (qo, .inl (cI, 150, .inl (zA od))), (hz, .inr (1, [.ref qk, .ref qt, .ref qn, .int (iZ nb2), .int (iZ C), .int (iZ w), .int (iZ G), .int (iZ K)])), (qk, .inl (cI, 900, .inl (zA bk2)))]
set_option maxHeartbeats 4000000 in
set_option maxRecDepth 100000 in
theorem ctX3_gather (l : Launch) (D : va_G) (cB cI cJ cY : ClassId) (ht : Nat) (qv : Nat) (qi : Nat) (qr : Nat) (qe : Nat) (h : Nat) (qh : Nat) (qm : Nat) (qs : Nat) (ql : Nat) (qd : Nat) (qo : Nat) (qp : Nat) (hz : Nat) (qk : Nat) (qt : Nat) (qn : Nat) (vv : Int → Int) (li : Int → Int) (br : Int → Int) (hd : Int → Int) (se : Int → Int) (ln : Int → Int) (od : Int → Int) (bk : Int → Int) (nb : Int) (N : Int) (P : Int) (B : Int) (C : Int) (w : Int) (G : Int) (K : Int) (hvv : (4 ≤ vv 0 ∧ vv 0 ≤ 60) ∧ (1 ≤ vv 1 ∧ vv 1 ≤ 4) ∧ (0 ≤ vv 2 ∧ vv 2 ≤ 3) ∧ (0 ≤ vv 3 ∧ vv 3 ≤ 1000) ∧ (0 ≤ vv 4 ∧ vv 4 ≤ 1000)) (hli : ∀ j : Int, 0 ≤ j ∧ j < 900 → 0 ≤ li j ∧ li j ≤ 23) (hbr : ∀ j : Int, 0 ≤ j ∧ j < 900 → 0 ≤ br j ∧ br j ≤ 2) (hp : 0 ≤ P ∧ P ≤ N ∧ N ≤ 150) (hhd : ∀ j : Int, 0 ≤ j ∧ j < 150 → 0 ≤ hd j ∧ hd j < 1152921504606846976) (hod : ∀ j : Int, 0 ≤ j ∧ j < P → 0 ≤ od j ∧ od j < N) (hlt : ∀ a : Int, 0 ≤ a ∧ a < N → 0 ≤ ltZ hd a ∧ ltZ hd a < 26) (hse : ∀ a : Int, 0 ≤ a ∧ a < N → 1 ≤ se a ∧ se a ≤ 6) (hln : ∀ j : Int, 0 ≤ j ∧ j < 900 → 0 ≤ ln j ∧ ln j ≤ 20) (hbk : ∀ j : Int, 0 ≤ j ∧ j < 900 → 0 ≤ bk j ∧ bk j < 900) : gM l yX3_gather wsX3_gather { frames := 2, cells := 0, slots := 0, locals := 42 } D (gT cB cI cJ cY) [.ref ht, .ref h, .ref hz] [(ht, .inr (3, [.ref qv, .ref qi, .ref qr, .ref qe, .int (iZ nb)])), (qv, .inl (cI, 5, .inl (zA vv))), (qi, .inl (cI, 900, .inl (zA li))), (qr, .inl (cI, 900, .inl (zA br))), (h, .inr (0, [.ref qh, .ref qm, .ref qs, .ref ql, .ref qd, .ref qo, .ref qp, .int (iZ N), .int (iZ P)])), (qh, .inl (cJ, 150, .inr (.inl (lA hd)))), (qs, .inl (cI, 150, .inl (zA se))), (ql, .inl (cI, 900, .inl (zA ln))), (qo, .inl (cI, 150, .inl (zA od))), (hz, .inr (1, [.ref qk, .ref qt, .ref qn, .int (iZ B), .int (iZ C), .int (iZ w), .int (iZ G), .int (iZ K)])), (qk, .inl (cI, 900, .inl (zA bk)))] 0 0 (qX3_gather cB cI cJ cY ht qv qi qr qe h qh qm qs ql qd qo qp hz qk qt qn vv li br hd se ln od bk nb N P B C w G K) := by
  refine g_start (cc := cX3_gather) (maxL := 10) (ret := none) (lv := [(0, .ref ht), (1, .ref h), (2, .ref hz)]) (by decide) rfl (Nat.le_of_ble_eq_true rfl) rfl ?_
  intro p e s m args below meth c A X hr hnm
  have hin0 : ∀ w ∈ u_ws RX0 TX0 9, w ∈ wsX3_gather := by decide +kernel
  have hin1 : ∀ w ∈ u_ws RX1 TX1 8, w ∈ wsX3_gather := by decide +kernel
  have hin3 : ∀ w ∈ u_ws RX3 TX3 5, w ∈ wsX3_gather := by decide +kernel
  refine g_aload_n X 0 dX3_gather_0 rfl rfl ?_
  refine g_iconst X dX3_gather_1 ?_
  refine g_put X (index := 35) (ref := "GuideWords$Typesetter") hin3 0 rfl rfl 4 (by decide) rfl tyX3 tyX3_ok nmX3 (by decide +kernel) rfl rfl rfl rfl (Nat.le_of_ble_eq_true rfl) (ws2 := [(ht, .inr (3, [.ref qv, .ref qi, .ref qr, .ref qe, .int (iZ 0)])), (qv, .inl (cI, 5, .inl (zA vv))), (qi, .inl (cI, 900, .inl (zA li))), (qr, .inl (cI, 900, .inl (zA br))), (h, .inr (0, [.ref qh, .ref qm, .ref qs, .ref ql, .ref qd, .ref qo, .ref qp, .int (iZ N), .int (iZ P)])), (qh, .inl (cJ, 150, .inr (.inl (lA hd)))), (qs, .inl (cI, 150, .inl (zA se))), (ql, .inl (cI, 900, .inl (zA ln))), (qo, .inl (cI, 150, .inl (zA od))), (hz, .inr (1, [.ref qk, .ref qt, .ref qn, .int (iZ B), .int (iZ C), .int (iZ w), .int (iZ G), .int (iZ K)])), (qk, .inl (cI, 900, .inl (zA bk)))]) rfl dX3_gather_2 ?_
  refine g_iconst X dX3_gather_5 ?_
  refine g_istore_n (lv2 := [(3, .int (iZ ((-1)))), (0, .ref ht), (1, .ref h), (2, .ref hz)]) X dX3_gather_6 rfl (by decide) rfl ?_
  refine g_iconst X dX3_gather_7 ?_
  refine g_istore (lv2 := [(4, .int (iZ 0)), (3, .int (iZ ((-1)))), (0, .ref ht), (1, .ref h), (2, .ref hz)]) X dX3_gather_8 (by decide) rfl ?_
  refine g_lv (lv' := [(0, .ref ht), (1, .ref h), (2, .ref hz), (3, .int (iZ ((-1)))), (4, .int (iZ 0))]) [2, 3, 4, 1, 0] rfl ?_
  have loop_10 : ∀ (kf : Nat) (lt : Int) (k : Int) (nb1 : Int) (li1 : Int → Int) (br1 : Int → Int) (bk1 : Int → Int), (hk : 0 ≤ k ∧ k ≤ P) → (hlr : -1 ≤ lt ∧ lt < 26) → (hl1 : (k = 0 ∧ lt = -1) ∨ (0 < k ∧ lt = ltZ hd (od (k - 1)))) → (hn1 : nb1 = offZ se od k.toNat) → (hga : gatA bk1 li1 br1 hd se ln od (vv 2) k) → (hli1 : ∀ j : Int, 0 ≤ j ∧ j < 900 → 0 ≤ li1 j ∧ li1 j ≤ 23) → (hbr1 : ∀ j : Int, 0 ≤ j ∧ j < 900 → 0 ≤ br1 j ∧ br1 j ≤ 2) → (hbk1 : ∀ j : Int, 0 ≤ j ∧ j < 900 → 0 ≤ bk1 j ∧ bk1 j < 900) → (P - k).toNat < kf → gW p l e { frames := 2, cells := 0, slots := 0, locals := 42 } s m args below meth c D A 10 0 0 (MQ below (gQ D (gT cB cI cJ cY) (qX3_gather cB cI cJ cY ht qv qi qr qe h qh qm qs ql qd qo qp hz qk qt qn vv li br hd se ln od bk nb N P B C w G K) A) args s 0 0 A) [(ht, .inr (3, [.ref qv, .ref qi, .ref qr, .ref qe, .int (iZ nb1)])), (qv, .inl (cI, 5, .inl (zA vv))), (qi, .inl (cI, 900, .inl (zA li1))), (qr, .inl (cI, 900, .inl (zA br1))), (h, .inr (0, [.ref qh, .ref qm, .ref qs, .ref ql, .ref qd, .ref qo, .ref qp, .int (iZ N), .int (iZ P)])), (qh, .inl (cJ, 150, .inr (.inl (lA hd)))), (qs, .inl (cI, 150, .inl (zA se))), (ql, .inl (cI, 900, .inl (zA ln))), (qo, .inl (cI, 150, .inl (zA od))), (hz, .inr (1, [.ref qk, .ref qt, .ref qn, .int (iZ B), .int (iZ C), .int (iZ w), .int (iZ G), .int (iZ K)])), (qk, .inl (cI, 900, .inl (zA bk1)))] 10 [(0, .ref ht), (1, .ref h), (2, .ref hz), (3, .int (iZ lt)), (4, .int (iZ k))] [] := by
    intro kf
    induction kf with
    | zero => intro lt k nb1 li1 br1 bk1 hk hlr hl1 hn1 hga hli1 hbr1 hbk1 hm; exact absurd hm (Nat.not_lt_zero _)
    | succ kf ih_10 =>
      intro lt k nb1 li1 br1 bk1 hk hlr hl1 hn1 hga hli1 hbr1 hbk1 hm
      refine g_iload X 4 dX3_gather_10 rfl ?_
      refine g_aload_n X 1 dX3_gather_12 rfl rfl ?_
      refine g_getN (host := "GuideWords") X (index := 56) (ref := "GuideWords$Lexicon") hin0 4 rfl rfl 8 (by decide) rfl (by decide +kernel) (v := .int (iZ P)) rfl dX3_gather_13 ?_
      refine g_icmp_ge X 180 dX3_gather_16 (by decide) (by omega) (by omega) (fun c_16 => ?_) (fun c_16 => ?_)
      · skip
        have hfin : 0 ≤ nb1 ∧ nb1 ≤ 900 := by
          have q1 := off_b (se := se) (od := od) k.toNat (fun i hi => hse (od i) (hod i (by omega)))
          omega
        refine g_aload_n X 2 dX3_gather_180 rfl rfl ?_
        refine g_aload_n X 0 dX3_gather_181 rfl rfl ?_
        refine g_get X (index := 35) (ref := "GuideWords$Typesetter") hin3 0 rfl rfl 4 (by decide) rfl (by decide +kernel) (v := .int (iZ nb1)) rfl dX3_gather_182 ?_
        refine g_putN (host := "GuideWords") X (index := 78) (ref := "GuideWords$Setting") hin1 9 rfl rfl 3 (by decide) rfl tyX1 tyX1_ok nmX1 (by decide +kernel) rfl rfl rfl rfl (Nat.le_of_ble_eq_true rfl) (ws2 := [(ht, .inr (3, [.ref qv, .ref qi, .ref qr, .ref qe, .int (iZ nb1)])), (qv, .inl (cI, 5, .inl (zA vv))), (qi, .inl (cI, 900, .inl (zA li1))), (qr, .inl (cI, 900, .inl (zA br1))), (h, .inr (0, [.ref qh, .ref qm, .ref qs, .ref ql, .ref qd, .ref qo, .ref qp, .int (iZ N), .int (iZ P)])), (qh, .inl (cJ, 150, .inr (.inl (lA hd)))), (qs, .inl (cI, 150, .inl (zA se))), (ql, .inl (cI, 900, .inl (zA ln))), (qo, .inl (cI, 150, .inl (zA od))), (hz, .inr (1, [.ref qk, .ref qt, .ref qn, .int (iZ nb1), .int (iZ C), .int (iZ w), .int (iZ G), .int (iZ K)])), (qk, .inl (cI, 900, .inl (zA bk1)))]) rfl dX3_gather_185 ?_
        exact g_vret X hr (by decide) (by decide) dX3_gather_188 ⟨nb1, li1, br1, bk1, rfl, by rw [hn1, show k = P by omega], hfin, by rw [show P = k by omega]; exact hga, hli1, hbr1, hbk1, rfl⟩
      · skip
        refine g_aload_n X 1 dX3_gather_19 rfl rfl ?_
        refine g_getN (host := "GuideWords") X (index := 61) (ref := "GuideWords$Lexicon") hin0 4 rfl rfl 5 (by decide) rfl (by decide +kernel) (v := .ref qo) rfl dX3_gather_20 ?_
        refine g_iload X 4 dX3_gather_23 rfl ?_
        refine g_iald X 8 1 rfl rfl (by omega) (by decide) dX3_gather_25 ?_
        have r_25 := hod k (by omega)
        refine g_istore (lv2 := [(5, .int (iZ (od k))), (0, .ref ht), (1, .ref h), (2, .ref hz), (3, .int (iZ lt)), (4, .int (iZ k))]) X dX3_gather_26 (by decide) rfl ?_
        have hk2 : ((k.toNat : Nat) : Int) = k := by omega
        have hse9 := hse (od k) r_25
        have h26 := hlt (od k) r_25
        have e8 : ltZ hd (od k) = hd (od k) / 36028797018963968 - 1 := rfl
        have hsn : ∀ i : Nat, i < k.toNat → 1 ≤ se (od i) ∧ se (od i) ≤ 6 := fun i hi => hse (od i) (hod i (by omega))
        have hob := off_b k.toNat hsn
        refine g_aload_n X 2 dX3_gather_28 rfl rfl ?_
        refine g_iload X 0 dX3_gather_29 rfl ?_
        refine g_callV0 X (As := [.int (iZ (od k))]) (rest := []) (ctX0_letterOf l D cB cI cJ cY h qh qm qs ql qd qo qp hd N P (od k) (by first | assumption | omega) (by first | assumption | omega)) (cwV 1 X.2.2.2.2.1 gX3_gather_X0_letterOf rfl rfl rfl (by decide +kernel) ⟨by decide, by decide⟩) 0 rfl rfl (wc := [(h, .inr (0, [.ref qh, .ref qm, .ref qs, .ref ql, .ref qd, .ref qo, .ref qp, .int (iZ N), .int (iZ P)])), (qh, .inl (cJ, 150, .inr (.inl (lA hd))))]) (wr := [(ht, .inr (3, [.ref qv, .ref qi, .ref qr, .ref qe, .int (iZ nb1)])), (qv, .inl (cI, 5, .inl (zA vv))), (qi, .inl (cI, 900, .inl (zA li1))), (qr, .inl (cI, 900, .inl (zA br1))), (qs, .inl (cI, 150, .inl (zA se))), (ql, .inl (cI, 900, .inl (zA ln))), (qo, .inl (cI, 150, .inl (zA od))), (hz, .inr (1, [.ref qk, .ref qt, .ref qn, .int (iZ B), .int (iZ C), .int (iZ w), .int (iZ G), .int (iZ K)])), (qk, .inl (cI, 900, .inl (zA bk1)))]) [4, 5] [0, 1, 2, 3, 6, 7, 8, 9, 10] rfl rfl (by decide) (by decide) (by decide) rfl rfl (Nat.le_of_ble_eq_true rfl) ⟨by decide, by decide⟩ dX3_gather_31 (fun v w1 hq => ?_)
        obtain ⟨rfl, rfl⟩ := hq
        refine g_eq (ws' := [(ht, .inr (3, [.ref qv, .ref qi, .ref qr, .ref qe, .int (iZ nb1)])), (qv, .inl (cI, 5, .inl (zA vv))), (qi, .inl (cI, 900, .inl (zA li1))), (qr, .inl (cI, 900, .inl (zA br1))), (qs, .inl (cI, 150, .inl (zA se))), (ql, .inl (cI, 900, .inl (zA ln))), (qo, .inl (cI, 150, .inl (zA od))), (hz, .inr (1, [.ref qk, .ref qt, .ref qn, .int (iZ B), .int (iZ C), .int (iZ w), .int (iZ G), .int (iZ K)])), (qk, .inl (cI, 900, .inl (zA bk1))), (h, .inr (0, [.ref qh, .ref qm, .ref qs, .ref ql, .ref qd, .ref qo, .ref qp, .int (iZ N), .int (iZ P)])), (qh, .inl (cJ, 150, .inr (.inl (lA hd))))]) (pc' := 34) (st' := [.int (iZ (hd (od k) / 36028797018963968 - 1))]) rfl rfl rfl rfl ?_
        refine g_perm (ws' := [(ht, .inr (3, [.ref qv, .ref qi, .ref qr, .ref qe, .int (iZ nb1)])), (qv, .inl (cI, 5, .inl (zA vv))), (qi, .inl (cI, 900, .inl (zA li1))), (qr, .inl (cI, 900, .inl (zA br1))), (h, .inr (0, [.ref qh, .ref qm, .ref qs, .ref ql, .ref qd, .ref qo, .ref qp, .int (iZ N), .int (iZ P)])), (qh, .inl (cJ, 150, .inr (.inl (lA hd)))), (qs, .inl (cI, 150, .inl (zA se))), (ql, .inl (cI, 900, .inl (zA ln))), (qo, .inl (cI, 150, .inl (zA od))), (hz, .inr (1, [.ref qk, .ref qt, .ref qn, .int (iZ B), .int (iZ C), .int (iZ w), .int (iZ G), .int (iZ K)])), (qk, .inl (cI, 900, .inl (zA bk1)))]) [0, 1, 2, 3, 9, 10, 4, 5, 6, 7, 8] (by decide) rfl ?_
        refine g_iload_n X 4 dX3_gather_34 rfl rfl ?_
        refine g_icmp_ne X 42 dX3_gather_35 (by decide) (by omega) (by omega) (fun c_35 => ?_) (fun c_35 => ?_)
        · skip
          refine g_aload_n X 1 dX3_gather_42 rfl rfl ?_
          refine g_get X (index := 9) (ref := "GuideWords$Typesetter") hin3 0 rfl rfl 0 (by decide) rfl (by decide +kernel) (v := .ref qv) rfl dX3_gather_43 ?_
          refine g_iconst X dX3_gather_46 ?_
          refine g_iald X 1 1 rfl rfl (by omega) (by decide) dX3_gather_47 ?_
          have hab : vv 2 = abvZ hd od (vv 2) k := by
            unfold abvZ
            first
            | rw [if_pos (by rcases hl1 with h | h; exact Or.inl h.1; exact Or.inr (fun q => c_35 (by omega)))]
            | rw [if_neg (by rcases hl1 with h | h; · omega
                             · (intro q; rcases q with q | q; · omega
                                · (apply q; omega)))]
          refine g_istore (lv2 := [(6, .int (iZ (vv 2))), (5, .int (iZ (od k))), (0, .ref ht), (1, .ref h), (2, .ref hz), (3, .int (iZ lt)), (4, .int (iZ k))]) X dX3_gather_48 (by decide) rfl ?_
          refine g_aload_n X 3 dX3_gather_50 rfl rfl ?_
          refine g_iload X 1 dX3_gather_51 rfl ?_
          refine g_callV0 X (As := [.int (iZ (od k))]) (rest := []) (ctX0_letterOf l D cB cI cJ cY h qh qm qs ql qd qo qp hd N P (od k) (by first | assumption | omega) (by first | assumption | omega)) (cwV 1 X.2.2.2.2.1 gX3_gather_X0_letterOf rfl rfl rfl (by decide +kernel) ⟨by decide, by decide⟩) 0 rfl rfl (wc := [(h, .inr (0, [.ref qh, .ref qm, .ref qs, .ref ql, .ref qd, .ref qo, .ref qp, .int (iZ N), .int (iZ P)])), (qh, .inl (cJ, 150, .inr (.inl (lA hd))))]) (wr := [(ht, .inr (3, [.ref qv, .ref qi, .ref qr, .ref qe, .int (iZ nb1)])), (qv, .inl (cI, 5, .inl (zA vv))), (qi, .inl (cI, 900, .inl (zA li1))), (qr, .inl (cI, 900, .inl (zA br1))), (qs, .inl (cI, 150, .inl (zA se))), (ql, .inl (cI, 900, .inl (zA ln))), (qo, .inl (cI, 150, .inl (zA od))), (hz, .inr (1, [.ref qk, .ref qt, .ref qn, .int (iZ B), .int (iZ C), .int (iZ w), .int (iZ G), .int (iZ K)])), (qk, .inl (cI, 900, .inl (zA bk1)))]) [4, 5] [0, 1, 2, 3, 6, 7, 8, 9, 10] rfl rfl (by decide) (by decide) (by decide) rfl rfl (Nat.le_of_ble_eq_true rfl) ⟨by decide, by decide⟩ dX3_gather_53 (fun v w1 hq => ?_)
          obtain ⟨rfl, rfl⟩ := hq
          refine g_eq (ws' := [(ht, .inr (3, [.ref qv, .ref qi, .ref qr, .ref qe, .int (iZ nb1)])), (qv, .inl (cI, 5, .inl (zA vv))), (qi, .inl (cI, 900, .inl (zA li1))), (qr, .inl (cI, 900, .inl (zA br1))), (qs, .inl (cI, 150, .inl (zA se))), (ql, .inl (cI, 900, .inl (zA ln))), (qo, .inl (cI, 150, .inl (zA od))), (hz, .inr (1, [.ref qk, .ref qt, .ref qn, .int (iZ B), .int (iZ C), .int (iZ w), .int (iZ G), .int (iZ K)])), (qk, .inl (cI, 900, .inl (zA bk1))), (h, .inr (0, [.ref qh, .ref qm, .ref qs, .ref ql, .ref qd, .ref qo, .ref qp, .int (iZ N), .int (iZ P)])), (qh, .inl (cJ, 150, .inr (.inl (lA hd))))]) (pc' := 56) (st' := [.int (iZ (hd (od k) / 36028797018963968 - 1))]) rfl rfl rfl rfl ?_
          refine g_perm (ws' := [(ht, .inr (3, [.ref qv, .ref qi, .ref qr, .ref qe, .int (iZ nb1)])), (qv, .inl (cI, 5, .inl (zA vv))), (qi, .inl (cI, 900, .inl (zA li1))), (qr, .inl (cI, 900, .inl (zA br1))), (h, .inr (0, [.ref qh, .ref qm, .ref qs, .ref ql, .ref qd, .ref qo, .ref qp, .int (iZ N), .int (iZ P)])), (qh, .inl (cJ, 150, .inr (.inl (lA hd)))), (qs, .inl (cI, 150, .inl (zA se))), (ql, .inl (cI, 900, .inl (zA ln))), (qo, .inl (cI, 150, .inl (zA od))), (hz, .inr (1, [.ref qk, .ref qt, .ref qn, .int (iZ B), .int (iZ C), .int (iZ w), .int (iZ G), .int (iZ K)])), (qk, .inl (cI, 900, .inl (zA bk1)))]) [0, 1, 2, 3, 9, 10, 4, 5, 6, 7, 8] (by decide) rfl ?_
          refine g_istore_n (lv2 := [(3, .int (iZ (hd (od k) / 36028797018963968 - 1))), (6, .int (iZ (vv 2))), (5, .int (iZ (od k))), (0, .ref ht), (1, .ref h), (2, .ref hz), (4, .int (iZ k))]) X dX3_gather_56 rfl (by decide) rfl ?_
          refine g_aload_n X 4 dX3_gather_57 rfl rfl ?_
          refine g_getN (host := "GuideWords") X (index := 68) (ref := "GuideWords$Lexicon") hin0 4 rfl rfl 2 (by decide) rfl (by decide +kernel) (v := .ref qs) rfl dX3_gather_58 ?_
          refine g_iload X 2 dX3_gather_61 rfl ?_
          refine g_iald X 6 1 rfl rfl (by omega) (by decide) dX3_gather_63 ?_
          have r_63 := hse (od k) (by omega)
          refine g_istore (lv2 := [(7, .int (iZ (se (od k)))), (3, .int (iZ (hd (od k) / 36028797018963968 - 1))), (6, .int (iZ (vv 2))), (5, .int (iZ (od k))), (0, .ref ht), (1, .ref h), (2, .ref hz), (4, .int (iZ k))]) X dX3_gather_64 (by decide) rfl ?_
          refine g_iconst X dX3_gather_66 ?_
          refine g_istore (lv2 := [(8, .int (iZ 0)), (7, .int (iZ (se (od k)))), (3, .int (iZ (hd (od k) / 36028797018963968 - 1))), (6, .int (iZ (vv 2))), (5, .int (iZ (od k))), (0, .ref ht), (1, .ref h), (2, .ref hz), (4, .int (iZ k))]) X dX3_gather_67 (by decide) rfl ?_
          refine g_lv (lv' := [(0, .ref ht), (1, .ref h), (2, .ref hz), (3, .int (iZ (hd (od k) / 36028797018963968 - 1))), (4, .int (iZ k)), (5, .int (iZ (od k))), (6, .int (iZ (vv 2))), (7, .int (iZ (se (od k)))), (8, .int (iZ 0))]) [5, 6, 7, 2, 8, 4, 3, 1, 0] rfl ?_
          have loop_69 : ∀ (kf : Nat) (s9 : Int) (nb2 : Int) (li2 : Int → Int) (br2 : Int → Int) (bk2 : Int → Int), (hs9 : 0 ≤ s9 ∧ s9 ≤ se (od k)) → (hn2 : nb2 = offZ se od k.toNat + s9) → (hga2 : gatA bk2 li2 br2 hd se ln od (vv 2) k) → (hgb : ∀ t : Int, 0 ≤ t → t < s9 → gatP bk2 li2 br2 hd se ln od (vv 2) k t) → (hli2 : ∀ j : Int, 0 ≤ j ∧ j < 900 → 0 ≤ li2 j ∧ li2 j ≤ 23) → (hbr2 : ∀ j : Int, 0 ≤ j ∧ j < 900 → 0 ≤ br2 j ∧ br2 j ≤ 2) → (hbk2 : ∀ j : Int, 0 ≤ j ∧ j < 900 → 0 ≤ bk2 j ∧ bk2 j < 900) → (se (od k) - s9).toNat < kf → gW p l e { frames := 2, cells := 0, slots := 0, locals := 42 } s m args below meth c D A 10 0 0 (MQ below (gQ D (gT cB cI cJ cY) (qX3_gather cB cI cJ cY ht qv qi qr qe h qh qm qs ql qd qo qp hz qk qt qn vv li br hd se ln od bk nb N P B C w G K) A) args s 0 0 A) [(ht, .inr (3, [.ref qv, .ref qi, .ref qr, .ref qe, .int (iZ nb2)])), (qv, .inl (cI, 5, .inl (zA vv))), (qi, .inl (cI, 900, .inl (zA li2))), (qr, .inl (cI, 900, .inl (zA br2))), (h, .inr (0, [.ref qh, .ref qm, .ref qs, .ref ql, .ref qd, .ref qo, .ref qp, .int (iZ N), .int (iZ P)])), (qh, .inl (cJ, 150, .inr (.inl (lA hd)))), (qs, .inl (cI, 150, .inl (zA se))), (ql, .inl (cI, 900, .inl (zA ln))), (qo, .inl (cI, 150, .inl (zA od))), (hz, .inr (1, [.ref qk, .ref qt, .ref qn, .int (iZ B), .int (iZ C), .int (iZ w), .int (iZ G), .int (iZ K)])), (qk, .inl (cI, 900, .inl (zA bk2)))] 69 [(0, .ref ht), (1, .ref h), (2, .ref hz), (3, .int (iZ (hd (od k) / 36028797018963968 - 1))), (4, .int (iZ k)), (5, .int (iZ (od k))), (6, .int (iZ (vv 2))), (7, .int (iZ (se (od k)))), (8, .int (iZ s9))] [] := by
            intro kf
            induction kf with
            | zero => intro s9 nb2 li2 br2 bk2 hs9 hn2 hga2 hgb hli2 hbr2 hbk2 hm; exact absurd hm (Nat.not_lt_zero _)
            | succ kf ih_69 =>
              intro s9 nb2 li2 br2 bk2 hs9 hn2 hga2 hgb hli2 hbr2 hbk2 hm
              refine g_iload X 8 dX3_gather_69 rfl ?_
              refine g_iload X 7 dX3_gather_71 rfl ?_
              refine g_icmp_ge X 174 dX3_gather_73 (by decide) (by omega) (by omega) (fun c_73 => ?_) (fun c_73 => ?_)
              · skip
                have hga3 : gatA bk2 li2 br2 hd se ln od (vv 2) (k + 1) := fun i t h1 h2 h3 h4 => by
                  rcases (show i < k ∨ i = k by omega) with h | h
                  · exact hga2 i t h1 h h3 h4
                  · subst h; exact hgb t h3 (by omega)
                refine g_iinc (q := 4) (lv2 := [(4, .int (iZ (k + 1))), (0, .ref ht), (1, .ref h), (2, .ref hz), (3, .int (iZ (hd (od k) / 36028797018963968 - 1))), (5, .int (iZ (od k))), (6, .int (iZ (vv 2))), (7, .int (iZ (se (od k)))), (8, .int (iZ s9))]) X dX3_gather_174 rfl (by decide) rfl ?_
                refine g_goto X 10 dX3_gather_177 (by decide) ?_
                refine g_lv (lv' := [(0, .ref ht), (1, .ref h), (2, .ref hz), (3, .int (iZ (hd (od k) / 36028797018963968 - 1))), (4, .int (iZ (k + 1)))]) [1, 2, 3, 4, 0] rfl ?_
                exact ih_10 (hd (od k) / 36028797018963968 - 1) (k + 1) nb2 li2 br2 bk2 (by omega) (by omega) (Or.inr ⟨by omega, by rw [show k + 1 - 1 = k by omega]; rfl⟩) (by rw [show (k + 1).toNat = k.toNat + 1 by omega, offZ, hk2]; omega) hga3 hli2 hbr2 hbk2 (by omega)
              · skip
                refine g_aload_n X 0 dX3_gather_76 rfl rfl ?_
                refine g_get X (index := 35) (ref := "GuideWords$Typesetter") hin3 0 rfl rfl 4 (by decide) rfl (by decide +kernel) (v := .int (iZ nb2)) rfl dX3_gather_77 ?_
                refine g_sipush X dX3_gather_80 (by decide) ?_
                refine g_icmp_ge X 174 dX3_gather_83 (by decide) (by omega) (by omega) (fun c_83 => ?_) (fun c_83 => ?_)
                · skip
                  omega
                · skip
                  refine g_iload X 5 dX3_gather_86 rfl ?_
                  refine g_bipush X dX3_gather_88 (by decide) ?_
                  refine g_imul X dX3_gather_90 ?_
                  refine g_iload X 8 dX3_gather_91 rfl ?_
                  refine g_iadd X dX3_gather_93 ?_
                  refine g_istore (lv2 := [(9, .int (iZ (((od k) * 6) + s9))), (0, .ref ht), (1, .ref h), (2, .ref hz), (3, .int (iZ (hd (od k) / 36028797018963968 - 1))), (4, .int (iZ k)), (5, .int (iZ (od k))), (6, .int (iZ (vv 2))), (7, .int (iZ (se (od k)))), (8, .int (iZ s9))]) X dX3_gather_94 (by decide) rfl ?_
                  refine g_aload_n X 3 dX3_gather_96 rfl rfl ?_
                  refine g_getN (host := "GuideWords") X (index := 71) (ref := "GuideWords$Setting") hin1 9 rfl rfl 0 (by decide) rfl (by decide +kernel) (v := .ref qk) rfl dX3_gather_97 ?_
                  refine g_aload_n X 1 dX3_gather_100 rfl rfl ?_
                  refine g_get X (index := 35) (ref := "GuideWords$Typesetter") hin3 0 rfl rfl 4 (by decide) rfl (by decide +kernel) (v := .int (iZ nb2)) rfl dX3_gather_101 ?_
                  refine g_iload X 0 dX3_gather_104 rfl ?_
                  refine g_iast X 10 1 rfl rfl (by omega) (by decide) (ws2 := [(ht, .inr (3, [.ref qv, .ref qi, .ref qr, .ref qe, .int (iZ nb2)])), (qv, .inl (cI, 5, .inl (zA vv))), (qi, .inl (cI, 900, .inl (zA li2))), (qr, .inl (cI, 900, .inl (zA br2))), (h, .inr (0, [.ref qh, .ref qm, .ref qs, .ref ql, .ref qd, .ref qo, .ref qp, .int (iZ N), .int (iZ P)])), (qh, .inl (cJ, 150, .inr (.inl (lA hd)))), (qs, .inl (cI, 150, .inl (zA se))), (ql, .inl (cI, 900, .inl (zA ln))), (qo, .inl (cI, 150, .inl (zA od))), (hz, .inr (1, [.ref qk, .ref qt, .ref qn, .int (iZ B), .int (iZ C), .int (iZ w), .int (iZ G), .int (iZ K)])), (qk, .inl (cI, 900, .inl (zA (upZ bk2 nb2 (((od k) * 6) + s9)))))]) rfl dX3_gather_106 ?_
                  refine g_aload_n X 1 dX3_gather_107 rfl rfl ?_
                  refine g_get X (index := 15) (ref := "GuideWords$Typesetter") hin3 0 rfl rfl 1 (by decide) rfl (by decide +kernel) (v := .ref qi) rfl dX3_gather_108 ?_
                  refine g_aload_n X 1 dX3_gather_111 rfl rfl ?_
                  refine g_get X (index := 35) (ref := "GuideWords$Typesetter") hin3 0 rfl rfl 4 (by decide) rfl (by decide +kernel) (v := .int (iZ nb2)) rfl dX3_gather_112 ?_
                  refine g_aload_n X 2 dX3_gather_115 rfl rfl ?_
                  refine g_getN (host := "GuideWords") X (index := 73) (ref := "GuideWords$Lexicon") hin0 4 rfl rfl 3 (by decide) rfl (by decide +kernel) (v := .ref ql) rfl dX3_gather_116 ?_
                  refine g_iload X 0 dX3_gather_119 rfl ?_
                  refine g_iald X 7 1 rfl rfl (by omega) (by decide) dX3_gather_121 ?_
                  have r_121 := hln (((od k) * 6) + s9) (by omega)
                  refine g_iload X 9 dX3_gather_122 rfl ?_
                  refine g_if_ne X 132 dX3_gather_124 (by decide) (by omega) (fun c_124 => ?_) (fun c_124 => ?_)
                  · skip
                    refine g_iconst X dX3_gather_132 ?_
                    refine g_iadd X dX3_gather_133 ?_
                    refine g_iast X 2 1 rfl rfl (by omega) (by decide) (ws2 := [(ht, .inr (3, [.ref qv, .ref qi, .ref qr, .ref qe, .int (iZ nb2)])), (qv, .inl (cI, 5, .inl (zA vv))), (qi, .inl (cI, 900, .inl (zA (upZ li2 nb2 ((ln (((od k) * 6) + s9)) + 0))))), (qr, .inl (cI, 900, .inl (zA br2))), (h, .inr (0, [.ref qh, .ref qm, .ref qs, .ref ql, .ref qd, .ref qo, .ref qp, .int (iZ N), .int (iZ P)])), (qh, .inl (cJ, 150, .inr (.inl (lA hd)))), (qs, .inl (cI, 150, .inl (zA se))), (ql, .inl (cI, 900, .inl (zA ln))), (qo, .inl (cI, 150, .inl (zA od))), (hz, .inr (1, [.ref qk, .ref qt, .ref qn, .int (iZ B), .int (iZ C), .int (iZ w), .int (iZ G), .int (iZ K)])), (qk, .inl (cI, 900, .inl (zA (upZ bk2 nb2 (((od k) * 6) + s9)))))]) rfl dX3_gather_134 ?_
                    refine g_aload_n X 1 dX3_gather_135 rfl rfl ?_
                    refine g_get X (index := 18) (ref := "GuideWords$Typesetter") hin3 0 rfl rfl 2 (by decide) rfl (by decide +kernel) (v := .ref qr) rfl dX3_gather_136 ?_
                    refine g_aload_n X 1 dX3_gather_139 rfl rfl ?_
                    refine g_get X (index := 35) (ref := "GuideWords$Typesetter") hin3 0 rfl rfl 4 (by decide) rfl (by decide +kernel) (v := .int (iZ nb2)) rfl dX3_gather_140 ?_
                    refine g_iload X 9 dX3_gather_143 rfl ?_
                    refine g_iload X 8 dX3_gather_145 rfl ?_
                    refine g_aload_n X 2 dX3_gather_147 rfl rfl ?_
                    refine g_getN (host := "GuideWords") X (index := 73) (ref := "GuideWords$Lexicon") hin0 4 rfl rfl 3 (by decide) rfl (by decide +kernel) (v := .ref ql) rfl dX3_gather_148 ?_
                    refine g_iload X 0 dX3_gather_151 rfl ?_
                    refine g_iald X 7 1 rfl rfl (by omega) (by decide) dX3_gather_153 ?_
                    have r_153 := hln (((od k) * 6) + s9) (by omega)
                    refine g_callS0 X (As := [.int (iZ s9), .int (iZ (se (od k))), .int (iZ (ln (((od k) * 6) + s9)))]) (rest := [.int (iZ nb2), .ref qr]) (ctX3_breakBehind l D cB cI cJ cY s9 (se (od k)) (ln (((od k) * 6) + s9)) (by first | assumption | omega) (by first | assumption | omega) (by first | assumption | omega)) (va_cwS 3 X.2.2.2.2.1 gX3_gather_X3_breakBehind rfl rfl rfl (by decide +kernel) ⟨by decide, by decide⟩) (wc := []) (wr := [(ht, .inr (3, [.ref qv, .ref qi, .ref qr, .ref qe, .int (iZ nb2)])), (qv, .inl (cI, 5, .inl (zA vv))), (qi, .inl (cI, 900, .inl (zA (upZ li2 nb2 ((ln (((od k) * 6) + s9)) + 0))))), (qr, .inl (cI, 900, .inl (zA br2))), (h, .inr (0, [.ref qh, .ref qm, .ref qs, .ref ql, .ref qd, .ref qo, .ref qp, .int (iZ N), .int (iZ P)])), (qh, .inl (cJ, 150, .inr (.inl (lA hd)))), (qs, .inl (cI, 150, .inl (zA se))), (ql, .inl (cI, 900, .inl (zA ln))), (qo, .inl (cI, 150, .inl (zA od))), (hz, .inr (1, [.ref qk, .ref qt, .ref qn, .int (iZ B), .int (iZ C), .int (iZ w), .int (iZ G), .int (iZ K)])), (qk, .inl (cI, 900, .inl (zA (upZ bk2 nb2 (((od k) * 6) + s9)))))]) [] [0, 1, 2, 3, 4, 5, 6, 7, 8, 9, 10] rfl rfl (by decide) (by decide) (by decide) rfl rfl (Nat.le_of_ble_eq_true rfl) ⟨by decide, by decide⟩ dX3_gather_154 (fun v w1 hq => ?_)
                    obtain ⟨bb, rfl, hbb, rfl⟩ := hq
                    refine g_eq (ws' := [(ht, .inr (3, [.ref qv, .ref qi, .ref qr, .ref qe, .int (iZ nb2)])), (qv, .inl (cI, 5, .inl (zA vv))), (qi, .inl (cI, 900, .inl (zA (upZ li2 nb2 ((ln (((od k) * 6) + s9)) + 0))))), (qr, .inl (cI, 900, .inl (zA br2))), (h, .inr (0, [.ref qh, .ref qm, .ref qs, .ref ql, .ref qd, .ref qo, .ref qp, .int (iZ N), .int (iZ P)])), (qh, .inl (cJ, 150, .inr (.inl (lA hd)))), (qs, .inl (cI, 150, .inl (zA se))), (ql, .inl (cI, 900, .inl (zA ln))), (qo, .inl (cI, 150, .inl (zA od))), (hz, .inr (1, [.ref qk, .ref qt, .ref qn, .int (iZ B), .int (iZ C), .int (iZ w), .int (iZ G), .int (iZ K)])), (qk, .inl (cI, 900, .inl (zA (upZ bk2 nb2 (((od k) * 6) + s9)))))]) (pc' := 157) (st' := [.int (iZ bb), .int (iZ nb2), .ref qr]) rfl rfl rfl rfl ?_
                    refine g_iast X 3 1 rfl rfl (by omega) (by decide) (ws2 := [(ht, .inr (3, [.ref qv, .ref qi, .ref qr, .ref qe, .int (iZ nb2)])), (qv, .inl (cI, 5, .inl (zA vv))), (qi, .inl (cI, 900, .inl (zA (upZ li2 nb2 ((ln (((od k) * 6) + s9)) + 0))))), (qr, .inl (cI, 900, .inl (zA (upZ br2 nb2 bb)))), (h, .inr (0, [.ref qh, .ref qm, .ref qs, .ref ql, .ref qd, .ref qo, .ref qp, .int (iZ N), .int (iZ P)])), (qh, .inl (cJ, 150, .inr (.inl (lA hd)))), (qs, .inl (cI, 150, .inl (zA se))), (ql, .inl (cI, 900, .inl (zA ln))), (qo, .inl (cI, 150, .inl (zA od))), (hz, .inr (1, [.ref qk, .ref qt, .ref qn, .int (iZ B), .int (iZ C), .int (iZ w), .int (iZ G), .int (iZ K)])), (qk, .inl (cI, 900, .inl (zA (upZ bk2 nb2 (((od k) * 6) + s9)))))]) rfl dX3_gather_157 ?_
                    have hyy : (((ln (((od k) * 6) + s9)) + 0)) = ln (od k * 6 + s9) + (if s9 = 0 then abvZ hd od (vv 2) k else 0) := by
                      first
                      | rw [if_pos c_124, ← hab]
                      | rw [if_neg c_124]
                    have G1 : gatA (upZ bk2 nb2 (((od k) * 6) + s9)) (upZ li2 nb2 ((ln (((od k) * 6) + s9)) + 0)) (upZ br2 nb2 bb) hd se ln od (vv 2) k := fun i t h1 h2 h3 h4 => gatP_up (hga2 i t h1 h2 h3 h4) (by
                      have q1 := off_lt k.toNat i.toNat t hsn (by omega) (by rw [show ((i.toNat : Nat) : Int) = i by omega]; exact h4)
                      omega)
                    have G2 : ∀ t : Int, 0 ≤ t → t < s9 + 1 → gatP (upZ bk2 nb2 (((od k) * 6) + s9)) (upZ li2 nb2 ((ln (((od k) * 6) + s9)) + 0)) (upZ br2 nb2 bb) hd se ln od (vv 2) k t := fun t h1 h2 => by
                      rcases (show t = s9 ∨ t < s9 by omega) with h | h
                      · rw [h]; exact gatP_new hn2 rfl hyy hbb
                      · exact gatP_up (hgb t h1 h) (by omega)
                    have hbb9 := brkZ_rng s9 (se (od k)) (ln (od k * 6 + s9))
                    have hab9 : 0 ≤ abvZ hd od (vv 2) k ∧ abvZ hd od (vv 2) k ≤ 3 := by unfold abvZ; split <;> omega
                    have hli3 : ∀ j : Int, 0 ≤ j ∧ j < 900 → 0 ≤ (upZ li2 nb2 ((ln (((od k) * 6) + s9)) + 0)) j ∧ (upZ li2 nb2 ((ln (((od k) * 6) + s9)) + 0)) j ≤ 23 := upZ_all (fun x => 0 ≤ x ∧ x ≤ 23) hli2 (by omega)
                    have hbr3 : ∀ j : Int, 0 ≤ j ∧ j < 900 → 0 ≤ (upZ br2 nb2 bb) j ∧ (upZ br2 nb2 bb) j ≤ 2 := upZ_all (fun x => 0 ≤ x ∧ x ≤ 2) hbr2 (by omega)
                    have hbk3 : ∀ j : Int, 0 ≤ j ∧ j < 900 → 0 ≤ (upZ bk2 nb2 (((od k) * 6) + s9)) j ∧ (upZ bk2 nb2 (((od k) * 6) + s9)) j < 900 := upZ_all (fun x => 0 ≤ x ∧ x < 900) hbk2 (by omega)
                    refine g_aload_n X 1 dX3_gather_158 rfl rfl ?_
                    refine g_dup X dX3_gather_159 rfl ?_
                    refine g_get X (index := 35) (ref := "GuideWords$Typesetter") hin3 0 rfl rfl 4 (by decide) rfl (by decide +kernel) (v := .int (iZ nb2)) rfl dX3_gather_160 ?_
                    refine g_iconst X dX3_gather_163 ?_
                    refine g_iadd X dX3_gather_164 ?_
                    refine g_put X (index := 35) (ref := "GuideWords$Typesetter") hin3 0 rfl rfl 4 (by decide) rfl tyX3 tyX3_ok nmX3 (by decide +kernel) rfl rfl rfl rfl (Nat.le_of_ble_eq_true rfl) (ws2 := [(ht, .inr (3, [.ref qv, .ref qi, .ref qr, .ref qe, .int (iZ (nb2 + 1))])), (qv, .inl (cI, 5, .inl (zA vv))), (qi, .inl (cI, 900, .inl (zA (upZ li2 nb2 ((ln (((od k) * 6) + s9)) + 0))))), (qr, .inl (cI, 900, .inl (zA (upZ br2 nb2 bb)))), (h, .inr (0, [.ref qh, .ref qm, .ref qs, .ref ql, .ref qd, .ref qo, .ref qp, .int (iZ N), .int (iZ P)])), (qh, .inl (cJ, 150, .inr (.inl (lA hd)))), (qs, .inl (cI, 150, .inl (zA se))), (ql, .inl (cI, 900, .inl (zA ln))), (qo, .inl (cI, 150, .inl (zA od))), (hz, .inr (1, [.ref qk, .ref qt, .ref qn, .int (iZ B), .int (iZ C), .int (iZ w), .int (iZ G), .int (iZ K)])), (qk, .inl (cI, 900, .inl (zA (upZ bk2 nb2 (((od k) * 6) + s9)))))]) rfl dX3_gather_165 ?_
                    refine g_iinc (q := 9) (lv2 := [(8, .int (iZ (s9 + 1))), (9, .int (iZ (((od k) * 6) + s9))), (0, .ref ht), (1, .ref h), (2, .ref hz), (3, .int (iZ (hd (od k) / 36028797018963968 - 1))), (4, .int (iZ k)), (5, .int (iZ (od k))), (6, .int (iZ (vv 2))), (7, .int (iZ (se (od k))))]) X dX3_gather_168 rfl (by decide) rfl ?_
                    refine g_goto X 69 dX3_gather_171 (by decide) ?_
                    refine g_lv (lv' := [(0, .ref ht), (1, .ref h), (2, .ref hz), (3, .int (iZ (hd (od k) / 36028797018963968 - 1))), (4, .int (iZ k)), (5, .int (iZ (od k))), (6, .int (iZ (vv 2))), (7, .int (iZ (se (od k)))), (8, .int (iZ (s9 + 1)))]) [2, 3, 4, 5, 6, 7, 8, 9, 0] rfl ?_
                    exact ih_69 (s9 + 1) (nb2 + 1) (upZ li2 nb2 ((ln (((od k) * 6) + s9)) + 0)) (upZ br2 nb2 bb) (upZ bk2 nb2 (((od k) * 6) + s9)) (by omega) (by omega) G1 G2 hli3 hbr3 hbk3 (by omega)
                  · skip
                    refine g_iload X 7 dX3_gather_127 rfl ?_
                    refine g_goto X 133 dX3_gather_129 (by decide) ?_
                    refine g_iadd X dX3_gather_133 ?_
                    refine g_iast X 2 1 rfl rfl (by omega) (by decide) (ws2 := [(ht, .inr (3, [.ref qv, .ref qi, .ref qr, .ref qe, .int (iZ nb2)])), (qv, .inl (cI, 5, .inl (zA vv))), (qi, .inl (cI, 900, .inl (zA (upZ li2 nb2 ((ln (((od k) * 6) + s9)) + (vv 2)))))), (qr, .inl (cI, 900, .inl (zA br2))), (h, .inr (0, [.ref qh, .ref qm, .ref qs, .ref ql, .ref qd, .ref qo, .ref qp, .int (iZ N), .int (iZ P)])), (qh, .inl (cJ, 150, .inr (.inl (lA hd)))), (qs, .inl (cI, 150, .inl (zA se))), (ql, .inl (cI, 900, .inl (zA ln))), (qo, .inl (cI, 150, .inl (zA od))), (hz, .inr (1, [.ref qk, .ref qt, .ref qn, .int (iZ B), .int (iZ C), .int (iZ w), .int (iZ G), .int (iZ K)])), (qk, .inl (cI, 900, .inl (zA (upZ bk2 nb2 (((od k) * 6) + s9)))))]) rfl dX3_gather_134 ?_
                    refine g_aload_n X 1 dX3_gather_135 rfl rfl ?_
                    refine g_get X (index := 18) (ref := "GuideWords$Typesetter") hin3 0 rfl rfl 2 (by decide) rfl (by decide +kernel) (v := .ref qr) rfl dX3_gather_136 ?_
                    refine g_aload_n X 1 dX3_gather_139 rfl rfl ?_
                    refine g_get X (index := 35) (ref := "GuideWords$Typesetter") hin3 0 rfl rfl 4 (by decide) rfl (by decide +kernel) (v := .int (iZ nb2)) rfl dX3_gather_140 ?_
                    refine g_iload X 9 dX3_gather_143 rfl ?_
                    refine g_iload X 8 dX3_gather_145 rfl ?_
                    refine g_aload_n X 2 dX3_gather_147 rfl rfl ?_
                    refine g_getN (host := "GuideWords") X (index := 73) (ref := "GuideWords$Lexicon") hin0 4 rfl rfl 3 (by decide) rfl (by decide +kernel) (v := .ref ql) rfl dX3_gather_148 ?_
                    refine g_iload X 0 dX3_gather_151 rfl ?_
                    refine g_iald X 7 1 rfl rfl (by omega) (by decide) dX3_gather_153 ?_
                    have r_153 := hln (((od k) * 6) + s9) (by omega)
                    refine g_callS0 X (As := [.int (iZ s9), .int (iZ (se (od k))), .int (iZ (ln (((od k) * 6) + s9)))]) (rest := [.int (iZ nb2), .ref qr]) (ctX3_breakBehind l D cB cI cJ cY s9 (se (od k)) (ln (((od k) * 6) + s9)) (by first | assumption | omega) (by first | assumption | omega) (by first | assumption | omega)) (va_cwS 3 X.2.2.2.2.1 gX3_gather_X3_breakBehind rfl rfl rfl (by decide +kernel) ⟨by decide, by decide⟩) (wc := []) (wr := [(ht, .inr (3, [.ref qv, .ref qi, .ref qr, .ref qe, .int (iZ nb2)])), (qv, .inl (cI, 5, .inl (zA vv))), (qi, .inl (cI, 900, .inl (zA (upZ li2 nb2 ((ln (((od k) * 6) + s9)) + (vv 2)))))), (qr, .inl (cI, 900, .inl (zA br2))), (h, .inr (0, [.ref qh, .ref qm, .ref qs, .ref ql, .ref qd, .ref qo, .ref qp, .int (iZ N), .int (iZ P)])), (qh, .inl (cJ, 150, .inr (.inl (lA hd)))), (qs, .inl (cI, 150, .inl (zA se))), (ql, .inl (cI, 900, .inl (zA ln))), (qo, .inl (cI, 150, .inl (zA od))), (hz, .inr (1, [.ref qk, .ref qt, .ref qn, .int (iZ B), .int (iZ C), .int (iZ w), .int (iZ G), .int (iZ K)])), (qk, .inl (cI, 900, .inl (zA (upZ bk2 nb2 (((od k) * 6) + s9)))))]) [] [0, 1, 2, 3, 4, 5, 6, 7, 8, 9, 10] rfl rfl (by decide) (by decide) (by decide) rfl rfl (Nat.le_of_ble_eq_true rfl) ⟨by decide, by decide⟩ dX3_gather_154 (fun v w1 hq => ?_)
                    obtain ⟨bb, rfl, hbb, rfl⟩ := hq
                    refine g_eq (ws' := [(ht, .inr (3, [.ref qv, .ref qi, .ref qr, .ref qe, .int (iZ nb2)])), (qv, .inl (cI, 5, .inl (zA vv))), (qi, .inl (cI, 900, .inl (zA (upZ li2 nb2 ((ln (((od k) * 6) + s9)) + (vv 2)))))), (qr, .inl (cI, 900, .inl (zA br2))), (h, .inr (0, [.ref qh, .ref qm, .ref qs, .ref ql, .ref qd, .ref qo, .ref qp, .int (iZ N), .int (iZ P)])), (qh, .inl (cJ, 150, .inr (.inl (lA hd)))), (qs, .inl (cI, 150, .inl (zA se))), (ql, .inl (cI, 900, .inl (zA ln))), (qo, .inl (cI, 150, .inl (zA od))), (hz, .inr (1, [.ref qk, .ref qt, .ref qn, .int (iZ B), .int (iZ C), .int (iZ w), .int (iZ G), .int (iZ K)])), (qk, .inl (cI, 900, .inl (zA (upZ bk2 nb2 (((od k) * 6) + s9)))))]) (pc' := 157) (st' := [.int (iZ bb), .int (iZ nb2), .ref qr]) rfl rfl rfl rfl ?_
                    refine g_iast X 3 1 rfl rfl (by omega) (by decide) (ws2 := [(ht, .inr (3, [.ref qv, .ref qi, .ref qr, .ref qe, .int (iZ nb2)])), (qv, .inl (cI, 5, .inl (zA vv))), (qi, .inl (cI, 900, .inl (zA (upZ li2 nb2 ((ln (((od k) * 6) + s9)) + (vv 2)))))), (qr, .inl (cI, 900, .inl (zA (upZ br2 nb2 bb)))), (h, .inr (0, [.ref qh, .ref qm, .ref qs, .ref ql, .ref qd, .ref qo, .ref qp, .int (iZ N), .int (iZ P)])), (qh, .inl (cJ, 150, .inr (.inl (lA hd)))), (qs, .inl (cI, 150, .inl (zA se))), (ql, .inl (cI, 900, .inl (zA ln))), (qo, .inl (cI, 150, .inl (zA od))), (hz, .inr (1, [.ref qk, .ref qt, .ref qn, .int (iZ B), .int (iZ C), .int (iZ w), .int (iZ G), .int (iZ K)])), (qk, .inl (cI, 900, .inl (zA (upZ bk2 nb2 (((od k) * 6) + s9)))))]) rfl dX3_gather_157 ?_
                    have hyy : (((ln (((od k) * 6) + s9)) + (vv 2))) = ln (od k * 6 + s9) + (if s9 = 0 then abvZ hd od (vv 2) k else 0) := by
                      first
                      | rw [if_pos c_124, ← hab]
                      | rw [if_neg c_124]
                    have G1 : gatA (upZ bk2 nb2 (((od k) * 6) + s9)) (upZ li2 nb2 ((ln (((od k) * 6) + s9)) + (vv 2))) (upZ br2 nb2 bb) hd se ln od (vv 2) k := fun i t h1 h2 h3 h4 => gatP_up (hga2 i t h1 h2 h3 h4) (by
                      have q1 := off_lt k.toNat i.toNat t hsn (by omega) (by rw [show ((i.toNat : Nat) : Int) = i by omega]; exact h4)
                      omega)
                    have G2 : ∀ t : Int, 0 ≤ t → t < s9 + 1 → gatP (upZ bk2 nb2 (((od k) * 6) + s9)) (upZ li2 nb2 ((ln (((od k) * 6) + s9)) + (vv 2))) (upZ br2 nb2 bb) hd se ln od (vv 2) k t := fun t h1 h2 => by
                      rcases (show t = s9 ∨ t < s9 by omega) with h | h
                      · rw [h]; exact gatP_new hn2 rfl hyy hbb
                      · exact gatP_up (hgb t h1 h) (by omega)
                    have hbb9 := brkZ_rng s9 (se (od k)) (ln (od k * 6 + s9))
                    have hab9 : 0 ≤ abvZ hd od (vv 2) k ∧ abvZ hd od (vv 2) k ≤ 3 := by unfold abvZ; split <;> omega
                    have hli3 : ∀ j : Int, 0 ≤ j ∧ j < 900 → 0 ≤ (upZ li2 nb2 ((ln (((od k) * 6) + s9)) + (vv 2))) j ∧ (upZ li2 nb2 ((ln (((od k) * 6) + s9)) + (vv 2))) j ≤ 23 := upZ_all (fun x => 0 ≤ x ∧ x ≤ 23) hli2 (by omega)
                    have hbr3 : ∀ j : Int, 0 ≤ j ∧ j < 900 → 0 ≤ (upZ br2 nb2 bb) j ∧ (upZ br2 nb2 bb) j ≤ 2 := upZ_all (fun x => 0 ≤ x ∧ x ≤ 2) hbr2 (by omega)
                    have hbk3 : ∀ j : Int, 0 ≤ j ∧ j < 900 → 0 ≤ (upZ bk2 nb2 (((od k) * 6) + s9)) j ∧ (upZ bk2 nb2 (((od k) * 6) + s9)) j < 900 := upZ_all (fun x => 0 ≤ x ∧ x < 900) hbk2 (by omega)
                    refine g_aload_n X 1 dX3_gather_158 rfl rfl ?_
                    refine g_dup X dX3_gather_159 rfl ?_
                    refine g_get X (index := 35) (ref := "GuideWords$Typesetter") hin3 0 rfl rfl 4 (by decide) rfl (by decide +kernel) (v := .int (iZ nb2)) rfl dX3_gather_160 ?_
                    refine g_iconst X dX3_gather_163 ?_
                    refine g_iadd X dX3_gather_164 ?_
                    refine g_put X (index := 35) (ref := "GuideWords$Typesetter") hin3 0 rfl rfl 4 (by decide) rfl tyX3 tyX3_ok nmX3 (by decide +kernel) rfl rfl rfl rfl (Nat.le_of_ble_eq_true rfl) (ws2 := [(ht, .inr (3, [.ref qv, .ref qi, .ref qr, .ref qe, .int (iZ (nb2 + 1))])), (qv, .inl (cI, 5, .inl (zA vv))), (qi, .inl (cI, 900, .inl (zA (upZ li2 nb2 ((ln (((od k) * 6) + s9)) + (vv 2)))))), (qr, .inl (cI, 900, .inl (zA (upZ br2 nb2 bb)))), (h, .inr (0, [.ref qh, .ref qm, .ref qs, .ref ql, .ref qd, .ref qo, .ref qp, .int (iZ N), .int (iZ P)])), (qh, .inl (cJ, 150, .inr (.inl (lA hd)))), (qs, .inl (cI, 150, .inl (zA se))), (ql, .inl (cI, 900, .inl (zA ln))), (qo, .inl (cI, 150, .inl (zA od))), (hz, .inr (1, [.ref qk, .ref qt, .ref qn, .int (iZ B), .int (iZ C), .int (iZ w), .int (iZ G), .int (iZ K)])), (qk, .inl (cI, 900, .inl (zA (upZ bk2 nb2 (((od k) * 6) + s9)))))]) rfl dX3_gather_165 ?_
                    refine g_iinc (q := 9) (lv2 := [(8, .int (iZ (s9 + 1))), (9, .int (iZ (((od k) * 6) + s9))), (0, .ref ht), (1, .ref h), (2, .ref hz), (3, .int (iZ (hd (od k) / 36028797018963968 - 1))), (4, .int (iZ k)), (5, .int (iZ (od k))), (6, .int (iZ (vv 2))), (7, .int (iZ (se (od k))))]) X dX3_gather_168 rfl (by decide) rfl ?_
                    refine g_goto X 69 dX3_gather_171 (by decide) ?_
                    refine g_lv (lv' := [(0, .ref ht), (1, .ref h), (2, .ref hz), (3, .int (iZ (hd (od k) / 36028797018963968 - 1))), (4, .int (iZ k)), (5, .int (iZ (od k))), (6, .int (iZ (vv 2))), (7, .int (iZ (se (od k)))), (8, .int (iZ (s9 + 1)))]) [2, 3, 4, 5, 6, 7, 8, 9, 0] rfl ?_
                    exact ih_69 (s9 + 1) (nb2 + 1) (upZ li2 nb2 ((ln (((od k) * 6) + s9)) + (vv 2))) (upZ br2 nb2 bb) (upZ bk2 nb2 (((od k) * 6) + s9)) (by omega) (by omega) G1 G2 hli3 hbr3 hbk3 (by omega)
          exact loop_69 _ 0 nb1 li1 br1 bk1 (by omega) (by omega) hga (fun t h1 h2 => by omega) hli1 hbr1 hbk1 (Nat.lt_succ_self _)
        · skip
          refine g_iconst X dX3_gather_38 ?_
          refine g_goto X 48 dX3_gather_39 (by decide) ?_
          have hab : 0 = abvZ hd od (vv 2) k := by
            unfold abvZ
            first
            | rw [if_pos (by rcases hl1 with h | h; exact Or.inl h.1; exact Or.inr (fun q => c_35 (by omega)))]
            | rw [if_neg (by rcases hl1 with h | h; · omega
                             · (intro q; rcases q with q | q; · omega
                                · (apply q; omega)))]
          refine g_istore (lv2 := [(6, .int (iZ 0)), (5, .int (iZ (od k))), (0, .ref ht), (1, .ref h), (2, .ref hz), (3, .int (iZ lt)), (4, .int (iZ k))]) X dX3_gather_48 (by decide) rfl ?_
          refine g_aload_n X 3 dX3_gather_50 rfl rfl ?_
          refine g_iload X 1 dX3_gather_51 rfl ?_
          refine g_callV0 X (As := [.int (iZ (od k))]) (rest := []) (ctX0_letterOf l D cB cI cJ cY h qh qm qs ql qd qo qp hd N P (od k) (by first | assumption | omega) (by first | assumption | omega)) (cwV 1 X.2.2.2.2.1 gX3_gather_X0_letterOf rfl rfl rfl (by decide +kernel) ⟨by decide, by decide⟩) 0 rfl rfl (wc := [(h, .inr (0, [.ref qh, .ref qm, .ref qs, .ref ql, .ref qd, .ref qo, .ref qp, .int (iZ N), .int (iZ P)])), (qh, .inl (cJ, 150, .inr (.inl (lA hd))))]) (wr := [(ht, .inr (3, [.ref qv, .ref qi, .ref qr, .ref qe, .int (iZ nb1)])), (qv, .inl (cI, 5, .inl (zA vv))), (qi, .inl (cI, 900, .inl (zA li1))), (qr, .inl (cI, 900, .inl (zA br1))), (qs, .inl (cI, 150, .inl (zA se))), (ql, .inl (cI, 900, .inl (zA ln))), (qo, .inl (cI, 150, .inl (zA od))), (hz, .inr (1, [.ref qk, .ref qt, .ref qn, .int (iZ B), .int (iZ C), .int (iZ w), .int (iZ G), .int (iZ K)])), (qk, .inl (cI, 900, .inl (zA bk1)))]) [4, 5] [0, 1, 2, 3, 6, 7, 8, 9, 10] rfl rfl (by decide) (by decide) (by decide) rfl rfl (Nat.le_of_ble_eq_true rfl) ⟨by decide, by decide⟩ dX3_gather_53 (fun v w1 hq => ?_)
          obtain ⟨rfl, rfl⟩ := hq
          refine g_eq (ws' := [(ht, .inr (3, [.ref qv, .ref qi, .ref qr, .ref qe, .int (iZ nb1)])), (qv, .inl (cI, 5, .inl (zA vv))), (qi, .inl (cI, 900, .inl (zA li1))), (qr, .inl (cI, 900, .inl (zA br1))), (qs, .inl (cI, 150, .inl (zA se))), (ql, .inl (cI, 900, .inl (zA ln))), (qo, .inl (cI, 150, .inl (zA od))), (hz, .inr (1, [.ref qk, .ref qt, .ref qn, .int (iZ B), .int (iZ C), .int (iZ w), .int (iZ G), .int (iZ K)])), (qk, .inl (cI, 900, .inl (zA bk1))), (h, .inr (0, [.ref qh, .ref qm, .ref qs, .ref ql, .ref qd, .ref qo, .ref qp, .int (iZ N), .int (iZ P)])), (qh, .inl (cJ, 150, .inr (.inl (lA hd))))]) (pc' := 56) (st' := [.int (iZ (hd (od k) / 36028797018963968 - 1))]) rfl rfl rfl rfl ?_
          refine g_perm (ws' := [(ht, .inr (3, [.ref qv, .ref qi, .ref qr, .ref qe, .int (iZ nb1)])), (qv, .inl (cI, 5, .inl (zA vv))), (qi, .inl (cI, 900, .inl (zA li1))), (qr, .inl (cI, 900, .inl (zA br1))), (h, .inr (0, [.ref qh, .ref qm, .ref qs, .ref ql, .ref qd, .ref qo, .ref qp, .int (iZ N), .int (iZ P)])), (qh, .inl (cJ, 150, .inr (.inl (lA hd)))), (qs, .inl (cI, 150, .inl (zA se))), (ql, .inl (cI, 900, .inl (zA ln))), (qo, .inl (cI, 150, .inl (zA od))), (hz, .inr (1, [.ref qk, .ref qt, .ref qn, .int (iZ B), .int (iZ C), .int (iZ w), .int (iZ G), .int (iZ K)])), (qk, .inl (cI, 900, .inl (zA bk1)))]) [0, 1, 2, 3, 9, 10, 4, 5, 6, 7, 8] (by decide) rfl ?_
          refine g_istore_n (lv2 := [(3, .int (iZ (hd (od k) / 36028797018963968 - 1))), (6, .int (iZ 0)), (5, .int (iZ (od k))), (0, .ref ht), (1, .ref h), (2, .ref hz), (4, .int (iZ k))]) X dX3_gather_56 rfl (by decide) rfl ?_
          refine g_aload_n X 4 dX3_gather_57 rfl rfl ?_
          refine g_getN (host := "GuideWords") X (index := 68) (ref := "GuideWords$Lexicon") hin0 4 rfl rfl 2 (by decide) rfl (by decide +kernel) (v := .ref qs) rfl dX3_gather_58 ?_
          refine g_iload X 2 dX3_gather_61 rfl ?_
          refine g_iald X 6 1 rfl rfl (by omega) (by decide) dX3_gather_63 ?_
          have r_63 := hse (od k) (by omega)
          refine g_istore (lv2 := [(7, .int (iZ (se (od k)))), (3, .int (iZ (hd (od k) / 36028797018963968 - 1))), (6, .int (iZ 0)), (5, .int (iZ (od k))), (0, .ref ht), (1, .ref h), (2, .ref hz), (4, .int (iZ k))]) X dX3_gather_64 (by decide) rfl ?_
          refine g_iconst X dX3_gather_66 ?_
          refine g_istore (lv2 := [(8, .int (iZ 0)), (7, .int (iZ (se (od k)))), (3, .int (iZ (hd (od k) / 36028797018963968 - 1))), (6, .int (iZ 0)), (5, .int (iZ (od k))), (0, .ref ht), (1, .ref h), (2, .ref hz), (4, .int (iZ k))]) X dX3_gather_67 (by decide) rfl ?_
          refine g_lv (lv' := [(0, .ref ht), (1, .ref h), (2, .ref hz), (3, .int (iZ (hd (od k) / 36028797018963968 - 1))), (4, .int (iZ k)), (5, .int (iZ (od k))), (6, .int (iZ 0)), (7, .int (iZ (se (od k)))), (8, .int (iZ 0))]) [5, 6, 7, 2, 8, 4, 3, 1, 0] rfl ?_
          have loop_69 : ∀ (kf : Nat) (s9 : Int) (nb2 : Int) (li2 : Int → Int) (br2 : Int → Int) (bk2 : Int → Int), (hs9 : 0 ≤ s9 ∧ s9 ≤ se (od k)) → (hn2 : nb2 = offZ se od k.toNat + s9) → (hga2 : gatA bk2 li2 br2 hd se ln od (vv 2) k) → (hgb : ∀ t : Int, 0 ≤ t → t < s9 → gatP bk2 li2 br2 hd se ln od (vv 2) k t) → (hli2 : ∀ j : Int, 0 ≤ j ∧ j < 900 → 0 ≤ li2 j ∧ li2 j ≤ 23) → (hbr2 : ∀ j : Int, 0 ≤ j ∧ j < 900 → 0 ≤ br2 j ∧ br2 j ≤ 2) → (hbk2 : ∀ j : Int, 0 ≤ j ∧ j < 900 → 0 ≤ bk2 j ∧ bk2 j < 900) → (se (od k) - s9).toNat < kf → gW p l e { frames := 2, cells := 0, slots := 0, locals := 42 } s m args below meth c D A 10 0 0 (MQ below (gQ D (gT cB cI cJ cY) (qX3_gather cB cI cJ cY ht qv qi qr qe h qh qm qs ql qd qo qp hz qk qt qn vv li br hd se ln od bk nb N P B C w G K) A) args s 0 0 A) [(ht, .inr (3, [.ref qv, .ref qi, .ref qr, .ref qe, .int (iZ nb2)])), (qv, .inl (cI, 5, .inl (zA vv))), (qi, .inl (cI, 900, .inl (zA li2))), (qr, .inl (cI, 900, .inl (zA br2))), (h, .inr (0, [.ref qh, .ref qm, .ref qs, .ref ql, .ref qd, .ref qo, .ref qp, .int (iZ N), .int (iZ P)])), (qh, .inl (cJ, 150, .inr (.inl (lA hd)))), (qs, .inl (cI, 150, .inl (zA se))), (ql, .inl (cI, 900, .inl (zA ln))), (qo, .inl (cI, 150, .inl (zA od))), (hz, .inr (1, [.ref qk, .ref qt, .ref qn, .int (iZ B), .int (iZ C), .int (iZ w), .int (iZ G), .int (iZ K)])), (qk, .inl (cI, 900, .inl (zA bk2)))] 69 [(0, .ref ht), (1, .ref h), (2, .ref hz), (3, .int (iZ (hd (od k) / 36028797018963968 - 1))), (4, .int (iZ k)), (5, .int (iZ (od k))), (6, .int (iZ 0)), (7, .int (iZ (se (od k)))), (8, .int (iZ s9))] [] := by
            intro kf
            induction kf with
            | zero => intro s9 nb2 li2 br2 bk2 hs9 hn2 hga2 hgb hli2 hbr2 hbk2 hm; exact absurd hm (Nat.not_lt_zero _)
            | succ kf ih_69 =>
              intro s9 nb2 li2 br2 bk2 hs9 hn2 hga2 hgb hli2 hbr2 hbk2 hm
              refine g_iload X 8 dX3_gather_69 rfl ?_
              refine g_iload X 7 dX3_gather_71 rfl ?_
              refine g_icmp_ge X 174 dX3_gather_73 (by decide) (by omega) (by omega) (fun c_73 => ?_) (fun c_73 => ?_)
              · skip
                have hga3 : gatA bk2 li2 br2 hd se ln od (vv 2) (k + 1) := fun i t h1 h2 h3 h4 => by
                  rcases (show i < k ∨ i = k by omega) with h | h
                  · exact hga2 i t h1 h h3 h4
                  · subst h; exact hgb t h3 (by omega)
                refine g_iinc (q := 4) (lv2 := [(4, .int (iZ (k + 1))), (0, .ref ht), (1, .ref h), (2, .ref hz), (3, .int (iZ (hd (od k) / 36028797018963968 - 1))), (5, .int (iZ (od k))), (6, .int (iZ 0)), (7, .int (iZ (se (od k)))), (8, .int (iZ s9))]) X dX3_gather_174 rfl (by decide) rfl ?_
                refine g_goto X 10 dX3_gather_177 (by decide) ?_
                refine g_lv (lv' := [(0, .ref ht), (1, .ref h), (2, .ref hz), (3, .int (iZ (hd (od k) / 36028797018963968 - 1))), (4, .int (iZ (k + 1)))]) [1, 2, 3, 4, 0] rfl ?_
                exact ih_10 (hd (od k) / 36028797018963968 - 1) (k + 1) nb2 li2 br2 bk2 (by omega) (by omega) (Or.inr ⟨by omega, by rw [show k + 1 - 1 = k by omega]; rfl⟩) (by rw [show (k + 1).toNat = k.toNat + 1 by omega, offZ, hk2]; omega) hga3 hli2 hbr2 hbk2 (by omega)
              · skip
                refine g_aload_n X 0 dX3_gather_76 rfl rfl ?_
                refine g_get X (index := 35) (ref := "GuideWords$Typesetter") hin3 0 rfl rfl 4 (by decide) rfl (by decide +kernel) (v := .int (iZ nb2)) rfl dX3_gather_77 ?_
                refine g_sipush X dX3_gather_80 (by decide) ?_
                refine g_icmp_ge X 174 dX3_gather_83 (by decide) (by omega) (by omega) (fun c_83 => ?_) (fun c_83 => ?_)
                · skip
                  omega
                · skip
                  refine g_iload X 5 dX3_gather_86 rfl ?_
                  refine g_bipush X dX3_gather_88 (by decide) ?_
                  refine g_imul X dX3_gather_90 ?_
                  refine g_iload X 8 dX3_gather_91 rfl ?_
                  refine g_iadd X dX3_gather_93 ?_
                  refine g_istore (lv2 := [(9, .int (iZ (((od k) * 6) + s9))), (0, .ref ht), (1, .ref h), (2, .ref hz), (3, .int (iZ (hd (od k) / 36028797018963968 - 1))), (4, .int (iZ k)), (5, .int (iZ (od k))), (6, .int (iZ 0)), (7, .int (iZ (se (od k)))), (8, .int (iZ s9))]) X dX3_gather_94 (by decide) rfl ?_
                  refine g_aload_n X 3 dX3_gather_96 rfl rfl ?_
                  refine g_getN (host := "GuideWords") X (index := 71) (ref := "GuideWords$Setting") hin1 9 rfl rfl 0 (by decide) rfl (by decide +kernel) (v := .ref qk) rfl dX3_gather_97 ?_
                  refine g_aload_n X 1 dX3_gather_100 rfl rfl ?_
                  refine g_get X (index := 35) (ref := "GuideWords$Typesetter") hin3 0 rfl rfl 4 (by decide) rfl (by decide +kernel) (v := .int (iZ nb2)) rfl dX3_gather_101 ?_
                  refine g_iload X 0 dX3_gather_104 rfl ?_
                  refine g_iast X 10 1 rfl rfl (by omega) (by decide) (ws2 := [(ht, .inr (3, [.ref qv, .ref qi, .ref qr, .ref qe, .int (iZ nb2)])), (qv, .inl (cI, 5, .inl (zA vv))), (qi, .inl (cI, 900, .inl (zA li2))), (qr, .inl (cI, 900, .inl (zA br2))), (h, .inr (0, [.ref qh, .ref qm, .ref qs, .ref ql, .ref qd, .ref qo, .ref qp, .int (iZ N), .int (iZ P)])), (qh, .inl (cJ, 150, .inr (.inl (lA hd)))), (qs, .inl (cI, 150, .inl (zA se))), (ql, .inl (cI, 900, .inl (zA ln))), (qo, .inl (cI, 150, .inl (zA od))), (hz, .inr (1, [.ref qk, .ref qt, .ref qn, .int (iZ B), .int (iZ C), .int (iZ w), .int (iZ G), .int (iZ K)])), (qk, .inl (cI, 900, .inl (zA (upZ bk2 nb2 (((od k) * 6) + s9)))))]) rfl dX3_gather_106 ?_
                  refine g_aload_n X 1 dX3_gather_107 rfl rfl ?_
                  refine g_get X (index := 15) (ref := "GuideWords$Typesetter") hin3 0 rfl rfl 1 (by decide) rfl (by decide +kernel) (v := .ref qi) rfl dX3_gather_108 ?_
                  refine g_aload_n X 1 dX3_gather_111 rfl rfl ?_
                  refine g_get X (index := 35) (ref := "GuideWords$Typesetter") hin3 0 rfl rfl 4 (by decide) rfl (by decide +kernel) (v := .int (iZ nb2)) rfl dX3_gather_112 ?_
                  refine g_aload_n X 2 dX3_gather_115 rfl rfl ?_
                  refine g_getN (host := "GuideWords") X (index := 73) (ref := "GuideWords$Lexicon") hin0 4 rfl rfl 3 (by decide) rfl (by decide +kernel) (v := .ref ql) rfl dX3_gather_116 ?_
                  refine g_iload X 0 dX3_gather_119 rfl ?_
                  refine g_iald X 7 1 rfl rfl (by omega) (by decide) dX3_gather_121 ?_
                  have r_121 := hln (((od k) * 6) + s9) (by omega)
                  refine g_iload X 9 dX3_gather_122 rfl ?_
                  refine g_if_ne X 132 dX3_gather_124 (by decide) (by omega) (fun c_124 => ?_) (fun c_124 => ?_)
                  · skip
                    refine g_iconst X dX3_gather_132 ?_
                    refine g_iadd X dX3_gather_133 ?_
                    refine g_iast X 2 1 rfl rfl (by omega) (by decide) (ws2 := [(ht, .inr (3, [.ref qv, .ref qi, .ref qr, .ref qe, .int (iZ nb2)])), (qv, .inl (cI, 5, .inl (zA vv))), (qi, .inl (cI, 900, .inl (zA (upZ li2 nb2 ((ln (((od k) * 6) + s9)) + 0))))), (qr, .inl (cI, 900, .inl (zA br2))), (h, .inr (0, [.ref qh, .ref qm, .ref qs, .ref ql, .ref qd, .ref qo, .ref qp, .int (iZ N), .int (iZ P)])), (qh, .inl (cJ, 150, .inr (.inl (lA hd)))), (qs, .inl (cI, 150, .inl (zA se))), (ql, .inl (cI, 900, .inl (zA ln))), (qo, .inl (cI, 150, .inl (zA od))), (hz, .inr (1, [.ref qk, .ref qt, .ref qn, .int (iZ B), .int (iZ C), .int (iZ w), .int (iZ G), .int (iZ K)])), (qk, .inl (cI, 900, .inl (zA (upZ bk2 nb2 (((od k) * 6) + s9)))))]) rfl dX3_gather_134 ?_
                    refine g_aload_n X 1 dX3_gather_135 rfl rfl ?_
                    refine g_get X (index := 18) (ref := "GuideWords$Typesetter") hin3 0 rfl rfl 2 (by decide) rfl (by decide +kernel) (v := .ref qr) rfl dX3_gather_136 ?_
                    refine g_aload_n X 1 dX3_gather_139 rfl rfl ?_
                    refine g_get X (index := 35) (ref := "GuideWords$Typesetter") hin3 0 rfl rfl 4 (by decide) rfl (by decide +kernel) (v := .int (iZ nb2)) rfl dX3_gather_140 ?_
                    refine g_iload X 9 dX3_gather_143 rfl ?_
                    refine g_iload X 8 dX3_gather_145 rfl ?_
                    refine g_aload_n X 2 dX3_gather_147 rfl rfl ?_
                    refine g_getN (host := "GuideWords") X (index := 73) (ref := "GuideWords$Lexicon") hin0 4 rfl rfl 3 (by decide) rfl (by decide +kernel) (v := .ref ql) rfl dX3_gather_148 ?_
                    refine g_iload X 0 dX3_gather_151 rfl ?_
                    refine g_iald X 7 1 rfl rfl (by omega) (by decide) dX3_gather_153 ?_
                    have r_153 := hln (((od k) * 6) + s9) (by omega)
                    refine g_callS0 X (As := [.int (iZ s9), .int (iZ (se (od k))), .int (iZ (ln (((od k) * 6) + s9)))]) (rest := [.int (iZ nb2), .ref qr]) (ctX3_breakBehind l D cB cI cJ cY s9 (se (od k)) (ln (((od k) * 6) + s9)) (by first | assumption | omega) (by first | assumption | omega) (by first | assumption | omega)) (va_cwS 3 X.2.2.2.2.1 gX3_gather_X3_breakBehind rfl rfl rfl (by decide +kernel) ⟨by decide, by decide⟩) (wc := []) (wr := [(ht, .inr (3, [.ref qv, .ref qi, .ref qr, .ref qe, .int (iZ nb2)])), (qv, .inl (cI, 5, .inl (zA vv))), (qi, .inl (cI, 900, .inl (zA (upZ li2 nb2 ((ln (((od k) * 6) + s9)) + 0))))), (qr, .inl (cI, 900, .inl (zA br2))), (h, .inr (0, [.ref qh, .ref qm, .ref qs, .ref ql, .ref qd, .ref qo, .ref qp, .int (iZ N), .int (iZ P)])), (qh, .inl (cJ, 150, .inr (.inl (lA hd)))), (qs, .inl (cI, 150, .inl (zA se))), (ql, .inl (cI, 900, .inl (zA ln))), (qo, .inl (cI, 150, .inl (zA od))), (hz, .inr (1, [.ref qk, .ref qt, .ref qn, .int (iZ B), .int (iZ C), .int (iZ w), .int (iZ G), .int (iZ K)])), (qk, .inl (cI, 900, .inl (zA (upZ bk2 nb2 (((od k) * 6) + s9)))))]) [] [0, 1, 2, 3, 4, 5, 6, 7, 8, 9, 10] rfl rfl (by decide) (by decide) (by decide) rfl rfl (Nat.le_of_ble_eq_true rfl) ⟨by decide, by decide⟩ dX3_gather_154 (fun v w1 hq => ?_)
                    obtain ⟨bb, rfl, hbb, rfl⟩ := hq
                    refine g_eq (ws' := [(ht, .inr (3, [.ref qv, .ref qi, .ref qr, .ref qe, .int (iZ nb2)])), (qv, .inl (cI, 5, .inl (zA vv))), (qi, .inl (cI, 900, .inl (zA (upZ li2 nb2 ((ln (((od k) * 6) + s9)) + 0))))), (qr, .inl (cI, 900, .inl (zA br2))), (h, .inr (0, [.ref qh, .ref qm, .ref qs, .ref ql, .ref qd, .ref qo, .ref qp, .int (iZ N), .int (iZ P)])), (qh, .inl (cJ, 150, .inr (.inl (lA hd)))), (qs, .inl (cI, 150, .inl (zA se))), (ql, .inl (cI, 900, .inl (zA ln))), (qo, .inl (cI, 150, .inl (zA od))), (hz, .inr (1, [.ref qk, .ref qt, .ref qn, .int (iZ B), .int (iZ C), .int (iZ w), .int (iZ G), .int (iZ K)])), (qk, .inl (cI, 900, .inl (zA (upZ bk2 nb2 (((od k) * 6) + s9)))))]) (pc' := 157) (st' := [.int (iZ bb), .int (iZ nb2), .ref qr]) rfl rfl rfl rfl ?_
                    refine g_iast X 3 1 rfl rfl (by omega) (by decide) (ws2 := [(ht, .inr (3, [.ref qv, .ref qi, .ref qr, .ref qe, .int (iZ nb2)])), (qv, .inl (cI, 5, .inl (zA vv))), (qi, .inl (cI, 900, .inl (zA (upZ li2 nb2 ((ln (((od k) * 6) + s9)) + 0))))), (qr, .inl (cI, 900, .inl (zA (upZ br2 nb2 bb)))), (h, .inr (0, [.ref qh, .ref qm, .ref qs, .ref ql, .ref qd, .ref qo, .ref qp, .int (iZ N), .int (iZ P)])), (qh, .inl (cJ, 150, .inr (.inl (lA hd)))), (qs, .inl (cI, 150, .inl (zA se))), (ql, .inl (cI, 900, .inl (zA ln))), (qo, .inl (cI, 150, .inl (zA od))), (hz, .inr (1, [.ref qk, .ref qt, .ref qn, .int (iZ B), .int (iZ C), .int (iZ w), .int (iZ G), .int (iZ K)])), (qk, .inl (cI, 900, .inl (zA (upZ bk2 nb2 (((od k) * 6) + s9)))))]) rfl dX3_gather_157 ?_
                    have hyy : (((ln (((od k) * 6) + s9)) + 0)) = ln (od k * 6 + s9) + (if s9 = 0 then abvZ hd od (vv 2) k else 0) := by
                      first
                      | rw [if_pos c_124, ← hab]
                      | rw [if_neg c_124]
                    have G1 : gatA (upZ bk2 nb2 (((od k) * 6) + s9)) (upZ li2 nb2 ((ln (((od k) * 6) + s9)) + 0)) (upZ br2 nb2 bb) hd se ln od (vv 2) k := fun i t h1 h2 h3 h4 => gatP_up (hga2 i t h1 h2 h3 h4) (by
                      have q1 := off_lt k.toNat i.toNat t hsn (by omega) (by rw [show ((i.toNat : Nat) : Int) = i by omega]; exact h4)
                      omega)
                    have G2 : ∀ t : Int, 0 ≤ t → t < s9 + 1 → gatP (upZ bk2 nb2 (((od k) * 6) + s9)) (upZ li2 nb2 ((ln (((od k) * 6) + s9)) + 0)) (upZ br2 nb2 bb) hd se ln od (vv 2) k t := fun t h1 h2 => by
                      rcases (show t = s9 ∨ t < s9 by omega) with h | h
                      · rw [h]; exact gatP_new hn2 rfl hyy hbb
                      · exact gatP_up (hgb t h1 h) (by omega)
                    have hbb9 := brkZ_rng s9 (se (od k)) (ln (od k * 6 + s9))
                    have hab9 : 0 ≤ abvZ hd od (vv 2) k ∧ abvZ hd od (vv 2) k ≤ 3 := by unfold abvZ; split <;> omega
                    have hli3 : ∀ j : Int, 0 ≤ j ∧ j < 900 → 0 ≤ (upZ li2 nb2 ((ln (((od k) * 6) + s9)) + 0)) j ∧ (upZ li2 nb2 ((ln (((od k) * 6) + s9)) + 0)) j ≤ 23 := upZ_all (fun x => 0 ≤ x ∧ x ≤ 23) hli2 (by omega)
                    have hbr3 : ∀ j : Int, 0 ≤ j ∧ j < 900 → 0 ≤ (upZ br2 nb2 bb) j ∧ (upZ br2 nb2 bb) j ≤ 2 := upZ_all (fun x => 0 ≤ x ∧ x ≤ 2) hbr2 (by omega)
                    have hbk3 : ∀ j : Int, 0 ≤ j ∧ j < 900 → 0 ≤ (upZ bk2 nb2 (((od k) * 6) + s9)) j ∧ (upZ bk2 nb2 (((od k) * 6) + s9)) j < 900 := upZ_all (fun x => 0 ≤ x ∧ x < 900) hbk2 (by omega)
                    refine g_aload_n X 1 dX3_gather_158 rfl rfl ?_
                    refine g_dup X dX3_gather_159 rfl ?_
                    refine g_get X (index := 35) (ref := "GuideWords$Typesetter") hin3 0 rfl rfl 4 (by decide) rfl (by decide +kernel) (v := .int (iZ nb2)) rfl dX3_gather_160 ?_
                    refine g_iconst X dX3_gather_163 ?_
                    refine g_iadd X dX3_gather_164 ?_
                    refine g_put X (index := 35) (ref := "GuideWords$Typesetter") hin3 0 rfl rfl 4 (by decide) rfl tyX3 tyX3_ok nmX3 (by decide +kernel) rfl rfl rfl rfl (Nat.le_of_ble_eq_true rfl) (ws2 := [(ht, .inr (3, [.ref qv, .ref qi, .ref qr, .ref qe, .int (iZ (nb2 + 1))])), (qv, .inl (cI, 5, .inl (zA vv))), (qi, .inl (cI, 900, .inl (zA (upZ li2 nb2 ((ln (((od k) * 6) + s9)) + 0))))), (qr, .inl (cI, 900, .inl (zA (upZ br2 nb2 bb)))), (h, .inr (0, [.ref qh, .ref qm, .ref qs, .ref ql, .ref qd, .ref qo, .ref qp, .int (iZ N), .int (iZ P)])), (qh, .inl (cJ, 150, .inr (.inl (lA hd)))), (qs, .inl (cI, 150, .inl (zA se))), (ql, .inl (cI, 900, .inl (zA ln))), (qo, .inl (cI, 150, .inl (zA od))), (hz, .inr (1, [.ref qk, .ref qt, .ref qn, .int (iZ B), .int (iZ C), .int (iZ w), .int (iZ G), .int (iZ K)])), (qk, .inl (cI, 900, .inl (zA (upZ bk2 nb2 (((od k) * 6) + s9)))))]) rfl dX3_gather_165 ?_
                    refine g_iinc (q := 9) (lv2 := [(8, .int (iZ (s9 + 1))), (9, .int (iZ (((od k) * 6) + s9))), (0, .ref ht), (1, .ref h), (2, .ref hz), (3, .int (iZ (hd (od k) / 36028797018963968 - 1))), (4, .int (iZ k)), (5, .int (iZ (od k))), (6, .int (iZ 0)), (7, .int (iZ (se (od k))))]) X dX3_gather_168 rfl (by decide) rfl ?_
                    refine g_goto X 69 dX3_gather_171 (by decide) ?_
                    refine g_lv (lv' := [(0, .ref ht), (1, .ref h), (2, .ref hz), (3, .int (iZ (hd (od k) / 36028797018963968 - 1))), (4, .int (iZ k)), (5, .int (iZ (od k))), (6, .int (iZ 0)), (7, .int (iZ (se (od k)))), (8, .int (iZ (s9 + 1)))]) [2, 3, 4, 5, 6, 7, 8, 9, 0] rfl ?_
                    exact ih_69 (s9 + 1) (nb2 + 1) (upZ li2 nb2 ((ln (((od k) * 6) + s9)) + 0)) (upZ br2 nb2 bb) (upZ bk2 nb2 (((od k) * 6) + s9)) (by omega) (by omega) G1 G2 hli3 hbr3 hbk3 (by omega)
                  · skip
                    refine g_iload X 7 dX3_gather_127 rfl ?_
                    refine g_goto X 133 dX3_gather_129 (by decide) ?_
                    refine g_iadd X dX3_gather_133 ?_
                    refine g_iast X 2 1 rfl rfl (by omega) (by decide) (ws2 := [(ht, .inr (3, [.ref qv, .ref qi, .ref qr, .ref qe, .int (iZ nb2)])), (qv, .inl (cI, 5, .inl (zA vv))), (qi, .inl (cI, 900, .inl (zA (upZ li2 nb2 ((ln (((od k) * 6) + s9)) + 0))))), (qr, .inl (cI, 900, .inl (zA br2))), (h, .inr (0, [.ref qh, .ref qm, .ref qs, .ref ql, .ref qd, .ref qo, .ref qp, .int (iZ N), .int (iZ P)])), (qh, .inl (cJ, 150, .inr (.inl (lA hd)))), (qs, .inl (cI, 150, .inl (zA se))), (ql, .inl (cI, 900, .inl (zA ln))), (qo, .inl (cI, 150, .inl (zA od))), (hz, .inr (1, [.ref qk, .ref qt, .ref qn, .int (iZ B), .int (iZ C), .int (iZ w), .int (iZ G), .int (iZ K)])), (qk, .inl (cI, 900, .inl (zA (upZ bk2 nb2 (((od k) * 6) + s9)))))]) rfl dX3_gather_134 ?_
                    refine g_aload_n X 1 dX3_gather_135 rfl rfl ?_
                    refine g_get X (index := 18) (ref := "GuideWords$Typesetter") hin3 0 rfl rfl 2 (by decide) rfl (by decide +kernel) (v := .ref qr) rfl dX3_gather_136 ?_
                    refine g_aload_n X 1 dX3_gather_139 rfl rfl ?_
                    refine g_get X (index := 35) (ref := "GuideWords$Typesetter") hin3 0 rfl rfl 4 (by decide) rfl (by decide +kernel) (v := .int (iZ nb2)) rfl dX3_gather_140 ?_
                    refine g_iload X 9 dX3_gather_143 rfl ?_
                    refine g_iload X 8 dX3_gather_145 rfl ?_
                    refine g_aload_n X 2 dX3_gather_147 rfl rfl ?_
                    refine g_getN (host := "GuideWords") X (index := 73) (ref := "GuideWords$Lexicon") hin0 4 rfl rfl 3 (by decide) rfl (by decide +kernel) (v := .ref ql) rfl dX3_gather_148 ?_
                    refine g_iload X 0 dX3_gather_151 rfl ?_
                    refine g_iald X 7 1 rfl rfl (by omega) (by decide) dX3_gather_153 ?_
                    have r_153 := hln (((od k) * 6) + s9) (by omega)
                    refine g_callS0 X (As := [.int (iZ s9), .int (iZ (se (od k))), .int (iZ (ln (((od k) * 6) + s9)))]) (rest := [.int (iZ nb2), .ref qr]) (ctX3_breakBehind l D cB cI cJ cY s9 (se (od k)) (ln (((od k) * 6) + s9)) (by first | assumption | omega) (by first | assumption | omega) (by first | assumption | omega)) (va_cwS 3 X.2.2.2.2.1 gX3_gather_X3_breakBehind rfl rfl rfl (by decide +kernel) ⟨by decide, by decide⟩) (wc := []) (wr := [(ht, .inr (3, [.ref qv, .ref qi, .ref qr, .ref qe, .int (iZ nb2)])), (qv, .inl (cI, 5, .inl (zA vv))), (qi, .inl (cI, 900, .inl (zA (upZ li2 nb2 ((ln (((od k) * 6) + s9)) + 0))))), (qr, .inl (cI, 900, .inl (zA br2))), (h, .inr (0, [.ref qh, .ref qm, .ref qs, .ref ql, .ref qd, .ref qo, .ref qp, .int (iZ N), .int (iZ P)])), (qh, .inl (cJ, 150, .inr (.inl (lA hd)))), (qs, .inl (cI, 150, .inl (zA se))), (ql, .inl (cI, 900, .inl (zA ln))), (qo, .inl (cI, 150, .inl (zA od))), (hz, .inr (1, [.ref qk, .ref qt, .ref qn, .int (iZ B), .int (iZ C), .int (iZ w), .int (iZ G), .int (iZ K)])), (qk, .inl (cI, 900, .inl (zA (upZ bk2 nb2 (((od k) * 6) + s9)))))]) [] [0, 1, 2, 3, 4, 5, 6, 7, 8, 9, 10] rfl rfl (by decide) (by decide) (by decide) rfl rfl (Nat.le_of_ble_eq_true rfl) ⟨by decide, by decide⟩ dX3_gather_154 (fun v w1 hq => ?_)
                    obtain ⟨bb, rfl, hbb, rfl⟩ := hq
                    refine g_eq (ws' := [(ht, .inr (3, [.ref qv, .ref qi, .ref qr, .ref qe, .int (iZ nb2)])), (qv, .inl (cI, 5, .inl (zA vv))), (qi, .inl (cI, 900, .inl (zA (upZ li2 nb2 ((ln (((od k) * 6) + s9)) + 0))))), (qr, .inl (cI, 900, .inl (zA br2))), (h, .inr (0, [.ref qh, .ref qm, .ref qs, .ref ql, .ref qd, .ref qo, .ref qp, .int (iZ N), .int (iZ P)])), (qh, .inl (cJ, 150, .inr (.inl (lA hd)))), (qs, .inl (cI, 150, .inl (zA se))), (ql, .inl (cI, 900, .inl (zA ln))), (qo, .inl (cI, 150, .inl (zA od))), (hz, .inr (1, [.ref qk, .ref qt, .ref qn, .int (iZ B), .int (iZ C), .int (iZ w), .int (iZ G), .int (iZ K)])), (qk, .inl (cI, 900, .inl (zA (upZ bk2 nb2 (((od k) * 6) + s9)))))]) (pc' := 157) (st' := [.int (iZ bb), .int (iZ nb2), .ref qr]) rfl rfl rfl rfl ?_
                    refine g_iast X 3 1 rfl rfl (by omega) (by decide) (ws2 := [(ht, .inr (3, [.ref qv, .ref qi, .ref qr, .ref qe, .int (iZ nb2)])), (qv, .inl (cI, 5, .inl (zA vv))), (qi, .inl (cI, 900, .inl (zA (upZ li2 nb2 ((ln (((od k) * 6) + s9)) + 0))))), (qr, .inl (cI, 900, .inl (zA (upZ br2 nb2 bb)))), (h, .inr (0, [.ref qh, .ref qm, .ref qs, .ref ql, .ref qd, .ref qo, .ref qp, .int (iZ N), .int (iZ P)])), (qh, .inl (cJ, 150, .inr (.inl (lA hd)))), (qs, .inl (cI, 150, .inl (zA se))), (ql, .inl (cI, 900, .inl (zA ln))), (qo, .inl (cI, 150, .inl (zA od))), (hz, .inr (1, [.ref qk, .ref qt, .ref qn, .int (iZ B), .int (iZ C), .int (iZ w), .int (iZ G), .int (iZ K)])), (qk, .inl (cI, 900, .inl (zA (upZ bk2 nb2 (((od k) * 6) + s9)))))]) rfl dX3_gather_157 ?_
                    have hyy : (((ln (((od k) * 6) + s9)) + 0)) = ln (od k * 6 + s9) + (if s9 = 0 then abvZ hd od (vv 2) k else 0) := by
                      first
                      | rw [if_pos c_124, ← hab]
                      | rw [if_neg c_124]
                    have G1 : gatA (upZ bk2 nb2 (((od k) * 6) + s9)) (upZ li2 nb2 ((ln (((od k) * 6) + s9)) + 0)) (upZ br2 nb2 bb) hd se ln od (vv 2) k := fun i t h1 h2 h3 h4 => gatP_up (hga2 i t h1 h2 h3 h4) (by
                      have q1 := off_lt k.toNat i.toNat t hsn (by omega) (by rw [show ((i.toNat : Nat) : Int) = i by omega]; exact h4)
                      omega)
                    have G2 : ∀ t : Int, 0 ≤ t → t < s9 + 1 → gatP (upZ bk2 nb2 (((od k) * 6) + s9)) (upZ li2 nb2 ((ln (((od k) * 6) + s9)) + 0)) (upZ br2 nb2 bb) hd se ln od (vv 2) k t := fun t h1 h2 => by
                      rcases (show t = s9 ∨ t < s9 by omega) with h | h
                      · rw [h]; exact gatP_new hn2 rfl hyy hbb
                      · exact gatP_up (hgb t h1 h) (by omega)
                    have hbb9 := brkZ_rng s9 (se (od k)) (ln (od k * 6 + s9))
                    have hab9 : 0 ≤ abvZ hd od (vv 2) k ∧ abvZ hd od (vv 2) k ≤ 3 := by unfold abvZ; split <;> omega
                    have hli3 : ∀ j : Int, 0 ≤ j ∧ j < 900 → 0 ≤ (upZ li2 nb2 ((ln (((od k) * 6) + s9)) + 0)) j ∧ (upZ li2 nb2 ((ln (((od k) * 6) + s9)) + 0)) j ≤ 23 := upZ_all (fun x => 0 ≤ x ∧ x ≤ 23) hli2 (by omega)
                    have hbr3 : ∀ j : Int, 0 ≤ j ∧ j < 900 → 0 ≤ (upZ br2 nb2 bb) j ∧ (upZ br2 nb2 bb) j ≤ 2 := upZ_all (fun x => 0 ≤ x ∧ x ≤ 2) hbr2 (by omega)
                    have hbk3 : ∀ j : Int, 0 ≤ j ∧ j < 900 → 0 ≤ (upZ bk2 nb2 (((od k) * 6) + s9)) j ∧ (upZ bk2 nb2 (((od k) * 6) + s9)) j < 900 := upZ_all (fun x => 0 ≤ x ∧ x < 900) hbk2 (by omega)
                    refine g_aload_n X 1 dX3_gather_158 rfl rfl ?_
                    refine g_dup X dX3_gather_159 rfl ?_
                    refine g_get X (index := 35) (ref := "GuideWords$Typesetter") hin3 0 rfl rfl 4 (by decide) rfl (by decide +kernel) (v := .int (iZ nb2)) rfl dX3_gather_160 ?_
                    refine g_iconst X dX3_gather_163 ?_
                    refine g_iadd X dX3_gather_164 ?_
                    refine g_put X (index := 35) (ref := "GuideWords$Typesetter") hin3 0 rfl rfl 4 (by decide) rfl tyX3 tyX3_ok nmX3 (by decide +kernel) rfl rfl rfl rfl (Nat.le_of_ble_eq_true rfl) (ws2 := [(ht, .inr (3, [.ref qv, .ref qi, .ref qr, .ref qe, .int (iZ (nb2 + 1))])), (qv, .inl (cI, 5, .inl (zA vv))), (qi, .inl (cI, 900, .inl (zA (upZ li2 nb2 ((ln (((od k) * 6) + s9)) + 0))))), (qr, .inl (cI, 900, .inl (zA (upZ br2 nb2 bb)))), (h, .inr (0, [.ref qh, .ref qm, .ref qs, .ref ql, .ref qd, .ref qo, .ref qp, .int (iZ N), .int (iZ P)])), (qh, .inl (cJ, 150, .inr (.inl (lA hd)))), (qs, .inl (cI, 150, .inl (zA se))), (ql, .inl (cI, 900, .inl (zA ln))), (qo, .inl (cI, 150, .inl (zA od))), (hz, .inr (1, [.ref qk, .ref qt, .ref qn, .int (iZ B), .int (iZ C), .int (iZ w), .int (iZ G), .int (iZ K)])), (qk, .inl (cI, 900, .inl (zA (upZ bk2 nb2 (((od k) * 6) + s9)))))]) rfl dX3_gather_165 ?_
                    refine g_iinc (q := 9) (lv2 := [(8, .int (iZ (s9 + 1))), (9, .int (iZ (((od k) * 6) + s9))), (0, .ref ht), (1, .ref h), (2, .ref hz), (3, .int (iZ (hd (od k) / 36028797018963968 - 1))), (4, .int (iZ k)), (5, .int (iZ (od k))), (6, .int (iZ 0)), (7, .int (iZ (se (od k))))]) X dX3_gather_168 rfl (by decide) rfl ?_
                    refine g_goto X 69 dX3_gather_171 (by decide) ?_
                    refine g_lv (lv' := [(0, .ref ht), (1, .ref h), (2, .ref hz), (3, .int (iZ (hd (od k) / 36028797018963968 - 1))), (4, .int (iZ k)), (5, .int (iZ (od k))), (6, .int (iZ 0)), (7, .int (iZ (se (od k)))), (8, .int (iZ (s9 + 1)))]) [2, 3, 4, 5, 6, 7, 8, 9, 0] rfl ?_
                    exact ih_69 (s9 + 1) (nb2 + 1) (upZ li2 nb2 ((ln (((od k) * 6) + s9)) + 0)) (upZ br2 nb2 bb) (upZ bk2 nb2 (((od k) * 6) + s9)) (by omega) (by omega) G1 G2 hli3 hbr3 hbk3 (by omega)
          exact loop_69 _ 0 nb1 li1 br1 bk1 (by omega) (by omega) hga (fun t h1 h2 => by omega) hli1 hbr1 hbk1 (Nat.lt_succ_self _)
  exact loop_10 _ ((-1)) 0 0 li br bk (by omega) (by omega) (Or.inl ⟨rfl, rfl⟩) rfl (fun i t h1 h2 => by omega) hli hbr hbk (Nat.lt_succ_self _)
