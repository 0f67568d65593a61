def nxZ (vv : Int → Int) (p9 : Int) : Int := if p9 + 1 < vv 1 then p9 + 1 else 0
def brkZ (s9 n9 o9 : Int) : Int := if s9 = n9 - 1 then 1 else if 0 < s9 ∨ 2 ≤ o9 then 2 else 0
theorem brkZ_rng (s9 n9 o9 : Int) : 0 ≤ brkZ s9 n9 o9 ∧ brkZ s9 n9 o9 ≤ 2 := by unfold brkZ; split; omega; split <;> omega
def wtZ (vv br le : Int → Int) (nb la us nx : Int) : Int := if la = nb - 1 then 1 else if br la = 0 then 1000000000000000000 else if le ((la + 1) * 4 + nx) = 1000000000000000000 then 1000000000000000000 else le ((la + 1) * 4 + nx) + ((vv 0 - us) * (vv 0 - us) + (if br la = 2 then vv 3 + (if nx = 0 then vv 4 else 0) else 0)) * 1024 + 1
def wgh (vv li br le : Int → Int) (nb nx : Int) : Nat → Int → Int → Int → Int → Int × Int
  | 0, _, _, be, en => (be, en)
  | n + 1, la, us, be, en => if us + li la ≤ vv 0 then (if wtZ vv br le nb la (us + li la) nx ≠ 1000000000000000000 ∧ wtZ vv br le nb la (us + li la) nx ≤ be then wgh vv li br le nb nx n (la + 1) (us + li la) (wtZ vv br le nb la (us + li la) nx) (la + 1) else wgh vv li br le nb nx n (la + 1) (us + li la) be en) else (be, en)
def wghF (vv li br le : Int → Int) (nb f p9 : Int) : Int × Int := wgh vv li br le nb (nxZ vv p9) (nb - f).toNat f 0 1000000000000000000 f
theorem nxZ_rng {vv : Int → Int} {p9 : Int} (h : 0 ≤ p9) (hv : vv 1 ≤ 4) : 0 ≤ nxZ vv p9 ∧ nxZ vv p9 < 4 := by unfold nxZ; split <;> omega
theorem wgh_s (vv li br le : Int → Int) (nb nx : Int) (n : Nat) (la us be en : Int) : wgh vv li br le nb nx (n + 1) la us be en = if us + li la ≤ vv 0 then (if wtZ vv br le nb la (us + li la) nx ≠ 1000000000000000000 ∧ wtZ vv br le nb la (us + li la) nx ≤ be then wgh vv li br le nb nx n (la + 1) (us + li la) (wtZ vv br le nb la (us + li la) nx) (la + 1) else wgh vv li br le nb nx n (la + 1) (us + li la) be en) else (be, en) := rfl
theorem sq_rng {a : Int} (h : 0 ≤ a ∧ a ≤ 60) : 0 ≤ a * a ∧ a * a ≤ 3600 := ⟨Int.mul_nonneg h.1 h.1, Int.le_trans (Int.mul_le_mul h.2 h.2 h.1 (by decide)) (by decide)⟩
def qX3_breakBehind (cB cI cJ cY : ClassId) (s9 : Int) (n9 : Int) (o9 : Int) : Option Value → va_W → Prop := fun rv w1 => ∃ (r : Int), rv = some (.int (iZ r)) ∧ r = brkZ s9 n9 o9 ∧ w1 = []
set_option maxHeartbeats 4000000 in
set_option maxRecDepth 100000 in
theorem ctX3_breakBehind (l : Launch) (D : va_G) (cB cI cJ cY : ClassId) (s9 : Int) (n9 : Int) (o9 : Int) (h1 : 0 ≤ s9 ∧ s9 ≤ 100) (h2 : 0 ≤ n9 ∧ n9 ≤ 100) (h3 : 0 ≤ o9 ∧ o9 ≤ 100) : gM l yX3_breakBehind wsX3_breakBehind { frames := 0, cells := 0, slots := 0, locals := 0 } D (gT cB cI cJ cY) [.int (iZ s9), .int (iZ n9), .int (iZ o9)] [] 0 0 (qX3_breakBehind cB cI cJ cY s9 n9 o9) := by
  refine g_start (cc := cX3_breakBehind) (maxL := 3) (ret := some .int) (lv := [(0, .int (iZ s9)), (1, .int (iZ n9)), (2, .int (iZ o9))]) (by decide) rfl (Nat.le_of_ble_eq_true rfl) rfl ?_
  intro p e s m args below meth c A X hr hnm
  refine g_iload_n X 0 dX3_breakBehind_0 rfl rfl ?_
  refine g_iload_n X 1 dX3_breakBehind_1 rfl rfl ?_
  refine g_iconst X dX3_breakBehind_2 ?_
  refine g_isub X dX3_breakBehind_3 ?_
  refine g_icmp_ne X 9 dX3_breakBehind_4 (by decide) (by omega) (by omega) (fun c_4 => ?_) (fun c_4 => ?_)
  · skip
    refine g_iload_n X 0 dX3_breakBehind_9 rfl rfl ?_
    refine g_if_gt X 18 dX3_breakBehind_10 (by decide) (by omega) (fun c_10 => ?_) (fun c_10 => ?_)
    · skip
      refine g_iconst X dX3_breakBehind_18 ?_
      refine g_goto X 23 dX3_breakBehind_19 (by decide) ?_
      exact g_iret X hr (by decide) (by decide) dX3_breakBehind_23 ⟨_, rfl, by unfold brkZ; first | rw [if_pos (by omega)] | rw [if_neg (by omega), if_pos (by omega)] | rw [if_neg (by omega), if_neg (by omega)], rfl⟩
    · skip
      refine g_iload_n X 2 dX3_breakBehind_13 rfl rfl ?_
      refine g_iconst X dX3_breakBehind_14 ?_
      refine g_icmp_lt X 22 dX3_breakBehind_15 (by decide) (by omega) (by omega) (fun c_15 => ?_) (fun c_15 => ?_)
      · skip
        refine g_iconst X dX3_breakBehind_22 ?_
        exact g_iret X hr (by decide) (by decide) dX3_breakBehind_23 ⟨_, rfl, by unfold brkZ; first | rw [if_pos (by omega)] | rw [if_neg (by omega), if_pos (by omega)] | rw [if_neg (by omega), if_neg (by omega)], rfl⟩
      · skip
        refine g_iconst X dX3_breakBehind_18 ?_
        refine g_goto X 23 dX3_breakBehind_19 (by decide) ?_
        exact g_iret X hr (by decide) (by decide) dX3_breakBehind_23 ⟨_, rfl, by unfold brkZ; first | rw [if_pos (by omega)] | rw [if_neg (by omega), if_pos (by omega)] | rw [if_neg (by omega), if_neg (by omega)], rfl⟩
  · skip
    refine g_iconst X dX3_breakBehind_7 ?_
    exact g_iret X hr (by decide) (by decide) dX3_breakBehind_8 ⟨_, rfl, by unfold brkZ; first | rw [if_pos (by omega)] | rw [if_neg (by omega), if_pos (by omega)] | rw [if_neg (by omega), if_neg (by omega)], rfl⟩
def qX3_placeBehind (cB cI cJ cY : ClassId) (ht : Nat) (qv : Nat) (qi : Nat) (qr : Nat) (qe : Nat) (vv : Int → Int) (nb : Int) (p9 : Int) : Option Value → va_W → Prop := fun rv w1 => ∃ (r : Int), rv = some (.int (iZ r)) ∧ r = nxZ vv p9 ∧ w1 = [(ht, .inr (3, [.ref qv, .ref qi, .ref qr, .ref qe, .int (iZ nb)])), (qv, .inl (cI, 5, .inl (zA vv)))]
set_option maxHeartbeats 4000000 in
set_option maxRecDepth 100000 in
theorem ctX3_placeBehind (l : Launch) (D : va_G) (cB cI cJ cY : ClassId) (ht : Nat) (qv : Nat) (qi : Nat) (qr : Nat) (qe : Nat) (vv : Int → Int) (nb : Int) (p9 : Int) (hvv : (4 ≤ vv 0 ∧ vv 0 ≤ 60) ∧ (1 ≤ vv 1 ∧ vv 1 ≤ 4) ∧ (0 ≤ vv 2 ∧ vv 2 ≤ 3) ∧ (0 ≤ vv 3 ∧ vv 3 ≤ 1000) ∧ (0 ≤ vv 4 ∧ vv 4 ≤ 1000)) (hp9 : 0 ≤ p9 ∧ p9 ≤ 4) : gM l yX3_placeBehind wsX3_placeBehind { frames := 0, cells := 0, slots := 0, locals := 0 } D (gT cB cI cJ cY) [.ref ht, .int (iZ p9)] [(ht, .inr (3, [.ref qv, .ref qi, .ref qr, .ref qe, .int (iZ nb)])), (qv, .inl (cI, 5, .inl (zA vv)))] 0 0 (qX3_placeBehind cB cI cJ cY ht qv qi qr qe vv nb p9) := by
  refine g_start (cc := cX3_placeBehind) (maxL := 2) (ret := some .int) (lv := [(0, .ref ht), (1, .int (iZ p9))]) (by decide) rfl (Nat.le_of_ble_eq_true rfl) rfl ?_
  intro p e s m args below meth c A X hr hnm
  have hin3 : ∀ w ∈ u_ws RX3 TX3 5, w ∈ wsX3_placeBehind := by decide +kernel
  refine g_iload_n X 1 dX3_placeBehind_0 rfl rfl ?_
  refine g_iconst X dX3_placeBehind_1 ?_
  refine g_iadd X dX3_placeBehind_2 ?_
  refine g_aload_n X 0 dX3_placeBehind_3 rfl rfl ?_
  refine g_get X (index := 9) (ref := "GuideWords$Typesetter") hin3 0 rfl rfl 0 (by decide) rfl (by decide +kernel) (v := .ref qv) rfl dX3_placeBehind_4 ?_
  refine g_iconst X dX3_placeBehind_7 ?_
  refine g_iald X 1 1 rfl rfl (by omega) (by decide) dX3_placeBehind_8 ?_
  refine g_icmp_lt X 16 dX3_placeBehind_9 (by decide) (by omega) (by omega) (fun c_9 => ?_) (fun c_9 => ?_)
  · skip
    refine g_iload_n X 1 dX3_placeBehind_16 rfl rfl ?_
    refine g_iconst X dX3_placeBehind_17 ?_
    refine g_iadd X dX3_placeBehind_18 ?_
    exact g_iret X hr (by decide) (by decide) dX3_placeBehind_19 ⟨_, rfl, by unfold nxZ; first | rw [if_pos (by omega)] | rw [if_neg (by omega)], rfl⟩
  · skip
    refine g_iconst X dX3_placeBehind_12 ?_
    refine g_goto X 19 dX3_placeBehind_13 (by decide) ?_
    exact g_iret X hr (by decide) (by decide) dX3_placeBehind_19 ⟨_, rfl, by unfold nxZ; first | rw [if_pos (by omega)] | rw [if_neg (by omega)], rfl⟩
def qX3_weightOf (cB cI cJ cY : ClassId) (ht : Nat) (qv : Nat) (qi : Nat) (qr : Nat) (qe : Nat) (vv : Int → Int) (br : Int → Int) (le : Int → Int) (nb : Int) (la : Int) (us : Int) (nx : Int) : Option Value → va_W → Prop := fun rv w1 => ∃ (r : Int), rv = some (.long (lZ r)) ∧ r = wtZ vv br le nb la us nx ∧ (1 ≤ r ∧ r ≤ 1000000000000000000 + 10000000) ∧ w1 = [(ht, .inr (3, [.ref qv, .ref qi, .ref qr, .ref qe, .int (iZ nb)])), (qv, .inl (cI, 5, .inl (zA vv))), (qr, .inl (cI, 900, .inl (zA br))), (qe, .inl (cJ, 3600, .inr (.inl (lA le))))]
set_option maxHeartbeats 4000000 in
set_option maxRecDepth 100000 in
theorem ctX3_weightOf (l : Launch) (D : va_G) (cB cI cJ cY : ClassId) (ht : Nat) (qv : Nat) (qi : Nat) (qr : Nat) (qe : Nat) (vv : Int → Int) (br : Int → Int) (le : Int → Int) (nb : Int) (la : Int) (us : Int) (nx : Int) (hvv : (4 ≤ vv 0 ∧ vv 0 ≤ 60) ∧ (1 ≤ vv 1 ∧ vv 1 ≤ 4) ∧ (0 ≤ vv 2 ∧ vv 2 ≤ 3) ∧ (0 ≤ vv 3 ∧ vv 3 ≤ 1000) ∧ (0 ≤ vv 4 ∧ vv 4 ≤ 1000)) (hbr : ∀ j : Int, 0 ≤ j ∧ j < 900 → 0 ≤ br j ∧ br j ≤ 2) (hle : ∀ j : Int, 0 ≤ j ∧ j < 3600 → 0 ≤ le j ∧ le j ≤ 1000000000000000000) (hnb : 0 ≤ nb ∧ nb ≤ 900) (hla : 0 ≤ la ∧ la < nb) (hus : 0 ≤ us ∧ us ≤ vv 0) (hnx : 0 ≤ nx ∧ nx < 4) : gM l yX3_weightOf wsX3_weightOf { frames := 0, cells := 0, slots := 0, locals := 0 } D (gT cB cI cJ cY) [.ref ht, .int (iZ la), .int (iZ us), .int (iZ nx)] [(ht, .inr (3, [.ref qv, .ref qi, .ref qr, .ref qe, .int (iZ nb)])), (qv, .inl (cI, 5, .inl (zA vv))), (qr, .inl (cI, 900, .inl (zA br))), (qe, .inl (cJ, 3600, .inr (.inl (lA le))))] 0 0 (qX3_weightOf cB cI cJ cY ht qv qi qr qe vv br le nb la us nx) := by
  refine g_start (cc := cX3_weightOf) (maxL := 8) (ret := some .long) (lv := [(0, .ref ht), (1, .int (iZ la)), (2, .int (iZ us)), (3, .int (iZ nx))]) (by decide) rfl (Nat.le_of_ble_eq_true rfl) rfl ?_
  intro p e s m args below meth c A X hr hnm
  have hin3 : ∀ w ∈ u_ws RX3 TX3 5, w ∈ wsX3_weightOf := by decide +kernel
  refine g_iload_n X 1 dX3_weightOf_0 rfl rfl ?_
  refine g_aload_n X 0 dX3_weightOf_1 rfl rfl ?_
  refine g_get X (index := 35) (ref := "GuideWords$Typesetter") hin3 0 rfl rfl 4 (by decide) rfl (by decide +kernel) (v := .int (iZ nb)) rfl dX3_weightOf_2 ?_
  refine g_iconst X dX3_weightOf_5 ?_
  refine g_isub X dX3_weightOf_6 ?_
  refine g_icmp_ne X 12 dX3_weightOf_7 (by decide) (by omega) (by omega) (fun c_7 => ?_) (fun c_7 => ?_)
  · skip
    refine g_aload_n X 0 dX3_weightOf_12 rfl rfl ?_
    refine g_get X (index := 18) (ref := "GuideWords$Typesetter") hin3 0 rfl rfl 2 (by decide) rfl (by decide +kernel) (v := .ref qr) rfl dX3_weightOf_13 ?_
    refine g_iload_n X 1 dX3_weightOf_16 rfl rfl ?_
    refine g_iald X 2 1 rfl rfl (by omega) (by decide) dX3_weightOf_17 ?_
    have r_17 := hbr la (by omega)
    refine g_if_ne X 25 dX3_weightOf_18 (by decide) (by omega) (fun c_18 => ?_) (fun c_18 => ?_)
    · skip
      refine g_aload_n X 0 dX3_weightOf_25 rfl rfl ?_
      refine g_get X (index := 21) (ref := "GuideWords$Typesetter") hin3 0 rfl rfl 3 (by decide) rfl (by decide +kernel) (v := .ref qe) rfl dX3_weightOf_26 ?_
      refine g_iload_n X 1 dX3_weightOf_29 rfl rfl ?_
      refine g_iconst X dX3_weightOf_30 ?_
      refine g_iadd X dX3_weightOf_31 ?_
      refine g_iconst X dX3_weightOf_32 ?_
      refine g_imul X dX3_weightOf_33 ?_
      refine g_iload_n X 3 dX3_weightOf_34 rfl rfl ?_
      refine g_iadd X dX3_weightOf_35 ?_
      refine g_lald X 3 2 rfl rfl (by omega) (by decide) dX3_weightOf_36 ?_
      have r_36 := hle (((la + 1) * 4) + nx) (by omega)
      refine g_lstore (lv2 := [(4, .long (lZ (le (((la + 1) * 4) + nx)))), (0, .ref ht), (1, .int (iZ la)), (2, .int (iZ us)), (3, .int (iZ nx))]) X dX3_weightOf_37 (by decide) rfl ?_
      refine g_lload X 0 dX3_weightOf_39 rfl ?_
      refine g_ldc2 (v := 1000000000000000000) (z := 1000000000000000000) X dX3_weightOf_41 (by decide +kernel) rfl ?_
      refine g_lcmp X dX3_weightOf_44 (by omega) (by omega) ?_
      refine g_if_ne X 52 dX3_weightOf_45 (by decide) (by have := cmpZ_rng (le (((la + 1) * 4) + nx)) (1000000000000000000); omega) (fun c_45 => ?_) (fun c_45 => ?_)
      · skip
        have c_45 : ¬ le (((la + 1) * 4) + nx) = 1000000000000000000 := by have h9 := @cmpZ_eq (le (((la + 1) * 4) + nx)) (1000000000000000000); omega
        refine g_aload_n X 1 dX3_weightOf_52 rfl rfl ?_
        refine g_get X (index := 9) (ref := "GuideWords$Typesetter") hin3 0 rfl rfl 0 (by decide) rfl (by decide +kernel) (v := .ref qv) rfl dX3_weightOf_53 ?_
        refine g_iconst X dX3_weightOf_56 ?_
        refine g_iald X 1 1 rfl rfl (by omega) (by decide) dX3_weightOf_57 ?_
        refine g_iload_n X 3 dX3_weightOf_58 rfl rfl ?_
        refine g_isub X dX3_weightOf_59 ?_
        refine g_istore (lv2 := [(6, .int (iZ ((vv 0) - us))), (4, .long (lZ (le (((la + 1) * 4) + nx)))), (0, .ref ht), (1, .int (iZ la)), (2, .int (iZ us)), (3, .int (iZ nx))]) X dX3_weightOf_60 (by decide) rfl ?_
        have he2 := sq_rng (a := vv 0 - us) (by omega)
        refine g_iload X 0 dX3_weightOf_62 rfl ?_
        refine g_iload X 0 dX3_weightOf_64 rfl ?_
        refine g_imul X dX3_weightOf_66 ?_
        refine g_istore (lv2 := [(7, .int (iZ (((vv 0) - us) * ((vv 0) - us)))), (6, .int (iZ ((vv 0) - us))), (4, .long (lZ (le (((la + 1) * 4) + nx)))), (0, .ref ht), (1, .int (iZ la)), (2, .int (iZ us)), (3, .int (iZ nx))]) X dX3_weightOf_67 (by decide) rfl ?_
        refine g_aload_n X 3 dX3_weightOf_69 rfl rfl ?_
        refine g_get X (index := 18) (ref := "GuideWords$Typesetter") hin3 0 rfl rfl 2 (by decide) rfl (by decide +kernel) (v := .ref qr) rfl dX3_weightOf_70 ?_
        refine g_iload_n X 4 dX3_weightOf_73 rfl rfl ?_
        refine g_iald X 2 1 rfl rfl (by omega) (by decide) dX3_weightOf_74 ?_
        have r_74 := hbr la (by omega)
        refine g_iconst X dX3_weightOf_75 ?_
        refine g_icmp_ne X 105 dX3_weightOf_76 (by decide) (by omega) (by omega) (fun c_76 => ?_) (fun c_76 => ?_)
        · skip
          refine g_lload X 2 dX3_weightOf_105 rfl ?_
          refine g_iload X 0 dX3_weightOf_107 rfl ?_
          refine g_i2l X dX3_weightOf_109 (by omega) ?_
          refine g_ldc2 (v := 1024) (z := 1024) X dX3_weightOf_110 (by decide +kernel) rfl ?_
          refine g_lmul X dX3_weightOf_113 ?_
          refine g_ladd X dX3_weightOf_114 ?_
          refine g_lconst (z := 1) X dX3_weightOf_115 rfl ?_
          refine g_ladd X dX3_weightOf_116 ?_
          exact g_lret X hr (by decide) (by decide) dX3_weightOf_117 ⟨_, rfl, by unfold wtZ; rw [if_neg c_7, if_neg c_18, if_neg c_45]; first | rw [if_pos c_76, if_pos c_88] | rw [if_pos c_76, if_neg c_88] | rw [if_neg c_76, Int.add_zero], by omega, rfl⟩
        · skip
          refine g_iload X 0 dX3_weightOf_79 rfl ?_
          refine g_aload_n X 3 dX3_weightOf_81 rfl rfl ?_
          refine g_get X (index := 9) (ref := "GuideWords$Typesetter") hin3 0 rfl rfl 0 (by decide) rfl (by decide +kernel) (v := .ref qv) rfl dX3_weightOf_82 ?_
          refine g_iconst X dX3_weightOf_85 ?_
          refine g_iald X 1 1 rfl rfl (by omega) (by decide) dX3_weightOf_86 ?_
          refine g_iload_n X 6 dX3_weightOf_87 rfl rfl ?_
          refine g_if_ne X 100 dX3_weightOf_88 (by decide) (by omega) (fun c_88 => ?_) (fun c_88 => ?_)
          · skip
            refine g_iconst X dX3_weightOf_100 ?_
            refine g_iadd X dX3_weightOf_101 ?_
            refine g_iadd X dX3_weightOf_102 ?_
            refine g_istore (lv2 := [(7, .int (iZ ((((vv 0) - us) * ((vv 0) - us)) + ((vv 3) + 0)))), (6, .int (iZ ((vv 0) - us))), (4, .long (lZ (le (((la + 1) * 4) + nx)))), (0, .ref ht), (1, .int (iZ la)), (2, .int (iZ us)), (3, .int (iZ nx))]) X dX3_weightOf_103 (by decide) rfl ?_
            refine g_lload X 2 dX3_weightOf_105 rfl ?_
            refine g_iload X 0 dX3_weightOf_107 rfl ?_
            refine g_i2l X dX3_weightOf_109 (by omega) ?_
            refine g_ldc2 (v := 1024) (z := 1024) X dX3_weightOf_110 (by decide +kernel) rfl ?_
            refine g_lmul X dX3_weightOf_113 ?_
            refine g_ladd X dX3_weightOf_114 ?_
            refine g_lconst (z := 1) X dX3_weightOf_115 rfl ?_
            refine g_ladd X dX3_weightOf_116 ?_
            exact g_lret X hr (by decide) (by decide) dX3_weightOf_117 ⟨_, rfl, by unfold wtZ; rw [if_neg c_7, if_neg c_18, if_neg c_45]; first | rw [if_pos c_76, if_pos c_88] | rw [if_pos c_76, if_neg c_88] | rw [if_neg c_76, Int.add_zero], by omega, rfl⟩
          · skip
            refine g_aload_n X 3 dX3_weightOf_91 rfl rfl ?_
            refine g_get X (index := 9) (ref := "GuideWords$Typesetter") hin3 0 rfl rfl 0 (by decide) rfl (by decide +kernel) (v := .ref qv) rfl dX3_weightOf_92 ?_
            refine g_iconst X dX3_weightOf_95 ?_
            refine g_iald X 1 1 rfl rfl (by omega) (by decide) dX3_weightOf_96 ?_
            refine g_goto X 101 dX3_weightOf_97 (by decide) ?_
            refine g_iadd X dX3_weightOf_101 ?_
            refine g_iadd X dX3_weightOf_102 ?_
            refine g_istore (lv2 := [(7, .int (iZ ((((vv 0) - us) * ((vv 0) - us)) + ((vv 3) + (vv 4))))), (6, .int (iZ ((vv 0) - us))), (4, .long (lZ (le (((la + 1) * 4) + nx)))), (0, .ref ht), (1, .int (iZ la)), (2, .int (iZ us)), (3, .int (iZ nx))]) X dX3_weightOf_103 (by decide) rfl ?_
            refine g_lload X 2 dX3_weightOf_105 rfl ?_
            refine g_iload X 0 dX3_weightOf_107 rfl ?_
            refine g_i2l X dX3_weightOf_109 (by omega) ?_
            refine g_ldc2 (v := 1024) (z := 1024) X dX3_weightOf_110 (by decide +kernel) rfl ?_
            refine g_lmul X dX3_weightOf_113 ?_
            refine g_ladd X dX3_weightOf_114 ?_
            refine g_lconst (z := 1) X dX3_weightOf_115 rfl ?_
            refine g_ladd X dX3_weightOf_116 ?_
            exact g_lret X hr (by decide) (by decide) dX3_weightOf_117 ⟨_, rfl, by unfold wtZ; rw [if_neg c_7, if_neg c_18, if_neg c_45]; first | rw [if_pos c_76, if_pos c_88] | rw [if_pos c_76, if_neg c_88] | rw [if_neg c_76, Int.add_zero], by omega, rfl⟩
      · skip
        have c_45 : le (((la + 1) * 4) + nx) = 1000000000000000000 := by have h9 := @cmpZ_eq (le (((la + 1) * 4) + nx)) (1000000000000000000); omega
        refine g_ldc2 (v := 1000000000000000000) (z := 1000000000000000000) X dX3_weightOf_48 (by decide +kernel) rfl ?_
        exact g_lret X hr (by decide) (by decide) dX3_weightOf_51 ⟨_, rfl, by unfold wtZ; rw [if_neg c_7, if_neg c_18, if_pos c_45], by omega, rfl⟩
    · skip
      refine g_ldc2 (v := 1000000000000000000) (z := 1000000000000000000) X dX3_weightOf_21 (by decide +kernel) rfl ?_
      exact g_lret X hr (by decide) (by decide) dX3_weightOf_24 ⟨_, rfl, by unfold wtZ; rw [if_neg c_7, if_pos c_18], by omega, rfl⟩
  · skip
    refine g_lconst (z := 1) X dX3_weightOf_10 rfl ?_
    exact g_lret X hr (by decide) (by decide) dX3_weightOf_11 ⟨_, rfl, by unfold wtZ; rw [if_pos c_7], by omega, rfl⟩
def qX3_weigh (cB cI cJ cY : ClassId) (ht : Nat) (qv : Nat) (qi : Nat) (qr : Nat) (qe : Nat) (vv : Int → Int) (li : Int → Int) (br : Int → Int) (le : Int → Int) (nb : Int) (f : Int) (p9 : Int) : Option Value → va_W → Prop := fun rv w1 => ∃ (r : Int) (le2 : Int → Int), rv = some (.int (iZ r)) ∧ r = (wghF vv li br le nb f p9).2 ∧ le2 = upZ le (f * 4 + p9) (wghF vv li br le nb f p9).1 ∧ (1 ≤ (wghF vv li br le nb f p9).1 ∧ (wghF vv li br le nb f p9).1 ≤ 1000000000000000000) ∧ (f ≤ r ∧ r ≤ nb) ∧ w1 = [(ht, .inr (3, [.ref qv, .ref qi, .ref qr, .ref qe, .int (iZ nb)])), (qv, .inl (cI, 5, .inl (zA vv))), (qi, .inl (cI, 900, .inl (zA li))), (qr, .inl (cI, 900, .inl (zA br))), (qe, .inl (cJ, 3600, .inr (.inl (lA le2))))]
set_option maxHeartbeats 4000000 in
set_option maxRecDepth 100000 in
theorem ctX3_weigh (l : Launch) (D : va_G) (cB cI cJ cY : ClassId) (ht : Nat) (qv : Nat) (qi : Nat) (qr : Nat) (qe : Nat) (vv : Int → Int) (li : Int → Int) (br : Int → Int) (le : Int → Int) (nb : Int) (f : Int) (p9 : Int) (hvv : (4 ≤ vv 0 ∧ vv 0 ≤ 60) ∧ (1 ≤ vv 1 ∧ vv 1 ≤ 4) ∧ (0 ≤ vv 2 ∧ vv 2 ≤ 3) ∧ (0 ≤ vv 3 ∧ vv 3 ≤ 1000) ∧ (0 ≤ vv 4 ∧ vv 4 ≤ 1000)) (hli : ∀ j : Int, 0 ≤ j ∧ j < 900 → 0 ≤ li j ∧ li j ≤ 23) (hbr : ∀ j : Int, 0 ≤ j ∧ j < 900 → 0 ≤ br j ∧ br j ≤ 2) (hle : ∀ j : Int, 0 ≤ j ∧ j < 3600 → 0 ≤ le j ∧ le j ≤ 1000000000000000000) (hnb : 0 ≤ nb ∧ nb ≤ 900) (hf : 0 ≤ f ∧ f < nb) (hp9 : 0 ≤ p9 ∧ p9 < vv 1) : gM l yX3_weigh wsX3_weigh { frames := 1, cells := 0, slots := 0, locals := 27 } D (gT cB cI cJ cY) [.ref ht, .int (iZ f), .int (iZ p9)] [(ht, .inr (3, [.ref qv, .ref qi, .ref qr, .ref qe, .int (iZ nb)])), (qv, .inl (cI, 5, .inl (zA vv))), (qi, .inl (cI, 900, .inl (zA li))), (qr, .inl (cI, 900, .inl (zA br))), (qe, .inl (cJ, 3600, .inr (.inl (lA le))))] 0 0 (qX3_weigh cB cI cJ cY ht qv qi qr qe vv li br le nb f p9) := by
  refine g_start (cc := cX3_weigh) (maxL := 11) (ret := some .int) (lv := [(0, .ref ht), (1, .int (iZ f)), (2, .int (iZ p9))]) (by decide) rfl (Nat.le_of_ble_eq_true rfl) rfl ?_
  intro p e s m args below meth c A X hr hnm
  have hin3 : ∀ w ∈ u_ws RX3 TX3 5, w ∈ wsX3_weigh := by decide +kernel
  refine g_aload_n X 0 dX3_weigh_0 rfl rfl ?_
  refine g_iload_n X 2 dX3_weigh_1 rfl rfl ?_
  refine g_callV0 X (As := [.int (iZ p9)]) (rest := []) (ctX3_placeBehind l D cB cI cJ cY ht qv qi qr qe vv nb p9 (by first | assumption | omega) (by first | assumption | omega)) (cwV 1 X.2.2.2.2.1 gX3_weigh_X3_placeBehind rfl rfl rfl (by decide +kernel) ⟨by decide, by decide⟩) 0 rfl rfl (wc := [(ht, .inr (3, [.ref qv, .ref qi, .ref qr, .ref qe, .int (iZ nb)])), (qv, .inl (cI, 5, .inl (zA vv)))]) (wr := [(qi, .inl (cI, 900, .inl (zA li))), (qr, .inl (cI, 900, .inl (zA br))), (qe, .inl (cJ, 3600, .inr (.inl (lA le))))]) [0, 1] [2, 3, 4] rfl rfl (by decide) (by decide) (by decide) rfl rfl (Nat.le_of_ble_eq_true rfl) ⟨by decide, by decide⟩ dX3_weigh_2 (fun v w1 hq => ?_)
  obtain ⟨nx, rfl, hnx0, rfl⟩ := hq
  refine g_eq (ws' := [(qi, .inl (cI, 900, .inl (zA li))), (qr, .inl (cI, 900, .inl (zA br))), (qe, .inl (cJ, 3600, .inr (.inl (lA le)))), (ht, .inr (3, [.ref qv, .ref qi, .ref qr, .ref qe, .int (iZ nb)])), (qv, .inl (cI, 5, .inl (zA vv)))]) (pc' := 5) (st' := [.int (iZ nx)]) rfl rfl rfl rfl ?_
  refine g_perm (ws' := [(ht, .inr (3, [.ref qv, .ref qi, .ref qr, .ref qe, .int (iZ nb)])), (qv, .inl (cI, 5, .inl (zA vv))), (qi, .inl (cI, 900, .inl (zA li))), (qr, .inl (cI, 900, .inl (zA br))), (qe, .inl (cJ, 3600, .inr (.inl (lA le))))]) [3, 4, 0, 1, 2] (by decide) rfl ?_
  subst hnx0
  have hnx := nxZ_rng (vv := vv) (p9 := p9) (by omega) (by omega)
  refine g_istore_n (lv2 := [(3, .int (iZ ((nxZ vv p9)))), (0, .ref ht), (1, .int (iZ f)), (2, .int (iZ p9))]) X dX3_weigh_5 rfl (by decide) rfl ?_
  refine g_ldc2 (v := 1000000000000000000) (z := 1000000000000000000) X dX3_weigh_6 (by decide +kernel) rfl ?_
  refine g_lstore (lv2 := [(4, .long (lZ 1000000000000000000)), (3, .int (iZ ((nxZ vv p9)))), (0, .ref ht), (1, .int (iZ f)), (2, .int (iZ p9))]) X dX3_weigh_9 (by decide) rfl ?_
  refine g_iload_n X 3 dX3_weigh_11 rfl rfl ?_
  refine g_istore (lv2 := [(6, .int (iZ f)), (4, .long (lZ 1000000000000000000)), (3, .int (iZ ((nxZ vv p9)))), (0, .ref ht), (1, .int (iZ f)), (2, .int (iZ p9))]) X dX3_weigh_12 (by decide) rfl ?_
  refine g_iconst X dX3_weigh_14 ?_
  refine g_istore (lv2 := [(7, .int (iZ 0)), (6, .int (iZ f)), (4, .long (lZ 1000000000000000000)), (3, .int (iZ ((nxZ vv p9)))), (0, .ref ht), (1, .int (iZ f)), (2, .int (iZ p9))]) X dX3_weigh_15 (by decide) rfl ?_
  refine g_iload_n X 5 dX3_weigh_17 rfl rfl ?_
  refine g_istore (lv2 := [(8, .int (iZ f)), (7, .int (iZ 0)), (6, .int (iZ f)), (4, .long (lZ 1000000000000000000)), (3, .int (iZ ((nxZ vv p9)))), (0, .ref ht), (1, .int (iZ f)), (2, .int (iZ p9))]) X dX3_weigh_18 (by decide) rfl ?_
  refine g_lv (lv' := [(0, .ref ht), (1, .int (iZ f)), (2, .int (iZ p9)), (3, .int (iZ ((nxZ vv p9)))), (4, .long (lZ 1000000000000000000)), (6, .int (iZ f)), (7, .int (iZ 0)), (8, .int (iZ f))]) [5, 6, 7, 4, 3, 2, 1, 0] rfl ?_
  have loop_20 : ∀ (kf : Nat) (be : Int) (en : Int) (us : Int) (la : Int), (hla : f ≤ la ∧ la ≤ nb) → (hus : 0 ≤ us ∧ us ≤ vv 0) → (hbe : 1 ≤ be ∧ be ≤ 1000000000000000000) → (hen : f ≤ en ∧ en ≤ la) → (hw : wgh vv li br le nb (nxZ vv p9) (nb - la).toNat la us be en = wghF vv li br le nb f p9) → (nb - la).toNat < kf → gW p l e { frames := 1, cells := 0, slots := 0, locals := 27 } s m args below meth c D A 11 0 0 (MQ below (gQ D (gT cB cI cJ cY) (qX3_weigh cB cI cJ cY ht qv qi qr qe vv li br le nb f p9) A) args s 0 0 A) [(ht, .inr (3, [.ref qv, .ref qi, .ref qr, .ref qe, .int (iZ nb)])), (qv, .inl (cI, 5, .inl (zA vv))), (qi, .inl (cI, 900, .inl (zA li))), (qr, .inl (cI, 900, .inl (zA br))), (qe, .inl (cJ, 3600, .inr (.inl (lA le))))] 20 [(0, .ref ht), (1, .int (iZ f)), (2, .int (iZ p9)), (3, .int (iZ ((nxZ vv p9)))), (4, .long (lZ be)), (6, .int (iZ en)), (7, .int (iZ us)), (8, .int (iZ la))] [] := by
    intro kf
    induction kf with
    | zero => intro be en us la hla hus hbe hen hw hm; exact absurd hm (Nat.not_lt_zero _)
    | succ kf ih_20 =>
      intro be en us la hla hus hbe hen hw hm
      refine g_iload X 7 dX3_weigh_20 rfl ?_
      refine g_aload_n X 0 dX3_weigh_22 rfl rfl ?_
      refine g_get X (index := 35) (ref := "GuideWords$Typesetter") hin3 0 rfl rfl 4 (by decide) rfl (by decide +kernel) (v := .int (iZ nb)) rfl dX3_weigh_23 ?_
      refine g_icmp_ge X 99 dX3_weigh_26 (by decide) (by omega) (by omega) (fun c_26 => ?_) (fun c_26 => ?_)
      · skip
        have hres : wghF vv li br le nb f p9 = (be, en) := by rw [← hw, show (nb - la).toNat = 0 by omega]; rfl
        refine g_aload_n X 0 dX3_weigh_99 rfl rfl ?_
        refine g_get X (index := 21) (ref := "GuideWords$Typesetter") hin3 0 rfl rfl 3 (by decide) rfl (by decide +kernel) (v := .ref qe) rfl dX3_weigh_100 ?_
        refine g_iload_n X 1 dX3_weigh_103 rfl rfl ?_
        refine g_iconst X dX3_weigh_104 ?_
        refine g_imul X dX3_weigh_105 ?_
        refine g_iload_n X 2 dX3_weigh_106 rfl rfl ?_
        refine g_iadd X dX3_weigh_107 ?_
        refine g_lload X 4 dX3_weigh_108 rfl ?_
        refine g_last X 4 2 rfl rfl (by omega) (by decide) (ws2 := [(ht, .inr (3, [.ref qv, .ref qi, .ref qr, .ref qe, .int (iZ nb)])), (qv, .inl (cI, 5, .inl (zA vv))), (qi, .inl (cI, 900, .inl (zA li))), (qr, .inl (cI, 900, .inl (zA br))), (qe, .inl (cJ, 3600, .inr (.inl (lA (upZ le ((f * 4) + p9) be)))))]) rfl dX3_weigh_110 ?_
        refine g_iload X 5 dX3_weigh_111 rfl ?_
        exact g_iret X hr (by decide) (by decide) dX3_weigh_113 ⟨_, _, rfl, by rw [hres], by rw [hres], by rw [hres]; exact hbe, by omega, rfl⟩
      · skip
        have hk1 : (nb - la).toNat = (nb - (la + 1)).toNat + 1 := by omega
        rw [hk1, wgh_s vv li br le nb (nxZ vv p9) (nb - (la + 1)).toNat la us be en] at hw
        refine g_iload X 6 dX3_weigh_29 rfl ?_
        refine g_aload_n X 0 dX3_weigh_31 rfl rfl ?_
        refine g_get X (index := 15) (ref := "GuideWords$Typesetter") hin3 0 rfl rfl 1 (by decide) rfl (by decide +kernel) (v := .ref qi) rfl dX3_weigh_32 ?_
        refine g_iload X 7 dX3_weigh_35 rfl ?_
        refine g_iald X 2 1 rfl rfl (by omega) (by decide) dX3_weigh_37 ?_
        have r_37 := hli la (by omega)
        refine g_iadd X dX3_weigh_38 ?_
        refine g_istore (lv2 := [(7, .int (iZ (us + (li la)))), (0, .ref ht), (1, .int (iZ f)), (2, .int (iZ p9)), (3, .int (iZ ((nxZ vv p9)))), (4, .long (lZ be)), (6, .int (iZ en)), (8, .int (iZ la))]) X dX3_weigh_39 (by decide) rfl ?_
        refine g_iload X 0 dX3_weigh_41 rfl ?_
        refine g_aload_n X 1 dX3_weigh_43 rfl rfl ?_
        refine g_get X (index := 9) (ref := "GuideWords$Typesetter") hin3 0 rfl rfl 0 (by decide) rfl (by decide +kernel) (v := .ref qv) rfl dX3_weigh_44 ?_
        refine g_iconst X dX3_weigh_47 ?_
        refine g_iald X 1 1 rfl rfl (by omega) (by decide) dX3_weigh_48 ?_
        refine g_icmp_le X 55 dX3_weigh_49 (by decide) (by omega) (by omega) (fun c_49 => ?_) (fun c_49 => ?_)
        · skip
          rw [if_pos c_49] at hw
          refine g_aload_n X 1 dX3_weigh_55 rfl rfl ?_
          refine g_iload X 7 dX3_weigh_56 rfl ?_
          refine g_iload X 0 dX3_weigh_58 rfl ?_
          refine g_iload_n X 4 dX3_weigh_60 rfl rfl ?_
          refine g_callV0 X (As := [.int (iZ la), .int (iZ (us + (li la))), .int (iZ ((nxZ vv p9)))]) (rest := []) (ctX3_weightOf l D cB cI cJ cY ht qv qi qr qe vv br le nb la (us + (li la)) ((nxZ vv p9)) (by first | assumption | omega) (by first | assumption | omega) (by first | assumption | omega) (by first | assumption | omega) (by first | assumption | omega) (by first | assumption | omega) (by first | assumption | omega)) (cwV 3 X.2.2.2.2.1 gX3_weigh_X3_weightOf rfl rfl rfl (by decide +kernel) ⟨by decide, by decide⟩) 0 rfl rfl (wc := [(ht, .inr (3, [.ref qv, .ref qi, .ref qr, .ref qe, .int (iZ nb)])), (qv, .inl (cI, 5, .inl (zA vv))), (qr, .inl (cI, 900, .inl (zA br))), (qe, .inl (cJ, 3600, .inr (.inl (lA le))))]) (wr := [(qi, .inl (cI, 900, .inl (zA li)))]) [0, 1, 3, 4] [2] rfl rfl (by decide) (by decide) (by decide) rfl rfl (Nat.le_of_ble_eq_true rfl) ⟨by decide, by decide⟩ dX3_weigh_61 (fun v w1 hq => ?_)
          obtain ⟨wt, rfl, hwt, hwr, rfl⟩ := hq
          refine g_eq (ws' := [(qi, .inl (cI, 900, .inl (zA li))), (ht, .inr (3, [.ref qv, .ref qi, .ref qr, .ref qe, .int (iZ nb)])), (qv, .inl (cI, 5, .inl (zA vv))), (qr, .inl (cI, 900, .inl (zA br))), (qe, .inl (cJ, 3600, .inr (.inl (lA le))))]) (pc' := 64) (st' := [.long (lZ wt)]) rfl rfl rfl rfl ?_
          refine g_perm (ws' := [(ht, .inr (3, [.ref qv, .ref qi, .ref qr, .ref qe, .int (iZ nb)])), (qv, .inl (cI, 5, .inl (zA vv))), (qi, .inl (cI, 900, .inl (zA li))), (qr, .inl (cI, 900, .inl (zA br))), (qe, .inl (cJ, 3600, .inr (.inl (lA le))))]) [1, 2, 0, 3, 4] (by decide) rfl ?_
          subst hwt
          refine g_lstore (lv2 := [(9, .long (lZ ((wtZ vv br le nb la (us + li la) (nxZ vv p9))))), (7, .int (iZ (us + (li la)))), (0, .ref ht), (1, .int (iZ f)), (2, .int (iZ p9)), (3, .int (iZ ((nxZ vv p9)))), (4, .long (lZ be)), (6, .int (iZ en)), (8, .int (iZ la))]) X dX3_weigh_64 (by decide) rfl ?_
          refine g_lload X 0 dX3_weigh_66 rfl ?_
          refine g_ldc2 (v := 1000000000000000000) (z := 1000000000000000000) X dX3_weigh_68 (by decide +kernel) rfl ?_
          refine g_lcmp X dX3_weigh_71 (by omega) (by omega) ?_
          refine g_if_eq X 93 dX3_weigh_72 (by decide) (by have := cmpZ_rng ((wtZ vv br le nb la (us + li la) (nxZ vv p9))) (1000000000000000000); omega) (fun c_72 => ?_) (fun c_72 => ?_)
          · skip
            have c_72 : (wtZ vv br le nb la (us + li la) (nxZ vv p9)) = 1000000000000000000 := by have h9 := @cmpZ_eq ((wtZ vv br le nb la (us + li la) (nxZ vv p9))) (1000000000000000000); omega
            have hw2 := hw
            rw [if_neg (fun q9 => q9.1 c_72)] at hw2
            refine g_iinc (q := 8) (lv2 := [(8, .int (iZ (la + 1))), (9, .long (lZ ((wtZ vv br le nb la (us + li la) (nxZ vv p9))))), (7, .int (iZ (us + (li la)))), (0, .ref ht), (1, .int (iZ f)), (2, .int (iZ p9)), (3, .int (iZ ((nxZ vv p9)))), (4, .long (lZ be)), (6, .int (iZ en))]) X dX3_weigh_93 rfl (by decide) rfl ?_
            refine g_goto X 20 dX3_weigh_96 (by decide) ?_
            refine g_lv (lv' := [(0, .ref ht), (1, .int (iZ f)), (2, .int (iZ p9)), (3, .int (iZ ((nxZ vv p9)))), (4, .long (lZ be)), (6, .int (iZ en)), (7, .int (iZ (us + (li la)))), (8, .int (iZ (la + 1)))]) [3, 4, 5, 6, 7, 8, 2, 0] rfl ?_
            exact ih_20 be en (us + (li la)) (la + 1) (by omega) (by omega) (by omega) (by omega) hw2 (by omega)
          · skip
            have c_72 : ¬ (wtZ vv br le nb la (us + li la) (nxZ vv p9)) = 1000000000000000000 := by have h9 := @cmpZ_eq ((wtZ vv br le nb la (us + li la) (nxZ vv p9))) (1000000000000000000); omega
            refine g_lload X 0 dX3_weigh_75 rfl ?_
            refine g_lload X 6 dX3_weigh_77 rfl ?_
            refine g_lcmp X dX3_weigh_79 (by omega) (by omega) ?_
            refine g_if_gt X 93 dX3_weigh_80 (by decide) (by have := cmpZ_rng ((wtZ vv br le nb la (us + li la) (nxZ vv p9))) (be); omega) (fun c_80 => ?_) (fun c_80 => ?_)
            · skip
              have c_80 : be < (wtZ vv br le nb la (us + li la) (nxZ vv p9)) := by have h9 := @cmpZ_le ((wtZ vv br le nb la (us + li la) (nxZ vv p9))) (be); omega
              have hw2 := hw
              rw [if_neg (fun q9 => by have q8 := q9.2; omega)] at hw2
              refine g_iinc (q := 8) (lv2 := [(8, .int (iZ (la + 1))), (9, .long (lZ ((wtZ vv br le nb la (us + li la) (nxZ vv p9))))), (7, .int (iZ (us + (li la)))), (0, .ref ht), (1, .int (iZ f)), (2, .int (iZ p9)), (3, .int (iZ ((nxZ vv p9)))), (4, .long (lZ be)), (6, .int (iZ en))]) X dX3_weigh_93 rfl (by decide) rfl ?_
              refine g_goto X 20 dX3_weigh_96 (by decide) ?_
              refine g_lv (lv' := [(0, .ref ht), (1, .int (iZ f)), (2, .int (iZ p9)), (3, .int (iZ ((nxZ vv p9)))), (4, .long (lZ be)), (6, .int (iZ en)), (7, .int (iZ (us + (li la)))), (8, .int (iZ (la + 1)))]) [3, 4, 5, 6, 7, 8, 2, 0] rfl ?_
              exact ih_20 be en (us + (li la)) (la + 1) (by omega) (by omega) (by omega) (by omega) hw2 (by omega)
            · skip
              have c_80 : (wtZ vv br le nb la (us + li la) (nxZ vv p9)) ≤ be := by have h9 := @cmpZ_le ((wtZ vv br le nb la (us + li la) (nxZ vv p9))) (be); omega
              have hw2 := hw
              rw [if_pos ⟨c_72, by omega⟩] at hw2
              refine g_lload X 0 dX3_weigh_83 rfl ?_
              refine g_lstore (lv2 := [(4, .long (lZ ((wtZ vv br le nb la (us + li la) (nxZ vv p9))))), (9, .long (lZ ((wtZ vv br le nb la (us + li la) (nxZ vv p9))))), (7, .int (iZ (us + (li la)))), (0, .ref ht), (1, .int (iZ f)), (2, .int (iZ p9)), (3, .int (iZ ((nxZ vv p9)))), (6, .int (iZ en)), (8, .int (iZ la))]) X dX3_weigh_85 (by decide) rfl ?_
              refine g_iload X 8 dX3_weigh_87 rfl ?_
              refine g_iconst X dX3_weigh_89 ?_
              refine g_iadd X dX3_weigh_90 ?_
              refine g_istore (lv2 := [(6, .int (iZ (la + 1))), (4, .long (lZ ((wtZ vv br le nb la (us + li la) (nxZ vv p9))))), (9, .long (lZ ((wtZ vv br le nb la (us + li la) (nxZ vv p9))))), (7, .int (iZ (us + (li la)))), (0, .ref ht), (1, .int (iZ f)), (2, .int (iZ p9)), (3, .int (iZ ((nxZ vv p9)))), (8, .int (iZ la))]) X dX3_weigh_91 (by decide) rfl ?_
              refine g_iinc (q := 8) (lv2 := [(8, .int (iZ (la + 1))), (6, .int (iZ (la + 1))), (4, .long (lZ ((wtZ vv br le nb la (us + li la) (nxZ vv p9))))), (9, .long (lZ ((wtZ vv br le nb la (us + li la) (nxZ vv p9))))), (7, .int (iZ (us + (li la)))), (0, .ref ht), (1, .int (iZ f)), (2, .int (iZ p9)), (3, .int (iZ ((nxZ vv p9))))]) X dX3_weigh_93 rfl (by decide) rfl ?_
              refine g_goto X 20 dX3_weigh_96 (by decide) ?_
              refine g_lv (lv' := [(0, .ref ht), (1, .int (iZ f)), (2, .int (iZ p9)), (3, .int (iZ ((nxZ vv p9)))), (4, .long (lZ ((wtZ vv br le nb la (us + li la) (nxZ vv p9))))), (6, .int (iZ (la + 1))), (7, .int (iZ (us + (li la)))), (8, .int (iZ (la + 1)))]) [5, 6, 7, 8, 2, 1, 4, 0] rfl ?_
              exact ih_20 ((wtZ vv br le nb la (us + li la) (nxZ vv p9))) (la + 1) (us + (li la)) (la + 1) (by omega) (by omega) (by omega) (by omega) hw2 (by omega)
        · skip
          have hres : wghF vv li br le nb f p9 = (be, en) := by rw [← hw, if_neg c_49]
          refine g_goto X 99 dX3_weigh_52 (by decide) ?_
          refine g_aload_n X 1 dX3_weigh_99 rfl rfl ?_
          refine g_get X (index := 21) (ref := "GuideWords$Typesetter") hin3 0 rfl rfl 3 (by decide) rfl (by decide +kernel) (v := .ref qe) rfl dX3_weigh_100 ?_
          refine g_iload_n X 2 dX3_weigh_103 rfl rfl ?_
          refine g_iconst X dX3_weigh_104 ?_
          refine g_imul X dX3_weigh_105 ?_
          refine g_iload_n X 3 dX3_weigh_106 rfl rfl ?_
          refine g_iadd X dX3_weigh_107 ?_
          refine g_lload X 5 dX3_weigh_108 rfl ?_
          refine g_last X 4 2 rfl rfl (by omega) (by decide) (ws2 := [(ht, .inr (3, [.ref qv, .ref qi, .ref qr, .ref qe, .int (iZ nb)])), (qv, .inl (cI, 5, .inl (zA vv))), (qi, .inl (cI, 900, .inl (zA li))), (qr, .inl (cI, 900, .inl (zA br))), (qe, .inl (cJ, 3600, .inr (.inl (lA (upZ le ((f * 4) + p9) be)))))]) rfl dX3_weigh_110 ?_
          refine g_iload X 6 dX3_weigh_111 rfl ?_
          exact g_iret X hr (by decide) (by decide) dX3_weigh_113 ⟨_, _, rfl, by rw [hres], by rw [hres], by rw [hres]; exact hbe, by omega, rfl⟩
  exact loop_20 _ 1000000000000000000 f 0 f (by omega) (by omega) (by omega) (by omega) rfl (Nat.lt_succ_self _)
