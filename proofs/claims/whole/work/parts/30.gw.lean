def inRZ (wh v : Int) : Prop := 0 ≤ wh ∧ wh < 5 ∧ loF wh ≤ v ∧ v ≤ hiF wh
theorem loF_b (j : Int) : 0 ≤ loF j ∧ loF j ≤ 4 := by unfold loF; split; omega; split <;> omega
theorem hiF_b (j : Int) : 3 ≤ hiF j ∧ hiF j ≤ 1000 := by unfold hiF; split; omega; split; omega; split <;> omega
theorem hdVal_rng {f : Int → Int} {a k r : Int} (h : hdVal f a k r) : 0 ≤ r ∧ r < 1152921504606846976 := by
  rcases h with ⟨h1, h2⟩ | ⟨h1, h2⟩
  · rw [h2]
    refine encZ_lt f a k.toNat (by have := h1.2.1; omega) (fun j hj => ?_)
    exact h1.2.2 j (by omega) (by omega)
  · omega
def pshZ (pn : Int) (pz : Int → Int) (li r pn2 : Int) (pz2 : Int → Int) : Prop := (1 ≤ li ∧ li ≤ 20) ∧ ((6 ≤ pn ∧ r = -1 ∧ pn2 = pn ∧ pz2 = pz) ∨ (pn < 6 ∧ r = pn + 1 ∧ pn2 = pn + 1 ∧ pz2 = upZ pz pn li))
def fdZ (f : Int → Int) (n a b c d e9 : Int) : Int → Int := ap4 (ap4 (ap4 (ap4 (ap4 f n a) (n + 1 + 1 + 1 + 1) b) (n + 1 + 1 + 1 + 1 + 1 + 1 + 1 + 1) c) (n + 1 + 1 + 1 + 1 + 1 + 1 + 1 + 1 + 1 + 1 + 1 + 1) d) (n + 1 + 1 + 1 + 1 + 1 + 1 + 1 + 1 + 1 + 1 + 1 + 1 + 1 + 1 + 1 + 1) e9
def qX4_set (cB cI cJ cY : ClassId) (g0 : Nat) (qv : Nat) (qz : Nat) (tp : Nat) (h : Nat) (ht : Nat) (qL : Nat) (hs : Nat) (hz : Nat) (pn : Int) (ch : Int) (vv : Int → Int) (wh : Int) (v : Int) : Option Value → va_W → Prop := fun rv w1 => rv = some (.int (iZ (vv wh))) ∧ inRZ wh v ∧ w1 = [(g0, .inr (4, [.ref qv, .ref qz, .int (iZ pn), .ref tp, .ref h, .ref ht, .ref qL, .ref hs, .ref hz, .int (iZ ch)])), (qv, .inl (cI, 5, .inl (zA (upZ vv wh v))))]
def xX4_set (cB cI cJ cY : ClassId) (g0 : Nat) (qv : Nat) (qz : Nat) (tp : Nat) (h : Nat) (ht : Nat) (qL : Nat) (hs : Nat) (hz : Nat) (pn : Int) (ch : Int) (vv : Int → Int) (wh : Int) (v : Int) : String → va_W → Prop := fun E9 w1 => E9 = "java/lang/IllegalArgumentException" ∧ ¬ inRZ wh v ∧ w1 = [(g0, .inr (4, [.ref qv, .ref qz, .int (iZ pn), .ref tp, .ref h, .ref ht, .ref qL, .ref hs, .ref hz, .int (iZ ch)])), (qv, .inl (cI, 5, .inl (zA vv)))]
set_option maxHeartbeats 4000000 in
set_option maxRecDepth 100000 in
theorem ctX4_set (l : Launch) (hl : l.stackTraces = false) (tL tH tS : Nat) (D : va_G) (cB cI cJ cY : ClassId) (g0 : Nat) (qv : Nat) (qz : Nat) (tp : Nat) (h : Nat) (ht : Nat) (qL : Nat) (hs : Nat) (hz : Nat) (pn : Int) (ch : Int) (vv : Int → Int) (wh : Int) (v : Int) (h_wh : -2147483648 ≤ wh ∧ wh ≤ 2147483647) (h_v : -2147483648 ≤ v ∧ v ≤ 2147483647) : gMx l yX4_set wsX4_set { frames := 6, cells := 1, slots := 6, locals := 90 } tL tH tS D (gT cB cI cJ cY) [.ref g0, .int (iZ wh), .int (iZ v)] [(g0, .inr (4, [.ref qv, .ref qz, .int (iZ pn), .ref tp, .ref h, .ref ht, .ref qL, .ref hs, .ref hz, .int (iZ ch)])), (qv, .inl (cI, 5, .inl (zA vv)))] 1 6 (qX4_set cB cI cJ cY g0 qv qz tp h ht qL hs hz pn ch vv wh v) (xX4_set cB cI cJ cY g0 qv qz tp h ht qL hs hz pn ch vv wh v) := by
  refine g_startX (cc := cX4_set) (maxL := 4) (ret := some .int) (lv := [(0, .ref g0), (1, .int (iZ wh)), (2, .int (iZ v))]) (by decide) rfl (Nat.le_of_ble_eq_true rfl) rfl ?_
  intro p e s m args below meth c A X hE htab hr
  have hin4 : ∀ w ∈ u_ws RX4 TX4 10, w ∈ wsX4_set := by decide +kernel
  refine g_iload_n X 1 dX4_set_0 rfl rfl ?_
  refine g_if_lt X 9 dX4_set_1 (by decide) (by omega) (fun c_1 => ?_) (fun c_1 => ?_)
  · skip
    exact g_throw X hE hl htab (cls := "java/lang/IllegalArgumentException") (is := 52) (ic := 54) (by decide) (by decide) (by decide +kernel) (by decide +kernel) (List.mem_of_getElem? (i := 8) rfl) (by decide +kernel) (by decide +kernel) (by decide +kernel) dX4_set_9 dX4_set_12 dX4_set_13 dX4_set_15 dX4_set_18 (by decide) (Nat.le_of_ble_eq_true rfl) (by decide) (by decide) (by decide) (by decide) ⟨rfl, fun h => by have := h.1; have := h.2.1; omega, rfl⟩
  · skip
    refine g_iload_n X 1 dX4_set_4 rfl rfl ?_
    refine g_iconst X dX4_set_5 ?_
    refine g_icmp_lt X 19 dX4_set_6 (by decide) (by omega) (by omega) (fun c_6 => ?_) (fun c_6 => ?_)
    · skip
      refine g_iload_n X 2 dX4_set_19 rfl rfl ?_
      refine g_getsL X hE (index := 57) (by decide +kernel) dX4_set_20 ?_
      refine g_iload_n X 1 dX4_set_23 rfl rfl ?_
      refine g_ti (f := loF) X (hE.2.2.2.2.2.2.2.1) (by omega) (by decide) dX4_set_24 ?_
      have b24 := loF_b wh
      refine g_icmp_lt X 37 dX4_set_25 (by decide) (by omega) (by omega) (fun c_25 => ?_) (fun c_25 => ?_)
      · skip
        exact g_throw X hE hl htab (cls := "java/lang/IllegalArgumentException") (is := 63) (ic := 54) (by decide) (by decide) (by decide +kernel) (by decide +kernel) (List.mem_of_getElem? (i := 9) rfl) (by decide +kernel) (by decide +kernel) (by decide +kernel) dX4_set_37 dX4_set_40 dX4_set_41 dX4_set_43 dX4_set_46 (by decide) (Nat.le_of_ble_eq_true rfl) (by decide) (by decide) (by decide) (by decide) ⟨rfl, fun h => by have := h.2.2; omega, rfl⟩
      · skip
        refine g_iload_n X 2 dX4_set_28 rfl rfl ?_
        refine g_getsH X hE (index := 60) (by decide +kernel) dX4_set_29 ?_
        refine g_iload_n X 1 dX4_set_32 rfl rfl ?_
        refine g_ti (f := hiF) X (hE.2.2.2.2.2.2.2.2.1) (by omega) (by decide) dX4_set_33 ?_
        have b33 := hiF_b wh
        refine g_icmp_le X 47 dX4_set_34 (by decide) (by omega) (by omega) (fun c_34 => ?_) (fun c_34 => ?_)
        · skip
          refine g_aload_n X 0 dX4_set_47 rfl rfl ?_
          refine g_get X (index := 9) (ref := "GuideWords") hin4 0 rfl rfl 0 (by decide) rfl (by decide +kernel) (v := .ref qv) rfl dX4_set_48 ?_
          refine g_iload_n X 1 dX4_set_51 rfl rfl ?_
          refine g_iald X 1 1 rfl rfl (by omega) (by decide) dX4_set_52 ?_
          refine g_istore_n (lv2 := [(3, .int (iZ (vv wh))), (0, .ref g0), (1, .int (iZ wh)), (2, .int (iZ v))]) X dX4_set_53 rfl (by decide) rfl ?_
          refine g_aload_n X 1 dX4_set_54 rfl rfl ?_
          refine g_get X (index := 9) (ref := "GuideWords") hin4 0 rfl rfl 0 (by decide) rfl (by decide +kernel) (v := .ref qv) rfl dX4_set_55 ?_
          refine g_iload_n X 2 dX4_set_58 rfl rfl ?_
          refine g_iload_n X 3 dX4_set_59 rfl rfl ?_
          refine g_iast X 1 1 rfl rfl (by omega) (by decide) (ws2 := [(g0, .inr (4, [.ref qv, .ref qz, .int (iZ pn), .ref tp, .ref h, .ref ht, .ref qL, .ref hs, .ref hz, .int (iZ ch)])), (qv, .inl (cI, 5, .inl (zA (upZ vv wh v))))]) rfl dX4_set_60 ?_
          refine g_iload_n X 0 dX4_set_61 rfl rfl ?_
          exact g_iretX X hr (by decide) (by decide) dX4_set_62 ⟨rfl, ⟨by omega, by omega, by omega, by omega⟩, rfl⟩
        · skip
          exact g_throw X hE hl htab (cls := "java/lang/IllegalArgumentException") (is := 63) (ic := 54) (by decide) (by decide) (by decide +kernel) (by decide +kernel) (List.mem_of_getElem? (i := 9) rfl) (by decide +kernel) (by decide +kernel) (by decide +kernel) dX4_set_37 dX4_set_40 dX4_set_41 dX4_set_43 dX4_set_46 (by decide) (Nat.le_of_ble_eq_true rfl) (by decide) (by decide) (by decide) (by decide) ⟨rfl, fun h => by have := h.2.2; omega, rfl⟩
    · skip
      exact g_throw X hE hl htab (cls := "java/lang/IllegalArgumentException") (is := 52) (ic := 54) (by decide) (by decide) (by decide +kernel) (by decide +kernel) (List.mem_of_getElem? (i := 8) rfl) (by decide +kernel) (by decide +kernel) (by decide +kernel) dX4_set_9 dX4_set_12 dX4_set_13 dX4_set_15 dX4_set_18 (by decide) (Nat.le_of_ble_eq_true rfl) (by decide) (by decide) (by decide) (by decide) ⟨rfl, fun h => by have := h.1; have := h.2.1; omega, rfl⟩
def qX4_push (cB cI cJ cY : ClassId) (g0 : Nat) (qv : Nat) (qz : Nat) (tp : Nat) (h : Nat) (ht : Nat) (qL : Nat) (hs : Nat) (hz : Nat) (pn : Int) (ch : Int) (pz : Int → Int) (li : Int) : Option Value → va_W → Prop := fun rv w1 => ∃ (r : Int) (pn2 : Int) (pz2 : Int → Int), rv = some (.int (iZ r)) ∧ pshZ pn pz li r pn2 pz2 ∧ w1 = [(g0, .inr (4, [.ref qv, .ref qz, .int (iZ pn2), .ref tp, .ref h, .ref ht, .ref qL, .ref hs, .ref hz, .int (iZ ch)])), (qz, .inl (cI, 6, .inl (zA pz2)))]
def xX4_push (cB cI cJ cY : ClassId) (g0 : Nat) (qv : Nat) (qz : Nat) (tp : Nat) (h : Nat) (ht : Nat) (qL : Nat) (hs : Nat) (hz : Nat) (pn : Int) (ch : Int) (pz : Int → Int) (li : Int) : String → va_W → Prop := fun E9 w1 => E9 = "java/lang/IllegalArgumentException" ∧ (¬ (1 ≤ li ∧ li ≤ 20)) ∧ w1 = [(g0, .inr (4, [.ref qv, .ref qz, .int (iZ pn), .ref tp, .ref h, .ref ht, .ref qL, .ref hs, .ref hz, .int (iZ ch)])), (qz, .inl (cI, 6, .inl (zA pz)))]
set_option maxHeartbeats 4000000 in
set_option maxRecDepth 100000 in
theorem ctX4_push (l : Launch) (hl : l.stackTraces = false) (tL tH tS : Nat) (D : va_G) (cB cI cJ cY : ClassId) (g0 : Nat) (qv : Nat) (qz : Nat) (tp : Nat) (h : Nat) (ht : Nat) (qL : Nat) (hs : Nat) (hz : Nat) (pn : Int) (ch : Int) (pz : Int → Int) (li : Int) (hpn : 0 ≤ pn ∧ pn ≤ 6) (h_li : -2147483648 ≤ li ∧ li ≤ 2147483647) : gMx l yX4_push wsX4_push { frames := 6, cells := 1, slots := 6, locals := 90 } tL tH tS D (gT cB cI cJ cY) [.ref g0, .int (iZ li)] [(g0, .inr (4, [.ref qv, .ref qz, .int (iZ pn), .ref tp, .ref h, .ref ht, .ref qL, .ref hs, .ref hz, .int (iZ ch)])), (qz, .inl (cI, 6, .inl (zA pz)))] 1 6 (qX4_push cB cI cJ cY g0 qv qz tp h ht qL hs hz pn ch pz li) (xX4_push cB cI cJ cY g0 qv qz tp h ht qL hs hz pn ch pz li) := by
  refine g_startX (cc := cX4_push) (maxL := 2) (ret := some .int) (lv := [(0, .ref g0), (1, .int (iZ li))]) (by decide) rfl (Nat.le_of_ble_eq_true rfl) rfl ?_
  intro p e s m args below meth c A X hE htab hr
  have hin4 : ∀ w ∈ u_ws RX4 TX4 10, w ∈ wsX4_push := by decide +kernel
  refine g_iload_n X 1 dX4_push_0 rfl rfl ?_
  refine g_iconst X dX4_push_1 ?_
  refine g_icmp_lt X 11 dX4_push_2 (by decide) (by omega) (by omega) (fun c_2 => ?_) (fun c_2 => ?_)
  · skip
    exact g_throw X hE hl htab (cls := "java/lang/IllegalArgumentException") (is := 65) (ic := 54) (by decide) (by decide) (by decide +kernel) (by decide +kernel) (List.mem_of_getElem? (i := 10) rfl) (by decide +kernel) (by decide +kernel) (by decide +kernel) dX4_push_11 dX4_push_14 dX4_push_15 dX4_push_17 dX4_push_20 (by decide) (Nat.le_of_ble_eq_true rfl) (by decide) (by decide) (by decide) (by decide) ⟨rfl, by omega, rfl⟩
  · skip
    refine g_iload_n X 1 dX4_push_5 rfl rfl ?_
    refine g_bipush X dX4_push_6 (by decide) ?_
    refine g_icmp_le X 21 dX4_push_8 (by decide) (by omega) (by omega) (fun c_8 => ?_) (fun c_8 => ?_)
    · skip
      refine g_aload_n X 0 dX4_push_21 rfl rfl ?_
      refine g_get X (index := 67) (ref := "GuideWords") hin4 0 rfl rfl 2 (by decide) rfl (by decide +kernel) (v := .int (iZ pn)) rfl dX4_push_22 ?_
      refine g_bipush X dX4_push_25 (by decide) ?_
      refine g_icmp_lt X 32 dX4_push_27 (by decide) (by omega) (by omega) (fun c_27 => ?_) (fun c_27 => ?_)
      · skip
        refine g_aload_n X 0 dX4_push_32 rfl rfl ?_
        refine g_get X (index := 13) (ref := "GuideWords") hin4 0 rfl rfl 1 (by decide) rfl (by decide +kernel) (v := .ref qz) rfl dX4_push_33 ?_
        refine g_aload_n X 0 dX4_push_36 rfl rfl ?_
        refine g_get X (index := 67) (ref := "GuideWords") hin4 0 rfl rfl 2 (by decide) rfl (by decide +kernel) (v := .int (iZ pn)) rfl dX4_push_37 ?_
        refine g_iload_n X 1 dX4_push_40 rfl rfl ?_
        refine g_iast X 1 1 rfl rfl (by omega) (by decide) (ws2 := [(g0, .inr (4, [.ref qv, .ref qz, .int (iZ pn), .ref tp, .ref h, .ref ht, .ref qL, .ref hs, .ref hz, .int (iZ ch)])), (qz, .inl (cI, 6, .inl (zA (upZ pz pn li))))]) rfl dX4_push_41 ?_
        refine g_aload_n X 0 dX4_push_42 rfl rfl ?_
        refine g_dup X dX4_push_43 rfl ?_
        refine g_get X (index := 67) (ref := "GuideWords") hin4 0 rfl rfl 2 (by decide) rfl (by decide +kernel) (v := .int (iZ pn)) rfl dX4_push_44 ?_
        refine g_iconst X dX4_push_47 ?_
        refine g_iadd X dX4_push_48 ?_
        refine g_put X (index := 67) (ref := "GuideWords") hin4 0 rfl rfl 2 (by decide) rfl tyX4 tyX4_ok nmX4 (by decide +kernel) rfl rfl rfl rfl (Nat.le_of_ble_eq_true rfl) (ws2 := [(g0, .inr (4, [.ref qv, .ref qz, .int (iZ (pn + 1)), .ref tp, .ref h, .ref ht, .ref qL, .ref hs, .ref hz, .int (iZ ch)])), (qz, .inl (cI, 6, .inl (zA (upZ pz pn li))))]) rfl dX4_push_49 ?_
        refine g_aload_n X 0 dX4_push_52 rfl rfl ?_
        refine g_get X (index := 67) (ref := "GuideWords") hin4 0 rfl rfl 2 (by decide) rfl (by decide +kernel) (v := .int (iZ (pn + 1))) rfl dX4_push_53 ?_
        exact g_iretX X hr (by decide) (by decide) dX4_push_56 ⟨_, _, _, rfl, ⟨by omega, Or.inr ⟨by omega, rfl, rfl, rfl⟩⟩, rfl⟩
      · skip
        refine g_iconst X dX4_push_30 ?_
        exact g_iretX X hr (by decide) (by decide) dX4_push_31 ⟨_, pn, pz, rfl, ⟨by omega, Or.inl ⟨by omega, rfl, rfl, rfl⟩⟩, rfl⟩
    · skip
      exact g_throw X hE hl htab (cls := "java/lang/IllegalArgumentException") (is := 65) (ic := 54) (by decide) (by decide) (by decide +kernel) (by decide +kernel) (List.mem_of_getElem? (i := 10) rfl) (by decide +kernel) (by decide +kernel) (by decide +kernel) dX4_push_11 dX4_push_14 dX4_push_15 dX4_push_17 dX4_push_20 (by decide) (Nat.le_of_ble_eq_true rfl) (by decide) (by decide) (by decide) (by decide) ⟨rfl, by omega, rfl⟩
def qX4_feed (cB cI cJ cY : ClassId) (g0 : Nat) (qv : Nat) (qz : Nat) (tp : Nat) (h : Nat) (ht : Nat) (qL : Nat) (hs : Nat) (hz : Nat) (pn : Int) (ch : Int) (qb : Nat) (tf : Int → Int) (tn : Int) (a : Int) (b : Int) (c9 : Int) (d9 : Int) (e9 : Int) : Option Value → va_W → Prop := fun rv w1 => ∃ (r : Int) (tn2 : Int) (tf2 : Int → Int), rv = some (.int (iZ r)) ∧ ((40 < tn ∧ r = -1 ∧ tn2 = tn ∧ tf2 = tf) ∨ (tn ≤ 40 ∧ r = tn + 20 ∧ tn2 = tn + 20 ∧ tf2 = fdZ tf tn a b c9 d9 e9)) ∧ w1 = [(g0, .inr (4, [.ref qv, .ref qz, .int (iZ pn), .ref tp, .ref h, .ref ht, .ref qL, .ref hs, .ref hz, .int (iZ ch)])), (tp, .inr (2, [.ref qb, .int (iZ tn2)])), (qb, .inl (cI, 60, .inl (zA tf2)))]
set_option maxHeartbeats 4000000 in
set_option maxRecDepth 100000 in
theorem ctX4_feed (l : Launch) (D : va_G) (cB cI cJ cY : ClassId) (g0 : Nat) (qv : Nat) (qz : Nat) (tp : Nat) (h : Nat) (ht : Nat) (qL : Nat) (hs : Nat) (hz : Nat) (pn : Int) (ch : Int) (qb : Nat) (tf : Int → Int) (tn : Int) (a : Int) (b : Int) (c9 : Int) (d9 : Int) (e9 : Int) (htn : 0 ≤ tn ∧ tn ≤ 60) (h_a : -2147483648 ≤ a ∧ a ≤ 2147483647) (h_b : -2147483648 ≤ b ∧ b ≤ 2147483647) (h_c9 : -2147483648 ≤ c9 ∧ c9 ≤ 2147483647) (h_d9 : -2147483648 ≤ d9 ∧ d9 ≤ 2147483647) (h_e9 : -2147483648 ≤ e9 ∧ e9 ≤ 2147483647) : gM l yX4_feed wsX4_feed { frames := 1, cells := 0, slots := 0, locals := 22 } D (gT cB cI cJ cY) [.ref g0, .int (iZ a), .int (iZ b), .int (iZ c9), .int (iZ d9), .int (iZ e9)] [(g0, .inr (4, [.ref qv, .ref qz, .int (iZ pn), .ref tp, .ref h, .ref ht, .ref qL, .ref hs, .ref hz, .int (iZ ch)])), (tp, .inr (2, [.ref qb, .int (iZ tn)])), (qb, .inl (cI, 60, .inl (zA tf)))] 0 0 (qX4_feed cB cI cJ cY g0 qv qz tp h ht qL hs hz pn ch qb tf tn a b c9 d9 e9) := by
  refine g_start (cc := cX4_feed) (maxL := 6) (ret := some .int) (lv := [(0, .ref g0), (1, .int (iZ a)), (2, .int (iZ b)), (3, .int (iZ c9)), (4, .int (iZ d9)), (5, .int (iZ e9))]) (by decide) rfl (Nat.le_of_ble_eq_true rfl) rfl ?_
  intro p e s m args below meth c A X hr hnm
  have hin2 : ∀ w ∈ u_ws RX2 TX2 2, w ∈ wsX4_feed := by decide +kernel
  have hin4 : ∀ w ∈ u_ws RX4 TX4 10, w ∈ wsX4_feed := by decide +kernel
  refine g_aload_n X 0 dX4_feed_0 rfl rfl ?_
  refine g_get X (index := 19) (ref := "GuideWords") hin4 0 rfl rfl 3 (by decide) rfl (by decide +kernel) (v := .ref tp) rfl dX4_feed_1 ?_
  refine g_callV0 X (As := []) (rest := []) (ctX2_hasRoom l D cB cI cJ cY tp qb tf tn (by first | assumption | omega)) (cwV 0 X.2.2.2.2.1 gX4_feed_X2_hasRoom rfl rfl rfl (by decide +kernel) ⟨by decide, by decide⟩) 0 rfl rfl (wc := [(tp, .inr (2, [.ref qb, .int (iZ tn)])), (qb, .inl (cI, 60, .inl (zA tf)))]) (wr := [(g0, .inr (4, [.ref qv, .ref qz, .int (iZ pn), .ref tp, .ref h, .ref ht, .ref qL, .ref hs, .ref hz, .int (iZ ch)]))]) [1, 2] [0] rfl rfl (by decide) (by decide) (by decide) rfl rfl (Nat.le_of_ble_eq_true rfl) ⟨by decide, by decide⟩ dX4_feed_4 (fun v w1 hq => ?_)
  obtain ⟨hr9, rfl, hr8, rfl⟩ := hq
  refine g_eq (ws' := [(g0, .inr (4, [.ref qv, .ref qz, .int (iZ pn), .ref tp, .ref h, .ref ht, .ref qL, .ref hs, .ref hz, .int (iZ ch)])), (tp, .inr (2, [.ref qb, .int (iZ tn)])), (qb, .inl (cI, 60, .inl (zA tf)))]) (pc' := 7) (st' := [.int (iZ hr9)]) rfl rfl rfl rfl ?_
  have hr7 : hr9 = 0 ∨ hr9 = 1 := by rw [hr8]; split <;> simp
  refine g_if_ne X 12 dX4_feed_7 (by decide) (by omega) (fun c_7 => ?_) (fun c_7 => ?_)
  · skip
    have h40 : tn ≤ 40 := by
      rcases (show tn ≤ 40 ∨ 40 < tn by omega) with h | h
      · exact h
      · rw [if_neg (by omega)] at hr8; omega
    refine g_aload_n X 0 dX4_feed_12 rfl rfl ?_
    refine g_get X (index := 19) (ref := "GuideWords") hin4 0 rfl rfl 3 (by decide) rfl (by decide +kernel) (v := .ref tp) rfl dX4_feed_13 ?_
    refine g_iload_n X 1 dX4_feed_16 rfl rfl ?_
    refine g_callV0 X (As := [.int (iZ a)]) (rest := []) (ctX2_append l D cB cI cJ cY tp qb tf tn a (by first | assumption | omega) (by first | assumption | omega)) (cwV 1 X.2.2.2.2.1 gX4_feed_X2_append rfl rfl rfl (by decide +kernel) ⟨by decide, by decide⟩) 0 rfl rfl (wc := [(tp, .inr (2, [.ref qb, .int (iZ tn)])), (qb, .inl (cI, 60, .inl (zA tf)))]) (wr := [(g0, .inr (4, [.ref qv, .ref qz, .int (iZ pn), .ref tp, .ref h, .ref ht, .ref qL, .ref hs, .ref hz, .int (iZ ch)]))]) [1, 2] [0] rfl rfl (by decide) (by decide) (by decide) rfl rfl (Nat.le_of_ble_eq_true rfl) ⟨by decide, by decide⟩ dX4_feed_17 (fun v w1 hq => ?_)
    obtain ⟨rfl, rfl⟩ := hq
    refine g_eq (ws' := [(g0, .inr (4, [.ref qv, .ref qz, .int (iZ pn), .ref tp, .ref h, .ref ht, .ref qL, .ref hs, .ref hz, .int (iZ ch)])), (tp, .inr (2, [.ref qb, .int (iZ (tn + 1 + 1 + 1 + 1))])), (qb, .inl (cI, 60, .inl (zA (ap4 tf tn a))))]) (pc' := 20) (st' := []) rfl rfl rfl rfl ?_
    refine g_aload_n X 0 dX4_feed_20 rfl rfl ?_
    refine g_get X (index := 19) (ref := "GuideWords") hin4 0 rfl rfl 3 (by decide) rfl (by decide +kernel) (v := .ref tp) rfl dX4_feed_21 ?_
    refine g_iload_n X 2 dX4_feed_24 rfl rfl ?_
    refine g_callV0 X (As := [.int (iZ b)]) (rest := []) (ctX2_append l D cB cI cJ cY tp qb (ap4 tf tn a) (tn + 1 + 1 + 1 + 1) b (by first | assumption | omega) (by first | assumption | omega)) (cwV 1 X.2.2.2.2.1 gX4_feed_X2_append rfl rfl rfl (by decide +kernel) ⟨by decide, by decide⟩) 0 rfl rfl (wc := [(tp, .inr (2, [.ref qb, .int (iZ (tn + 1 + 1 + 1 + 1))])), (qb, .inl (cI, 60, .inl (zA (ap4 tf tn a))))]) (wr := [(g0, .inr (4, [.ref qv, .ref qz, .int (iZ pn), .ref tp, .ref h, .ref ht, .ref qL, .ref hs, .ref hz, .int (iZ ch)]))]) [1, 2] [0] rfl rfl (by decide) (by decide) (by decide) rfl rfl (Nat.le_of_ble_eq_true rfl) ⟨by decide, by decide⟩ dX4_feed_25 (fun v w1 hq => ?_)
    obtain ⟨rfl, rfl⟩ := hq
    refine g_eq (ws' := [(g0, .inr (4, [.ref qv, .ref qz, .int (iZ pn), .ref tp, .ref h, .ref ht, .ref qL, .ref hs, .ref hz, .int (iZ ch)])), (tp, .inr (2, [.ref qb, .int (iZ ((tn + 1 + 1 + 1 + 1) + 1 + 1 + 1 + 1))])), (qb, .inl (cI, 60, .inl (zA (ap4 (ap4 tf tn a) (tn + 1 + 1 + 1 + 1) b))))]) (pc' := 28) (st' := []) rfl rfl rfl rfl ?_
    refine g_aload_n X 0 dX4_feed_28 rfl rfl ?_
    refine g_get X (index := 19) (ref := "GuideWords") hin4 0 rfl rfl 3 (by decide) rfl (by decide +kernel) (v := .ref tp) rfl dX4_feed_29 ?_
    refine g_iload_n X 3 dX4_feed_32 rfl rfl ?_
    refine g_callV0 X (As := [.int (iZ c9)]) (rest := []) (ctX2_append l D cB cI cJ cY tp qb (ap4 (ap4 tf tn a) (tn + 1 + 1 + 1 + 1) b) ((tn + 1 + 1 + 1 + 1) + 1 + 1 + 1 + 1) c9 (by first | assumption | omega) (by first | assumption | omega)) (cwV 1 X.2.2.2.2.1 gX4_feed_X2_append rfl rfl rfl (by decide +kernel) ⟨by decide, by decide⟩) 0 rfl rfl (wc := [(tp, .inr (2, [.ref qb, .int (iZ ((tn + 1 + 1 + 1 + 1) + 1 + 1 + 1 + 1))])), (qb, .inl (cI, 60, .inl (zA (ap4 (ap4 tf tn a) (tn + 1 + 1 + 1 + 1) b))))]) (wr := [(g0, .inr (4, [.ref qv, .ref qz, .int (iZ pn), .ref tp, .ref h, .ref ht, .ref qL, .ref hs, .ref hz, .int (iZ ch)]))]) [1, 2] [0] rfl rfl (by decide) (by decide) (by decide) rfl rfl (Nat.le_of_ble_eq_true rfl) ⟨by decide, by decide⟩ dX4_feed_33 (fun v w1 hq => ?_)
    obtain ⟨rfl, rfl⟩ := hq
    refine g_eq (ws' := [(g0, .inr (4, [.ref qv, .ref qz, .int (iZ pn), .ref tp, .ref h, .ref ht, .ref qL, .ref hs, .ref hz, .int (iZ ch)])), (tp, .inr (2, [.ref qb, .int (iZ (((tn + 1 + 1 + 1 + 1) + 1 + 1 + 1 + 1) + 1 + 1 + 1 + 1))])), (qb, .inl (cI, 60, .inl (zA (ap4 (ap4 (ap4 tf tn a) (tn + 1 + 1 + 1 + 1) b) ((tn + 1 + 1 + 1 + 1) + 1 + 1 + 1 + 1) c9))))]) (pc' := 36) (st' := []) rfl rfl rfl rfl ?_
    refine g_aload_n X 0 dX4_feed_36 rfl rfl ?_
    refine g_get X (index := 19) (ref := "GuideWords") hin4 0 rfl rfl 3 (by decide) rfl (by decide +kernel) (v := .ref tp) rfl dX4_feed_37 ?_
    refine g_iload X 4 dX4_feed_40 rfl ?_
    refine g_callV0 X (As := [.int (iZ d9)]) (rest := []) (ctX2_append l D cB cI cJ cY tp qb (ap4 (ap4 (ap4 tf tn a) (tn + 1 + 1 + 1 + 1) b) ((tn + 1 + 1 + 1 + 1) + 1 + 1 + 1 + 1) c9) (((tn + 1 + 1 + 1 + 1) + 1 + 1 + 1 + 1) + 1 + 1 + 1 + 1) d9 (by first | assumption | omega) (by first | assumption | omega)) (cwV 1 X.2.2.2.2.1 gX4_feed_X2_append rfl rfl rfl (by decide +kernel) ⟨by decide, by decide⟩) 0 rfl rfl (wc := [(tp, .inr (2, [.ref qb, .int (iZ (((tn + 1 + 1 + 1 + 1) + 1 + 1 + 1 + 1) + 1 + 1 + 1 + 1))])), (qb, .inl (cI, 60, .inl (zA (ap4 (ap4 (ap4 tf tn a) (tn + 1 + 1 + 1 + 1) b) ((tn + 1 + 1 + 1 + 1) + 1 + 1 + 1 + 1) c9))))]) (wr := [(g0, .inr (4, [.ref qv, .ref qz, .int (iZ pn), .ref tp, .ref h, .ref ht, .ref qL, .ref hs, .ref hz, .int (iZ ch)]))]) [1, 2] [0] rfl rfl (by decide) (by decide) (by decide) rfl rfl (Nat.le_of_ble_eq_true rfl) ⟨by decide, by decide⟩ dX4_feed_42 (fun v w1 hq => ?_)
    obtain ⟨rfl, rfl⟩ := hq
    refine g_eq (ws' := [(g0, .inr (4, [.ref qv, .ref qz, .int (iZ pn), .ref tp, .ref h, .ref ht, .ref qL, .ref hs, .ref hz, .int (iZ ch)])), (tp, .inr (2, [.ref qb, .int (iZ ((((tn + 1 + 1 + 1 + 1) + 1 + 1 + 1 + 1) + 1 + 1 + 1 + 1) + 1 + 1 + 1 + 1))])), (qb, .inl (cI, 60, .inl (zA (ap4 (ap4 (ap4 (ap4 tf tn a) (tn + 1 + 1 + 1 + 1) b) ((tn + 1 + 1 + 1 + 1) + 1 + 1 + 1 + 1) c9) (((tn + 1 + 1 + 1 + 1) + 1 + 1 + 1 + 1) + 1 + 1 + 1 + 1) d9))))]) (pc' := 45) (st' := []) rfl rfl rfl rfl ?_
    refine g_aload_n X 0 dX4_feed_45 rfl rfl ?_
    refine g_get X (index := 19) (ref := "GuideWords") hin4 0 rfl rfl 3 (by decide) rfl (by decide +kernel) (v := .ref tp) rfl dX4_feed_46 ?_
    refine g_iload X 5 dX4_feed_49 rfl ?_
    refine g_callV0 X (As := [.int (iZ e9)]) (rest := []) (ctX2_append l D cB cI cJ cY tp qb (ap4 (ap4 (ap4 (ap4 tf tn a) (tn + 1 + 1 + 1 + 1) b) ((tn + 1 + 1 + 1 + 1) + 1 + 1 + 1 + 1) c9) (((tn + 1 + 1 + 1 + 1) + 1 + 1 + 1 + 1) + 1 + 1 + 1 + 1) d9) ((((tn + 1 + 1 + 1 + 1) + 1 + 1 + 1 + 1) + 1 + 1 + 1 + 1) + 1 + 1 + 1 + 1) e9 (by first | assumption | omega) (by first | assumption | omega)) (cwV 1 X.2.2.2.2.1 gX4_feed_X2_append rfl rfl rfl (by decide +kernel) ⟨by decide, by decide⟩) 0 rfl rfl (wc := [(tp, .inr (2, [.ref qb, .int (iZ ((((tn + 1 + 1 + 1 + 1) + 1 + 1 + 1 + 1) + 1 + 1 + 1 + 1) + 1 + 1 + 1 + 1))])), (qb, .inl (cI, 60, .inl (zA (ap4 (ap4 (ap4 (ap4 tf tn a) (tn + 1 + 1 + 1 + 1) b) ((tn + 1 + 1 + 1 + 1) + 1 + 1 + 1 + 1) c9) (((tn + 1 + 1 + 1 + 1) + 1 + 1 + 1 + 1) + 1 + 1 + 1 + 1) d9))))]) (wr := [(g0, .inr (4, [.ref qv, .ref qz, .int (iZ pn), .ref tp, .ref h, .ref ht, .ref qL, .ref hs, .ref hz, .int (iZ ch)]))]) [1, 2] [0] rfl rfl (by decide) (by decide) (by decide) rfl rfl (Nat.le_of_ble_eq_true rfl) ⟨by decide, by decide⟩ dX4_feed_51 (fun v w1 hq => ?_)
    obtain ⟨rfl, rfl⟩ := hq
    refine g_eq (ws' := [(g0, .inr (4, [.ref qv, .ref qz, .int (iZ pn), .ref tp, .ref h, .ref ht, .ref qL, .ref hs, .ref hz, .int (iZ ch)])), (tp, .inr (2, [.ref qb, .int (iZ (((((tn + 1 + 1 + 1 + 1) + 1 + 1 + 1 + 1) + 1 + 1 + 1 + 1) + 1 + 1 + 1 + 1) + 1 + 1 + 1 + 1))])), (qb, .inl (cI, 60, .inl (zA (ap4 (ap4 (ap4 (ap4 (ap4 tf tn a) (tn + 1 + 1 + 1 + 1) b) ((tn + 1 + 1 + 1 + 1) + 1 + 1 + 1 + 1) c9) (((tn + 1 + 1 + 1 + 1) + 1 + 1 + 1 + 1) + 1 + 1 + 1 + 1) d9) ((((tn + 1 + 1 + 1 + 1) + 1 + 1 + 1 + 1) + 1 + 1 + 1 + 1) + 1 + 1 + 1 + 1) e9))))]) (pc' := 54) (st' := []) rfl rfl rfl rfl ?_
    refine g_aload_n X 0 dX4_feed_54 rfl rfl ?_
    refine g_get X (index := 19) (ref := "GuideWords") hin4 0 rfl rfl 3 (by decide) rfl (by decide +kernel) (v := .ref tp) rfl dX4_feed_55 ?_
    refine g_callV0 X (As := []) (rest := []) (ctX2_length l D cB cI cJ cY tp qb (ap4 (ap4 (ap4 (ap4 (ap4 tf tn a) (tn + 1 + 1 + 1 + 1) b) ((tn + 1 + 1 + 1 + 1) + 1 + 1 + 1 + 1) c9) (((tn + 1 + 1 + 1 + 1) + 1 + 1 + 1 + 1) + 1 + 1 + 1 + 1) d9) ((((tn + 1 + 1 + 1 + 1) + 1 + 1 + 1 + 1) + 1 + 1 + 1 + 1) + 1 + 1 + 1 + 1) e9) (((((tn + 1 + 1 + 1 + 1) + 1 + 1 + 1 + 1) + 1 + 1 + 1 + 1) + 1 + 1 + 1 + 1) + 1 + 1 + 1 + 1) ) (cwV 0 X.2.2.2.2.1 gX4_feed_X2_length rfl rfl rfl (by decide +kernel) ⟨by decide, by decide⟩) 0 rfl rfl (wc := [(tp, .inr (2, [.ref qb, .int (iZ (((((tn + 1 + 1 + 1 + 1) + 1 + 1 + 1 + 1) + 1 + 1 + 1 + 1) + 1 + 1 + 1 + 1) + 1 + 1 + 1 + 1))])), (qb, .inl (cI, 60, .inl (zA (ap4 (ap4 (ap4 (ap4 (ap4 tf tn a) (tn + 1 + 1 + 1 + 1) b) ((tn + 1 + 1 + 1 + 1) + 1 + 1 + 1 + 1) c9) (((tn + 1 + 1 + 1 + 1) + 1 + 1 + 1 + 1) + 1 + 1 + 1 + 1) d9) ((((tn + 1 + 1 + 1 + 1) + 1 + 1 + 1 + 1) + 1 + 1 + 1 + 1) + 1 + 1 + 1 + 1) e9))))]) (wr := [(g0, .inr (4, [.ref qv, .ref qz, .int (iZ pn), .ref tp, .ref h, .ref ht, .ref qL, .ref hs, .ref hz, .int (iZ ch)]))]) [1, 2] [0] rfl rfl (by decide) (by decide) (by decide) rfl rfl (Nat.le_of_ble_eq_true rfl) ⟨by decide, by decide⟩ dX4_feed_58 (fun v w1 hq => ?_)
    obtain ⟨rfl, rfl⟩ := hq
    refine g_eq (ws' := [(g0, .inr (4, [.ref qv, .ref qz, .int (iZ pn), .ref tp, .ref h, .ref ht, .ref qL, .ref hs, .ref hz, .int (iZ ch)])), (tp, .inr (2, [.ref qb, .int (iZ ((((((tn + 1 + 1 + 1 + 1) + 1 + 1 + 1 + 1) + 1 + 1 + 1 + 1) + 1 + 1 + 1 + 1) + 1 + 1 + 1 + 1)))])), (qb, .inl (cI, 60, .inl (zA ((ap4 (ap4 (ap4 (ap4 (ap4 tf tn a) (tn + 1 + 1 + 1 + 1) b) ((tn + 1 + 1 + 1 + 1) + 1 + 1 + 1 + 1) c9) (((tn + 1 + 1 + 1 + 1) + 1 + 1 + 1 + 1) + 1 + 1 + 1 + 1) d9) ((((tn + 1 + 1 + 1 + 1) + 1 + 1 + 1 + 1) + 1 + 1 + 1 + 1) + 1 + 1 + 1 + 1) e9)))))]) (pc' := 61) (st' := [.int (iZ ((((((tn + 1 + 1 + 1 + 1) + 1 + 1 + 1 + 1) + 1 + 1 + 1 + 1) + 1 + 1 + 1 + 1) + 1 + 1 + 1 + 1)))]) rfl rfl rfl rfl ?_
    exact g_iret X hr (by decide) (by decide) dX4_feed_61 ⟨_, _, _, rfl, Or.inr ⟨h40, by omega, by omega, rfl⟩, rfl⟩
  · skip
    have h41 : 40 < tn := by
      rcases (show tn ≤ 40 ∨ 40 < tn by omega) with h | h
      · rw [if_pos (by omega)] at hr8; omega
      · exact h
    refine g_iconst X dX4_feed_10 ?_
    exact g_iret X hr (by decide) (by decide) dX4_feed_11 ⟨_, tn, tf, rfl, Or.inl ⟨h41, rfl, rfl, rfl⟩, rfl⟩
def entZ (tf hd me se ln od pz : Int → Int) (N P pn n r x : Int) (hd2 me2 se2 ln2 od2 : Int → Int) (N2 P2 : Int) : Prop := hdVal tf 0 n x ∧ ((x = 0 ∧ r = -1 ∧ hd2 = hd ∧ me2 = me ∧ se2 = se ∧ ln2 = ln ∧ od2 = od ∧ N2 = N ∧ P2 = P) ∨ (¬ x = 0 ∧ pn = 0 ∧ r = -2 ∧ hd2 = hd ∧ me2 = me ∧ se2 = se ∧ ln2 = ln ∧ od2 = od ∧ N2 = N ∧ P2 = P) ∨ (¬ x = 0 ∧ ¬ pn = 0 ∧ admZ hd me se ln od pz N P x 0 pn r hd2 me2 se2 ln2 od2 N2 P2))
def seeZ (tf hd me se ln od : Int → Int) (N P n m9 r x y : Int) (hd2 me2 se2 ln2 od2 : Int → Int) (N2 P2 : Int) : Prop := hdVal tf 0 n x ∧ hdVal tf n m9 y ∧ (((x = 0 ∨ y = 0) ∧ r = -1 ∧ hd2 = hd ∧ me2 = me ∧ se2 = se ∧ ln2 = ln ∧ od2 = od ∧ N2 = N ∧ P2 = P) ∨ (¬ x = 0 ∧ ¬ y = 0 ∧ admZ hd me se ln od (fun _ => 1) N P x y 1 r hd2 me2 se2 ln2 od2 N2 P2))
def qX4_entry (cB cI cJ cY : ClassId) (g0 : Nat) (qv : Nat) (qz : Nat) (tp : Nat) (h : Nat) (ht : Nat) (qL : Nat) (hs : Nat) (hz : Nat) (pn : Int) (ch : Int) (qh : Nat) (qm : Nat) (qs : Nat) (ql : Nat) (qd : Nat) (qo : Nat) (qp : Nat) (qb : Nat) (tf : Int → Int) (tn : Int) (hd : Int → Int) (me : Int → Int) (se : Int → Int) (ln : Int → Int) (od : Int → Int) (pz : Int → Int) (N : Int) (P : Int) (n : Int) : Option Value → va_W → Prop := fun rv w1 => ∃ (r : Int) (x : Int) (hd2 : Int → Int) (me2 : Int → Int) (se2 : Int → Int) (ln2 : Int → Int) (od2 : Int → Int) (N2 : Int) (P2 : Int), rv = some (.int (iZ r)) ∧ (0 ≤ n ∧ n ≤ tn) ∧ entZ tf hd me se ln od pz N P pn n r x hd2 me2 se2 ln2 od2 N2 P2 ∧ w1 = [(g0, .inr (4, [.ref qv, .ref qz, .int (iZ 0), .ref tp, .ref h, .ref ht, .ref qL, .ref hs, .ref hz, .int (iZ ch)])), (qz, .inl (cI, 6, .inl (zA pz))), (tp, .inr (2, [.ref qb, .int (iZ 0)])), (qb, .inl (cI, 60, .inl (zA tf))), (h, .inr (0, [.ref qh, .ref qm, .ref qs, .ref ql, .ref qd, .ref qo, .ref qp, .int (iZ N2), .int (iZ P2)])), (qh, .inl (cJ, 150, .inr (.inl (lA hd2)))), (qm, .inl (cJ, 150, .inr (.inl (lA me2)))), (qs, .inl (cI, 150, .inl (zA se2))), (ql, .inl (cI, 900, .inl (zA ln2))), (qo, .inl (cI, 150, .inl (zA od2)))]
def xX4_entry (cB cI cJ cY : ClassId) (g0 : Nat) (qv : Nat) (qz : Nat) (tp : Nat) (h : Nat) (ht : Nat) (qL : Nat) (hs : Nat) (hz : Nat) (pn : Int) (ch : Int) (qh : Nat) (qm : Nat) (qs : Nat) (ql : Nat) (qd : Nat) (qo : Nat) (qp : Nat) (qb : Nat) (tf : Int → Int) (tn : Int) (hd : Int → Int) (me : Int → Int) (se : Int → Int) (ln : Int → Int) (od : Int → Int) (pz : Int → Int) (N : Int) (P : Int) (n : Int) : String → va_W → Prop := fun E9 w1 => E9 = "java/lang/IllegalArgumentException" ∧ (¬ (0 ≤ n ∧ n ≤ tn)) ∧ w1 = [(g0, .inr (4, [.ref qv, .ref qz, .int (iZ pn), .ref tp, .ref h, .ref ht, .ref qL, .ref hs, .ref hz, .int (iZ ch)])), (qz, .inl (cI, 6, .inl (zA pz))), (tp, .inr (2, [.ref qb, .int (iZ tn)])), (qb, .inl (cI, 60, .inl (zA tf))), (h, .inr (0, [.ref qh, .ref qm, .ref qs, .ref ql, .ref qd, .ref qo, .ref qp, .int (iZ N), .int (iZ P)])), (qh, .inl (cJ, 150, .inr (.inl (lA hd)))), (qm, .inl (cJ, 150, .inr (.inl (lA me)))), (qs, .inl (cI, 150, .inl (zA se))), (ql, .inl (cI, 900, .inl (zA ln))), (qo, .inl (cI, 150, .inl (zA od)))]
set_option maxHeartbeats 4000000 in
set_option maxRecDepth 100000 in
theorem ctX4_entry (l : Launch) (hl : l.stackTraces = false) (tL tH tS : Nat) (D : va_G) (cB cI cJ cY : ClassId) (g0 : Nat) (qv : Nat) (qz : Nat) (tp : Nat) (h : Nat) (ht : Nat) (qL : Nat) (hs : Nat) (hz : Nat) (pn : Int) (ch : Int) (qh : Nat) (qm : Nat) (qs : Nat) (ql : Nat) (qd : Nat) (qo : Nat) (qp : Nat) (qb : Nat) (tf : Int → Int) (tn : Int) (hd : Int → Int) (me : Int → Int) (se : Int → Int) (ln : Int → Int) (od : Int → Int) (pz : Int → Int) (N : Int) (P : Int) (n : Int) (hpn : 0 ≤ pn ∧ pn ≤ 6) (htn : 0 ≤ tn ∧ tn ≤ 60) (htf : ∀ j : Int, 0 ≤ j ∧ j < 60 → 0 ≤ tf j ∧ tf j ≤ 255) (hp : 0 ≤ P ∧ P ≤ N ∧ N ≤ 150) (hhd : ∀ j : Int, 0 ≤ j ∧ j < 150 → 0 ≤ hd j ∧ hd j < 1152921504606846976) (hod : ∀ j : Int, 0 ≤ j ∧ j < P → 0 ≤ od j ∧ od j < N) (hso : ∀ i j : Int, 0 ≤ i → i < j → j < P → hd (od i) ≤ hd (od j)) (h_n : -2147483648 ≤ n ∧ n ≤ 2147483647) : gMx l yX4_entry wsX4_entry { frames := 6, cells := 1, slots := 6, locals := 90 } tL tH tS D (gT cB cI cJ cY) [.ref g0, .int (iZ n)] [(g0, .inr (4, [.ref qv, .ref qz, .int (iZ pn), .ref tp, .ref h, .ref ht, .ref qL, .ref hs, .ref hz, .int (iZ ch)])), (qz, .inl (cI, 6, .inl (zA pz))), (tp, .inr (2, [.ref qb, .int (iZ tn)])), (qb, .inl (cI, 60, .inl (zA tf))), (h, .inr (0, [.ref qh, .ref qm, .ref qs, .ref ql, .ref qd, .ref qo, .ref qp, .int (iZ N), .int (iZ P)])), (qh, .inl (cJ, 150, .inr (.inl (lA hd)))), (qm, .inl (cJ, 150, .inr (.inl (lA me)))), (qs, .inl (cI, 150, .inl (zA se))), (ql, .inl (cI, 900, .inl (zA ln))), (qo, .inl (cI, 150, .inl (zA od)))] 1 6 (qX4_entry cB cI cJ cY g0 qv qz tp h ht qL hs hz pn ch qh qm qs ql qd qo qp qb tf tn hd me se ln od pz N P n) (xX4_entry cB cI cJ cY g0 qv qz tp h ht qL hs hz pn ch qh qm qs ql qd qo qp qb tf tn hd me se ln od pz N P n) := by
  refine g_startX (cc := cX4_entry) (maxL := 5) (ret := some .int) (lv := [(0, .ref g0), (1, .int (iZ n))]) (by decide) rfl (Nat.le_of_ble_eq_true rfl) rfl ?_
  intro p e s m args below meth c A X hE htab hr
  have hin0 : ∀ w ∈ u_ws RX0 TX0 9, w ∈ wsX4_entry := by decide +kernel
  have hin2 : ∀ w ∈ u_ws RX2 TX2 2, w ∈ wsX4_entry := by decide +kernel
  have hin4 : ∀ w ∈ u_ws RX4 TX4 10, w ∈ wsX4_entry := by decide +kernel
  refine g_iload_n X 1 dX4_entry_0 rfl rfl ?_
  refine g_if_lt X 15 dX4_entry_1 (by decide) (by omega) (fun c_1 => ?_) (fun c_1 => ?_)
  · skip
    exact g_throw X hE hl htab (cls := "java/lang/IllegalArgumentException") (is := 83) (ic := 54) (by decide) (by decide) (by decide +kernel) (by decide +kernel) (List.mem_of_getElem? (i := 11) rfl) (by decide +kernel) (by decide +kernel) (by decide +kernel) dX4_entry_15 dX4_entry_18 dX4_entry_19 dX4_entry_21 dX4_entry_24 (by decide) (Nat.le_of_ble_eq_true rfl) (by decide) (by decide) (by decide) (by decide) ⟨rfl, by omega, rfl⟩
  · skip
    refine g_iload_n X 1 dX4_entry_4 rfl rfl ?_
    refine g_aload_n X 0 dX4_entry_5 rfl rfl ?_
    refine g_get X (index := 19) (ref := "GuideWords") hin4 0 rfl rfl 3 (by decide) rfl (by decide +kernel) (v := .ref tp) rfl dX4_entry_6 ?_
    refine g_callV0 X (As := []) (rest := [.int (iZ n)]) (ctX2_length l D cB cI cJ cY tp qb tf tn ) (cwV 0 X.2.2.2.2.1 gX4_entry_X2_length rfl rfl rfl (by decide +kernel) ⟨by decide, by decide⟩) 0 rfl rfl (wc := [(tp, .inr (2, [.ref qb, .int (iZ tn)])), (qb, .inl (cI, 60, .inl (zA tf)))]) (wr := [(g0, .inr (4, [.ref qv, .ref qz, .int (iZ pn), .ref tp, .ref h, .ref ht, .ref qL, .ref hs, .ref hz, .int (iZ ch)])), (qz, .inl (cI, 6, .inl (zA pz))), (h, .inr (0, [.ref qh, .ref qm, .ref qs, .ref ql, .ref qd, .ref qo, .ref qp, .int (iZ N), .int (iZ P)])), (qh, .inl (cJ, 150, .inr (.inl (lA hd)))), (qm, .inl (cJ, 150, .inr (.inl (lA me)))), (qs, .inl (cI, 150, .inl (zA se))), (ql, .inl (cI, 900, .inl (zA ln))), (qo, .inl (cI, 150, .inl (zA od)))]) [2, 3] [0, 1, 4, 5, 6, 7, 8, 9] rfl rfl (by decide) (by decide) (by decide) rfl rfl (Nat.le_of_ble_eq_true rfl) ⟨by decide, by decide⟩ dX4_entry_9 (fun v w1 hq => ?_)
    obtain ⟨rfl, rfl⟩ := hq
    refine g_eq (ws' := [(g0, .inr (4, [.ref qv, .ref qz, .int (iZ pn), .ref tp, .ref h, .ref ht, .ref qL, .ref hs, .ref hz, .int (iZ ch)])), (qz, .inl (cI, 6, .inl (zA pz))), (h, .inr (0, [.ref qh, .ref qm, .ref qs, .ref ql, .ref qd, .ref qo, .ref qp, .int (iZ N), .int (iZ P)])), (qh, .inl (cJ, 150, .inr (.inl (lA hd)))), (qm, .inl (cJ, 150, .inr (.inl (lA me)))), (qs, .inl (cI, 150, .inl (zA se))), (ql, .inl (cI, 900, .inl (zA ln))), (qo, .inl (cI, 150, .inl (zA od))), (tp, .inr (2, [.ref qb, .int (iZ tn)])), (qb, .inl (cI, 60, .inl (zA tf)))]) (pc' := 12) (st' := [.int (iZ tn), .int (iZ n)]) rfl rfl rfl rfl ?_
    refine g_perm (ws' := [(g0, .inr (4, [.ref qv, .ref qz, .int (iZ pn), .ref tp, .ref h, .ref ht, .ref qL, .ref hs, .ref hz, .int (iZ ch)])), (qz, .inl (cI, 6, .inl (zA pz))), (tp, .inr (2, [.ref qb, .int (iZ tn)])), (qb, .inl (cI, 60, .inl (zA tf))), (h, .inr (0, [.ref qh, .ref qm, .ref qs, .ref ql, .ref qd, .ref qo, .ref qp, .int (iZ N), .int (iZ P)])), (qh, .inl (cJ, 150, .inr (.inl (lA hd)))), (qm, .inl (cJ, 150, .inr (.inl (lA me)))), (qs, .inl (cI, 150, .inl (zA se))), (ql, .inl (cI, 900, .inl (zA ln))), (qo, .inl (cI, 150, .inl (zA od)))]) [0, 1, 8, 9, 2, 3, 4, 5, 6, 7] (by decide) rfl ?_
    refine g_icmp_le X 25 dX4_entry_12 (by decide) (by omega) (by omega) (fun c_12 => ?_) (fun c_12 => ?_)
    · skip
      refine g_aload_n X 0 dX4_entry_25 rfl rfl ?_
      refine g_get X (index := 19) (ref := "GuideWords") hin4 0 rfl rfl 3 (by decide) rfl (by decide +kernel) (v := .ref tp) rfl dX4_entry_26 ?_
      refine g_iconst X dX4_entry_29 ?_
      refine g_iload_n X 1 dX4_entry_30 rfl rfl ?_
      refine g_callV0 X (As := [.int (iZ 0), .int (iZ n)]) (rest := []) (ctX2_headAt l D cB cI cJ cY tp qb tf tn 0 n (by first | assumption | omega) (by first | assumption | omega) (by first | assumption | omega)) (cwV 2 X.2.2.2.2.1 gX4_entry_X2_headAt rfl rfl rfl (by decide +kernel) ⟨by decide, by decide⟩) 0 rfl rfl (wc := [(tp, .inr (2, [.ref qb, .int (iZ tn)])), (qb, .inl (cI, 60, .inl (zA tf)))]) (wr := [(g0, .inr (4, [.ref qv, .ref qz, .int (iZ pn), .ref tp, .ref h, .ref ht, .ref qL, .ref hs, .ref hz, .int (iZ ch)])), (qz, .inl (cI, 6, .inl (zA pz))), (h, .inr (0, [.ref qh, .ref qm, .ref qs, .ref ql, .ref qd, .ref qo, .ref qp, .int (iZ N), .int (iZ P)])), (qh, .inl (cJ, 150, .inr (.inl (lA hd)))), (qm, .inl (cJ, 150, .inr (.inl (lA me)))), (qs, .inl (cI, 150, .inl (zA se))), (ql, .inl (cI, 900, .inl (zA ln))), (qo, .inl (cI, 150, .inl (zA od)))]) [2, 3] [0, 1, 4, 5, 6, 7, 8, 9] rfl rfl (by decide) (by decide) (by decide) rfl rfl (Nat.le_of_ble_eq_true rfl) ⟨by decide, by decide⟩ dX4_entry_31 (fun v w1 hq => ?_)
      obtain ⟨x, rfl, hx0, rfl⟩ := hq
      refine g_eq (ws' := [(g0, .inr (4, [.ref qv, .ref qz, .int (iZ pn), .ref tp, .ref h, .ref ht, .ref qL, .ref hs, .ref hz, .int (iZ ch)])), (qz, .inl (cI, 6, .inl (zA pz))), (h, .inr (0, [.ref qh, .ref qm, .ref qs, .ref ql, .ref qd, .ref qo, .ref qp, .int (iZ N), .int (iZ P)])), (qh, .inl (cJ, 150, .inr (.inl (lA hd)))), (qm, .inl (cJ, 150, .inr (.inl (lA me)))), (qs, .inl (cI, 150, .inl (zA se))), (ql, .inl (cI, 900, .inl (zA ln))), (qo, .inl (cI, 150, .inl (zA od))), (tp, .inr (2, [.ref qb, .int (iZ tn)])), (qb, .inl (cI, 60, .inl (zA tf)))]) (pc' := 34) (st' := [.long (lZ x)]) rfl rfl rfl rfl ?_
      refine g_perm (ws' := [(g0, .inr (4, [.ref qv, .ref qz, .int (iZ pn), .ref tp, .ref h, .ref ht, .ref qL, .ref hs, .ref hz, .int (iZ ch)])), (qz, .inl (cI, 6, .inl (zA pz))), (tp, .inr (2, [.ref qb, .int (iZ tn)])), (qb, .inl (cI, 60, .inl (zA tf))), (h, .inr (0, [.ref qh, .ref qm, .ref qs, .ref ql, .ref qd, .ref qo, .ref qp, .int (iZ N), .int (iZ P)])), (qh, .inl (cJ, 150, .inr (.inl (lA hd)))), (qm, .inl (cJ, 150, .inr (.inl (lA me)))), (qs, .inl (cI, 150, .inl (zA se))), (ql, .inl (cI, 900, .inl (zA ln))), (qo, .inl (cI, 150, .inl (zA od)))]) [0, 1, 8, 9, 2, 3, 4, 5, 6, 7] (by decide) rfl ?_
      have hxr := hdVal_rng hx0
      refine g_lstore_n (lv2 := [(2, .long (lZ x)), (0, .ref g0), (1, .int (iZ n))]) X dX4_entry_34 rfl (by decide) rfl ?_
      refine g_aload_n X 1 dX4_entry_35 rfl rfl ?_
      refine g_get X (index := 67) (ref := "GuideWords") hin4 0 rfl rfl 2 (by decide) rfl (by decide +kernel) (v := .int (iZ pn)) rfl dX4_entry_36 ?_
      refine g_istore (lv2 := [(4, .int (iZ pn)), (2, .long (lZ x)), (0, .ref g0), (1, .int (iZ n))]) X dX4_entry_39 (by decide) rfl ?_
      refine g_aload_n X 2 dX4_entry_41 rfl rfl ?_
      refine g_get X (index := 19) (ref := "GuideWords") hin4 0 rfl rfl 3 (by decide) rfl (by decide +kernel) (v := .ref tp) rfl dX4_entry_42 ?_
      refine g_callV0 X (As := []) (rest := []) (ctX2_clear l D cB cI cJ cY tp qb tf tn ) (cwV 0 X.2.2.2.2.1 gX4_entry_X2_clear rfl rfl rfl (by decide +kernel) ⟨by decide, by decide⟩) 0 rfl rfl (wc := [(tp, .inr (2, [.ref qb, .int (iZ tn)])), (qb, .inl (cI, 60, .inl (zA tf)))]) (wr := [(g0, .inr (4, [.ref qv, .ref qz, .int (iZ pn), .ref tp, .ref h, .ref ht, .ref qL, .ref hs, .ref hz, .int (iZ ch)])), (qz, .inl (cI, 6, .inl (zA pz))), (h, .inr (0, [.ref qh, .ref qm, .ref qs, .ref ql, .ref qd, .ref qo, .ref qp, .int (iZ N), .int (iZ P)])), (qh, .inl (cJ, 150, .inr (.inl (lA hd)))), (qm, .inl (cJ, 150, .inr (.inl (lA me)))), (qs, .inl (cI, 150, .inl (zA se))), (ql, .inl (cI, 900, .inl (zA ln))), (qo, .inl (cI, 150, .inl (zA od)))]) [2, 3] [0, 1, 4, 5, 6, 7, 8, 9] rfl rfl (by decide) (by decide) (by decide) rfl rfl (Nat.le_of_ble_eq_true rfl) ⟨by decide, by decide⟩ dX4_entry_45 (fun v w1 hq => ?_)
      obtain ⟨rfl, rfl⟩ := hq
      refine g_eq (ws' := [(g0, .inr (4, [.ref qv, .ref qz, .int (iZ pn), .ref tp, .ref h, .ref ht, .ref qL, .ref hs, .ref hz, .int (iZ ch)])), (qz, .inl (cI, 6, .inl (zA pz))), (h, .inr (0, [.ref qh, .ref qm, .ref qs, .ref ql, .ref qd, .ref qo, .ref qp, .int (iZ N), .int (iZ P)])), (qh, .inl (cJ, 150, .inr (.inl (lA hd)))), (qm, .inl (cJ, 150, .inr (.inl (lA me)))), (qs, .inl (cI, 150, .inl (zA se))), (ql, .inl (cI, 900, .inl (zA ln))), (qo, .inl (cI, 150, .inl (zA od))), (tp, .inr (2, [.ref qb, .int (iZ 0)])), (qb, .inl (cI, 60, .inl (zA tf)))]) (pc' := 48) (st' := []) rfl rfl rfl rfl ?_
      refine g_perm (ws' := [(g0, .inr (4, [.ref qv, .ref qz, .int (iZ pn), .ref tp, .ref h, .ref ht, .ref qL, .ref hs, .ref hz, .int (iZ ch)])), (qz, .inl (cI, 6, .inl (zA pz))), (tp, .inr (2, [.ref qb, .int (iZ 0)])), (qb, .inl (cI, 60, .inl (zA tf))), (h, .inr (0, [.ref qh, .ref qm, .ref qs, .ref ql, .ref qd, .ref qo, .ref qp, .int (iZ N), .int (iZ P)])), (qh, .inl (cJ, 150, .inr (.inl (lA hd)))), (qm, .inl (cJ, 150, .inr (.inl (lA me)))), (qs, .inl (cI, 150, .inl (zA se))), (ql, .inl (cI, 900, .inl (zA ln))), (qo, .inl (cI, 150, .inl (zA od)))]) [0, 1, 8, 9, 2, 3, 4, 5, 6, 7] (by decide) rfl ?_
      refine g_aload_n X 2 dX4_entry_48 rfl rfl ?_
      refine g_iconst X dX4_entry_49 ?_
      refine g_put X (index := 67) (ref := "GuideWords") hin4 0 rfl rfl 2 (by decide) rfl tyX4 tyX4_ok nmX4 (by decide +kernel) rfl rfl rfl rfl (Nat.le_of_ble_eq_true rfl) (ws2 := [(g0, .inr (4, [.ref qv, .ref qz, .int (iZ 0), .ref tp, .ref h, .ref ht, .ref qL, .ref hs, .ref hz, .int (iZ ch)])), (qz, .inl (cI, 6, .inl (zA pz))), (tp, .inr (2, [.ref qb, .int (iZ 0)])), (qb, .inl (cI, 60, .inl (zA tf))), (h, .inr (0, [.ref qh, .ref qm, .ref qs, .ref ql, .ref qd, .ref qo, .ref qp, .int (iZ N), .int (iZ P)])), (qh, .inl (cJ, 150, .inr (.inl (lA hd)))), (qm, .inl (cJ, 150, .inr (.inl (lA me)))), (qs, .inl (cI, 150, .inl (zA se))), (ql, .inl (cI, 900, .inl (zA ln))), (qo, .inl (cI, 150, .inl (zA od)))]) rfl dX4_entry_50 ?_
      refine g_lload_n X 1 dX4_entry_53 rfl rfl ?_
      refine g_lconst (z := 0) X dX4_entry_54 rfl ?_
      refine g_lcmp X dX4_entry_55 (by omega) (by omega) ?_
      refine g_if_ne X 61 dX4_entry_56 (by decide) (by have := cmpZ_rng (x) (0); omega) (fun c_56 => ?_) (fun c_56 => ?_)
      · skip
        have c_56 : ¬ x = 0 := by have h9 := @cmpZ_eq (x) (0); omega
        refine g_iload X 0 dX4_entry_61 rfl ?_
        refine g_if_ne X 69 dX4_entry_63 (by decide) (by omega) (fun c_63 => ?_) (fun c_63 => ?_)
        · skip
          refine g_aload_n X 2 dX4_entry_69 rfl rfl ?_
          refine g_get X (index := 26) (ref := "GuideWords") hin4 0 rfl rfl 4 (by decide) rfl (by decide +kernel) (v := .ref h) rfl dX4_entry_70 ?_
          refine g_lload_n X 1 dX4_entry_73 rfl rfl ?_
          refine g_lconst (z := 0) X dX4_entry_74 rfl ?_
          refine g_aload_n X 2 dX4_entry_75 rfl rfl ?_
          refine g_get X (index := 13) (ref := "GuideWords") hin4 0 rfl rfl 1 (by decide) rfl (by decide +kernel) (v := .ref qz) rfl dX4_entry_76 ?_
          refine g_iload X 0 dX4_entry_79 rfl ?_
          refine g_callV0 X (As := [.long (lZ x), .long (lZ 0), .ref qz, .int (iZ pn)]) (rest := []) (ctX0_admit l D cB cI cJ cY h qh qm qs ql qd qo qp qz hd me se ln od pz N P x 0 pn (by first | assumption | omega) (by first | assumption | omega) (by first | assumption | omega) (by first | assumption | omega) (by first | assumption | omega) (by first | assumption | omega)) (cwV 4 X.2.2.2.2.1 gX4_entry_X0_admit rfl rfl rfl (by decide +kernel) ⟨by decide, by decide⟩) 0 rfl rfl (wc := [(h, .inr (0, [.ref qh, .ref qm, .ref qs, .ref ql, .ref qd, .ref qo, .ref qp, .int (iZ N), .int (iZ P)])), (qh, .inl (cJ, 150, .inr (.inl (lA hd)))), (qm, .inl (cJ, 150, .inr (.inl (lA me)))), (qs, .inl (cI, 150, .inl (zA se))), (ql, .inl (cI, 900, .inl (zA ln))), (qo, .inl (cI, 150, .inl (zA od))), (qz, .inl (cI, 6, .inl (zA pz)))]) (wr := [(g0, .inr (4, [.ref qv, .ref qz, .int (iZ 0), .ref tp, .ref h, .ref ht, .ref qL, .ref hs, .ref hz, .int (iZ ch)])), (tp, .inr (2, [.ref qb, .int (iZ 0)])), (qb, .inl (cI, 60, .inl (zA tf)))]) [4, 5, 6, 7, 8, 9, 1] [0, 2, 3] rfl rfl (by decide) (by decide) (by decide) rfl rfl (Nat.le_of_ble_eq_true rfl) ⟨by decide, by decide⟩ dX4_entry_81 (fun v w1 hq => ?_)
          obtain ⟨r, hd2, me2, se2, ln2, od2, N2, P2, rfl, had, rfl⟩ := hq
          refine g_eq (ws' := [(g0, .inr (4, [.ref qv, .ref qz, .int (iZ 0), .ref tp, .ref h, .ref ht, .ref qL, .ref hs, .ref hz, .int (iZ ch)])), (tp, .inr (2, [.ref qb, .int (iZ 0)])), (qb, .inl (cI, 60, .inl (zA tf))), (h, .inr (0, [.ref qh, .ref qm, .ref qs, .ref ql, .ref qd, .ref qo, .ref qp, .int (iZ N2), .int (iZ P2)])), (qh, .inl (cJ, 150, .inr (.inl (lA hd2)))), (qm, .inl (cJ, 150, .inr (.inl (lA me2)))), (qs, .inl (cI, 150, .inl (zA se2))), (ql, .inl (cI, 900, .inl (zA ln2))), (qo, .inl (cI, 150, .inl (zA od2))), (qz, .inl (cI, 6, .inl (zA pz)))]) (pc' := 84) (st' := [.int (iZ r)]) rfl rfl rfl rfl ?_
          refine g_perm (ws' := [(g0, .inr (4, [.ref qv, .ref qz, .int (iZ 0), .ref tp, .ref h, .ref ht, .ref qL, .ref hs, .ref hz, .int (iZ ch)])), (qz, .inl (cI, 6, .inl (zA pz))), (tp, .inr (2, [.ref qb, .int (iZ 0)])), (qb, .inl (cI, 60, .inl (zA tf))), (h, .inr (0, [.ref qh, .ref qm, .ref qs, .ref ql, .ref qd, .ref qo, .ref qp, .int (iZ N2), .int (iZ P2)])), (qh, .inl (cJ, 150, .inr (.inl (lA hd2)))), (qm, .inl (cJ, 150, .inr (.inl (lA me2)))), (qs, .inl (cI, 150, .inl (zA se2))), (ql, .inl (cI, 900, .inl (zA ln2))), (qo, .inl (cI, 150, .inl (zA od2)))]) [0, 9, 1, 2, 3, 4, 5, 6, 7, 8] (by decide) rfl ?_
          exact g_iretX X hr (by decide) (by decide) dX4_entry_84 ⟨_, x, _, _, _, _, _, _, _, rfl, by omega, ⟨hx0, Or.inr (Or.inr ⟨c_56, c_63, had⟩)⟩, rfl⟩
        · skip
          refine g_bipush X dX4_entry_66 (by decide) ?_
          exact g_iretX X hr (by decide) (by decide) dX4_entry_68 ⟨_, x, hd, me, se, ln, od, N, P, rfl, by omega, ⟨hx0, Or.inr (Or.inl ⟨c_56, c_63, rfl, rfl, rfl, rfl, rfl, rfl, rfl, rfl⟩)⟩, rfl⟩
      · skip
        have c_56 : x = 0 := by have h9 := @cmpZ_eq (x) (0); omega
        refine g_iconst X dX4_entry_59 ?_
        exact g_iretX X hr (by decide) (by decide) dX4_entry_60 ⟨_, x, hd, me, se, ln, od, N, P, rfl, by omega, ⟨hx0, Or.inl ⟨c_56, rfl, rfl, rfl, rfl, rfl, rfl, rfl, rfl⟩⟩, rfl⟩
    · skip
      exact g_throw X hE hl htab (cls := "java/lang/IllegalArgumentException") (is := 83) (ic := 54) (by decide) (by decide) (by decide +kernel) (by decide +kernel) (List.mem_of_getElem? (i := 11) rfl) (by decide +kernel) (by decide +kernel) (by decide +kernel) dX4_entry_15 dX4_entry_18 dX4_entry_19 dX4_entry_21 dX4_entry_24 (by decide) (Nat.le_of_ble_eq_true rfl) (by decide) (by decide) (by decide) (by decide) ⟨rfl, by omega, rfl⟩
def qX0_admit_S (cB cI cJ cY : ClassId) (h : Nat) (qh : Nat) (qm : Nat) (qs : Nat) (ql : Nat) (qd : Nat) (qo : Nat) (qp : Nat) (hd : Int → Int) (me : Int → Int) (se : Int → Int) (ln : Int → Int) (od : Int → Int) (N : Int) (P : Int) (x : Int) (y : Int) : Option Value → va_W → Prop := fun rv w1 => ∃ (res : Int) (hd2 : Int → Int) (me2 : Int → Int) (se2 : Int → Int) (ln2 : Int → Int) (od2 : Int → Int) (N2 : Int) (P2 : Int), rv = some (.int (iZ res)) ∧ admZ hd me se ln od (fun _ => 1) N P x y 1 res hd2 me2 se2 ln2 od2 N2 P2 ∧ w1 = [(h, .inr (0, [.ref qh, .ref qm, .ref qs, .ref ql, .ref qd, .ref qo, .ref qp, .int (iZ N2), .int (iZ P2)])), (qh, .inl (cJ, 150, .inr (.inl (lA hd2)))), (qm, .inl (cJ, 150, .inr (.inl (lA me2)))), (qs, .inl (cI, 150, .inl (zA se2))), (ql, .inl (cI, 900, .inl (zA ln2))), (qo, .inl (cI, 150, .inl (zA od2)))]
def xX0_admit_S (cB cI cJ cY : ClassId) (h : Nat) (qh : Nat) (qm : Nat) (qs : Nat) (ql : Nat) (qd : Nat) (qo : Nat) (qp : Nat) (hd : Int → Int) (me : Int → Int) (se : Int → Int) (ln : Int → Int) (od : Int → Int) (N : Int) (P : Int) (x : Int) (y : Int) : String → va_W → Prop := fun E9 w1 => False ∧ w1 = []
set_option maxHeartbeats 4000000 in
set_option maxRecDepth 100000 in
theorem ctX0_admit_S (l : Launch) (hl : l.stackTraces = false) (tL tH tS : Nat) (D : va_G) (cB cI cJ cY : ClassId) (h : Nat) (qh : Nat) (qm : Nat) (qs : Nat) (ql : Nat) (qd : Nat) (qo : Nat) (qp : Nat) (hd : Int → Int) (me : Int → Int) (se : Int → Int) (ln : Int → Int) (od : Int → Int) (N : Int) (P : Int) (x : Int) (y : Int) (hp : 0 ≤ P ∧ P ≤ N ∧ N ≤ 150) (hhd : ∀ j : Int, 0 ≤ j ∧ j < 150 → 0 ≤ hd j ∧ hd j < 1152921504606846976) (hod : ∀ j : Int, 0 ≤ j ∧ j < P → 0 ≤ od j ∧ od j < N) (hso : ∀ i j : Int, 0 ≤ i → i < j → j < P → hd (od i) ≤ hd (od j)) (hx : 0 ≤ x ∧ x < 1152921504606846976) : gMx l yX0_admit wsX0_admit { frames := 1, cells := 0, slots := 0, locals := 26 } tL tH tS D (gT cB cI cJ cY) [.ref h, .long (lZ x), .long (lZ y), .ref tS, .int (iZ 1)] [(h, .inr (0, [.ref qh, .ref qm, .ref qs, .ref ql, .ref qd, .ref qo, .ref qp, .int (iZ N), .int (iZ P)])), (qh, .inl (cJ, 150, .inr (.inl (lA hd)))), (qm, .inl (cJ, 150, .inr (.inl (lA me)))), (qs, .inl (cI, 150, .inl (zA se))), (ql, .inl (cI, 900, .inl (zA ln))), (qo, .inl (cI, 150, .inl (zA od)))] 0 0 (qX0_admit_S cB cI cJ cY h qh qm qs ql qd qo qp hd me se ln od N P x y) (xX0_admit_S cB cI cJ cY h qh qm qs ql qd qo qp hd me se ln od N P x y) := by
  refine g_startX (cc := cX0_admit) (maxL := 10) (ret := some .int) (lv := [(0, .ref h), (1, .long (lZ x)), (3, .long (lZ y)), (5, .ref tS), (6, .int (iZ 1))]) (by decide) rfl (Nat.le_of_ble_eq_true rfl) rfl ?_
  intro p e s m args below meth c A X hE htab hr
  have hin0 : ∀ w ∈ u_ws RX0 TX0 9, w ∈ wsX0_admit := by decide +kernel
  refine g_aload_n X 0 dX0_admit_0 rfl rfl ?_
  refine g_get X (index := 35) (ref := "GuideWords$Lexicon") hin0 0 rfl rfl 7 (by decide) rfl (by decide +kernel) (v := .int (iZ N)) rfl dX0_admit_1 ?_
  refine g_sipush X dX0_admit_4 (by decide) ?_
  refine g_icmp_lt X 13 dX0_admit_7 (by decide) (by omega) (by omega) (fun c_7 => ?_) (fun c_7 => ?_)
  · skip
    refine g_aload_n X 0 dX0_admit_13 rfl rfl ?_
    refine g_get X (index := 35) (ref := "GuideWords$Lexicon") hin0 0 rfl rfl 7 (by decide) rfl (by decide +kernel) (v := .int (iZ N)) rfl dX0_admit_14 ?_
    refine g_istore (lv2 := [(7, .int (iZ N)), (0, .ref h), (1, .long (lZ x)), (3, .long (lZ y)), (5, .ref tS), (6, .int (iZ 1))]) X dX0_admit_17 (by decide) rfl ?_
    refine g_aload_n X 1 dX0_admit_19 rfl rfl ?_
    refine g_get X (index := 9) (ref := "GuideWords$Lexicon") hin0 0 rfl rfl 0 (by decide) rfl (by decide +kernel) (v := .ref qh) rfl dX0_admit_20 ?_
    refine g_iload X 0 dX0_admit_23 rfl ?_
    refine g_lload_n X 2 dX0_admit_25 rfl rfl ?_
    refine g_last X 1 2 rfl rfl (by omega) (by decide) (ws2 := [(h, .inr (0, [.ref qh, .ref qm, .ref qs, .ref ql, .ref qd, .ref qo, .ref qp, .int (iZ N), .int (iZ P)])), (qh, .inl (cJ, 150, .inr (.inl (lA (upZ hd N x))))), (qm, .inl (cJ, 150, .inr (.inl (lA me)))), (qs, .inl (cI, 150, .inl (zA se))), (ql, .inl (cI, 900, .inl (zA ln))), (qo, .inl (cI, 150, .inl (zA od)))]) rfl dX0_admit_26 ?_
    refine g_aload_n X 1 dX0_admit_27 rfl rfl ?_
    refine g_get X (index := 15) (ref := "GuideWords$Lexicon") hin0 0 rfl rfl 1 (by decide) rfl (by decide +kernel) (v := .ref qm) rfl dX0_admit_28 ?_
    refine g_iload X 0 dX0_admit_31 rfl ?_
    refine g_lload_n X 3 dX0_admit_33 rfl rfl ?_
    refine g_last X 2 2 rfl rfl (by omega) (by decide) (ws2 := [(h, .inr (0, [.ref qh, .ref qm, .ref qs, .ref ql, .ref qd, .ref qo, .ref qp, .int (iZ N), .int (iZ P)])), (qh, .inl (cJ, 150, .inr (.inl (lA (upZ hd N x))))), (qm, .inl (cJ, 150, .inr (.inl (lA (upZ me N y))))), (qs, .inl (cI, 150, .inl (zA se))), (ql, .inl (cI, 900, .inl (zA ln))), (qo, .inl (cI, 150, .inl (zA od)))]) rfl dX0_admit_34 ?_
    refine g_aload_n X 1 dX0_admit_35 rfl rfl ?_
    refine g_get X (index := 18) (ref := "GuideWords$Lexicon") hin0 0 rfl rfl 2 (by decide) rfl (by decide +kernel) (v := .ref qs) rfl dX0_admit_36 ?_
    refine g_iload X 0 dX0_admit_39 rfl ?_
    refine g_iload X 5 dX0_admit_41 rfl ?_
    refine g_iast X 3 1 rfl rfl (by omega) (by decide) (ws2 := [(h, .inr (0, [.ref qh, .ref qm, .ref qs, .ref ql, .ref qd, .ref qo, .ref qp, .int (iZ N), .int (iZ P)])), (qh, .inl (cJ, 150, .inr (.inl (lA (upZ hd N x))))), (qm, .inl (cJ, 150, .inr (.inl (lA (upZ me N y))))), (qs, .inl (cI, 150, .inl (zA (upZ se N 1)))), (ql, .inl (cI, 900, .inl (zA ln))), (qo, .inl (cI, 150, .inl (zA od)))]) rfl dX0_admit_43 ?_
    refine g_iconst X dX0_admit_44 ?_
    refine g_istore (lv2 := [(8, .int (iZ 0)), (7, .int (iZ N)), (0, .ref h), (1, .long (lZ x)), (3, .long (lZ y)), (5, .ref tS), (6, .int (iZ 1))]) X dX0_admit_45 (by decide) rfl ?_
    refine g_lv (lv' := [(0, .ref h), (1, .long (lZ x)), (3, .long (lZ y)), (5, .ref tS), (6, .int (iZ 1)), (7, .int (iZ N)), (8, .int (iZ 0))]) [2, 3, 4, 5, 6, 1, 0] rfl ?_
    have loop_47 : ∀ (kf : Nat) (i : Int) (g : Int → Int), (hi : 0 ≤ i ∧ i ≤ 1) → (hg1 : ∀ s : Int, 0 ≤ s → s < i → g (N * 6 + s) = (1 : Int)) → (hg2 : ∀ j : Int, (j < N * 6 ∨ N * 6 + i ≤ j) → g j = ln j) → (1 - i).toNat < kf → gW p l e { frames := 1, cells := 0, slots := 0, locals := 26 } s m args below meth c D A 10 0 0 (vx_MQ below (gQ D (gT cB cI cJ cY) (qX0_admit_S cB cI cJ cY h qh qm qs ql qd qo qp hd me se ln od N P x y) A) (gXC D (gT cB cI cJ cY) (xX0_admit_S cB cI cJ cY h qh qm qs ql qd qo qp hd me se ln od N P x y) A) args s 0 0 A) [(h, .inr (0, [.ref qh, .ref qm, .ref qs, .ref ql, .ref qd, .ref qo, .ref qp, .int (iZ N), .int (iZ P)])), (qh, .inl (cJ, 150, .inr (.inl (lA (upZ hd N x))))), (qm, .inl (cJ, 150, .inr (.inl (lA (upZ me N y))))), (qs, .inl (cI, 150, .inl (zA (upZ se N 1)))), (ql, .inl (cI, 900, .inl (zA g))), (qo, .inl (cI, 150, .inl (zA od)))] 47 [(0, .ref h), (1, .long (lZ x)), (3, .long (lZ y)), (5, .ref tS), (6, .int (iZ 1)), (7, .int (iZ N)), (8, .int (iZ i))] [] := by
      intro kf
      induction kf with
      | zero => intro i g hi hg1 hg2 hm; exact absurd hm (Nat.not_lt_zero _)
      | succ kf ih_47 =>
        intro i g hi hg1 hg2 hm
        refine g_iload X 6 dX0_admit_47 rfl ?_
        refine g_iload X 4 dX0_admit_49 rfl ?_
        refine g_icmp_ge X 78 dX0_admit_51 (by decide) (by omega) (by omega) (fun c_51 => ?_) (fun c_51 => ?_)
        · skip
          have hhd2 : ∀ j : Int, 0 ≤ j ∧ j < 150 → 0 ≤ upZ hd N x j ∧ upZ hd N x j < 1152921504606846976 := fun j hj => by
            unfold upZ; split
            · exact hx
            · exact hhd j hj
          have hso2 : ∀ i j : Int, 0 ≤ i → i < j → j < P → upZ hd N x (od i) ≤ upZ hd N x (od j) := fun i j h1 h2 h3 => by
            have h4 := hod i (by omega); have h5 := hod j (by omega)
            rw [upZ_n (by omega), upZ_n (by omega)]; exact hso i j h1 h2 h3
          refine g_aload_n X 0 dX0_admit_78 rfl rfl ?_
          refine g_lload_n X 1 dX0_admit_79 rfl rfl ?_
          refine g_lconst (z := 1) X dX0_admit_80 rfl ?_
          refine g_ladd X dX0_admit_81 ?_
          refine g_callV0 X (As := [.long (lZ (x + 1))]) (rest := []) (ctX0_headsBelow l D cB cI cJ cY h qh qm qs ql qd qo qp (upZ hd N x) od N P (x + 1) (by first | assumption | omega) hhd2 hod hso2 (by first | assumption | omega)) (cwV 1 X.2.2.2.2.1 gX0_admit_X0_headsBelow rfl rfl rfl (by decide +kernel) ⟨by decide, by decide⟩) 0 rfl rfl (wc := [(h, .inr (0, [.ref qh, .ref qm, .ref qs, .ref ql, .ref qd, .ref qo, .ref qp, .int (iZ N), .int (iZ P)])), (qh, .inl (cJ, 150, .inr (.inl (lA (upZ hd N x))))), (qo, .inl (cI, 150, .inl (zA od)))]) (wr := [(qm, .inl (cJ, 150, .inr (.inl (lA (upZ me N y))))), (qs, .inl (cI, 150, .inl (zA (upZ se N 1)))), (ql, .inl (cI, 900, .inl (zA g)))]) [0, 1, 5] [2, 3, 4] rfl rfl (by decide) (by decide) (by decide) rfl rfl (Nat.le_of_ble_eq_true rfl) ⟨by decide, by decide⟩ dX0_admit_82 (fun v w1 hq => ?_)
          obtain ⟨b, rfl, hb, rfl⟩ := hq
          refine g_eq (ws' := [(qm, .inl (cJ, 150, .inr (.inl (lA (upZ me N y))))), (qs, .inl (cI, 150, .inl (zA (upZ se N 1)))), (ql, .inl (cI, 900, .inl (zA g))), (h, .inr (0, [.ref qh, .ref qm, .ref qs, .ref ql, .ref qd, .ref qo, .ref qp, .int (iZ N), .int (iZ P)])), (qh, .inl (cJ, 150, .inr (.inl (lA ((upZ hd N x)))))), (qo, .inl (cI, 150, .inl (zA od)))]) (pc' := 85) (st' := [.int (iZ b)]) rfl rfl rfl rfl ?_
          refine g_perm (ws' := [(h, .inr (0, [.ref qh, .ref qm, .ref qs, .ref ql, .ref qd, .ref qo, .ref qp, .int (iZ N), .int (iZ P)])), (qh, .inl (cJ, 150, .inr (.inl (lA ((upZ hd N x)))))), (qm, .inl (cJ, 150, .inr (.inl (lA (upZ me N y))))), (qs, .inl (cI, 150, .inl (zA (upZ se N 1)))), (ql, .inl (cI, 900, .inl (zA g))), (qo, .inl (cI, 150, .inl (zA od)))]) [3, 4, 0, 1, 2, 5] (by decide) rfl ?_
          have hb2 : belowZ hd od P (x + 1) b := ⟨hb.1, hb.2.1, fun k h1 h2 => by have h3 := hb.2.2.1 k h1 h2; have h4 := hod k (by have := hb.2.1; omega); rw [upZ_n (by omega)] at h3; exact h3, fun k h1 h2 => by have h3 := hb.2.2.2 k h1 h2; have h4 := hod k (by have := hb.1; omega); rw [upZ_n (by omega)] at h3; exact h3⟩
          obtain ⟨b1, b2, b3, b4⟩ := id hb2
          refine g_istore (lv2 := [(8, .int (iZ b)), (0, .ref h), (1, .long (lZ x)), (3, .long (lZ y)), (5, .ref tS), (6, .int (iZ 1)), (7, .int (iZ N))]) X dX0_admit_85 (by decide) rfl ?_
          refine g_aload_n X 1 dX0_admit_87 rfl rfl ?_
          refine g_get X (index := 43) (ref := "GuideWords$Lexicon") hin0 0 rfl rfl 8 (by decide) rfl (by decide +kernel) (v := .int (iZ P)) rfl dX0_admit_88 ?_
          refine g_istore (lv2 := [(9, .int (iZ P)), (8, .int (iZ b)), (0, .ref h), (1, .long (lZ x)), (3, .long (lZ y)), (5, .ref tS), (6, .int (iZ 1)), (7, .int (iZ N))]) X dX0_admit_91 (by decide) rfl ?_
          refine g_lv (lv' := [(0, .ref h), (7, .int (iZ N)), (8, .int (iZ b)), (9, .int (iZ P))]) [2, 7, 1, 0] rfl ?_
          have loop_93 : ∀ (kf : Nat) (k : Int) (g2 : Int → Int), (hk : b ≤ k ∧ k ≤ P) → (hm1 : ∀ j : Int, 0 ≤ j → j ≤ k → g2 j = od j) → (hm2 : ∀ j : Int, k < j → j ≤ P → g2 j = od (j - 1)) → (k - b).toNat < kf → gW p l e { frames := 1, cells := 0, slots := 0, locals := 26 } s m args below meth c D A 10 0 0 (vx_MQ below (gQ D (gT cB cI cJ cY) (qX0_admit_S cB cI cJ cY h qh qm qs ql qd qo qp hd me se ln od N P x y) A) (gXC D (gT cB cI cJ cY) (xX0_admit_S cB cI cJ cY h qh qm qs ql qd qo qp hd me se ln od N P x y) A) args s 0 0 A) [(h, .inr (0, [.ref qh, .ref qm, .ref qs, .ref ql, .ref qd, .ref qo, .ref qp, .int (iZ N), .int (iZ P)])), (qh, .inl (cJ, 150, .inr (.inl (lA ((upZ hd N x)))))), (qm, .inl (cJ, 150, .inr (.inl (lA (upZ me N y))))), (qs, .inl (cI, 150, .inl (zA (upZ se N 1)))), (ql, .inl (cI, 900, .inl (zA g))), (qo, .inl (cI, 150, .inl (zA g2)))] 93 [(0, .ref h), (7, .int (iZ N)), (8, .int (iZ b)), (9, .int (iZ k))] [] := by
            intro kf
            induction kf with
            | zero => intro k g2 hk hm1 hm2 hm; exact absurd hm (Nat.not_lt_zero _)
            | succ kf ih_93 =>
              intro k g2 hk hm1 hm2 hm
              refine g_iload X 3 dX0_admit_93 rfl ?_
              refine g_iload X 2 dX0_admit_95 rfl ?_
              refine g_icmp_le X 122 dX0_admit_97 (by decide) (by omega) (by omega) (fun c_97 => ?_) (fun c_97 => ?_)
              · skip
                refine g_aload_n X 0 dX0_admit_122 rfl rfl ?_
                refine g_get X (index := 29) (ref := "GuideWords$Lexicon") hin0 0 rfl rfl 5 (by decide) rfl (by decide +kernel) (v := .ref qo) rfl dX0_admit_123 ?_
                refine g_iload X 2 dX0_admit_126 rfl ?_
                refine g_iload X 1 dX0_admit_128 rfl ?_
                refine g_iast X 5 1 rfl rfl (by omega) (by decide) (ws2 := [(h, .inr (0, [.ref qh, .ref qm, .ref qs, .ref ql, .ref qd, .ref qo, .ref qp, .int (iZ N), .int (iZ P)])), (qh, .inl (cJ, 150, .inr (.inl (lA ((upZ hd N x)))))), (qm, .inl (cJ, 150, .inr (.inl (lA (upZ me N y))))), (qs, .inl (cI, 150, .inl (zA (upZ se N 1)))), (ql, .inl (cI, 900, .inl (zA g))), (qo, .inl (cI, 150, .inl (zA (upZ g2 b N))))]) rfl dX0_admit_130 ?_
                refine g_aload_n X 0 dX0_admit_131 rfl rfl ?_
                refine g_dup X dX0_admit_132 rfl ?_
                refine g_get X (index := 43) (ref := "GuideWords$Lexicon") hin0 0 rfl rfl 8 (by decide) rfl (by decide +kernel) (v := .int (iZ P)) rfl dX0_admit_133 ?_
                refine g_iconst X dX0_admit_136 ?_
                refine g_iadd X dX0_admit_137 ?_
                refine g_put X (index := 43) (ref := "GuideWords$Lexicon") hin0 0 rfl rfl 8 (by decide) rfl tyX0 tyX0_ok nmX0 (by decide +kernel) rfl rfl rfl rfl (Nat.le_of_ble_eq_true rfl) (ws2 := [(h, .inr (0, [.ref qh, .ref qm, .ref qs, .ref ql, .ref qd, .ref qo, .ref qp, .int (iZ N), .int (iZ (P + 1))])), (qh, .inl (cJ, 150, .inr (.inl (lA ((upZ hd N x)))))), (qm, .inl (cJ, 150, .inr (.inl (lA (upZ me N y))))), (qs, .inl (cI, 150, .inl (zA (upZ se N 1)))), (ql, .inl (cI, 900, .inl (zA g))), (qo, .inl (cI, 150, .inl (zA (upZ g2 b N))))]) rfl dX0_admit_138 ?_
                refine g_aload_n X 0 dX0_admit_141 rfl rfl ?_
                refine g_dup X dX0_admit_142 rfl ?_
                refine g_get X (index := 35) (ref := "GuideWords$Lexicon") hin0 0 rfl rfl 7 (by decide) rfl (by decide +kernel) (v := .int (iZ N)) rfl dX0_admit_143 ?_
                refine g_iconst X dX0_admit_146 ?_
                refine g_iadd X dX0_admit_147 ?_
                refine g_put X (index := 35) (ref := "GuideWords$Lexicon") hin0 0 rfl rfl 7 (by decide) rfl tyX0 tyX0_ok nmX0 (by decide +kernel) rfl rfl rfl rfl (Nat.le_of_ble_eq_true rfl) (ws2 := [(h, .inr (0, [.ref qh, .ref qm, .ref qs, .ref ql, .ref qd, .ref qo, .ref qp, .int (iZ (N + 1)), .int (iZ (P + 1))])), (qh, .inl (cJ, 150, .inr (.inl (lA ((upZ hd N x)))))), (qm, .inl (cJ, 150, .inr (.inl (lA (upZ me N y))))), (qs, .inl (cI, 150, .inl (zA (upZ se N 1)))), (ql, .inl (cI, 900, .inl (zA g))), (qo, .inl (cI, 150, .inl (zA (upZ g2 b N))))]) rfl dX0_admit_148 ?_
                refine g_iload X 1 dX0_admit_151 rfl ?_
                exact g_iretX X hr (by decide) (by decide) dX0_admit_153 ⟨_, _, _, _, _, _, _, _, rfl, Or.inr ⟨by omega, rfl, rfl, rfl, rfl, fun s h1 h2 => hg1 s h1 (by omega), fun j h => hg2 j (by omega), ⟨b, hb2, fun j h1 h2 => by rw [upZ_n (by omega)]; exact hm1 j h1 (by omega), by rw [upZ_s], fun j h1 h2 => by rw [upZ_n (by omega)]; exact hm2 j (by omega) h2⟩, rfl, rfl⟩, rfl⟩
              · skip
                refine g_aload_n X 0 dX0_admit_100 rfl rfl ?_
                refine g_get X (index := 29) (ref := "GuideWords$Lexicon") hin0 0 rfl rfl 5 (by decide) rfl (by decide +kernel) (v := .ref qo) rfl dX0_admit_101 ?_
                refine g_iload X 3 dX0_admit_104 rfl ?_
                refine g_aload_n X 0 dX0_admit_106 rfl rfl ?_
                refine g_get X (index := 29) (ref := "GuideWords$Lexicon") hin0 0 rfl rfl 5 (by decide) rfl (by decide +kernel) (v := .ref qo) rfl dX0_admit_107 ?_
                refine g_iload X 3 dX0_admit_110 rfl ?_
                refine g_iconst X dX0_admit_112 ?_
                refine g_isub X dX0_admit_113 ?_
                refine g_iald X 5 1 rfl rfl (by omega) (by decide) dX0_admit_114 ?_
                refine g_topi (b := od (k - 1)) (hm1 (k - 1) (by omega) (by omega)) ?_
                refine g_iast X 5 1 rfl rfl (by omega) (by decide) (ws2 := [(h, .inr (0, [.ref qh, .ref qm, .ref qs, .ref ql, .ref qd, .ref qo, .ref qp, .int (iZ N), .int (iZ P)])), (qh, .inl (cJ, 150, .inr (.inl (lA ((upZ hd N x)))))), (qm, .inl (cJ, 150, .inr (.inl (lA (upZ me N y))))), (qs, .inl (cI, 150, .inl (zA (upZ se N 1)))), (ql, .inl (cI, 900, .inl (zA g))), (qo, .inl (cI, 150, .inl (zA (upZ g2 k (od (k - 1))))))]) rfl dX0_admit_115 ?_
                refine g_iinc (q := 3) (lv2 := [(9, .int (iZ (k + (-1)))), (0, .ref h), (7, .int (iZ N)), (8, .int (iZ b))]) X dX0_admit_116 rfl (by decide) rfl ?_
                refine g_goto X 93 dX0_admit_119 (by decide) ?_
                refine g_lv (lv' := [(0, .ref h), (7, .int (iZ N)), (8, .int (iZ b)), (9, .int (iZ (k + (-1))))]) [1, 2, 3, 0] rfl ?_
                exact ih_93 (k + (-1)) (upZ g2 k (od (k - 1))) (by omega) (fun j h1 h2 => by rw [upZ_n (by omega)]; exact hm1 j h1 (by omega)) (fun j h1 h2 => by
                    rcases (show j = k ∨ k < j by omega) with h | h
                    · rw [h, upZ_s]
                    · rw [upZ_n (by omega)]; exact hm2 j h h2) (by omega)
          exact loop_93 _ P od (by omega) (fun j _ _ => rfl) (fun j h1 h2 => by omega) (Nat.lt_succ_self _)
        · skip
          refine g_aload_n X 0 dX0_admit_54 rfl rfl ?_
          refine g_get X (index := 22) (ref := "GuideWords$Lexicon") hin0 0 rfl rfl 3 (by decide) rfl (by decide +kernel) (v := .ref ql) rfl dX0_admit_55 ?_
          refine g_iload X 5 dX0_admit_58 rfl ?_
          refine g_bipush X dX0_admit_60 (by decide) ?_
          refine g_imul X dX0_admit_62 ?_
          refine g_iload X 6 dX0_admit_63 rfl ?_
          refine g_iadd X dX0_admit_65 ?_
          refine g_aload X 3 dX0_admit_66 rfl ?_
          refine g_iload X 6 dX0_admit_68 rfl ?_
          refine g_ti (f := (fun _ => 1)) X (hE.2.2.2.2.2.2.2.2.2) (by omega) (by decide) dX0_admit_70 ?_
          refine g_iast X 4 1 rfl rfl (by omega) (by decide) (ws2 := [(h, .inr (0, [.ref qh, .ref qm, .ref qs, .ref ql, .ref qd, .ref qo, .ref qp, .int (iZ N), .int (iZ P)])), (qh, .inl (cJ, 150, .inr (.inl (lA (upZ hd N x))))), (qm, .inl (cJ, 150, .inr (.inl (lA (upZ me N y))))), (qs, .inl (cI, 150, .inl (zA (upZ se N 1)))), (ql, .inl (cI, 900, .inl (zA (upZ g ((N * 6) + i) ((fun _ => 1) i))))), (qo, .inl (cI, 150, .inl (zA od)))]) rfl dX0_admit_71 ?_
          refine g_iinc (q := 6) (lv2 := [(8, .int (iZ (i + 1))), (0, .ref h), (1, .long (lZ x)), (3, .long (lZ y)), (5, .ref tS), (6, .int (iZ 1)), (7, .int (iZ N))]) X dX0_admit_72 rfl (by decide) rfl ?_
          refine g_goto X 47 dX0_admit_75 (by decide) ?_
          refine g_lv (lv' := [(0, .ref h), (1, .long (lZ x)), (3, .long (lZ y)), (5, .ref tS), (6, .int (iZ 1)), (7, .int (iZ N)), (8, .int (iZ (i + 1)))]) [1, 2, 3, 4, 5, 6, 0] rfl ?_
          exact ih_47 (i + 1) (upZ g ((N * 6) + i) ((fun _ => 1) i)) (by omega) (fun s h1 h2 => by
              rcases (show s = i ∨ s < i by omega) with h | h
              · rw [h, upZ_s]
              · rw [upZ_n (by omega)]; exact hg1 s h1 h) (fun j h => by rw [upZ_n (by omega)]; exact hg2 j (by omega)) (by omega)
    exact loop_47 _ 0 ln (by omega) (fun s h1 h2 => by omega) (fun j _ => rfl) (Nat.lt_succ_self _)
  · skip
    refine g_bipush X dX0_admit_10 (by decide) ?_
    exact g_iretX X hr (by decide) (by decide) dX0_admit_12 ⟨_, hd, me, se, ln, od, N, P, rfl, Or.inl ⟨by omega, rfl, rfl, rfl, rfl, rfl, rfl, rfl, rfl⟩, rfl⟩
def qX4_see (cB cI cJ cY : ClassId) (g0 : Nat) (qv : Nat) (qz : Nat) (tp : Nat) (h : Nat) (ht : Nat) (qL : Nat) (hs : Nat) (hz : Nat) (pn : Int) (ch : Int) (qh : Nat) (qm : Nat) (qs : Nat) (ql : Nat) (qd : Nat) (qo : Nat) (qp : Nat) (qb : Nat) (tf : Int → Int) (tn : Int) (hd : Int → Int) (me : Int → Int) (se : Int → Int) (ln : Int → Int) (od : Int → Int) (N : Int) (P : Int) (n : Int) (m9 : Int) : Option Value → va_W → Prop := fun rv w1 => ∃ (r : Int) (x : Int) (y : Int) (hd2 : Int → Int) (me2 : Int → Int) (se2 : Int → Int) (ln2 : Int → Int) (od2 : Int → Int) (N2 : Int) (P2 : Int), rv = some (.int (iZ r)) ∧ (0 ≤ n ∧ 0 ≤ m9 ∧ n + m9 ≤ tn) ∧ seeZ tf hd me se ln od N P n m9 r x y hd2 me2 se2 ln2 od2 N2 P2 ∧ w1 = [(g0, .inr (4, [.ref qv, .ref qz, .int (iZ pn), .ref tp, .ref h, .ref ht, .ref qL, .ref hs, .ref hz, .int (iZ ch)])), (tp, .inr (2, [.ref qb, .int (iZ 0)])), (qb, .inl (cI, 60, .inl (zA tf))), (h, .inr (0, [.ref qh, .ref qm, .ref qs, .ref ql, .ref qd, .ref qo, .ref qp, .int (iZ N2), .int (iZ P2)])), (qh, .inl (cJ, 150, .inr (.inl (lA hd2)))), (qm, .inl (cJ, 150, .inr (.inl (lA me2)))), (qs, .inl (cI, 150, .inl (zA se2))), (ql, .inl (cI, 900, .inl (zA ln2))), (qo, .inl (cI, 150, .inl (zA od2)))]
def xX4_see (cB cI cJ cY : ClassId) (g0 : Nat) (qv : Nat) (qz : Nat) (tp : Nat) (h : Nat) (ht : Nat) (qL : Nat) (hs : Nat) (hz : Nat) (pn : Int) (ch : Int) (qh : Nat) (qm : Nat) (qs : Nat) (ql : Nat) (qd : Nat) (qo : Nat) (qp : Nat) (qb : Nat) (tf : Int → Int) (tn : Int) (hd : Int → Int) (me : Int → Int) (se : Int → Int) (ln : Int → Int) (od : Int → Int) (N : Int) (P : Int) (n : Int) (m9 : Int) : String → va_W → Prop := fun E9 w1 => E9 = "java/lang/IllegalArgumentException" ∧ (¬ (0 ≤ n ∧ 0 ≤ m9 ∧ n + m9 ≤ tn)) ∧ w1 = [(g0, .inr (4, [.ref qv, .ref qz, .int (iZ pn), .ref tp, .ref h, .ref ht, .ref qL, .ref hs, .ref hz, .int (iZ ch)])), (tp, .inr (2, [.ref qb, .int (iZ tn)])), (qb, .inl (cI, 60, .inl (zA tf))), (h, .inr (0, [.ref qh, .ref qm, .ref qs, .ref ql, .ref qd, .ref qo, .ref qp, .int (iZ N), .int (iZ P)])), (qh, .inl (cJ, 150, .inr (.inl (lA hd)))), (qm, .inl (cJ, 150, .inr (.inl (lA me)))), (qs, .inl (cI, 150, .inl (zA se))), (ql, .inl (cI, 900, .inl (zA ln))), (qo, .inl (cI, 150, .inl (zA od)))]
set_option maxHeartbeats 4000000 in
set_option maxRecDepth 100000 in
theorem ctX4_see (l : Launch) (hl : l.stackTraces = false) (tL tH tS : Nat) (D : va_G) (cB cI cJ cY : ClassId) (g0 : Nat) (qv : Nat) (qz : Nat) (tp : Nat) (h : Nat) (ht : Nat) (qL : Nat) (hs : Nat) (hz : Nat) (pn : Int) (ch : Int) (qh : Nat) (qm : Nat) (qs : Nat) (ql : Nat) (qd : Nat) (qo : Nat) (qp : Nat) (qb : Nat) (tf : Int → Int) (tn : Int) (hd : Int → Int) (me : Int → Int) (se : Int → Int) (ln : Int → Int) (od : Int → Int) (N : Int) (P : Int) (n : Int) (m9 : Int) (htn : 0 ≤ tn ∧ tn ≤ 60) (htf : ∀ j : Int, 0 ≤ j ∧ j < 60 → 0 ≤ tf j ∧ tf j ≤ 255) (hp : 0 ≤ P ∧ P ≤ N ∧ N ≤ 150) (hhd : ∀ j : Int, 0 ≤ j ∧ j < 150 → 0 ≤ hd j ∧ hd j < 1152921504606846976) (hod : ∀ j : Int, 0 ≤ j ∧ j < P → 0 ≤ od j ∧ od j < N) (hso : ∀ i j : Int, 0 ≤ i → i < j → j < P → hd (od i) ≤ hd (od j)) (h_n : -2147483648 ≤ n ∧ n ≤ 2147483647) (h_m9 : -2147483648 ≤ m9 ∧ m9 ≤ 2147483647) : gMx l yX4_see wsX4_see { frames := 6, cells := 1, slots := 6, locals := 90 } tL tH tS D (gT cB cI cJ cY) [.ref g0, .int (iZ n), .int (iZ m9)] [(g0, .inr (4, [.ref qv, .ref qz, .int (iZ pn), .ref tp, .ref h, .ref ht, .ref qL, .ref hs, .ref hz, .int (iZ ch)])), (tp, .inr (2, [.ref qb, .int (iZ tn)])), (qb, .inl (cI, 60, .inl (zA tf))), (h, .inr (0, [.ref qh, .ref qm, .ref qs, .ref ql, .ref qd, .ref qo, .ref qp, .int (iZ N), .int (iZ P)])), (qh, .inl (cJ, 150, .inr (.inl (lA hd)))), (qm, .inl (cJ, 150, .inr (.inl (lA me)))), (qs, .inl (cI, 150, .inl (zA se))), (ql, .inl (cI, 900, .inl (zA ln))), (qo, .inl (cI, 150, .inl (zA od)))] 1 6 (qX4_see cB cI cJ cY g0 qv qz tp h ht qL hs hz pn ch qh qm qs ql qd qo qp qb tf tn hd me se ln od N P n m9) (xX4_see cB cI cJ cY g0 qv qz tp h ht qL hs hz pn ch qh qm qs ql qd qo qp qb tf tn hd me se ln od N P n m9) := by
  refine g_startX (cc := cX4_see) (maxL := 8) (ret := some .int) (lv := [(0, .ref g0), (1, .int (iZ n)), (2, .int (iZ m9))]) (by decide) rfl (Nat.le_of_ble_eq_true rfl) rfl ?_
  intro p e s m args below meth c A X hE htab hr
  have hin0 : ∀ w ∈ u_ws RX0 TX0 9, w ∈ wsX4_see := by decide +kernel
  have hin2 : ∀ w ∈ u_ws RX2 TX2 2, w ∈ wsX4_see := by decide +kernel
  have hin4 : ∀ w ∈ u_ws RX4 TX4 10, w ∈ wsX4_see := by decide +kernel
  refine g_aload_n X 0 dX4_see_0 rfl rfl ?_
  refine g_get X (index := 19) (ref := "GuideWords") hin4 0 rfl rfl 3 (by decide) rfl (by decide +kernel) (v := .ref tp) rfl dX4_see_1 ?_
  refine g_callV0 X (As := []) (rest := []) (ctX2_length l D cB cI cJ cY tp qb tf tn ) (cwV 0 X.2.2.2.2.1 gX4_see_X2_length rfl rfl rfl (by decide +kernel) ⟨by decide, by decide⟩) 0 rfl rfl (wc := [(tp, .inr (2, [.ref qb, .int (iZ tn)])), (qb, .inl (cI, 60, .inl (zA tf)))]) (wr := [(g0, .inr (4, [.ref qv, .ref qz, .int (iZ pn), .ref tp, .ref h, .ref ht, .ref qL, .ref hs, .ref hz, .int (iZ ch)])), (h, .inr (0, [.ref qh, .ref qm, .ref qs, .ref ql, .ref qd, .ref qo, .ref qp, .int (iZ N), .int (iZ P)])), (qh, .inl (cJ, 150, .inr (.inl (lA hd)))), (qm, .inl (cJ, 150, .inr (.inl (lA me)))), (qs, .inl (cI, 150, .inl (zA se))), (ql, .inl (cI, 900, .inl (zA ln))), (qo, .inl (cI, 150, .inl (zA od)))]) [1, 2] [0, 3, 4, 5, 6, 7, 8] rfl rfl (by decide) (by decide) (by decide) rfl rfl (Nat.le_of_ble_eq_true rfl) ⟨by decide, by decide⟩ dX4_see_4 (fun v w1 hq => ?_)
  obtain ⟨rfl, rfl⟩ := hq
  refine g_eq (ws' := [(g0, .inr (4, [.ref qv, .ref qz, .int (iZ pn), .ref tp, .ref h, .ref ht, .ref qL, .ref hs, .ref hz, .int (iZ ch)])), (h, .inr (0, [.ref qh, .ref qm, .ref qs, .ref ql, .ref qd, .ref qo, .ref qp, .int (iZ N), .int (iZ P)])), (qh, .inl (cJ, 150, .inr (.inl (lA hd)))), (qm, .inl (cJ, 150, .inr (.inl (lA me)))), (qs, .inl (cI, 150, .inl (zA se))), (ql, .inl (cI, 900, .inl (zA ln))), (qo, .inl (cI, 150, .inl (zA od))), (tp, .inr (2, [.ref qb, .int (iZ tn)])), (qb, .inl (cI, 60, .inl (zA tf)))]) (pc' := 7) (st' := [.int (iZ tn)]) rfl rfl rfl rfl ?_
  refine g_perm (ws' := [(g0, .inr (4, [.ref qv, .ref qz, .int (iZ pn), .ref tp, .ref h, .ref ht, .ref qL, .ref hs, .ref hz, .int (iZ ch)])), (tp, .inr (2, [.ref qb, .int (iZ tn)])), (qb, .inl (cI, 60, .inl (zA tf))), (h, .inr (0, [.ref qh, .ref qm, .ref qs, .ref ql, .ref qd, .ref qo, .ref qp, .int (iZ N), .int (iZ P)])), (qh, .inl (cJ, 150, .inr (.inl (lA hd)))), (qm, .inl (cJ, 150, .inr (.inl (lA me)))), (qs, .inl (cI, 150, .inl (zA se))), (ql, .inl (cI, 900, .inl (zA ln))), (qo, .inl (cI, 150, .inl (zA od)))]) [0, 7, 8, 1, 2, 3, 4, 5, 6] (by decide) rfl ?_
  refine g_istore_n (lv2 := [(3, .int (iZ tn)), (0, .ref g0), (1, .int (iZ n)), (2, .int (iZ m9))]) X dX4_see_7 rfl (by decide) rfl ?_
  refine g_iload_n X 2 dX4_see_8 rfl rfl ?_
  refine g_if_lt X 33 dX4_see_9 (by decide) (by omega) (fun c_9 => ?_) (fun c_9 => ?_)
  · skip
    exact g_throw X hE hl htab (cls := "java/lang/IllegalArgumentException") (is := 83) (ic := 54) (by decide) (by decide) (by decide +kernel) (by decide +kernel) (List.mem_of_getElem? (i := 11) rfl) (by decide +kernel) (by decide +kernel) (by decide +kernel) dX4_see_33 dX4_see_36 dX4_see_37 dX4_see_39 dX4_see_42 (by decide) (Nat.le_of_ble_eq_true rfl) (by decide) (by decide) (by decide) (by decide) ⟨rfl, by omega, rfl⟩
  · skip
    refine g_iload_n X 2 dX4_see_12 rfl rfl ?_
    refine g_iload_n X 0 dX4_see_13 rfl rfl ?_
    refine g_icmp_gt X 33 dX4_see_14 (by decide) (by omega) (by omega) (fun c_14 => ?_) (fun c_14 => ?_)
    · skip
      exact g_throw X hE hl htab (cls := "java/lang/IllegalArgumentException") (is := 83) (ic := 54) (by decide) (by decide) (by decide +kernel) (by decide +kernel) (List.mem_of_getElem? (i := 11) rfl) (by decide +kernel) (by decide +kernel) (by decide +kernel) dX4_see_33 dX4_see_36 dX4_see_37 dX4_see_39 dX4_see_42 (by decide) (Nat.le_of_ble_eq_true rfl) (by decide) (by decide) (by decide) (by decide) ⟨rfl, by omega, rfl⟩
    · skip
      refine g_iload_n X 3 dX4_see_17 rfl rfl ?_
      refine g_if_lt X 33 dX4_see_18 (by decide) (by omega) (fun c_18 => ?_) (fun c_18 => ?_)
      · skip
        exact g_throw X hE hl htab (cls := "java/lang/IllegalArgumentException") (is := 83) (ic := 54) (by decide) (by decide) (by decide +kernel) (by decide +kernel) (List.mem_of_getElem? (i := 11) rfl) (by decide +kernel) (by decide +kernel) (by decide +kernel) dX4_see_33 dX4_see_36 dX4_see_37 dX4_see_39 dX4_see_42 (by decide) (Nat.le_of_ble_eq_true rfl) (by decide) (by decide) (by decide) (by decide) ⟨rfl, by omega, rfl⟩
      · skip
        refine g_iload_n X 3 dX4_see_21 rfl rfl ?_
        refine g_iload_n X 0 dX4_see_22 rfl rfl ?_
        refine g_icmp_gt X 33 dX4_see_23 (by decide) (by omega) (by omega) (fun c_23 => ?_) (fun c_23 => ?_)
        · skip
          exact g_throw X hE hl htab (cls := "java/lang/IllegalArgumentException") (is := 83) (ic := 54) (by decide) (by decide) (by decide +kernel) (by decide +kernel) (List.mem_of_getElem? (i := 11) rfl) (by decide +kernel) (by decide +kernel) (by decide +kernel) dX4_see_33 dX4_see_36 dX4_see_37 dX4_see_39 dX4_see_42 (by decide) (Nat.le_of_ble_eq_true rfl) (by decide) (by decide) (by decide) (by decide) ⟨rfl, by omega, rfl⟩
        · skip
          refine g_iload_n X 2 dX4_see_26 rfl rfl ?_
          refine g_iload_n X 3 dX4_see_27 rfl rfl ?_
          refine g_iadd X dX4_see_28 ?_
          refine g_iload_n X 0 dX4_see_29 rfl rfl ?_
          refine g_icmp_le X 43 dX4_see_30 (by decide) (by omega) (by omega) (fun c_30 => ?_) (fun c_30 => ?_)
          · skip
            refine g_aload_n X 1 dX4_see_43 rfl rfl ?_
            refine g_get X (index := 19) (ref := "GuideWords") hin4 0 rfl rfl 3 (by decide) rfl (by decide +kernel) (v := .ref tp) rfl dX4_see_44 ?_
            refine g_iconst X dX4_see_47 ?_
            refine g_iload_n X 2 dX4_see_48 rfl rfl ?_
            refine g_callV0 X (As := [.int (iZ 0), .int (iZ n)]) (rest := []) (ctX2_headAt l D cB cI cJ cY tp qb tf tn 0 n (by first | assumption | omega) (by first | assumption | omega) (by first | assumption | omega)) (cwV 2 X.2.2.2.2.1 gX4_see_X2_headAt rfl rfl rfl (by decide +kernel) ⟨by decide, by decide⟩) 0 rfl rfl (wc := [(tp, .inr (2, [.ref qb, .int (iZ tn)])), (qb, .inl (cI, 60, .inl (zA tf)))]) (wr := [(g0, .inr (4, [.ref qv, .ref qz, .int (iZ pn), .ref tp, .ref h, .ref ht, .ref qL, .ref hs, .ref hz, .int (iZ ch)])), (h, .inr (0, [.ref qh, .ref qm, .ref qs, .ref ql, .ref qd, .ref qo, .ref qp, .int (iZ N), .int (iZ P)])), (qh, .inl (cJ, 150, .inr (.inl (lA hd)))), (qm, .inl (cJ, 150, .inr (.inl (lA me)))), (qs, .inl (cI, 150, .inl (zA se))), (ql, .inl (cI, 900, .inl (zA ln))), (qo, .inl (cI, 150, .inl (zA od)))]) [1, 2] [0, 3, 4, 5, 6, 7, 8] rfl rfl (by decide) (by decide) (by decide) rfl rfl (Nat.le_of_ble_eq_true rfl) ⟨by decide, by decide⟩ dX4_see_49 (fun v w1 hq => ?_)
            obtain ⟨x, rfl, hx0, rfl⟩ := hq
            refine g_eq (ws' := [(g0, .inr (4, [.ref qv, .ref qz, .int (iZ pn), .ref tp, .ref h, .ref ht, .ref qL, .ref hs, .ref hz, .int (iZ ch)])), (h, .inr (0, [.ref qh, .ref qm, .ref qs, .ref ql, .ref qd, .ref qo, .ref qp, .int (iZ N), .int (iZ P)])), (qh, .inl (cJ, 150, .inr (.inl (lA hd)))), (qm, .inl (cJ, 150, .inr (.inl (lA me)))), (qs, .inl (cI, 150, .inl (zA se))), (ql, .inl (cI, 900, .inl (zA ln))), (qo, .inl (cI, 150, .inl (zA od))), (tp, .inr (2, [.ref qb, .int (iZ tn)])), (qb, .inl (cI, 60, .inl (zA tf)))]) (pc' := 52) (st' := [.long (lZ x)]) rfl rfl rfl rfl ?_
            refine g_perm (ws' := [(g0, .inr (4, [.ref qv, .ref qz, .int (iZ pn), .ref tp, .ref h, .ref ht, .ref qL, .ref hs, .ref hz, .int (iZ ch)])), (tp, .inr (2, [.ref qb, .int (iZ tn)])), (qb, .inl (cI, 60, .inl (zA tf))), (h, .inr (0, [.ref qh, .ref qm, .ref qs, .ref ql, .ref qd, .ref qo, .ref qp, .int (iZ N), .int (iZ P)])), (qh, .inl (cJ, 150, .inr (.inl (lA hd)))), (qm, .inl (cJ, 150, .inr (.inl (lA me)))), (qs, .inl (cI, 150, .inl (zA se))), (ql, .inl (cI, 900, .inl (zA ln))), (qo, .inl (cI, 150, .inl (zA od)))]) [0, 7, 8, 1, 2, 3, 4, 5, 6] (by decide) rfl ?_
            have hxr := hdVal_rng hx0
            refine g_lstore (lv2 := [(4, .long (lZ x)), (3, .int (iZ tn)), (0, .ref g0), (1, .int (iZ n)), (2, .int (iZ m9))]) X dX4_see_52 (by decide) rfl ?_
            refine g_aload_n X 2 dX4_see_54 rfl rfl ?_
            refine g_get X (index := 19) (ref := "GuideWords") hin4 0 rfl rfl 3 (by decide) rfl (by decide +kernel) (v := .ref tp) rfl dX4_see_55 ?_
            refine g_iload_n X 3 dX4_see_58 rfl rfl ?_
            refine g_iload_n X 4 dX4_see_59 rfl rfl ?_
            refine g_callV0 X (As := [.int (iZ n), .int (iZ m9)]) (rest := []) (ctX2_headAt l D cB cI cJ cY tp qb tf tn n m9 (by first | assumption | omega) (by first | assumption | omega) (by first | assumption | omega)) (cwV 2 X.2.2.2.2.1 gX4_see_X2_headAt rfl rfl rfl (by decide +kernel) ⟨by decide, by decide⟩) 0 rfl rfl (wc := [(tp, .inr (2, [.ref qb, .int (iZ tn)])), (qb, .inl (cI, 60, .inl (zA tf)))]) (wr := [(g0, .inr (4, [.ref qv, .ref qz, .int (iZ pn), .ref tp, .ref h, .ref ht, .ref qL, .ref hs, .ref hz, .int (iZ ch)])), (h, .inr (0, [.ref qh, .ref qm, .ref qs, .ref ql, .ref qd, .ref qo, .ref qp, .int (iZ N), .int (iZ P)])), (qh, .inl (cJ, 150, .inr (.inl (lA hd)))), (qm, .inl (cJ, 150, .inr (.inl (lA me)))), (qs, .inl (cI, 150, .inl (zA se))), (ql, .inl (cI, 900, .inl (zA ln))), (qo, .inl (cI, 150, .inl (zA od)))]) [1, 2] [0, 3, 4, 5, 6, 7, 8] rfl rfl (by decide) (by decide) (by decide) rfl rfl (Nat.le_of_ble_eq_true rfl) ⟨by decide, by decide⟩ dX4_see_60 (fun v w1 hq => ?_)
            obtain ⟨y, rfl, hy0, rfl⟩ := hq
            refine g_eq (ws' := [(g0, .inr (4, [.ref qv, .ref qz, .int (iZ pn), .ref tp, .ref h, .ref ht, .ref qL, .ref hs, .ref hz, .int (iZ ch)])), (h, .inr (0, [.ref qh, .ref qm, .ref qs, .ref ql, .ref qd, .ref qo, .ref qp, .int (iZ N), .int (iZ P)])), (qh, .inl (cJ, 150, .inr (.inl (lA hd)))), (qm, .inl (cJ, 150, .inr (.inl (lA me)))), (qs, .inl (cI, 150, .inl (zA se))), (ql, .inl (cI, 900, .inl (zA ln))), (qo, .inl (cI, 150, .inl (zA od))), (tp, .inr (2, [.ref qb, .int (iZ tn)])), (qb, .inl (cI, 60, .inl (zA tf)))]) (pc' := 63) (st' := [.long (lZ y)]) rfl rfl rfl rfl ?_
            refine g_perm (ws' := [(g0, .inr (4, [.ref qv, .ref qz, .int (iZ pn), .ref tp, .ref h, .ref ht, .ref qL, .ref hs, .ref hz, .int (iZ ch)])), (tp, .inr (2, [.ref qb, .int (iZ tn)])), (qb, .inl (cI, 60, .inl (zA tf))), (h, .inr (0, [.ref qh, .ref qm, .ref qs, .ref ql, .ref qd, .ref qo, .ref qp, .int (iZ N), .int (iZ P)])), (qh, .inl (cJ, 150, .inr (.inl (lA hd)))), (qm, .inl (cJ, 150, .inr (.inl (lA me)))), (qs, .inl (cI, 150, .inl (zA se))), (ql, .inl (cI, 900, .inl (zA ln))), (qo, .inl (cI, 150, .inl (zA od)))]) [0, 7, 8, 1, 2, 3, 4, 5, 6] (by decide) rfl ?_
            have hyr := hdVal_rng hy0
            refine g_lstore (lv2 := [(6, .long (lZ y)), (4, .long (lZ x)), (3, .int (iZ tn)), (0, .ref g0), (1, .int (iZ n)), (2, .int (iZ m9))]) X dX4_see_63 (by decide) rfl ?_
            refine g_aload_n X 3 dX4_see_65 rfl rfl ?_
            refine g_get X (index := 19) (ref := "GuideWords") hin4 0 rfl rfl 3 (by decide) rfl (by decide +kernel) (v := .ref tp) rfl dX4_see_66 ?_
            refine g_callV0 X (As := []) (rest := []) (ctX2_clear l D cB cI cJ cY tp qb tf tn ) (cwV 0 X.2.2.2.2.1 gX4_see_X2_clear rfl rfl rfl (by decide +kernel) ⟨by decide, by decide⟩) 0 rfl rfl (wc := [(tp, .inr (2, [.ref qb, .int (iZ tn)])), (qb, .inl (cI, 60, .inl (zA tf)))]) (wr := [(g0, .inr (4, [.ref qv, .ref qz, .int (iZ pn), .ref tp, .ref h, .ref ht, .ref qL, .ref hs, .ref hz, .int (iZ ch)])), (h, .inr (0, [.ref qh, .ref qm, .ref qs, .ref ql, .ref qd, .ref qo, .ref qp, .int (iZ N), .int (iZ P)])), (qh, .inl (cJ, 150, .inr (.inl (lA hd)))), (qm, .inl (cJ, 150, .inr (.inl (lA me)))), (qs, .inl (cI, 150, .inl (zA se))), (ql, .inl (cI, 900, .inl (zA ln))), (qo, .inl (cI, 150, .inl (zA od)))]) [1, 2] [0, 3, 4, 5, 6, 7, 8] rfl rfl (by decide) (by decide) (by decide) rfl rfl (Nat.le_of_ble_eq_true rfl) ⟨by decide, by decide⟩ dX4_see_69 (fun v w1 hq => ?_)
            obtain ⟨rfl, rfl⟩ := hq
            refine g_eq (ws' := [(g0, .inr (4, [.ref qv, .ref qz, .int (iZ pn), .ref tp, .ref h, .ref ht, .ref qL, .ref hs, .ref hz, .int (iZ ch)])), (h, .inr (0, [.ref qh, .ref qm, .ref qs, .ref ql, .ref qd, .ref qo, .ref qp, .int (iZ N), .int (iZ P)])), (qh, .inl (cJ, 150, .inr (.inl (lA hd)))), (qm, .inl (cJ, 150, .inr (.inl (lA me)))), (qs, .inl (cI, 150, .inl (zA se))), (ql, .inl (cI, 900, .inl (zA ln))), (qo, .inl (cI, 150, .inl (zA od))), (tp, .inr (2, [.ref qb, .int (iZ 0)])), (qb, .inl (cI, 60, .inl (zA tf)))]) (pc' := 72) (st' := []) rfl rfl rfl rfl ?_
            refine g_perm (ws' := [(g0, .inr (4, [.ref qv, .ref qz, .int (iZ pn), .ref tp, .ref h, .ref ht, .ref qL, .ref hs, .ref hz, .int (iZ ch)])), (tp, .inr (2, [.ref qb, .int (iZ 0)])), (qb, .inl (cI, 60, .inl (zA tf))), (h, .inr (0, [.ref qh, .ref qm, .ref qs, .ref ql, .ref qd, .ref qo, .ref qp, .int (iZ N), .int (iZ P)])), (qh, .inl (cJ, 150, .inr (.inl (lA hd)))), (qm, .inl (cJ, 150, .inr (.inl (lA me)))), (qs, .inl (cI, 150, .inl (zA se))), (ql, .inl (cI, 900, .inl (zA ln))), (qo, .inl (cI, 150, .inl (zA od)))]) [0, 7, 8, 1, 2, 3, 4, 5, 6] (by decide) rfl ?_
            refine g_lload X 1 dX4_see_72 rfl ?_
            refine g_lconst (z := 0) X dX4_see_74 rfl ?_
            refine g_lcmp X dX4_see_75 (by omega) (by omega) ?_
            refine g_if_eq X 86 dX4_see_76 (by decide) (by have := cmpZ_rng (x) (0); omega) (fun c_76 => ?_) (fun c_76 => ?_)
            · skip
              have c_76 : x = 0 := by have h9 := @cmpZ_eq (x) (0); omega
              refine g_iconst X dX4_see_86 ?_
              exact g_iretX X hr (by decide) (by decide) dX4_see_87 ⟨_, x, y, hd, me, se, ln, od, N, P, rfl, by omega, ⟨hx0, hy0, Or.inl ⟨by first | exact Or.inl c_76 | exact Or.inr c_83, rfl, rfl, rfl, rfl, rfl, rfl, rfl, rfl⟩⟩, rfl⟩
            · skip
              have c_76 : ¬ x = 0 := by have h9 := @cmpZ_eq (x) (0); omega
              refine g_lload X 0 dX4_see_79 rfl ?_
              refine g_lconst (z := 0) X dX4_see_81 rfl ?_
              refine g_lcmp X dX4_see_82 (by omega) (by omega) ?_
              refine g_if_ne X 88 dX4_see_83 (by decide) (by have := cmpZ_rng (y) (0); omega) (fun c_83 => ?_) (fun c_83 => ?_)
              · skip
                have c_83 : ¬ y = 0 := by have h9 := @cmpZ_eq (y) (0); omega
                refine g_aload_n X 3 dX4_see_88 rfl rfl ?_
                refine g_get X (index := 26) (ref := "GuideWords") hin4 0 rfl rfl 4 (by decide) rfl (by decide +kernel) (v := .ref h) rfl dX4_see_89 ?_
                refine g_lload X 1 dX4_see_92 rfl ?_
                refine g_lload X 0 dX4_see_94 rfl ?_
                refine g_getsS X hE (index := 96) (by decide +kernel) dX4_see_96 ?_
                refine g_iconst X dX4_see_99 ?_
                refine g_callX X hE htab (As := [.long (lZ x), .long (lZ y), .ref tS, .int (iZ 1)]) (rest := []) (ctX0_admit_S l hl tL tH tS D cB cI cJ cY h qh qm qs ql qd qo qp hd me se ln od N P x y (by first | assumption | omega) (by first | assumption | omega) (by first | assumption | omega) (by first | assumption | omega) (by first | assumption | omega)) (cwV 4 X.2.2.2.2.1 gX4_see_X0_admit rfl rfl rfl (by decide +kernel) ⟨by decide, by decide⟩) 0 rfl rfl (wc := [(h, .inr (0, [.ref qh, .ref qm, .ref qs, .ref ql, .ref qd, .ref qo, .ref qp, .int (iZ N), .int (iZ P)])), (qh, .inl (cJ, 150, .inr (.inl (lA hd)))), (qm, .inl (cJ, 150, .inr (.inl (lA me)))), (qs, .inl (cI, 150, .inl (zA se))), (ql, .inl (cI, 900, .inl (zA ln))), (qo, .inl (cI, 150, .inl (zA od)))]) (wr := [(g0, .inr (4, [.ref qv, .ref qz, .int (iZ pn), .ref tp, .ref h, .ref ht, .ref qL, .ref hs, .ref hz, .int (iZ ch)])), (tp, .inr (2, [.ref qb, .int (iZ 0)])), (qb, .inl (cI, 60, .inl (zA tf)))]) [3, 4, 5, 6, 7, 8] [0, 1, 2] rfl rfl (by decide) (by decide) (by decide) rfl rfl (Nat.le_of_ble_eq_true rfl) ⟨by decide, by decide⟩ dX4_see_100 (by decide) (by decide) (fun E9 w1 h9 => h9.1.elim) (fun v w1 hq => ?_)
                obtain ⟨r, hd2, me2, se2, ln2, od2, N2, P2, rfl, had, rfl⟩ := hq
                refine g_eq (ws' := [(g0, .inr (4, [.ref qv, .ref qz, .int (iZ pn), .ref tp, .ref h, .ref ht, .ref qL, .ref hs, .ref hz, .int (iZ ch)])), (tp, .inr (2, [.ref qb, .int (iZ 0)])), (qb, .inl (cI, 60, .inl (zA tf))), (h, .inr (0, [.ref qh, .ref qm, .ref qs, .ref ql, .ref qd, .ref qo, .ref qp, .int (iZ N2), .int (iZ P2)])), (qh, .inl (cJ, 150, .inr (.inl (lA hd2)))), (qm, .inl (cJ, 150, .inr (.inl (lA me2)))), (qs, .inl (cI, 150, .inl (zA se2))), (ql, .inl (cI, 900, .inl (zA ln2))), (qo, .inl (cI, 150, .inl (zA od2)))]) (pc' := 103) (st' := [.int (iZ r)]) rfl rfl rfl rfl ?_
                exact g_iretX X hr (by decide) (by decide) dX4_see_103 ⟨_, x, y, _, _, _, _, _, _, _, rfl, by omega, ⟨hx0, hy0, Or.inr ⟨c_76, c_83, had⟩⟩, rfl⟩
              · skip
                have c_83 : y = 0 := by have h9 := @cmpZ_eq (y) (0); omega
                refine g_iconst X dX4_see_86 ?_
                exact g_iretX X hr (by decide) (by decide) dX4_see_87 ⟨_, x, y, hd, me, se, ln, od, N, P, rfl, by omega, ⟨hx0, hy0, Or.inl ⟨by first | exact Or.inl c_76 | exact Or.inr c_83, rfl, rfl, rfl, rfl, rfl, rfl, rfl, rfl⟩⟩, rfl⟩
          · skip
            exact g_throw X hE hl htab (cls := "java/lang/IllegalArgumentException") (is := 83) (ic := 54) (by decide) (by decide) (by decide +kernel) (by decide +kernel) (List.mem_of_getElem? (i := 11) rfl) (by decide +kernel) (by decide +kernel) (by decide +kernel) dX4_see_33 dX4_see_36 dX4_see_37 dX4_see_39 dX4_see_42 (by decide) (Nat.le_of_ble_eq_true rfl) (by decide) (by decide) (by decide) (by decide) ⟨rfl, by omega, rfl⟩
