def qX2_length (cB cI cJ cY : ClassId) (h : Nat) (qb : Nat) (f : Int → Int) (n : Int) : Option Value → va_W → Prop := fun rv w1 => rv = some (.int (iZ n)) ∧ w1 = [(h, .inr (2, [.ref qb, .int (iZ n)])), (qb, .inl (cI, 60, .inl (zA f)))]
set_option maxHeartbeats 4000000 in
set_option maxRecDepth 100000 in
theorem ctX2_length (l : Launch) (D : va_G) (cB cI cJ cY : ClassId) (h : Nat) (qb : Nat) (f : Int → Int) (n : Int)  : gM l yX2_length wsX2_length { frames := 0, cells := 0, slots := 0, locals := 0 } D (gT cB cI cJ cY) [.ref h] [(h, .inr (2, [.ref qb, .int (iZ n)])), (qb, .inl (cI, 60, .inl (zA f)))] 0 0 (qX2_length cB cI cJ cY h qb f n) := by
  refine g_start (cc := cX2_length) (maxL := 1) (ret := some .int) (lv := [(0, .ref h)]) (by decide) rfl (Nat.le_of_ble_eq_true rfl) rfl ?_
  intro p e s m args below meth c A X hr hnm
  have hin2 : ∀ w ∈ u_ws RX2 TX2 2, w ∈ wsX2_length := by decide +kernel
  refine g_aload_n X 0 dX2_length_0 rfl rfl ?_
  refine g_get X (index := 15) (ref := "GuideWords$Tape") hin2 0 rfl rfl 1 (by decide) rfl (by decide +kernel) (v := .int (iZ n)) rfl dX2_length_1 ?_
  exact g_iret X hr (by decide) (by decide) dX2_length_4 ⟨rfl, rfl⟩
def qX2_hasRoom (cB cI cJ cY : ClassId) (h : Nat) (qb : Nat) (f : Int → Int) (n : Int) : Option Value → va_W → Prop := fun rv w1 => ∃ (r : Int), rv = some (.int (iZ r)) ∧ r = (if n + 20 ≤ 60 then 1 else 0) ∧ w1 = [(h, .inr (2, [.ref qb, .int (iZ n)])), (qb, .inl (cI, 60, .inl (zA f)))]
set_option maxHeartbeats 4000000 in
set_option maxRecDepth 100000 in
theorem ctX2_hasRoom (l : Launch) (D : va_G) (cB cI cJ cY : ClassId) (h : Nat) (qb : Nat) (f : Int → Int) (n : Int) (hn : 0 ≤ n ∧ n ≤ 60) : gM l yX2_hasRoom wsX2_hasRoom { frames := 0, cells := 0, slots := 0, locals := 0 } D (gT cB cI cJ cY) [.ref h] [(h, .inr (2, [.ref qb, .int (iZ n)])), (qb, .inl (cI, 60, .inl (zA f)))] 0 0 (qX2_hasRoom cB cI cJ cY h qb f n) := by
  refine g_start (cc := cX2_hasRoom) (maxL := 1) (ret := some .boolean) (lv := [(0, .ref h)]) (by decide) rfl (Nat.le_of_ble_eq_true rfl) rfl ?_
  intro p e s m args below meth c A X hr hnm
  have hin2 : ∀ w ∈ u_ws RX2 TX2 2, w ∈ wsX2_hasRoom := by decide +kernel
  refine g_aload_n X 0 dX2_hasRoom_0 rfl rfl ?_
  refine g_get X (index := 15) (ref := "GuideWords$Tape") hin2 0 rfl rfl 1 (by decide) rfl (by decide +kernel) (v := .int (iZ n)) rfl dX2_hasRoom_1 ?_
  refine g_bipush X dX2_hasRoom_4 (by decide) ?_
  refine g_iadd X dX2_hasRoom_6 ?_
  refine g_bipush X dX2_hasRoom_7 (by decide) ?_
  refine g_icmp_gt X 16 dX2_hasRoom_9 (by decide) (by omega) (by omega) (fun c_9 => ?_) (fun c_9 => ?_)
  · skip
    refine g_iconst X dX2_hasRoom_16 ?_
    exact g_zret X (by omega) hr (by decide) (by decide) dX2_hasRoom_17 ⟨_, rfl, by first | exact (if_pos (by omega)).symm | exact (if_neg (by omega)).symm, rfl⟩
  · skip
    refine g_iconst X dX2_hasRoom_12 ?_
    refine g_goto X 17 dX2_hasRoom_13 (by decide) ?_
    exact g_zret X (by omega) hr (by decide) (by decide) dX2_hasRoom_17 ⟨_, rfl, by first | exact (if_pos (by omega)).symm | exact (if_neg (by omega)).symm, rfl⟩
def qX2_clear (cB cI cJ cY : ClassId) (h : Nat) (qb : Nat) (f : Int → Int) (n : Int) : Option Value → va_W → Prop := fun rv w1 => rv = none ∧ w1 = [(h, .inr (2, [.ref qb, .int (iZ 0)])), (qb, .inl (cI, 60, .inl (zA f)))]
set_option maxHeartbeats 4000000 in
set_option maxRecDepth 100000 in
theorem ctX2_clear (l : Launch) (D : va_G) (cB cI cJ cY : ClassId) (h : Nat) (qb : Nat) (f : Int → Int) (n : Int)  : gM l yX2_clear wsX2_clear { frames := 0, cells := 0, slots := 0, locals := 0 } D (gT cB cI cJ cY) [.ref h] [(h, .inr (2, [.ref qb, .int (iZ n)])), (qb, .inl (cI, 60, .inl (zA f)))] 0 0 (qX2_clear cB cI cJ cY h qb f n) := by
  refine g_start (cc := cX2_clear) (maxL := 1) (ret := none) (lv := [(0, .ref h)]) (by decide) rfl (Nat.le_of_ble_eq_true rfl) rfl ?_
  intro p e s m args below meth c A X hr hnm
  have hin2 : ∀ w ∈ u_ws RX2 TX2 2, w ∈ wsX2_clear := by decide +kernel
  refine g_aload_n X 0 dX2_clear_0 rfl rfl ?_
  refine g_iconst X dX2_clear_1 ?_
  refine g_put X (index := 15) (ref := "GuideWords$Tape") hin2 0 rfl rfl 1 (by decide) rfl tyX2 tyX2_ok nmX2 (by decide +kernel) rfl rfl rfl rfl (Nat.le_of_ble_eq_true rfl) (ws2 := [(h, .inr (2, [.ref qb, .int (iZ 0)])), (qb, .inl (cI, 60, .inl (zA f)))]) rfl dX2_clear_2 ?_
  exact g_vret X hr (by decide) (by decide) dX2_clear_5 ⟨rfl, rfl⟩
def byZ (v : Int) (k : Nat) : Int := v / 2 ^ k % 256
theorem byZ_rng (v : Int) (k : Nat) : 0 ≤ byZ v k ∧ byZ v k ≤ 255 := by unfold byZ; omega
theorem byZ_24 (v : Int) : (((v % 4294967296).toNat / 2 ^ 24 : Nat) : Int) % 256 = byZ v 24 := by unfold byZ; simp; omega
theorem byZ_16 (v : Int) : (((v % 4294967296).toNat / 2 ^ 16 : Nat) : Int) % 256 = byZ v 16 := by unfold byZ; simp; omega
theorem byZ_8 (v : Int) : (((v % 4294967296).toNat / 2 ^ 8 : Nat) : Int) % 256 = byZ v 8 := by unfold byZ; simp; omega
theorem byZ_0 (v : Int) : (((v % 4294967296).toNat / 2 ^ 0 : Nat) : Int) % 256 = byZ v 0 := by unfold byZ; simp; omega
def ap4 (f : Int → Int) (n v : Int) : Int → Int := upZ (upZ (upZ (upZ f n (byZ v 24)) (n + 1) (byZ v 16)) (n + 1 + 1) (byZ v 8)) (n + 1 + 1 + 1) (byZ v 0)
def qX2_append (cB cI cJ cY : ClassId) (h : Nat) (qb : Nat) (f : Int → Int) (n : Int) (v : Int) : Option Value → va_W → Prop := fun rv w1 => rv = none ∧ w1 = [(h, .inr (2, [.ref qb, .int (iZ (n + 1 + 1 + 1 + 1))])), (qb, .inl (cI, 60, .inl (zA (ap4 f n v))))]
set_option maxHeartbeats 4000000 in
set_option maxRecDepth 100000 in
theorem ctX2_append (l : Launch) (D : va_G) (cB cI cJ cY : ClassId) (h : Nat) (qb : Nat) (f : Int → Int) (n : Int) (v : Int) (hn : 0 ≤ n ∧ n ≤ 56) (hv : -2147483648 ≤ v ∧ v ≤ 2147483647) : gM l yX2_append wsX2_append { frames := 0, cells := 0, slots := 0, locals := 0 } D (gT cB cI cJ cY) [.ref h, .int (iZ v)] [(h, .inr (2, [.ref qb, .int (iZ n)])), (qb, .inl (cI, 60, .inl (zA f)))] 0 0 (qX2_append cB cI cJ cY h qb f n v) := by
  refine g_start (cc := cX2_append) (maxL := 3) (ret := none) (lv := [(0, .ref h), (1, .int (iZ v))]) (by decide) rfl (Nat.le_of_ble_eq_true rfl) rfl ?_
  intro p e s m args below meth c A X hr hnm
  have hin2 : ∀ w ∈ u_ws RX2 TX2 2, w ∈ wsX2_append := by decide +kernel
  refine g_bipush X dX2_append_0 (by decide) ?_
  refine g_istore_n (lv2 := [(2, .int (iZ 24)), (0, .ref h), (1, .int (iZ v))]) X dX2_append_2 rfl (by decide) rfl ?_
  refine g_iload_n X 0 dX2_append_3 rfl rfl ?_
  refine g_if_lt X 48 dX2_append_4 (by decide) (by omega) (fun c_4 => ?_) (fun c_4 => ?_)
  · omega
  · skip
    refine g_aload_n X 1 dX2_append_7 rfl rfl ?_
    refine g_get X (index := 15) (ref := "GuideWords$Tape") hin2 0 rfl rfl 1 (by decide) rfl (by decide +kernel) (v := .int (iZ n)) rfl dX2_append_8 ?_
    refine g_bipush X dX2_append_11 (by decide) ?_
    refine g_icmp_ge X 42 dX2_append_13 (by decide) (by omega) (by omega) (fun c_13 => ?_) (fun c_13 => ?_)
    · skip
      omega
    · skip
      refine g_aload_n X 1 dX2_append_16 rfl rfl ?_
      refine g_get X (index := 11) (ref := "GuideWords$Tape") hin2 0 rfl rfl 0 (by decide) rfl (by decide +kernel) (v := .ref qb) rfl dX2_append_17 ?_
      refine g_aload_n X 1 dX2_append_20 rfl rfl ?_
      refine g_get X (index := 15) (ref := "GuideWords$Tape") hin2 0 rfl rfl 1 (by decide) rfl (by decide +kernel) (v := .int (iZ n)) rfl dX2_append_21 ?_
      refine g_iload_n X 2 dX2_append_24 rfl rfl ?_
      refine g_iload_n X 0 dX2_append_25 rfl rfl ?_
      refine g_iushr (z := (((v % 4294967296).toNat / 2 ^ 24 : Nat) : Int)) X dX2_append_26 (iZ_ushr (by decide)) ?_
      refine g_sipush X dX2_append_27 (by decide) ?_
      refine g_iand (z := byZ v 24) X dX2_append_30 (by rw [iZ_and255, byZ_24]) ?_
      refine g_iast X 1 1 rfl rfl (by omega) (by decide) (ws2 := [(h, .inr (2, [.ref qb, .int (iZ n)])), (qb, .inl (cI, 60, .inl (zA (upZ f n (byZ v 24)))))]) rfl dX2_append_31 ?_
      refine g_aload_n X 1 dX2_append_32 rfl rfl ?_
      refine g_dup X dX2_append_33 rfl ?_
      refine g_get X (index := 15) (ref := "GuideWords$Tape") hin2 0 rfl rfl 1 (by decide) rfl (by decide +kernel) (v := .int (iZ n)) rfl dX2_append_34 ?_
      refine g_iconst X dX2_append_37 ?_
      refine g_iadd X dX2_append_38 ?_
      refine g_put X (index := 15) (ref := "GuideWords$Tape") hin2 0 rfl rfl 1 (by decide) rfl tyX2 tyX2_ok nmX2 (by decide +kernel) rfl rfl rfl rfl (Nat.le_of_ble_eq_true rfl) (ws2 := [(h, .inr (2, [.ref qb, .int (iZ (n + 1))])), (qb, .inl (cI, 60, .inl (zA (upZ f n (byZ v 24)))))]) rfl dX2_append_39 ?_
      refine g_iinc (q := 0) (lv2 := [(2, .int (iZ (24 + (-8)))), (0, .ref h), (1, .int (iZ v))]) X dX2_append_42 rfl (by decide) rfl ?_
      refine g_goto X 3 dX2_append_45 (by decide) ?_
      refine g_iload_n X 0 dX2_append_3 rfl rfl ?_
      refine g_if_lt X 48 dX2_append_4 (by decide) (by omega) (fun c_4 => ?_) (fun c_4 => ?_)
      · omega
      · skip
        refine g_aload_n X 1 dX2_append_7 rfl rfl ?_
        refine g_get X (index := 15) (ref := "GuideWords$Tape") hin2 0 rfl rfl 1 (by decide) rfl (by decide +kernel) (v := .int (iZ (n + 1))) rfl dX2_append_8 ?_
        refine g_bipush X dX2_append_11 (by decide) ?_
        refine g_icmp_ge X 42 dX2_append_13 (by decide) (by omega) (by omega) (fun c_13 => ?_) (fun c_13 => ?_)
        · skip
          omega
        · skip
          refine g_aload_n X 1 dX2_append_16 rfl rfl ?_
          refine g_get X (index := 11) (ref := "GuideWords$Tape") hin2 0 rfl rfl 0 (by decide) rfl (by decide +kernel) (v := .ref qb) rfl dX2_append_17 ?_
          refine g_aload_n X 1 dX2_append_20 rfl rfl ?_
          refine g_get X (index := 15) (ref := "GuideWords$Tape") hin2 0 rfl rfl 1 (by decide) rfl (by decide +kernel) (v := .int (iZ (n + 1))) rfl dX2_append_21 ?_
          refine g_iload_n X 2 dX2_append_24 rfl rfl ?_
          refine g_iload_n X 0 dX2_append_25 rfl rfl ?_
          refine g_iushr (z := (((v % 4294967296).toNat / 2 ^ 16 : Nat) : Int)) X dX2_append_26 (iZ_ushr (by decide)) ?_
          refine g_sipush X dX2_append_27 (by decide) ?_
          refine g_iand (z := byZ v 16) X dX2_append_30 (by rw [iZ_and255, byZ_16]) ?_
          refine g_iast X 1 1 rfl rfl (by omega) (by decide) (ws2 := [(h, .inr (2, [.ref qb, .int (iZ (n + 1))])), (qb, .inl (cI, 60, .inl (zA (upZ (upZ f n (byZ v 24)) (n + 1) (byZ v 16)))))]) rfl dX2_append_31 ?_
          refine g_aload_n X 1 dX2_append_32 rfl rfl ?_
          refine g_dup X dX2_append_33 rfl ?_
          refine g_get X (index := 15) (ref := "GuideWords$Tape") hin2 0 rfl rfl 1 (by decide) rfl (by decide +kernel) (v := .int (iZ (n + 1))) rfl dX2_append_34 ?_
          refine g_iconst X dX2_append_37 ?_
          refine g_iadd X dX2_append_38 ?_
          refine g_put X (index := 15) (ref := "GuideWords$Tape") hin2 0 rfl rfl 1 (by decide) rfl tyX2 tyX2_ok nmX2 (by decide +kernel) rfl rfl rfl rfl (Nat.le_of_ble_eq_true rfl) (ws2 := [(h, .inr (2, [.ref qb, .int (iZ ((n + 1) + 1))])), (qb, .inl (cI, 60, .inl (zA (upZ (upZ f n (byZ v 24)) (n + 1) (byZ v 16)))))]) rfl dX2_append_39 ?_
          refine g_iinc (q := 0) (lv2 := [(2, .int (iZ (24 + (-8) + (-8)))), (0, .ref h), (1, .int (iZ v))]) X dX2_append_42 rfl (by decide) rfl ?_
          refine g_goto X 3 dX2_append_45 (by decide) ?_
          refine g_iload_n X 0 dX2_append_3 rfl rfl ?_
          refine g_if_lt X 48 dX2_append_4 (by decide) (by omega) (fun c_4 => ?_) (fun c_4 => ?_)
          · omega
          · skip
            refine g_aload_n X 1 dX2_append_7 rfl rfl ?_
            refine g_get X (index := 15) (ref := "GuideWords$Tape") hin2 0 rfl rfl 1 (by decide) rfl (by decide +kernel) (v := .int (iZ ((n + 1) + 1))) rfl dX2_append_8 ?_
            refine g_bipush X dX2_append_11 (by decide) ?_
            refine g_icmp_ge X 42 dX2_append_13 (by decide) (by omega) (by omega) (fun c_13 => ?_) (fun c_13 => ?_)
            · skip
              omega
            · skip
              refine g_aload_n X 1 dX2_append_16 rfl rfl ?_
              refine g_get X (index := 11) (ref := "GuideWords$Tape") hin2 0 rfl rfl 0 (by decide) rfl (by decide +kernel) (v := .ref qb) rfl dX2_append_17 ?_
              refine g_aload_n X 1 dX2_append_20 rfl rfl ?_
              refine g_get X (index := 15) (ref := "GuideWords$Tape") hin2 0 rfl rfl 1 (by decide) rfl (by decide +kernel) (v := .int (iZ ((n + 1) + 1))) rfl dX2_append_21 ?_
              refine g_iload_n X 2 dX2_append_24 rfl rfl ?_
              refine g_iload_n X 0 dX2_append_25 rfl rfl ?_
              refine g_iushr (z := (((v % 4294967296).toNat / 2 ^ 8 : Nat) : Int)) X dX2_append_26 (iZ_ushr (by decide)) ?_
              refine g_sipush X dX2_append_27 (by decide) ?_
              refine g_iand (z := byZ v 8) X dX2_append_30 (by rw [iZ_and255, byZ_8]) ?_
              refine g_iast X 1 1 rfl rfl (by omega) (by decide) (ws2 := [(h, .inr (2, [.ref qb, .int (iZ ((n + 1) + 1))])), (qb, .inl (cI, 60, .inl (zA (upZ (upZ (upZ f n (byZ v 24)) (n + 1) (byZ v 16)) ((n + 1) + 1) (byZ v 8)))))]) rfl dX2_append_31 ?_
              refine g_aload_n X 1 dX2_append_32 rfl rfl ?_
              refine g_dup X dX2_append_33 rfl ?_
              refine g_get X (index := 15) (ref := "GuideWords$Tape") hin2 0 rfl rfl 1 (by decide) rfl (by decide +kernel) (v := .int (iZ ((n + 1) + 1))) rfl dX2_append_34 ?_
              refine g_iconst X dX2_append_37 ?_
              refine g_iadd X dX2_append_38 ?_
              refine g_put X (index := 15) (ref := "GuideWords$Tape") hin2 0 rfl rfl 1 (by decide) rfl tyX2 tyX2_ok nmX2 (by decide +kernel) rfl rfl rfl rfl (Nat.le_of_ble_eq_true rfl) (ws2 := [(h, .inr (2, [.ref qb, .int (iZ (((n + 1) + 1) + 1))])), (qb, .inl (cI, 60, .inl (zA (upZ (upZ (upZ f n (byZ v 24)) (n + 1) (byZ v 16)) ((n + 1) + 1) (byZ v 8)))))]) rfl dX2_append_39 ?_
              refine g_iinc (q := 0) (lv2 := [(2, .int (iZ (24 + (-8) + (-8) + (-8)))), (0, .ref h), (1, .int (iZ v))]) X dX2_append_42 rfl (by decide) rfl ?_
              refine g_goto X 3 dX2_append_45 (by decide) ?_
              refine g_iload_n X 0 dX2_append_3 rfl rfl ?_
              refine g_if_lt X 48 dX2_append_4 (by decide) (by omega) (fun c_4 => ?_) (fun c_4 => ?_)
              · omega
              · skip
                refine g_aload_n X 1 dX2_append_7 rfl rfl ?_
                refine g_get X (index := 15) (ref := "GuideWords$Tape") hin2 0 rfl rfl 1 (by decide) rfl (by decide +kernel) (v := .int (iZ (((n + 1) + 1) + 1))) rfl dX2_append_8 ?_
                refine g_bipush X dX2_append_11 (by decide) ?_
                refine g_icmp_ge X 42 dX2_append_13 (by decide) (by omega) (by omega) (fun c_13 => ?_) (fun c_13 => ?_)
                · skip
                  omega
                · skip
                  refine g_aload_n X 1 dX2_append_16 rfl rfl ?_
                  refine g_get X (index := 11) (ref := "GuideWords$Tape") hin2 0 rfl rfl 0 (by decide) rfl (by decide +kernel) (v := .ref qb) rfl dX2_append_17 ?_
                  refine g_aload_n X 1 dX2_append_20 rfl rfl ?_
                  refine g_get X (index := 15) (ref := "GuideWords$Tape") hin2 0 rfl rfl 1 (by decide) rfl (by decide +kernel) (v := .int (iZ (((n + 1) + 1) + 1))) rfl dX2_append_21 ?_
                  refine g_iload_n X 2 dX2_append_24 rfl rfl ?_
                  refine g_iload_n X 0 dX2_append_25 rfl rfl ?_
                  refine g_iushr (z := (((v % 4294967296).toNat / 2 ^ 0 : Nat) : Int)) X dX2_append_26 (iZ_ushr (by decide)) ?_
                  refine g_sipush X dX2_append_27 (by decide) ?_
                  refine g_iand (z := byZ v 0) X dX2_append_30 (by rw [iZ_and255, byZ_0]) ?_
                  refine g_iast X 1 1 rfl rfl (by omega) (by decide) (ws2 := [(h, .inr (2, [.ref qb, .int (iZ (((n + 1) + 1) + 1))])), (qb, .inl (cI, 60, .inl (zA (upZ (upZ (upZ (upZ f n (byZ v 24)) (n + 1) (byZ v 16)) ((n + 1) + 1) (byZ v 8)) (((n + 1) + 1) + 1) (byZ v 0)))))]) rfl dX2_append_31 ?_
                  refine g_aload_n X 1 dX2_append_32 rfl rfl ?_
                  refine g_dup X dX2_append_33 rfl ?_
                  refine g_get X (index := 15) (ref := "GuideWords$Tape") hin2 0 rfl rfl 1 (by decide) rfl (by decide +kernel) (v := .int (iZ (((n + 1) + 1) + 1))) rfl dX2_append_34 ?_
                  refine g_iconst X dX2_append_37 ?_
                  refine g_iadd X dX2_append_38 ?_
                  refine g_put X (index := 15) (ref := "GuideWords$Tape") hin2 0 rfl rfl 1 (by decide) rfl tyX2 tyX2_ok nmX2 (by decide +kernel) rfl rfl rfl rfl (Nat.le_of_ble_eq_true rfl) (ws2 := [(h, .inr (2, [.ref qb, .int (iZ ((((n + 1) + 1) + 1) + 1))])), (qb, .inl (cI, 60, .inl (zA (upZ (upZ (upZ (upZ f n (byZ v 24)) (n + 1) (byZ v 16)) ((n + 1) + 1) (byZ v 8)) (((n + 1) + 1) + 1) (byZ v 0)))))]) rfl dX2_append_39 ?_
                  refine g_iinc (q := 0) (lv2 := [(2, .int (iZ (24 + (-8) + (-8) + (-8) + (-8)))), (0, .ref h), (1, .int (iZ v))]) X dX2_append_42 rfl (by decide) rfl ?_
                  refine g_goto X 3 dX2_append_45 (by decide) ?_
                  refine g_iload_n X 0 dX2_append_3 rfl rfl ?_
                  refine g_if_lt X 48 dX2_append_4 (by decide) (by omega) (fun c_4 => ?_) (fun c_4 => ?_)
                  · skip
                    exact g_vret X hr (by decide) (by decide) dX2_append_48 ⟨rfl, rfl⟩
                  · omega
def qX2_headAt (cB cI cJ cY : ClassId) (h : Nat) (qb : Nat) (f : Int → Int) (n : Int) (a : Int) (k : Int) : Option Value → va_W → Prop := fun rv w1 => ∃ (r : Int), rv = some (.long (lZ r)) ∧ hdVal f a k r ∧ w1 = [(h, .inr (2, [.ref qb, .int (iZ n)])), (qb, .inl (cI, 60, .inl (zA f)))]
set_option maxHeartbeats 4000000 in
set_option maxRecDepth 100000 in
theorem ctX2_headAt (l : Launch) (D : va_G) (cB cI cJ cY : ClassId) (h : Nat) (qb : Nat) (f : Int → Int) (n : Int) (a : Int) (k : Int) (hn : 0 ≤ n ∧ n ≤ 60) (ha : 0 ≤ a ∧ 0 ≤ k ∧ a + k ≤ n) (hf : ∀ j : Int, 0 ≤ j ∧ j < 60 → 0 ≤ f j ∧ f j ≤ 255) : gM l yX2_headAt wsX2_headAt { frames := 0, cells := 0, slots := 0, locals := 0 } D (gT cB cI cJ cY) [.ref h, .int (iZ a), .int (iZ k)] [(h, .inr (2, [.ref qb, .int (iZ n)])), (qb, .inl (cI, 60, .inl (zA f)))] 0 0 (qX2_headAt cB cI cJ cY h qb f n a k) := by
  refine g_start (cc := cX2_headAt) (maxL := 8) (ret := some .long) (lv := [(0, .ref h), (1, .int (iZ a)), (2, .int (iZ k))]) (by decide) rfl (Nat.le_of_ble_eq_true rfl) rfl ?_
  intro p e s m args below meth c A X hr hnm
  have hin2 : ∀ w ∈ u_ws RX2 TX2 2, w ∈ wsX2_headAt := by decide +kernel
  refine g_iload_n X 2 dX2_headAt_0 rfl rfl ?_
  refine g_iconst X dX2_headAt_1 ?_
  refine g_icmp_lt X 25 dX2_headAt_2 (by decide) (by omega) (by omega) (fun c_2 => ?_) (fun c_2 => ?_)
  · skip
    have hno : ¬ isHd f a k := fun h => by have h1 := h.1; have h2 := h.2.1; omega
    refine g_lconst (z := 0) X dX2_headAt_25 rfl ?_
    exact g_lret X hr (by decide) (by decide) dX2_headAt_26 ⟨_, rfl, Or.inr ⟨hno, rfl⟩, rfl⟩
  · skip
    refine g_iload_n X 2 dX2_headAt_5 rfl rfl ?_
    refine g_bipush X dX2_headAt_6 (by decide) ?_
    refine g_icmp_gt X 25 dX2_headAt_8 (by decide) (by omega) (by omega) (fun c_8 => ?_) (fun c_8 => ?_)
    · skip
      have hno : ¬ isHd f a k := fun h => by have h1 := h.1; have h2 := h.2.1; omega
      refine g_lconst (z := 0) X dX2_headAt_25 rfl ?_
      exact g_lret X hr (by decide) (by decide) dX2_headAt_26 ⟨_, rfl, Or.inr ⟨hno, rfl⟩, rfl⟩
    · skip
      refine g_iload_n X 1 dX2_headAt_11 rfl rfl ?_
      refine g_if_lt X 25 dX2_headAt_12 (by decide) (by omega) (fun c_12 => ?_) (fun c_12 => ?_)
      · skip
        omega
      · skip
        refine g_iload_n X 1 dX2_headAt_15 rfl rfl ?_
        refine g_aload_n X 0 dX2_headAt_16 rfl rfl ?_
        refine g_get X (index := 15) (ref := "GuideWords$Tape") hin2 0 rfl rfl 1 (by decide) rfl (by decide +kernel) (v := .int (iZ n)) rfl dX2_headAt_17 ?_
        refine g_iload_n X 2 dX2_headAt_20 rfl rfl ?_
        refine g_isub X dX2_headAt_21 ?_
        refine g_icmp_le X 27 dX2_headAt_22 (by decide) (by omega) (by omega) (fun c_22 => ?_) (fun c_22 => ?_)
        · skip
          refine g_lconst (z := 0) X dX2_headAt_27 rfl ?_
          refine g_lstore_n (lv2 := [(3, .long (lZ 0)), (0, .ref h), (1, .int (iZ a)), (2, .int (iZ k))]) X dX2_headAt_28 rfl (by decide) rfl ?_
          refine g_bipush X dX2_headAt_29 (by decide) ?_
          refine g_istore (lv2 := [(5, .int (iZ 55)), (3, .long (lZ 0)), (0, .ref h), (1, .int (iZ a)), (2, .int (iZ k))]) X dX2_headAt_31 (by decide) rfl ?_
          refine g_iload_n X 3 dX2_headAt_33 rfl rfl ?_
          refine g_istore (lv2 := [(6, .int (iZ a)), (5, .int (iZ 55)), (3, .long (lZ 0)), (0, .ref h), (1, .int (iZ a)), (2, .int (iZ k))]) X dX2_headAt_34 (by decide) rfl ?_
          refine g_lv (lv' := [(0, .ref h), (1, .int (iZ a)), (2, .int (iZ k)), (3, .long (lZ 0)), (5, .int (iZ 55)), (6, .int (iZ a))]) [3, 4, 5, 2, 1, 0] rfl ?_
          have loop_36 : ∀ (kf : Nat) (w : Int) (sh : Int) (i : Int), (hi : a ≤ i ∧ i ≤ a + k) → (hs : sh = 55 - 5 * (i - a)) → (hg : ∀ j : Nat, (j : Int) < i - a → 97 ≤ f (a + j) ∧ f (a + j) ≤ 122) → (hw : w = encZ f a (i - a).toNat) → (a + k - i).toNat < kf → gW p l e { frames := 0, cells := 0, slots := 0, locals := 0 } s m args below meth c D A 8 0 0 (MQ below (gQ D (gT cB cI cJ cY) (qX2_headAt cB cI cJ cY h qb f n a k) A) args s 0 0 A) [(h, .inr (2, [.ref qb, .int (iZ n)])), (qb, .inl (cI, 60, .inl (zA f)))] 36 [(0, .ref h), (1, .int (iZ a)), (2, .int (iZ k)), (3, .long (lZ w)), (5, .int (iZ sh)), (6, .int (iZ i))] [] := by
            intro kf
            induction kf with
            | zero => intro w sh i hi hs hg hw hm; exact absurd hm (Nat.not_lt_zero _)
            | succ kf ih_36 =>
              intro w sh i hi hs hg hw hm
              refine g_iload X 5 dX2_headAt_36 rfl ?_
              refine g_iload_n X 1 dX2_headAt_38 rfl rfl ?_
              refine g_iload_n X 2 dX2_headAt_39 rfl rfl ?_
              refine g_iadd X dX2_headAt_40 ?_
              refine g_icmp_ge X 90 dX2_headAt_41 (by decide) (by omega) (by omega) (fun c_41 => ?_) (fun c_41 => ?_)
              · skip
                have hyes : isHd f a k := ⟨by omega, by omega, fun j h1 h2 => by have h3 := hg j.toNat (by omega); rw [show ((j.toNat : Nat) : Int) = j by omega] at h3; exact h3⟩
                refine g_lload_n X 3 dX2_headAt_90 rfl rfl ?_
                exact g_lret X hr (by decide) (by decide) dX2_headAt_91 ⟨_, rfl, Or.inl ⟨hyes, by rw [hw, show i - a = k by omega]⟩, rfl⟩
              · skip
                refine g_aload_n X 0 dX2_headAt_44 rfl rfl ?_
                refine g_get X (index := 11) (ref := "GuideWords$Tape") hin2 0 rfl rfl 0 (by decide) rfl (by decide +kernel) (v := .ref qb) rfl dX2_headAt_45 ?_
                refine g_iload X 5 dX2_headAt_48 rfl ?_
                refine g_iald X 1 1 rfl rfl (by omega) (by decide) dX2_headAt_50 ?_
                have r_50 := hf i (by omega)
                refine g_bipush X dX2_headAt_51 (by decide) ?_
                refine g_isub X dX2_headAt_53 ?_
                refine g_istore (lv2 := [(7, .int (iZ ((f i) - 97))), (0, .ref h), (1, .int (iZ a)), (2, .int (iZ k)), (3, .long (lZ w)), (5, .int (iZ sh)), (6, .int (iZ i))]) X dX2_headAt_54 (by decide) rfl ?_
                refine g_iload X 0 dX2_headAt_56 rfl ?_
                refine g_if_lt X 68 dX2_headAt_58 (by decide) (by omega) (fun c_58 => ?_) (fun c_58 => ?_)
                · skip
                  have hno : ¬ isHd f a k := fun h => by have h2 := h.2.2 (i - a) (by omega) (by omega); rw [show a + (i - a) = i by omega] at h2; omega
                  refine g_lconst (z := 0) X dX2_headAt_68 rfl ?_
                  exact g_lret X hr (by decide) (by decide) dX2_headAt_69 ⟨_, rfl, Or.inr ⟨hno, rfl⟩, rfl⟩
                · skip
                  refine g_iload X 0 dX2_headAt_61 rfl ?_
                  refine g_bipush X dX2_headAt_63 (by decide) ?_
                  refine g_icmp_lt X 70 dX2_headAt_65 (by decide) (by omega) (by omega) (fun c_65 => ?_) (fun c_65 => ?_)
                  · skip
                    have ei : a + ((i - a).toNat : Int) = i := by omega
                    have hg2 : ∀ j : Nat, (j : Int) < i + 1 - a → 97 ≤ f (a + j) ∧ f (a + j) ≤ 122 := fun j hj => by
                      rcases (show (j : Int) < i - a ∨ j = (i - a).toNat by omega) with h | h
                      · exact hg j h
                      · subst h; rw [ei]; omega
                    refine g_lload_n X 4 dX2_headAt_70 rfl rfl ?_
                    refine g_iload X 0 dX2_headAt_71 rfl ?_
                    refine g_iconst X dX2_headAt_73 ?_
                    refine g_iadd X dX2_headAt_74 ?_
                    refine g_i2l X dX2_headAt_75 (by omega) ?_
                    refine g_iload X 5 dX2_headAt_76 rfl ?_
                    refine g_lshl (z := (f i - 96) * 2 ^ (55 - 5 * (i - a).toNat)) X dX2_headAt_78 (by rw [show f i - 97 + 1 = f i - 96 by omega]; exact hd_shl (by omega) (by omega) (by omega)) ?_
                    refine g_lor (z := encZ f a ((i - a).toNat + 1)) X dX2_headAt_79 (by rw [hw]; have h := hd_lor f a (i - a).toNat (by omega) (fun j hj => hg2 j (by omega)); rw [ei] at h; exact h) ?_
                    refine g_lstore_n (lv2 := [(3, .long (lZ (encZ f a ((i - a).toNat + 1)))), (7, .int (iZ ((f i) - 97))), (0, .ref h), (1, .int (iZ a)), (2, .int (iZ k)), (5, .int (iZ sh)), (6, .int (iZ i))]) X dX2_headAt_80 rfl (by decide) rfl ?_
                    refine g_iinc (q := 5) (lv2 := [(5, .int (iZ (sh + (-5)))), (3, .long (lZ (encZ f a ((i - a).toNat + 1)))), (7, .int (iZ ((f i) - 97))), (0, .ref h), (1, .int (iZ a)), (2, .int (iZ k)), (6, .int (iZ i))]) X dX2_headAt_81 rfl (by decide) rfl ?_
                    refine g_iinc (q := 6) (lv2 := [(6, .int (iZ (i + 1))), (5, .int (iZ (sh + (-5)))), (3, .long (lZ (encZ f a ((i - a).toNat + 1)))), (7, .int (iZ ((f i) - 97))), (0, .ref h), (1, .int (iZ a)), (2, .int (iZ k))]) X dX2_headAt_84 rfl (by decide) rfl ?_
                    refine g_goto X 36 dX2_headAt_87 (by decide) ?_
                    refine g_lv (lv' := [(0, .ref h), (1, .int (iZ a)), (2, .int (iZ k)), (3, .long (lZ (encZ f a ((i - a).toNat + 1)))), (5, .int (iZ (sh + (-5)))), (6, .int (iZ (i + 1)))]) [4, 5, 6, 2, 1, 0] rfl ?_
                    exact ih_36 (encZ f a ((i - a).toNat + 1)) (sh + (-5)) (i + 1) (by omega) (by omega) hg2 (by rw [show (i + 1 - a).toNat = (i - a).toNat + 1 by omega]) (by omega)
                  · skip
                    have hno : ¬ isHd f a k := fun h => by have h2 := h.2.2 (i - a) (by omega) (by omega); rw [show a + (i - a) = i by omega] at h2; omega
                    refine g_lconst (z := 0) X dX2_headAt_68 rfl ?_
                    exact g_lret X hr (by decide) (by decide) dX2_headAt_69 ⟨_, rfl, Or.inr ⟨hno, rfl⟩, rfl⟩
          exact loop_36 _ 0 55 a (by omega) (by omega) (fun j hj => by omega) (by simp [encZ]) (Nat.lt_succ_self _)
        · skip
          omega
def qX2_firstLetter (cB cI cJ cY : ClassId) (x : Int) : Option Value → va_W → Prop := fun rv w1 => rv = some (.int (iZ (x / 36028797018963968 - 1))) ∧ w1 = []
set_option maxHeartbeats 4000000 in
set_option maxRecDepth 100000 in
theorem ctX2_firstLetter (l : Launch) (D : va_G) (cB cI cJ cY : ClassId) (x : Int) (hx : 0 ≤ x ∧ x < 1152921504606846976) : gM l yX2_firstLetter wsX2_firstLetter { frames := 0, cells := 0, slots := 0, locals := 0 } D (gT cB cI cJ cY) [.long (lZ x)] [] 0 0 (qX2_firstLetter cB cI cJ cY x) := by
  refine g_start (cc := cX2_firstLetter) (maxL := 2) (ret := some .int) (lv := [(0, .long (lZ x))]) (by decide) rfl (Nat.le_of_ble_eq_true rfl) rfl ?_
  intro p e s m args below meth c A X hr hnm
  refine g_lload_n X 0 dX2_firstLetter_0 rfl rfl ?_
  refine g_bipush X dX2_firstLetter_1 (by decide) ?_
  refine g_lushr (z := x / 36028797018963968) X dX2_firstLetter_3 (hd_ushr hx) ?_
  refine g_l2i X dX2_firstLetter_4 ?_
  refine g_iconst X dX2_firstLetter_5 ?_
  refine g_isub X dX2_firstLetter_6 ?_
  exact g_iret X hr (by decide) (by decide) dX2_firstLetter_7 ⟨rfl, rfl⟩
