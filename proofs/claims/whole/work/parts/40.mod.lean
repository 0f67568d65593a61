def inM (wh v : Int) : Prop := (wh = 0 ∧ 4 ≤ v ∧ v ≤ 60) ∨ (wh = 1 ∧ 1 ≤ v ∧ v ≤ 4) ∨ (wh = 2 ∧ 0 ≤ v ∧ v ≤ 3) ∨ ((wh = 3 ∨ wh = 4) ∧ 0 ≤ v ∧ v ≤ 1000)
def setM (z1 z2 z3 z4 z5 wh v r t y1 y2 y3 y4 y5 : Int) : Prop := (¬ inM wh v ∧ t = 1 ∧ r = 0 ∧ y1 = z1 ∧ y2 = z2 ∧ y3 = z3 ∧ y4 = z4 ∧ y5 = z5) ∨ (inM wh v ∧ t = 0 ∧ ((wh = 0 ∧ r = z1 ∧ y1 = v ∧ y2 = z2 ∧ y3 = z3 ∧ y4 = z4 ∧ y5 = z5) ∨ (wh = 1 ∧ r = z2 ∧ y1 = z1 ∧ y2 = v ∧ y3 = z3 ∧ y4 = z4 ∧ y5 = z5) ∨ (wh = 2 ∧ r = z3 ∧ y1 = z1 ∧ y2 = z2 ∧ y3 = v ∧ y4 = z4 ∧ y5 = z5) ∨ (wh = 3 ∧ r = z4 ∧ y1 = z1 ∧ y2 = z2 ∧ y3 = z3 ∧ y4 = v ∧ y5 = z5) ∨ (wh = 4 ∧ r = z5 ∧ y1 = z1 ∧ y2 = z2 ∧ y3 = z3 ∧ y4 = z4 ∧ y5 = v)))
def sbZ (v : Int) (k : Nat) : Int := (v / 2 ^ k + 128) % 256 - 128
theorem sbZ_rng (v : Int) (k : Nat) : -128 ≤ sbZ v k ∧ sbZ v k ≤ 127 := by unfold sbZ; omega
theorem iZ_shr {z : Int} {y : Int32} {k : Nat} (hz : -2147483648 ≤ z ∧ z ≤ 2147483647) (hk : ((y &&& 31).toBitVec.smod 32).toNat = k) : iZ z >>> (y &&& 31) = iZ (z >>> k) := by
  have h1 := pk_shr (iZ z) (y &&& 31) k hk
  rw [iZ_toInt hz] at h1
  rw [iZ_of (iZ z >>> (y &&& 31)), h1]
theorem shr_div (z : Int) (k : Nat) : z >>> k = z / 2 ^ k := Int.shiftRight_eq_div_pow z k
theorem iZ_i8 (z : Int) : (iZ z).toInt8.toInt32 = iZ ((z + 128) % 256 - 128) := by
  have h1 : (iZ z).toInt8 = Int8.ofInt z := by simp [iZ]
  rw [h1]
  apply Int32.toInt_inj.mp
  rw [Int8.toInt_toInt32, iZ_toInt (by omega), Int8.toInt_ofInt]
  have h2 : Int.bmod z Int8.size = Int.bmod z 256 := rfl
  rw [h2, Int.bmod_def]
  split <;> omega
theorem nar_i8 (z : Int) : vp_nar .byte (iZ ((z + 128) % 256 - 128)) = iZ ((z + 128) % 256 - 128) := by
  rw [← iZ_i8]; exact pk_vb _
def ap4M (f : Int → Int) (n v : Int) : Int → Int := upZ (upZ (upZ (upZ f n (sbZ v 24)) (n + 1) (sbZ v 16)) (n + 1 + 1) (sbZ v 8)) (n + 1 + 1 + 1) (sbZ v 0)
def fdM (f : Int → Int) (n a b c d e9 : Int) : Int → Int := ap4M (ap4M (ap4M (ap4M (ap4M f n a) (n + 1 + 1 + 1 + 1) b) (n + 1 + 1 + 1 + 1 + 1 + 1 + 1 + 1) c) (n + 1 + 1 + 1 + 1 + 1 + 1 + 1 + 1 + 1 + 1 + 1 + 1) d) (n + 1 + 1 + 1 + 1 + 1 + 1 + 1 + 1 + 1 + 1 + 1 + 1 + 1 + 1 + 1 + 1) e9
def qX5_thrown (cB cI cJ cY : ClassId) (m0 : Nat) (a6 : Nat) (a8 : Nat) (a10 : Nat) (a11 : Nat) (a12 : Nat) (a13 : Nat) (a14 : Nat) (a15 : Nat) (a17 : Nat) (a19 : Nat) (a20 : Nat) (a21 : Nat) (a22 : Nat) (a23 : Nat) (a24 : Nat) (a26 : Nat) (a27 : Nat) (a28 : Nat) (a35 : Nat) (a36 : Nat) (a37 : Nat) (a38 : Nat) (a39 : Nat) (a40 : Nat) (a41 : Nat) (a44 : Nat) (a45 : Nat) (z0 : Int) (z1 : Int) (z2 : Int) (z3 : Int) (z4 : Int) (z5 : Int) (z7 : Int) (z9 : Int) (z16 : Int) (z18 : Int) (z25 : Int) (z29 : Int) (z30 : Int) (z31 : Int) (z32 : Int) (z33 : Int) (z34 : Int) (z42 : Int) (z43 : Int) : Option Value → va_W → Prop := fun rv w1 => rv = some (.int (iZ z0)) ∧ w1 = [(m0, .inr (5, [.int (iZ z0), .int (iZ z1), .int (iZ z2), .int (iZ z3), .int (iZ z4), .int (iZ z5), .ref a6, .int (iZ z7), .ref a8, .int (iZ z9), .ref a10, .ref a11, .ref a12, .ref a13, .ref a14, .ref a15, .int (iZ z16), .ref a17, .int (iZ z18), .ref a19, .ref a20, .ref a21, .ref a22, .ref a23, .ref a24, .int (iZ z25), .ref a26, .ref a27, .ref a28, .int (iZ z29), .int (iZ z30), .int (iZ z31), .int (iZ z32), .int (iZ z33), .int (iZ z34), .ref a35, .ref a36, .ref a37, .ref a38, .ref a39, .ref a40, .ref a41, .int (iZ z42), .int (iZ z43), .ref a44, .ref a45]))]
set_option maxHeartbeats 4000000 in
set_option maxRecDepth 100000 in
theorem ctX5_thrown (l : Launch) (D : va_G) (cB cI cJ cY : ClassId) (m0 : Nat) (a6 : Nat) (a8 : Nat) (a10 : Nat) (a11 : Nat) (a12 : Nat) (a13 : Nat) (a14 : Nat) (a15 : Nat) (a17 : Nat) (a19 : Nat) (a20 : Nat) (a21 : Nat) (a22 : Nat) (a23 : Nat) (a24 : Nat) (a26 : Nat) (a27 : Nat) (a28 : Nat) (a35 : Nat) (a36 : Nat) (a37 : Nat) (a38 : Nat) (a39 : Nat) (a40 : Nat) (a41 : Nat) (a44 : Nat) (a45 : Nat) (z0 : Int) (z1 : Int) (z2 : Int) (z3 : Int) (z4 : Int) (z5 : Int) (z7 : Int) (z9 : Int) (z16 : Int) (z18 : Int) (z25 : Int) (z29 : Int) (z30 : Int) (z31 : Int) (z32 : Int) (z33 : Int) (z34 : Int) (z42 : Int) (z43 : Int)  : gM l yX5_thrown wsX5_thrown { frames := 0, cells := 0, slots := 0, locals := 0 } D (gT cB cI cJ cY) [.ref m0] [(m0, .inr (5, [.int (iZ z0), .int (iZ z1), .int (iZ z2), .int (iZ z3), .int (iZ z4), .int (iZ z5), .ref a6, .int (iZ z7), .ref a8, .int (iZ z9), .ref a10, .ref a11, .ref a12, .ref a13, .ref a14, .ref a15, .int (iZ z16), .ref a17, .int (iZ z18), .ref a19, .ref a20, .ref a21, .ref a22, .ref a23, .ref a24, .int (iZ z25), .ref a26, .ref a27, .ref a28, .int (iZ z29), .int (iZ z30), .int (iZ z31), .int (iZ z32), .int (iZ z33), .int (iZ z34), .ref a35, .ref a36, .ref a37, .ref a38, .ref a39, .ref a40, .ref a41, .int (iZ z42), .int (iZ z43), .ref a44, .ref a45]))] 0 0 (qX5_thrown cB cI cJ cY m0 a6 a8 a10 a11 a12 a13 a14 a15 a17 a19 a20 a21 a22 a23 a24 a26 a27 a28 a35 a36 a37 a38 a39 a40 a41 a44 a45 z0 z1 z2 z3 z4 z5 z7 z9 z16 z18 z25 z29 z30 z31 z32 z33 z34 z42 z43) := by
  refine g_start (cc := cX5_thrown) (maxL := 1) (ret := some .int) (lv := [(0, .ref m0)]) (by decide) rfl (Nat.le_of_ble_eq_true rfl) rfl ?_
  intro p e s m args below meth c A X hr hnm
  have hin5 : ∀ w ∈ u_ws RX5 TX5 46, w ∈ wsX5_thrown := by decide +kernel
  refine g_aload_n X 0 dX5_thrown_0 rfl rfl ?_
  refine g_get X (index := 116) (ref := "GuideWordsModel") hin5 0 rfl rfl 0 (by decide) rfl (by decide +kernel) (v := .int (iZ z0)) rfl dX5_thrown_1 ?_
  exact g_iret X hr (by decide) (by decide) dX5_thrown_4 ⟨rfl, rfl⟩
def qX5_bad (cB cI cJ cY : ClassId) (m0 : Nat) (a6 : Nat) (a8 : Nat) (a10 : Nat) (a11 : Nat) (a12 : Nat) (a13 : Nat) (a14 : Nat) (a15 : Nat) (a17 : Nat) (a19 : Nat) (a20 : Nat) (a21 : Nat) (a22 : Nat) (a23 : Nat) (a24 : Nat) (a26 : Nat) (a27 : Nat) (a28 : Nat) (a35 : Nat) (a36 : Nat) (a37 : Nat) (a38 : Nat) (a39 : Nat) (a40 : Nat) (a41 : Nat) (a44 : Nat) (a45 : Nat) (z0 : Int) (z1 : Int) (z2 : Int) (z3 : Int) (z4 : Int) (z5 : Int) (z7 : Int) (z9 : Int) (z16 : Int) (z18 : Int) (z25 : Int) (z29 : Int) (z30 : Int) (z31 : Int) (z32 : Int) (z33 : Int) (z34 : Int) (z42 : Int) (z43 : Int) (b : Int) (wt : Int) : Option Value → va_W → Prop := fun rv w1 => ∃ (x0 : Int), rv = some (.int (iZ b)) ∧ x0 = (if b = 0 then z0 else wt) ∧ w1 = [(m0, .inr (5, [.int (iZ x0), .int (iZ z1), .int (iZ z2), .int (iZ z3), .int (iZ z4), .int (iZ z5), .ref a6, .int (iZ z7), .ref a8, .int (iZ z9), .ref a10, .ref a11, .ref a12, .ref a13, .ref a14, .ref a15, .int (iZ z16), .ref a17, .int (iZ z18), .ref a19, .ref a20, .ref a21, .ref a22, .ref a23, .ref a24, .int (iZ z25), .ref a26, .ref a27, .ref a28, .int (iZ z29), .int (iZ z30), .int (iZ z31), .int (iZ z32), .int (iZ z33), .int (iZ z34), .ref a35, .ref a36, .ref a37, .ref a38, .ref a39, .ref a40, .ref a41, .int (iZ z42), .int (iZ z43), .ref a44, .ref a45]))]
set_option maxHeartbeats 4000000 in
set_option maxRecDepth 100000 in
theorem ctX5_bad (l : Launch) (D : va_G) (cB cI cJ cY : ClassId) (m0 : Nat) (a6 : Nat) (a8 : Nat) (a10 : Nat) (a11 : Nat) (a12 : Nat) (a13 : Nat) (a14 : Nat) (a15 : Nat) (a17 : Nat) (a19 : Nat) (a20 : Nat) (a21 : Nat) (a22 : Nat) (a23 : Nat) (a24 : Nat) (a26 : Nat) (a27 : Nat) (a28 : Nat) (a35 : Nat) (a36 : Nat) (a37 : Nat) (a38 : Nat) (a39 : Nat) (a40 : Nat) (a41 : Nat) (a44 : Nat) (a45 : Nat) (z0 : Int) (z1 : Int) (z2 : Int) (z3 : Int) (z4 : Int) (z5 : Int) (z7 : Int) (z9 : Int) (z16 : Int) (z18 : Int) (z25 : Int) (z29 : Int) (z30 : Int) (z31 : Int) (z32 : Int) (z33 : Int) (z34 : Int) (z42 : Int) (z43 : Int) (b : Int) (wt : Int) (hb : b = 0 ∨ b = 1) : gM l yX5_bad wsX5_bad { frames := 0, cells := 0, slots := 0, locals := 0 } D (gT cB cI cJ cY) [.ref m0, .int (iZ b), .int (iZ wt)] [(m0, .inr (5, [.int (iZ z0), .int (iZ z1), .int (iZ z2), .int (iZ z3), .int (iZ z4), .int (iZ z5), .ref a6, .int (iZ z7), .ref a8, .int (iZ z9), .ref a10, .ref a11, .ref a12, .ref a13, .ref a14, .ref a15, .int (iZ z16), .ref a17, .int (iZ z18), .ref a19, .ref a20, .ref a21, .ref a22, .ref a23, .ref a24, .int (iZ z25), .ref a26, .ref a27, .ref a28, .int (iZ z29), .int (iZ z30), .int (iZ z31), .int (iZ z32), .int (iZ z33), .int (iZ z34), .ref a35, .ref a36, .ref a37, .ref a38, .ref a39, .ref a40, .ref a41, .int (iZ z42), .int (iZ z43), .ref a44, .ref a45]))] 0 0 (qX5_bad cB cI cJ cY m0 a6 a8 a10 a11 a12 a13 a14 a15 a17 a19 a20 a21 a22 a23 a24 a26 a27 a28 a35 a36 a37 a38 a39 a40 a41 a44 a45 z0 z1 z2 z3 z4 z5 z7 z9 z16 z18 z25 z29 z30 z31 z32 z33 z34 z42 z43 b wt) := by
  refine g_start (cc := cX5_bad) (maxL := 3) (ret := some .boolean) (lv := [(0, .ref m0), (1, .int (iZ b)), (2, .int (iZ wt))]) (by decide) rfl (Nat.le_of_ble_eq_true rfl) rfl ?_
  intro p e s m args below meth c A X hr hnm
  have hin5 : ∀ w ∈ u_ws RX5 TX5 46, w ∈ wsX5_bad := by decide +kernel
  refine g_iload_n X 1 dX5_bad_0 rfl rfl ?_
  refine g_if_eq X 9 dX5_bad_1 (by decide) (by omega) (fun c_1 => ?_) (fun c_1 => ?_)
  · skip
    refine g_iload_n X 1 dX5_bad_9 rfl rfl ?_
    exact g_zret X (by omega) hr (by decide) (by decide) dX5_bad_10 ⟨_, rfl, by first | rw [if_pos c_1] | rw [if_neg c_1], rfl⟩
  · skip
    refine g_aload_n X 0 dX5_bad_4 rfl rfl ?_
    refine g_iload_n X 2 dX5_bad_5 rfl rfl ?_
    refine g_put X (index := 116) (ref := "GuideWordsModel") hin5 0 rfl rfl 0 (by decide) rfl tyX5 tyX5_ok nmX5 (by decide +kernel) rfl rfl rfl rfl (Nat.le_of_ble_eq_true rfl) (ws2 := [(m0, .inr (5, [.int (iZ wt), .int (iZ z1), .int (iZ z2), .int (iZ z3), .int (iZ z4), .int (iZ z5), .ref a6, .int (iZ z7), .ref a8, .int (iZ z9), .ref a10, .ref a11, .ref a12, .ref a13, .ref a14, .ref a15, .int (iZ z16), .ref a17, .int (iZ z18), .ref a19, .ref a20, .ref a21, .ref a22, .ref a23, .ref a24, .int (iZ z25), .ref a26, .ref a27, .ref a28, .int (iZ z29), .int (iZ z30), .int (iZ z31), .int (iZ z32), .int (iZ z33), .int (iZ z34), .ref a35, .ref a36, .ref a37, .ref a38, .ref a39, .ref a40, .ref a41, .int (iZ z42), .int (iZ z43), .ref a44, .ref a45]))]) rfl dX5_bad_6 ?_
    refine g_iload_n X 1 dX5_bad_9 rfl rfl ?_
    exact g_zret X (by omega) hr (by decide) (by decide) dX5_bad_10 ⟨_, rfl, by first | rw [if_pos c_1] | rw [if_neg c_1], rfl⟩
def qX5_set (cB cI cJ cY : ClassId) (m0 : Nat) (a6 : Nat) (a8 : Nat) (a10 : Nat) (a11 : Nat) (a12 : Nat) (a13 : Nat) (a14 : Nat) (a15 : Nat) (a17 : Nat) (a19 : Nat) (a20 : Nat) (a21 : Nat) (a22 : Nat) (a23 : Nat) (a24 : Nat) (a26 : Nat) (a27 : Nat) (a28 : Nat) (a35 : Nat) (a36 : Nat) (a37 : Nat) (a38 : Nat) (a39 : Nat) (a40 : Nat) (a41 : Nat) (a44 : Nat) (a45 : Nat) (z0 : Int) (z1 : Int) (z2 : Int) (z3 : Int) (z4 : Int) (z5 : Int) (z7 : Int) (z9 : Int) (z16 : Int) (z18 : Int) (z25 : Int) (z29 : Int) (z30 : Int) (z31 : Int) (z32 : Int) (z33 : Int) (z34 : Int) (z42 : Int) (z43 : Int) (wh : Int) (v : Int) : Option Value → va_W → Prop := fun rv w1 => ∃ (r : Int) (t : Int) (y1 : Int) (y2 : Int) (y3 : Int) (y4 : Int) (y5 : Int), rv = some (.int (iZ r)) ∧ setM z1 z2 z3 z4 z5 wh v r t y1 y2 y3 y4 y5 ∧ w1 = [(m0, .inr (5, [.int (iZ t), .int (iZ y1), .int (iZ y2), .int (iZ y3), .int (iZ y4), .int (iZ y5), .ref a6, .int (iZ z7), .ref a8, .int (iZ z9), .ref a10, .ref a11, .ref a12, .ref a13, .ref a14, .ref a15, .int (iZ z16), .ref a17, .int (iZ z18), .ref a19, .ref a20, .ref a21, .ref a22, .ref a23, .ref a24, .int (iZ z25), .ref a26, .ref a27, .ref a28, .int (iZ z29), .int (iZ z30), .int (iZ z31), .int (iZ z32), .int (iZ z33), .int (iZ z34), .ref a35, .ref a36, .ref a37, .ref a38, .ref a39, .ref a40, .ref a41, .int (iZ z42), .int (iZ z43), .ref a44, .ref a45]))]
set_option maxHeartbeats 4000000 in
set_option maxRecDepth 100000 in
theorem ctX5_set (l : Launch) (D : va_G) (cB cI cJ cY : ClassId) (m0 : Nat) (a6 : Nat) (a8 : Nat) (a10 : Nat) (a11 : Nat) (a12 : Nat) (a13 : Nat) (a14 : Nat) (a15 : Nat) (a17 : Nat) (a19 : Nat) (a20 : Nat) (a21 : Nat) (a22 : Nat) (a23 : Nat) (a24 : Nat) (a26 : Nat) (a27 : Nat) (a28 : Nat) (a35 : Nat) (a36 : Nat) (a37 : Nat) (a38 : Nat) (a39 : Nat) (a40 : Nat) (a41 : Nat) (a44 : Nat) (a45 : Nat) (z0 : Int) (z1 : Int) (z2 : Int) (z3 : Int) (z4 : Int) (z5 : Int) (z7 : Int) (z9 : Int) (z16 : Int) (z18 : Int) (z25 : Int) (z29 : Int) (z30 : Int) (z31 : Int) (z32 : Int) (z33 : Int) (z34 : Int) (z42 : Int) (z43 : Int) (wh : Int) (v : Int) (h_wh : -2147483648 ≤ wh ∧ wh ≤ 2147483647) (h_v : -2147483648 ≤ v ∧ v ≤ 2147483647) : gM l yX5_set wsX5_set { frames := 1, cells := 0, slots := 0, locals := 22 } D (gT cB cI cJ cY) [.ref m0, .int (iZ wh), .int (iZ v)] [(m0, .inr (5, [.int (iZ z0), .int (iZ z1), .int (iZ z2), .int (iZ z3), .int (iZ z4), .int (iZ z5), .ref a6, .int (iZ z7), .ref a8, .int (iZ z9), .ref a10, .ref a11, .ref a12, .ref a13, .ref a14, .ref a15, .int (iZ z16), .ref a17, .int (iZ z18), .ref a19, .ref a20, .ref a21, .ref a22, .ref a23, .ref a24, .int (iZ z25), .ref a26, .ref a27, .ref a28, .int (iZ z29), .int (iZ z30), .int (iZ z31), .int (iZ z32), .int (iZ z33), .int (iZ z34), .ref a35, .ref a36, .ref a37, .ref a38, .ref a39, .ref a40, .ref a41, .int (iZ z42), .int (iZ z43), .ref a44, .ref a45]))] 0 0 (qX5_set cB cI cJ cY m0 a6 a8 a10 a11 a12 a13 a14 a15 a17 a19 a20 a21 a22 a23 a24 a26 a27 a28 a35 a36 a37 a38 a39 a40 a41 a44 a45 z0 z1 z2 z3 z4 z5 z7 z9 z16 z18 z25 z29 z30 z31 z32 z33 z34 z42 z43 wh v) := by
  refine g_start (cc := cX5_set) (maxL := 6) (ret := some .int) (lv := [(0, .ref m0), (1, .int (iZ wh)), (2, .int (iZ v))]) (by decide) rfl (Nat.le_of_ble_eq_true rfl) rfl ?_
  intro p e s m args below meth c A X hr hnm
  have hin5 : ∀ w ∈ u_ws RX5 TX5 46, w ∈ wsX5_set := by decide +kernel
  refine g_aload_n X 0 dX5_set_0 rfl rfl ?_
  refine g_iconst X dX5_set_1 ?_
  refine g_put X (index := 116) (ref := "GuideWordsModel") hin5 0 rfl rfl 0 (by decide) rfl tyX5 tyX5_ok nmX5 (by decide +kernel) rfl rfl rfl rfl (Nat.le_of_ble_eq_true rfl) (ws2 := [(m0, .inr (5, [.int (iZ 0), .int (iZ z1), .int (iZ z2), .int (iZ z3), .int (iZ z4), .int (iZ z5), .ref a6, .int (iZ z7), .ref a8, .int (iZ z9), .ref a10, .ref a11, .ref a12, .ref a13, .ref a14, .ref a15, .int (iZ z16), .ref a17, .int (iZ z18), .ref a19, .ref a20, .ref a21, .ref a22, .ref a23, .ref a24, .int (iZ z25), .ref a26, .ref a27, .ref a28, .int (iZ z29), .int (iZ z30), .int (iZ z31), .int (iZ z32), .int (iZ z33), .int (iZ z34), .ref a35, .ref a36, .ref a37, .ref a38, .ref a39, .ref a40, .ref a41, .int (iZ z42), .int (iZ z43), .ref a44, .ref a45]))]) rfl dX5_set_2 ?_
  refine g_iload_n X 1 dX5_set_5 rfl rfl ?_
  refine g_if_ne X 13 dX5_set_6 (by decide) (by omega) (fun c_6 => ?_) (fun c_6 => ?_)
  · skip
    refine g_iload_n X 1 dX5_set_13 rfl rfl ?_
    refine g_iconst X dX5_set_14 ?_
    refine g_icmp_ne X 22 dX5_set_15 (by decide) (by omega) (by omega) (fun c_15 => ?_) (fun c_15 => ?_)
    · skip
      refine g_iconst X dX5_set_22 ?_
      refine g_istore_n (lv2 := [(3, .int (iZ 0)), (0, .ref m0), (1, .int (iZ wh)), (2, .int (iZ v))]) X dX5_set_23 rfl (by decide) rfl ?_
      refine g_iload_n X 2 dX5_set_24 rfl rfl ?_
      refine g_if_ne X 33 dX5_set_25 (by decide) (by omega) (fun c_25 => ?_) (fun c_25 => ?_)
      · skip
        refine g_iload_n X 2 dX5_set_33 rfl rfl ?_
        refine g_iconst X dX5_set_34 ?_
        refine g_icmp_ne X 42 dX5_set_35 (by decide) (by omega) (by omega) (fun c_35 => ?_) (fun c_35 => ?_)
        · skip
          refine g_iload_n X 2 dX5_set_42 rfl rfl ?_
          refine g_iconst X dX5_set_43 ?_
          refine g_icmp_ne X 51 dX5_set_44 (by decide) (by omega) (by omega) (fun c_44 => ?_) (fun c_44 => ?_)
          · skip
            refine g_sipush X dX5_set_51 (by decide) ?_
            refine g_istore (lv2 := [(4, .int (iZ 1000)), (3, .int (iZ 0)), (0, .ref m0), (1, .int (iZ wh)), (2, .int (iZ v))]) X dX5_set_54 (by decide) rfl ?_
            refine g_aload_n X 2 dX5_set_56 rfl rfl ?_
            refine g_iload_n X 3 dX5_set_57 rfl rfl ?_
            refine g_if_lt X 77 dX5_set_58 (by decide) (by omega) (fun c_58 => ?_) (fun c_58 => ?_)
            · skip
              refine g_iconst X dX5_set_77 ?_
              refine g_goto X 82 dX5_set_78 (by decide) ?_
              refine g_iconst X dX5_set_82 ?_
              refine g_callV0 X (As := [.int (iZ 1), .int (iZ 1)]) (rest := []) (ctX5_bad l D cB cI cJ cY m0 a6 a8 a10 a11 a12 a13 a14 a15 a17 a19 a20 a21 a22 a23 a24 a26 a27 a28 a35 a36 a37 a38 a39 a40 a41 a44 a45 0 z1 z2 z3 z4 z5 z7 z9 z16 z18 z25 z29 z30 z31 z32 z33 z34 z42 z43 1 1 (by omega)) (cwV 2 X.2.2.2.2.1 gX5_set_X5_bad rfl rfl rfl (by decide +kernel) ⟨by decide, by decide⟩) 0 rfl rfl (wc := [(m0, .inr (5, [.int (iZ 0), .int (iZ z1), .int (iZ z2), .int (iZ z3), .int (iZ z4), .int (iZ z5), .ref a6, .int (iZ z7), .ref a8, .int (iZ z9), .ref a10, .ref a11, .ref a12, .ref a13, .ref a14, .ref a15, .int (iZ z16), .ref a17, .int (iZ z18), .ref a19, .ref a20, .ref a21, .ref a22, .ref a23, .ref a24, .int (iZ z25), .ref a26, .ref a27, .ref a28, .int (iZ z29), .int (iZ z30), .int (iZ z31), .int (iZ z32), .int (iZ z33), .int (iZ z34), .ref a35, .ref a36, .ref a37, .ref a38, .ref a39, .ref a40, .ref a41, .int (iZ z42), .int (iZ z43), .ref a44, .ref a45]))]) (wr := []) [0] [] rfl rfl (by decide) (by decide) (by decide) rfl rfl (Nat.le_of_ble_eq_true rfl) ⟨by decide, by decide⟩ dX5_set_83 (fun v w1 hq => ?_)
              obtain ⟨x9, rfl, p9, rfl⟩ := hq
              refine g_eq (ws' := [(m0, .inr (5, [.int (iZ x9), .int (iZ z1), .int (iZ z2), .int (iZ z3), .int (iZ z4), .int (iZ z5), .ref a6, .int (iZ z7), .ref a8, .int (iZ z9), .ref a10, .ref a11, .ref a12, .ref a13, .ref a14, .ref a15, .int (iZ z16), .ref a17, .int (iZ z18), .ref a19, .ref a20, .ref a21, .ref a22, .ref a23, .ref a24, .int (iZ z25), .ref a26, .ref a27, .ref a28, .int (iZ z29), .int (iZ z30), .int (iZ z31), .int (iZ z32), .int (iZ z33), .int (iZ z34), .ref a35, .ref a36, .ref a37, .ref a38, .ref a39, .ref a40, .ref a41, .int (iZ z42), .int (iZ z43), .ref a44, .ref a45]))]) (pc' := 86) (st' := [.int (iZ 1)]) rfl rfl rfl rfl ?_
              simp at p9
              subst p9
              refine g_if_eq X 91 dX5_set_86 (by decide) (by omega) (fun c_86 => ?_) (fun c_86 => ?_)
              · omega
              · skip
                refine g_iconst X dX5_set_89 ?_
                exact g_iret X hr (by decide) (by decide) dX5_set_90 ⟨_, _, z1, z2, z3, z4, z5, rfl, Or.inl ⟨by unfold inM; omega, rfl, rfl, rfl, rfl, rfl, rfl, rfl⟩, rfl⟩
            · skip
              refine g_iload_n X 3 dX5_set_61 rfl rfl ?_
              refine g_iconst X dX5_set_62 ?_
              refine g_icmp_gt X 77 dX5_set_63 (by decide) (by omega) (by omega) (fun c_63 => ?_) (fun c_63 => ?_)
              · skip
                refine g_iconst X dX5_set_77 ?_
                refine g_goto X 82 dX5_set_78 (by decide) ?_
                refine g_iconst X dX5_set_82 ?_
                refine g_callV0 X (As := [.int (iZ 1), .int (iZ 1)]) (rest := []) (ctX5_bad l D cB cI cJ cY m0 a6 a8 a10 a11 a12 a13 a14 a15 a17 a19 a20 a21 a22 a23 a24 a26 a27 a28 a35 a36 a37 a38 a39 a40 a41 a44 a45 0 z1 z2 z3 z4 z5 z7 z9 z16 z18 z25 z29 z30 z31 z32 z33 z34 z42 z43 1 1 (by omega)) (cwV 2 X.2.2.2.2.1 gX5_set_X5_bad rfl rfl rfl (by decide +kernel) ⟨by decide, by decide⟩) 0 rfl rfl (wc := [(m0, .inr (5, [.int (iZ 0), .int (iZ z1), .int (iZ z2), .int (iZ z3), .int (iZ z4), .int (iZ z5), .ref a6, .int (iZ z7), .ref a8, .int (iZ z9), .ref a10, .ref a11, .ref a12, .ref a13, .ref a14, .ref a15, .int (iZ z16), .ref a17, .int (iZ z18), .ref a19, .ref a20, .ref a21, .ref a22, .ref a23, .ref a24, .int (iZ z25), .ref a26, .ref a27, .ref a28, .int (iZ z29), .int (iZ z30), .int (iZ z31), .int (iZ z32), .int (iZ z33), .int (iZ z34), .ref a35, .ref a36, .ref a37, .ref a38, .ref a39, .ref a40, .ref a41, .int (iZ z42), .int (iZ z43), .ref a44, .ref a45]))]) (wr := []) [0] [] rfl rfl (by decide) (by decide) (by decide) rfl rfl (Nat.le_of_ble_eq_true rfl) ⟨by decide, by decide⟩ dX5_set_83 (fun v w1 hq => ?_)
                obtain ⟨x9, rfl, p9, rfl⟩ := hq
                refine g_eq (ws' := [(m0, .inr (5, [.int (iZ x9), .int (iZ z1), .int (iZ z2), .int (iZ z3), .int (iZ z4), .int (iZ z5), .ref a6, .int (iZ z7), .ref a8, .int (iZ z9), .ref a10, .ref a11, .ref a12, .ref a13, .ref a14, .ref a15, .int (iZ z16), .ref a17, .int (iZ z18), .ref a19, .ref a20, .ref a21, .ref a22, .ref a23, .ref a24, .int (iZ z25), .ref a26, .ref a27, .ref a28, .int (iZ z29), .int (iZ z30), .int (iZ z31), .int (iZ z32), .int (iZ z33), .int (iZ z34), .ref a35, .ref a36, .ref a37, .ref a38, .ref a39, .ref a40, .ref a41, .int (iZ z42), .int (iZ z43), .ref a44, .ref a45]))]) (pc' := 86) (st' := [.int (iZ 1)]) rfl rfl rfl rfl ?_
                simp at p9
                subst p9
                refine g_if_eq X 91 dX5_set_86 (by decide) (by omega) (fun c_86 => ?_) (fun c_86 => ?_)
                · omega
                · skip
                  refine g_iconst X dX5_set_89 ?_
                  exact g_iret X hr (by decide) (by decide) dX5_set_90 ⟨_, _, z1, z2, z3, z4, z5, rfl, Or.inl ⟨by unfold inM; omega, rfl, rfl, rfl, rfl, rfl, rfl, rfl⟩, rfl⟩
              · skip
                refine g_iload_n X 4 dX5_set_66 rfl rfl ?_
                refine g_iload_n X 1 dX5_set_67 rfl rfl ?_
                refine g_icmp_lt X 77 dX5_set_68 (by decide) (by omega) (by omega) (fun c_68 => ?_) (fun c_68 => ?_)
                · skip
                  refine g_iconst X dX5_set_77 ?_
                  refine g_goto X 82 dX5_set_78 (by decide) ?_
                  refine g_iconst X dX5_set_82 ?_
                  refine g_callV0 X (As := [.int (iZ 1), .int (iZ 1)]) (rest := []) (ctX5_bad l D cB cI cJ cY m0 a6 a8 a10 a11 a12 a13 a14 a15 a17 a19 a20 a21 a22 a23 a24 a26 a27 a28 a35 a36 a37 a38 a39 a40 a41 a44 a45 0 z1 z2 z3 z4 z5 z7 z9 z16 z18 z25 z29 z30 z31 z32 z33 z34 z42 z43 1 1 (by omega)) (cwV 2 X.2.2.2.2.1 gX5_set_X5_bad rfl rfl rfl (by decide +kernel) ⟨by decide, by decide⟩) 0 rfl rfl (wc := [(m0, .inr (5, [.int (iZ 0), .int (iZ z1), .int (iZ z2), .int (iZ z3), .int (iZ z4), .int (iZ z5), .ref a6, .int (iZ z7), .ref a8, .int (iZ z9), .ref a10, .ref a11, .ref a12, .ref a13, .ref a14, .ref a15, .int (iZ z16), .ref a17, .int (iZ z18), .ref a19, .ref a20, .ref a21, .ref a22, .ref a23, .ref a24, .int (iZ z25), .ref a26, .ref a27, .ref a28, .int (iZ z29), .int (iZ z30), .int (iZ z31), .int (iZ z32), .int (iZ z33), .int (iZ z34), .ref a35, .ref a36, .ref a37, .ref a38, .ref a39, .ref a40, .ref a41, .int (iZ z42), .int (iZ z43), .ref a44, .ref a45]))]) (wr := []) [0] [] rfl rfl (by decide) (by decide) (by decide) rfl rfl (Nat.le_of_ble_eq_true rfl) ⟨by decide, by decide⟩ dX5_set_83 (fun v w1 hq => ?_)
                  obtain ⟨x9, rfl, p9, rfl⟩ := hq
                  refine g_eq (ws' := [(m0, .inr (5, [.int (iZ x9), .int (iZ z1), .int (iZ z2), .int (iZ z3), .int (iZ z4), .int (iZ z5), .ref a6, .int (iZ z7), .ref a8, .int (iZ z9), .ref a10, .ref a11, .ref a12, .ref a13, .ref a14, .ref a15, .int (iZ z16), .ref a17, .int (iZ z18), .ref a19, .ref a20, .ref a21, .ref a22, .ref a23, .ref a24, .int (iZ z25), .ref a26, .ref a27, .ref a28, .int (iZ z29), .int (iZ z30), .int (iZ z31), .int (iZ z32), .int (iZ z33), .int (iZ z34), .ref a35, .ref a36, .ref a37, .ref a38, .ref a39, .ref a40, .ref a41, .int (iZ z42), .int (iZ z43), .ref a44, .ref a45]))]) (pc' := 86) (st' := [.int (iZ 1)]) rfl rfl rfl rfl ?_
                  simp at p9
                  subst p9
                  refine g_if_eq X 91 dX5_set_86 (by decide) (by omega) (fun c_86 => ?_) (fun c_86 => ?_)
                  · omega
                  · skip
                    refine g_iconst X dX5_set_89 ?_
                    exact g_iret X hr (by decide) (by decide) dX5_set_90 ⟨_, _, z1, z2, z3, z4, z5, rfl, Or.inl ⟨by unfold inM; omega, rfl, rfl, rfl, rfl, rfl, rfl, rfl⟩, rfl⟩
                · skip
                  refine g_iload_n X 4 dX5_set_71 rfl rfl ?_
                  refine g_iload X 0 dX5_set_72 rfl ?_
                  refine g_icmp_le X 81 dX5_set_74 (by decide) (by omega) (by omega) (fun c_74 => ?_) (fun c_74 => ?_)
                  · skip
                    refine g_iconst X dX5_set_81 ?_
                    refine g_iconst X dX5_set_82 ?_
                    refine g_callV0 X (As := [.int (iZ 0), .int (iZ 1)]) (rest := []) (ctX5_bad l D cB cI cJ cY m0 a6 a8 a10 a11 a12 a13 a14 a15 a17 a19 a20 a21 a22 a23 a24 a26 a27 a28 a35 a36 a37 a38 a39 a40 a41 a44 a45 0 z1 z2 z3 z4 z5 z7 z9 z16 z18 z25 z29 z30 z31 z32 z33 z34 z42 z43 0 1 (by omega)) (cwV 2 X.2.2.2.2.1 gX5_set_X5_bad rfl rfl rfl (by decide +kernel) ⟨by decide, by decide⟩) 0 rfl rfl (wc := [(m0, .inr (5, [.int (iZ 0), .int (iZ z1), .int (iZ z2), .int (iZ z3), .int (iZ z4), .int (iZ z5), .ref a6, .int (iZ z7), .ref a8, .int (iZ z9), .ref a10, .ref a11, .ref a12, .ref a13, .ref a14, .ref a15, .int (iZ z16), .ref a17, .int (iZ z18), .ref a19, .ref a20, .ref a21, .ref a22, .ref a23, .ref a24, .int (iZ z25), .ref a26, .ref a27, .ref a28, .int (iZ z29), .int (iZ z30), .int (iZ z31), .int (iZ z32), .int (iZ z33), .int (iZ z34), .ref a35, .ref a36, .ref a37, .ref a38, .ref a39, .ref a40, .ref a41, .int (iZ z42), .int (iZ z43), .ref a44, .ref a45]))]) (wr := []) [0] [] rfl rfl (by decide) (by decide) (by decide) rfl rfl (Nat.le_of_ble_eq_true rfl) ⟨by decide, by decide⟩ dX5_set_83 (fun v w1 hq => ?_)
                    obtain ⟨x9, rfl, p9, rfl⟩ := hq
                    refine g_eq (ws' := [(m0, .inr (5, [.int (iZ x9), .int (iZ z1), .int (iZ z2), .int (iZ z3), .int (iZ z4), .int (iZ z5), .ref a6, .int (iZ z7), .ref a8, .int (iZ z9), .ref a10, .ref a11, .ref a12, .ref a13, .ref a14, .ref a15, .int (iZ z16), .ref a17, .int (iZ z18), .ref a19, .ref a20, .ref a21, .ref a22, .ref a23, .ref a24, .int (iZ z25), .ref a26, .ref a27, .ref a28, .int (iZ z29), .int (iZ z30), .int (iZ z31), .int (iZ z32), .int (iZ z33), .int (iZ z34), .ref a35, .ref a36, .ref a37, .ref a38, .ref a39, .ref a40, .ref a41, .int (iZ z42), .int (iZ z43), .ref a44, .ref a45]))]) (pc' := 86) (st' := [.int (iZ 0)]) rfl rfl rfl rfl ?_
                    simp at p9
                    subst p9
                    refine g_if_eq X 91 dX5_set_86 (by decide) (by omega) (fun c_86 => ?_) (fun c_86 => ?_)
                    · skip
                      refine g_iload_n X 3 dX5_set_91 rfl rfl ?_
                      refine g_if_ne X 102 dX5_set_92 (by decide) (by omega) (fun c_92 => ?_) (fun c_92 => ?_)
                      · skip
                        refine g_iload_n X 3 dX5_set_102 rfl rfl ?_
                        refine g_iconst X dX5_set_103 ?_
                        refine g_icmp_ne X 114 dX5_set_104 (by decide) (by omega) (by omega) (fun c_104 => ?_) (fun c_104 => ?_)
                        · skip
                          refine g_iload_n X 3 dX5_set_114 rfl rfl ?_
                          refine g_iconst X dX5_set_115 ?_
                          refine g_icmp_ne X 126 dX5_set_116 (by decide) (by omega) (by omega) (fun c_116 => ?_) (fun c_116 => ?_)
                          · skip
                            refine g_iload_n X 3 dX5_set_126 rfl rfl ?_
                            refine g_iconst X dX5_set_127 ?_
                            refine g_icmp_ne X 138 dX5_set_128 (by decide) (by omega) (by omega) (fun c_128 => ?_) (fun c_128 => ?_)
                            · skip
                              refine g_aload_n X 2 dX5_set_138 rfl rfl ?_
                              refine g_get X (index := 22) (ref := "GuideWordsModel") hin5 0 rfl rfl 5 (by decide) rfl (by decide +kernel) (v := .int (iZ z5)) rfl dX5_set_139 ?_
                              refine g_istore (lv2 := [(5, .int (iZ z5)), (4, .int (iZ 1000)), (3, .int (iZ 0)), (0, .ref m0), (1, .int (iZ wh)), (2, .int (iZ v))]) X dX5_set_142 (by decide) rfl ?_
                              refine g_iload_n X 4 dX5_set_144 rfl rfl ?_
                              refine g_if_ne X 156 dX5_set_145 (by decide) (by omega) (fun c_145 => ?_) (fun c_145 => ?_)
                              · skip
                                refine g_iload_n X 4 dX5_set_156 rfl rfl ?_
                                refine g_iconst X dX5_set_157 ?_
                                refine g_icmp_ne X 169 dX5_set_158 (by decide) (by omega) (by omega) (fun c_158 => ?_) (fun c_158 => ?_)
                                · skip
                                  refine g_iload_n X 4 dX5_set_169 rfl rfl ?_
                                  refine g_iconst X dX5_set_170 ?_
                                  refine g_icmp_ne X 182 dX5_set_171 (by decide) (by omega) (by omega) (fun c_171 => ?_) (fun c_171 => ?_)
                                  · skip
                                    refine g_iload_n X 4 dX5_set_182 rfl rfl ?_
                                    refine g_iconst X dX5_set_183 ?_
                                    refine g_icmp_ne X 195 dX5_set_184 (by decide) (by omega) (by omega) (fun c_184 => ?_) (fun c_184 => ?_)
                                    · skip
                                      refine g_aload_n X 3 dX5_set_195 rfl rfl ?_
                                      refine g_iload_n X 5 dX5_set_196 rfl rfl ?_
                                      refine g_put X (index := 22) (ref := "GuideWordsModel") hin5 0 rfl rfl 5 (by decide) rfl tyX5 tyX5_ok nmX5 (by decide +kernel) rfl rfl rfl rfl (Nat.le_of_ble_eq_true rfl) (ws2 := [(m0, .inr (5, [.int (iZ 0), .int (iZ z1), .int (iZ z2), .int (iZ z3), .int (iZ z4), .int (iZ v), .ref a6, .int (iZ z7), .ref a8, .int (iZ z9), .ref a10, .ref a11, .ref a12, .ref a13, .ref a14, .ref a15, .int (iZ z16), .ref a17, .int (iZ z18), .ref a19, .ref a20, .ref a21, .ref a22, .ref a23, .ref a24, .int (iZ z25), .ref a26, .ref a27, .ref a28, .int (iZ z29), .int (iZ z30), .int (iZ z31), .int (iZ z32), .int (iZ z33), .int (iZ z34), .ref a35, .ref a36, .ref a37, .ref a38, .ref a39, .ref a40, .ref a41, .int (iZ z42), .int (iZ z43), .ref a44, .ref a45]))]) rfl dX5_set_197 ?_
                                      refine g_iload X 0 dX5_set_200 rfl ?_
                                      exact g_iret X hr (by decide) (by decide) dX5_set_202 ⟨_, _, _, _, _, _, _, rfl, Or.inr ⟨by unfold inM; omega, rfl, by omega⟩, rfl⟩
                                    · omega
                                  · omega
                                · omega
                              · omega
                            · skip
                              refine g_aload_n X 2 dX5_set_131 rfl rfl ?_
                              refine g_get X (index := 19) (ref := "GuideWordsModel") hin5 0 rfl rfl 4 (by decide) rfl (by decide +kernel) (v := .int (iZ z4)) rfl dX5_set_132 ?_
                              refine g_goto X 142 dX5_set_135 (by decide) ?_
                              refine g_istore (lv2 := [(5, .int (iZ z4)), (4, .int (iZ 1000)), (3, .int (iZ 0)), (0, .ref m0), (1, .int (iZ wh)), (2, .int (iZ v))]) X dX5_set_142 (by decide) rfl ?_
                              refine g_iload_n X 4 dX5_set_144 rfl rfl ?_
                              refine g_if_ne X 156 dX5_set_145 (by decide) (by omega) (fun c_145 => ?_) (fun c_145 => ?_)
                              · skip
                                refine g_iload_n X 4 dX5_set_156 rfl rfl ?_
                                refine g_iconst X dX5_set_157 ?_
                                refine g_icmp_ne X 169 dX5_set_158 (by decide) (by omega) (by omega) (fun c_158 => ?_) (fun c_158 => ?_)
                                · skip
                                  refine g_iload_n X 4 dX5_set_169 rfl rfl ?_
                                  refine g_iconst X dX5_set_170 ?_
                                  refine g_icmp_ne X 182 dX5_set_171 (by decide) (by omega) (by omega) (fun c_171 => ?_) (fun c_171 => ?_)
                                  · skip
                                    refine g_iload_n X 4 dX5_set_182 rfl rfl ?_
                                    refine g_iconst X dX5_set_183 ?_
                                    refine g_icmp_ne X 195 dX5_set_184 (by decide) (by omega) (by omega) (fun c_184 => ?_) (fun c_184 => ?_)
                                    · omega
                                    · skip
                                      refine g_aload_n X 3 dX5_set_187 rfl rfl ?_
                                      refine g_iload_n X 5 dX5_set_188 rfl rfl ?_
                                      refine g_put X (index := 19) (ref := "GuideWordsModel") hin5 0 rfl rfl 4 (by decide) rfl tyX5 tyX5_ok nmX5 (by decide +kernel) rfl rfl rfl rfl (Nat.le_of_ble_eq_true rfl) (ws2 := [(m0, .inr (5, [.int (iZ 0), .int (iZ z1), .int (iZ z2), .int (iZ z3), .int (iZ v), .int (iZ z5), .ref a6, .int (iZ z7), .ref a8, .int (iZ z9), .ref a10, .ref a11, .ref a12, .ref a13, .ref a14, .ref a15, .int (iZ z16), .ref a17, .int (iZ z18), .ref a19, .ref a20, .ref a21, .ref a22, .ref a23, .ref a24, .int (iZ z25), .ref a26, .ref a27, .ref a28, .int (iZ z29), .int (iZ z30), .int (iZ z31), .int (iZ z32), .int (iZ z33), .int (iZ z34), .ref a35, .ref a36, .ref a37, .ref a38, .ref a39, .ref a40, .ref a41, .int (iZ z42), .int (iZ z43), .ref a44, .ref a45]))]) rfl dX5_set_189 ?_
                                      refine g_goto X 200 dX5_set_192 (by decide) ?_
                                      refine g_iload X 0 dX5_set_200 rfl ?_
                                      exact g_iret X hr (by decide) (by decide) dX5_set_202 ⟨_, _, _, _, _, _, _, rfl, Or.inr ⟨by unfold inM; omega, rfl, by omega⟩, rfl⟩
                                  · omega
                                · omega
                              · omega
                          · omega
                        · omega
                      · omega
                    · omega
                  · skip
                    refine g_iconst X dX5_set_77 ?_
                    refine g_goto X 82 dX5_set_78 (by decide) ?_
                    refine g_iconst X dX5_set_82 ?_
                    refine g_callV0 X (As := [.int (iZ 1), .int (iZ 1)]) (rest := []) (ctX5_bad l D cB cI cJ cY m0 a6 a8 a10 a11 a12 a13 a14 a15 a17 a19 a20 a21 a22 a23 a24 a26 a27 a28 a35 a36 a37 a38 a39 a40 a41 a44 a45 0 z1 z2 z3 z4 z5 z7 z9 z16 z18 z25 z29 z30 z31 z32 z33 z34 z42 z43 1 1 (by omega)) (cwV 2 X.2.2.2.2.1 gX5_set_X5_bad rfl rfl rfl (by decide +kernel) ⟨by decide, by decide⟩) 0 rfl rfl (wc := [(m0, .inr (5, [.int (iZ 0), .int (iZ z1), .int (iZ z2), .int (iZ z3), .int (iZ z4), .int (iZ z5), .ref a6, .int (iZ z7), .ref a8, .int (iZ z9), .ref a10, .ref a11, .ref a12, .ref a13, .ref a14, .ref a15, .int (iZ z16), .ref a17, .int (iZ z18), .ref a19, .ref a20, .ref a21, .ref a22, .ref a23, .ref a24, .int (iZ z25), .ref a26, .ref a27, .ref a28, .int (iZ z29), .int (iZ z30), .int (iZ z31), .int (iZ z32), .int (iZ z33), .int (iZ z34), .ref a35, .ref a36, .ref a37, .ref a38, .ref a39, .ref a40, .ref a41, .int (iZ z42), .int (iZ z43), .ref a44, .ref a45]))]) (wr := []) [0] [] rfl rfl (by decide) (by decide) (by decide) rfl rfl (Nat.le_of_ble_eq_true rfl) ⟨by decide, by decide⟩ dX5_set_83 (fun v w1 hq => ?_)
                    obtain ⟨x9, rfl, p9, rfl⟩ := hq
                    refine g_eq (ws' := [(m0, .inr (5, [.int (iZ x9), .int (iZ z1), .int (iZ z2), .int (iZ z3), .int (iZ z4), .int (iZ z5), .ref a6, .int (iZ z7), .ref a8, .int (iZ z9), .ref a10, .ref a11, .ref a12, .ref a13, .ref a14, .ref a15, .int (iZ z16), .ref a17, .int (iZ z18), .ref a19, .ref a20, .ref a21, .ref a22, .ref a23, .ref a24, .int (iZ z25), .ref a26, .ref a27, .ref a28, .int (iZ z29), .int (iZ z30), .int (iZ z31), .int (iZ z32), .int (iZ z33), .int (iZ z34), .ref a35, .ref a36, .ref a37, .ref a38, .ref a39, .ref a40, .ref a41, .int (iZ z42), .int (iZ z43), .ref a44, .ref a45]))]) (pc' := 86) (st' := [.int (iZ 1)]) rfl rfl rfl rfl ?_
                    simp at p9
                    subst p9
                    refine g_if_eq X 91 dX5_set_86 (by decide) (by omega) (fun c_86 => ?_) (fun c_86 => ?_)
                    · omega
                    · skip
                      refine g_iconst X dX5_set_89 ?_
                      exact g_iret X hr (by decide) (by decide) dX5_set_90 ⟨_, _, z1, z2, z3, z4, z5, rfl, Or.inl ⟨by unfold inM; omega, rfl, rfl, rfl, rfl, rfl, rfl, rfl⟩, rfl⟩
          · skip
            refine g_iconst X dX5_set_47 ?_
            refine g_goto X 54 dX5_set_48 (by decide) ?_
            refine g_istore (lv2 := [(4, .int (iZ 3)), (3, .int (iZ 0)), (0, .ref m0), (1, .int (iZ wh)), (2, .int (iZ v))]) X dX5_set_54 (by decide) rfl ?_
            refine g_aload_n X 2 dX5_set_56 rfl rfl ?_
            refine g_iload_n X 3 dX5_set_57 rfl rfl ?_
            refine g_if_lt X 77 dX5_set_58 (by decide) (by omega) (fun c_58 => ?_) (fun c_58 => ?_)
            · omega
            · skip
              refine g_iload_n X 3 dX5_set_61 rfl rfl ?_
              refine g_iconst X dX5_set_62 ?_
              refine g_icmp_gt X 77 dX5_set_63 (by decide) (by omega) (by omega) (fun c_63 => ?_) (fun c_63 => ?_)
              · omega
              · skip
                refine g_iload_n X 4 dX5_set_66 rfl rfl ?_
                refine g_iload_n X 1 dX5_set_67 rfl rfl ?_
                refine g_icmp_lt X 77 dX5_set_68 (by decide) (by omega) (by omega) (fun c_68 => ?_) (fun c_68 => ?_)
                · skip
                  refine g_iconst X dX5_set_77 ?_
                  refine g_goto X 82 dX5_set_78 (by decide) ?_
                  refine g_iconst X dX5_set_82 ?_
                  refine g_callV0 X (As := [.int (iZ 1), .int (iZ 1)]) (rest := []) (ctX5_bad l D cB cI cJ cY m0 a6 a8 a10 a11 a12 a13 a14 a15 a17 a19 a20 a21 a22 a23 a24 a26 a27 a28 a35 a36 a37 a38 a39 a40 a41 a44 a45 0 z1 z2 z3 z4 z5 z7 z9 z16 z18 z25 z29 z30 z31 z32 z33 z34 z42 z43 1 1 (by omega)) (cwV 2 X.2.2.2.2.1 gX5_set_X5_bad rfl rfl rfl (by decide +kernel) ⟨by decide, by decide⟩) 0 rfl rfl (wc := [(m0, .inr (5, [.int (iZ 0), .int (iZ z1), .int (iZ z2), .int (iZ z3), .int (iZ z4), .int (iZ z5), .ref a6, .int (iZ z7), .ref a8, .int (iZ z9), .ref a10, .ref a11, .ref a12, .ref a13, .ref a14, .ref a15, .int (iZ z16), .ref a17, .int (iZ z18), .ref a19, .ref a20, .ref a21, .ref a22, .ref a23, .ref a24, .int (iZ z25), .ref a26, .ref a27, .ref a28, .int (iZ z29), .int (iZ z30), .int (iZ z31), .int (iZ z32), .int (iZ z33), .int (iZ z34), .ref a35, .ref a36, .ref a37, .ref a38, .ref a39, .ref a40, .ref a41, .int (iZ z42), .int (iZ z43), .ref a44, .ref a45]))]) (wr := []) [0] [] rfl rfl (by decide) (by decide) (by decide) rfl rfl (Nat.le_of_ble_eq_true rfl) ⟨by decide, by decide⟩ dX5_set_83 (fun v w1 hq => ?_)
                  obtain ⟨x9, rfl, p9, rfl⟩ := hq
                  refine g_eq (ws' := [(m0, .inr (5, [.int (iZ x9), .int (iZ z1), .int (iZ z2), .int (iZ z3), .int (iZ z4), .int (iZ z5), .ref a6, .int (iZ z7), .ref a8, .int (iZ z9), .ref a10, .ref a11, .ref a12, .ref a13, .ref a14, .ref a15, .int (iZ z16), .ref a17, .int (iZ z18), .ref a19, .ref a20, .ref a21, .ref a22, .ref a23, .ref a24, .int (iZ z25), .ref a26, .ref a27, .ref a28, .int (iZ z29), .int (iZ z30), .int (iZ z31), .int (iZ z32), .int (iZ z33), .int (iZ z34), .ref a35, .ref a36, .ref a37, .ref a38, .ref a39, .ref a40, .ref a41, .int (iZ z42), .int (iZ z43), .ref a44, .ref a45]))]) (pc' := 86) (st' := [.int (iZ 1)]) rfl rfl rfl rfl ?_
                  simp at p9
                  subst p9
                  refine g_if_eq X 91 dX5_set_86 (by decide) (by omega) (fun c_86 => ?_) (fun c_86 => ?_)
                  · omega
                  · skip
                    refine g_iconst X dX5_set_89 ?_
                    exact g_iret X hr (by decide) (by decide) dX5_set_90 ⟨_, _, z1, z2, z3, z4, z5, rfl, Or.inl ⟨by unfold inM; omega, rfl, rfl, rfl, rfl, rfl, rfl, rfl⟩, rfl⟩
                · skip
                  refine g_iload_n X 4 dX5_set_71 rfl rfl ?_
                  refine g_iload X 0 dX5_set_72 rfl ?_
                  refine g_icmp_le X 81 dX5_set_74 (by decide) (by omega) (by omega) (fun c_74 => ?_) (fun c_74 => ?_)
                  · skip
                    refine g_iconst X dX5_set_81 ?_
                    refine g_iconst X dX5_set_82 ?_
                    refine g_callV0 X (As := [.int (iZ 0), .int (iZ 1)]) (rest := []) (ctX5_bad l D cB cI cJ cY m0 a6 a8 a10 a11 a12 a13 a14 a15 a17 a19 a20 a21 a22 a23 a24 a26 a27 a28 a35 a36 a37 a38 a39 a40 a41 a44 a45 0 z1 z2 z3 z4 z5 z7 z9 z16 z18 z25 z29 z30 z31 z32 z33 z34 z42 z43 0 1 (by omega)) (cwV 2 X.2.2.2.2.1 gX5_set_X5_bad rfl rfl rfl (by decide +kernel) ⟨by decide, by decide⟩) 0 rfl rfl (wc := [(m0, .inr (5, [.int (iZ 0), .int (iZ z1), .int (iZ z2), .int (iZ z3), .int (iZ z4), .int (iZ z5), .ref a6, .int (iZ z7), .ref a8, .int (iZ z9), .ref a10, .ref a11, .ref a12, .ref a13, .ref a14, .ref a15, .int (iZ z16), .ref a17, .int (iZ z18), .ref a19, .ref a20, .ref a21, .ref a22, .ref a23, .ref a24, .int (iZ z25), .ref a26, .ref a27, .ref a28, .int (iZ z29), .int (iZ z30), .int (iZ z31), .int (iZ z32), .int (iZ z33), .int (iZ z34), .ref a35, .ref a36, .ref a37, .ref a38, .ref a39, .ref a40, .ref a41, .int (iZ z42), .int (iZ z43), .ref a44, .ref a45]))]) (wr := []) [0] [] rfl rfl (by decide) (by decide) (by decide) rfl rfl (Nat.le_of_ble_eq_true rfl) ⟨by decide, by decide⟩ dX5_set_83 (fun v w1 hq => ?_)
                    obtain ⟨x9, rfl, p9, rfl⟩ := hq
                    refine g_eq (ws' := [(m0, .inr (5, [.int (iZ x9), .int (iZ z1), .int (iZ z2), .int (iZ z3), .int (iZ z4), .int (iZ z5), .ref a6, .int (iZ z7), .ref a8, .int (iZ z9), .ref a10, .ref a11, .ref a12, .ref a13, .ref a14, .ref a15, .int (iZ z16), .ref a17, .int (iZ z18), .ref a19, .ref a20, .ref a21, .ref a22, .ref a23, .ref a24, .int (iZ z25), .ref a26, .ref a27, .ref a28, .int (iZ z29), .int (iZ z30), .int (iZ z31), .int (iZ z32), .int (iZ z33), .int (iZ z34), .ref a35, .ref a36, .ref a37, .ref a38, .ref a39, .ref a40, .ref a41, .int (iZ z42), .int (iZ z43), .ref a44, .ref a45]))]) (pc' := 86) (st' := [.int (iZ 0)]) rfl rfl rfl rfl ?_
                    simp at p9
                    subst p9
                    refine g_if_eq X 91 dX5_set_86 (by decide) (by omega) (fun c_86 => ?_) (fun c_86 => ?_)
                    · skip
                      refine g_iload_n X 3 dX5_set_91 rfl rfl ?_
                      refine g_if_ne X 102 dX5_set_92 (by decide) (by omega) (fun c_92 => ?_) (fun c_92 => ?_)
                      · skip
                        refine g_iload_n X 3 dX5_set_102 rfl rfl ?_
                        refine g_iconst X dX5_set_103 ?_
                        refine g_icmp_ne X 114 dX5_set_104 (by decide) (by omega) (by omega) (fun c_104 => ?_) (fun c_104 => ?_)
                        · skip
                          refine g_iload_n X 3 dX5_set_114 rfl rfl ?_
                          refine g_iconst X dX5_set_115 ?_
                          refine g_icmp_ne X 126 dX5_set_116 (by decide) (by omega) (by omega) (fun c_116 => ?_) (fun c_116 => ?_)
                          · omega
                          · skip
                            refine g_aload_n X 2 dX5_set_119 rfl rfl ?_
                            refine g_get X (index := 16) (ref := "GuideWordsModel") hin5 0 rfl rfl 3 (by decide) rfl (by decide +kernel) (v := .int (iZ z3)) rfl dX5_set_120 ?_
                            refine g_goto X 142 dX5_set_123 (by decide) ?_
                            refine g_istore (lv2 := [(5, .int (iZ z3)), (4, .int (iZ 3)), (3, .int (iZ 0)), (0, .ref m0), (1, .int (iZ wh)), (2, .int (iZ v))]) X dX5_set_142 (by decide) rfl ?_
                            refine g_iload_n X 4 dX5_set_144 rfl rfl ?_
                            refine g_if_ne X 156 dX5_set_145 (by decide) (by omega) (fun c_145 => ?_) (fun c_145 => ?_)
                            · skip
                              refine g_iload_n X 4 dX5_set_156 rfl rfl ?_
                              refine g_iconst X dX5_set_157 ?_
                              refine g_icmp_ne X 169 dX5_set_158 (by decide) (by omega) (by omega) (fun c_158 => ?_) (fun c_158 => ?_)
                              · skip
                                refine g_iload_n X 4 dX5_set_169 rfl rfl ?_
                                refine g_iconst X dX5_set_170 ?_
                                refine g_icmp_ne X 182 dX5_set_171 (by decide) (by omega) (by omega) (fun c_171 => ?_) (fun c_171 => ?_)
                                · omega
                                · skip
                                  refine g_aload_n X 3 dX5_set_174 rfl rfl ?_
                                  refine g_iload_n X 5 dX5_set_175 rfl rfl ?_
                                  refine g_put X (index := 16) (ref := "GuideWordsModel") hin5 0 rfl rfl 3 (by decide) rfl tyX5 tyX5_ok nmX5 (by decide +kernel) rfl rfl rfl rfl (Nat.le_of_ble_eq_true rfl) (ws2 := [(m0, .inr (5, [.int (iZ 0), .int (iZ z1), .int (iZ z2), .int (iZ v), .int (iZ z4), .int (iZ z5), .ref a6, .int (iZ z7), .ref a8, .int (iZ z9), .ref a10, .ref a11, .ref a12, .ref a13, .ref a14, .ref a15, .int (iZ z16), .ref a17, .int (iZ z18), .ref a19, .ref a20, .ref a21, .ref a22, .ref a23, .ref a24, .int (iZ z25), .ref a26, .ref a27, .ref a28, .int (iZ z29), .int (iZ z30), .int (iZ z31), .int (iZ z32), .int (iZ z33), .int (iZ z34), .ref a35, .ref a36, .ref a37, .ref a38, .ref a39, .ref a40, .ref a41, .int (iZ z42), .int (iZ z43), .ref a44, .ref a45]))]) rfl dX5_set_176 ?_
                                  refine g_goto X 200 dX5_set_179 (by decide) ?_
                                  refine g_iload X 0 dX5_set_200 rfl ?_
                                  exact g_iret X hr (by decide) (by decide) dX5_set_202 ⟨_, _, _, _, _, _, _, rfl, Or.inr ⟨by unfold inM; omega, rfl, by omega⟩, rfl⟩
                              · omega
                            · omega
                        · omega
                      · omega
                    · omega
                  · skip
                    refine g_iconst X dX5_set_77 ?_
                    refine g_goto X 82 dX5_set_78 (by decide) ?_
                    refine g_iconst X dX5_set_82 ?_
                    refine g_callV0 X (As := [.int (iZ 1), .int (iZ 1)]) (rest := []) (ctX5_bad l D cB cI cJ cY m0 a6 a8 a10 a11 a12 a13 a14 a15 a17 a19 a20 a21 a22 a23 a24 a26 a27 a28 a35 a36 a37 a38 a39 a40 a41 a44 a45 0 z1 z2 z3 z4 z5 z7 z9 z16 z18 z25 z29 z30 z31 z32 z33 z34 z42 z43 1 1 (by omega)) (cwV 2 X.2.2.2.2.1 gX5_set_X5_bad rfl rfl rfl (by decide +kernel) ⟨by decide, by decide⟩) 0 rfl rfl (wc := [(m0, .inr (5, [.int (iZ 0), .int (iZ z1), .int (iZ z2), .int (iZ z3), .int (iZ z4), .int (iZ z5), .ref a6, .int (iZ z7), .ref a8, .int (iZ z9), .ref a10, .ref a11, .ref a12, .ref a13, .ref a14, .ref a15, .int (iZ z16), .ref a17, .int (iZ z18), .ref a19, .ref a20, .ref a21, .ref a22, .ref a23, .ref a24, .int (iZ z25), .ref a26, .ref a27, .ref a28, .int (iZ z29), .int (iZ z30), .int (iZ z31), .int (iZ z32), .int (iZ z33), .int (iZ z34), .ref a35, .ref a36, .ref a37, .ref a38, .ref a39, .ref a40, .ref a41, .int (iZ z42), .int (iZ z43), .ref a44, .ref a45]))]) (wr := []) [0] [] rfl rfl (by decide) (by decide) (by decide) rfl rfl (Nat.le_of_ble_eq_true rfl) ⟨by decide, by decide⟩ dX5_set_83 (fun v w1 hq => ?_)
                    obtain ⟨x9, rfl, p9, rfl⟩ := hq
                    refine g_eq (ws' := [(m0, .inr (5, [.int (iZ x9), .int (iZ z1), .int (iZ z2), .int (iZ z3), .int (iZ z4), .int (iZ z5), .ref a6, .int (iZ z7), .ref a8, .int (iZ z9), .ref a10, .ref a11, .ref a12, .ref a13, .ref a14, .ref a15, .int (iZ z16), .ref a17, .int (iZ z18), .ref a19, .ref a20, .ref a21, .ref a22, .ref a23, .ref a24, .int (iZ z25), .ref a26, .ref a27, .ref a28, .int (iZ z29), .int (iZ z30), .int (iZ z31), .int (iZ z32), .int (iZ z33), .int (iZ z34), .ref a35, .ref a36, .ref a37, .ref a38, .ref a39, .ref a40, .ref a41, .int (iZ z42), .int (iZ z43), .ref a44, .ref a45]))]) (pc' := 86) (st' := [.int (iZ 1)]) rfl rfl rfl rfl ?_
                    simp at p9
                    subst p9
                    refine g_if_eq X 91 dX5_set_86 (by decide) (by omega) (fun c_86 => ?_) (fun c_86 => ?_)
                    · omega
                    · skip
                      refine g_iconst X dX5_set_89 ?_
                      exact g_iret X hr (by decide) (by decide) dX5_set_90 ⟨_, _, z1, z2, z3, z4, z5, rfl, Or.inl ⟨by unfold inM; omega, rfl, rfl, rfl, rfl, rfl, rfl, rfl⟩, rfl⟩
        · omega
      · omega
    · skip
      refine g_iconst X dX5_set_18 ?_
      refine g_goto X 23 dX5_set_19 (by decide) ?_
      refine g_istore_n (lv2 := [(3, .int (iZ 1)), (0, .ref m0), (1, .int (iZ wh)), (2, .int (iZ v))]) X dX5_set_23 rfl (by decide) rfl ?_
      refine g_iload_n X 2 dX5_set_24 rfl rfl ?_
      refine g_if_ne X 33 dX5_set_25 (by decide) (by omega) (fun c_25 => ?_) (fun c_25 => ?_)
      · skip
        refine g_iload_n X 2 dX5_set_33 rfl rfl ?_
        refine g_iconst X dX5_set_34 ?_
        refine g_icmp_ne X 42 dX5_set_35 (by decide) (by omega) (by omega) (fun c_35 => ?_) (fun c_35 => ?_)
        · omega
        · skip
          refine g_iconst X dX5_set_38 ?_
          refine g_goto X 54 dX5_set_39 (by decide) ?_
          refine g_istore (lv2 := [(4, .int (iZ 4)), (3, .int (iZ 1)), (0, .ref m0), (1, .int (iZ wh)), (2, .int (iZ v))]) X dX5_set_54 (by decide) rfl ?_
          refine g_aload_n X 2 dX5_set_56 rfl rfl ?_
          refine g_iload_n X 3 dX5_set_57 rfl rfl ?_
          refine g_if_lt X 77 dX5_set_58 (by decide) (by omega) (fun c_58 => ?_) (fun c_58 => ?_)
          · omega
          · skip
            refine g_iload_n X 3 dX5_set_61 rfl rfl ?_
            refine g_iconst X dX5_set_62 ?_
            refine g_icmp_gt X 77 dX5_set_63 (by decide) (by omega) (by omega) (fun c_63 => ?_) (fun c_63 => ?_)
            · omega
            · skip
              refine g_iload_n X 4 dX5_set_66 rfl rfl ?_
              refine g_iload_n X 1 dX5_set_67 rfl rfl ?_
              refine g_icmp_lt X 77 dX5_set_68 (by decide) (by omega) (by omega) (fun c_68 => ?_) (fun c_68 => ?_)
              · skip
                refine g_iconst X dX5_set_77 ?_
                refine g_goto X 82 dX5_set_78 (by decide) ?_
                refine g_iconst X dX5_set_82 ?_
                refine g_callV0 X (As := [.int (iZ 1), .int (iZ 1)]) (rest := []) (ctX5_bad l D cB cI cJ cY m0 a6 a8 a10 a11 a12 a13 a14 a15 a17 a19 a20 a21 a22 a23 a24 a26 a27 a28 a35 a36 a37 a38 a39 a40 a41 a44 a45 0 z1 z2 z3 z4 z5 z7 z9 z16 z18 z25 z29 z30 z31 z32 z33 z34 z42 z43 1 1 (by omega)) (cwV 2 X.2.2.2.2.1 gX5_set_X5_bad rfl rfl rfl (by decide +kernel) ⟨by decide, by decide⟩) 0 rfl rfl (wc := [(m0, .inr (5, [.int (iZ 0), .int (iZ z1), .int (iZ z2), .int (iZ z3), .int (iZ z4), .int (iZ z5), .ref a6, .int (iZ z7), .ref a8, .int (iZ z9), .ref a10, .ref a11, .ref a12, .ref a13, .ref a14, .ref a15, .int (iZ z16), .ref a17, .int (iZ z18), .ref a19, .ref a20, .ref a21, .ref a22, .ref a23, .ref a24, .int (iZ z25), .ref a26, .ref a27, .ref a28, .int (iZ z29), .int (iZ z30), .int (iZ z31), .int (iZ z32), .int (iZ z33), .int (iZ z34), .ref a35, .ref a36, .ref a37, .ref a38, .ref a39, .ref a40, .ref a41, .int (iZ z42), .int (iZ z43), .ref a44, .ref a45]))]) (wr := []) [0] [] rfl rfl (by decide) (by decide) (by decide) rfl rfl (Nat.le_of_ble_eq_true rfl) ⟨by decide, by decide⟩ dX5_set_83 (fun v w1 hq => ?_)
                obtain ⟨x9, rfl, p9, rfl⟩ := hq
                refine g_eq (ws' := [(m0, .inr (5, [.int (iZ x9), .int (iZ z1), .int (iZ z2), .int (iZ z3), .int (iZ z4), .int (iZ z5), .ref a6, .int (iZ z7), .ref a8, .int (iZ z9), .ref a10, .ref a11, .ref a12, .ref a13, .ref a14, .ref a15, .int (iZ z16), .ref a17, .int (iZ z18), .ref a19, .ref a20, .ref a21, .ref a22, .ref a23, .ref a24, .int (iZ z25), .ref a26, .ref a27, .ref a28, .int (iZ z29), .int (iZ z30), .int (iZ z31), .int (iZ z32), .int (iZ z33), .int (iZ z34), .ref a35, .ref a36, .ref a37, .ref a38, .ref a39, .ref a40, .ref a41, .int (iZ z42), .int (iZ z43), .ref a44, .ref a45]))]) (pc' := 86) (st' := [.int (iZ 1)]) rfl rfl rfl rfl ?_
                simp at p9
                subst p9
                refine g_if_eq X 91 dX5_set_86 (by decide) (by omega) (fun c_86 => ?_) (fun c_86 => ?_)
                · omega
                · skip
                  refine g_iconst X dX5_set_89 ?_
                  exact g_iret X hr (by decide) (by decide) dX5_set_90 ⟨_, _, z1, z2, z3, z4, z5, rfl, Or.inl ⟨by unfold inM; omega, rfl, rfl, rfl, rfl, rfl, rfl, rfl⟩, rfl⟩
              · skip
                refine g_iload_n X 4 dX5_set_71 rfl rfl ?_
                refine g_iload X 0 dX5_set_72 rfl ?_
                refine g_icmp_le X 81 dX5_set_74 (by decide) (by omega) (by omega) (fun c_74 => ?_) (fun c_74 => ?_)
                · skip
                  refine g_iconst X dX5_set_81 ?_
                  refine g_iconst X dX5_set_82 ?_
                  refine g_callV0 X (As := [.int (iZ 0), .int (iZ 1)]) (rest := []) (ctX5_bad l D cB cI cJ cY m0 a6 a8 a10 a11 a12 a13 a14 a15 a17 a19 a20 a21 a22 a23 a24 a26 a27 a28 a35 a36 a37 a38 a39 a40 a41 a44 a45 0 z1 z2 z3 z4 z5 z7 z9 z16 z18 z25 z29 z30 z31 z32 z33 z34 z42 z43 0 1 (by omega)) (cwV 2 X.2.2.2.2.1 gX5_set_X5_bad rfl rfl rfl (by decide +kernel) ⟨by decide, by decide⟩) 0 rfl rfl (wc := [(m0, .inr (5, [.int (iZ 0), .int (iZ z1), .int (iZ z2), .int (iZ z3), .int (iZ z4), .int (iZ z5), .ref a6, .int (iZ z7), .ref a8, .int (iZ z9), .ref a10, .ref a11, .ref a12, .ref a13, .ref a14, .ref a15, .int (iZ z16), .ref a17, .int (iZ z18), .ref a19, .ref a20, .ref a21, .ref a22, .ref a23, .ref a24, .int (iZ z25), .ref a26, .ref a27, .ref a28, .int (iZ z29), .int (iZ z30), .int (iZ z31), .int (iZ z32), .int (iZ z33), .int (iZ z34), .ref a35, .ref a36, .ref a37, .ref a38, .ref a39, .ref a40, .ref a41, .int (iZ z42), .int (iZ z43), .ref a44, .ref a45]))]) (wr := []) [0] [] rfl rfl (by decide) (by decide) (by decide) rfl rfl (Nat.le_of_ble_eq_true rfl) ⟨by decide, by decide⟩ dX5_set_83 (fun v w1 hq => ?_)
                  obtain ⟨x9, rfl, p9, rfl⟩ := hq
                  refine g_eq (ws' := [(m0, .inr (5, [.int (iZ x9), .int (iZ z1), .int (iZ z2), .int (iZ z3), .int (iZ z4), .int (iZ z5), .ref a6, .int (iZ z7), .ref a8, .int (iZ z9), .ref a10, .ref a11, .ref a12, .ref a13, .ref a14, .ref a15, .int (iZ z16), .ref a17, .int (iZ z18), .ref a19, .ref a20, .ref a21, .ref a22, .ref a23, .ref a24, .int (iZ z25), .ref a26, .ref a27, .ref a28, .int (iZ z29), .int (iZ z30), .int (iZ z31), .int (iZ z32), .int (iZ z33), .int (iZ z34), .ref a35, .ref a36, .ref a37, .ref a38, .ref a39, .ref a40, .ref a41, .int (iZ z42), .int (iZ z43), .ref a44, .ref a45]))]) (pc' := 86) (st' := [.int (iZ 0)]) rfl rfl rfl rfl ?_
                  simp at p9
                  subst p9
                  refine g_if_eq X 91 dX5_set_86 (by decide) (by omega) (fun c_86 => ?_) (fun c_86 => ?_)
                  · skip
                    refine g_iload_n X 3 dX5_set_91 rfl rfl ?_
                    refine g_if_ne X 102 dX5_set_92 (by decide) (by omega) (fun c_92 => ?_) (fun c_92 => ?_)
                    · skip
                      refine g_iload_n X 3 dX5_set_102 rfl rfl ?_
                      refine g_iconst X dX5_set_103 ?_
                      refine g_icmp_ne X 114 dX5_set_104 (by decide) (by omega) (by omega) (fun c_104 => ?_) (fun c_104 => ?_)
                      · omega
                      · skip
                        refine g_aload_n X 2 dX5_set_107 rfl rfl ?_
                        refine g_get X (index := 13) (ref := "GuideWordsModel") hin5 0 rfl rfl 2 (by decide) rfl (by decide +kernel) (v := .int (iZ z2)) rfl dX5_set_108 ?_
                        refine g_goto X 142 dX5_set_111 (by decide) ?_
                        refine g_istore (lv2 := [(5, .int (iZ z2)), (4, .int (iZ 4)), (3, .int (iZ 1)), (0, .ref m0), (1, .int (iZ wh)), (2, .int (iZ v))]) X dX5_set_142 (by decide) rfl ?_
                        refine g_iload_n X 4 dX5_set_144 rfl rfl ?_
                        refine g_if_ne X 156 dX5_set_145 (by decide) (by omega) (fun c_145 => ?_) (fun c_145 => ?_)
                        · skip
                          refine g_iload_n X 4 dX5_set_156 rfl rfl ?_
                          refine g_iconst X dX5_set_157 ?_
                          refine g_icmp_ne X 169 dX5_set_158 (by decide) (by omega) (by omega) (fun c_158 => ?_) (fun c_158 => ?_)
                          · omega
                          · skip
                            refine g_aload_n X 3 dX5_set_161 rfl rfl ?_
                            refine g_iload_n X 5 dX5_set_162 rfl rfl ?_
                            refine g_put X (index := 13) (ref := "GuideWordsModel") hin5 0 rfl rfl 2 (by decide) rfl tyX5 tyX5_ok nmX5 (by decide +kernel) rfl rfl rfl rfl (Nat.le_of_ble_eq_true rfl) (ws2 := [(m0, .inr (5, [.int (iZ 0), .int (iZ z1), .int (iZ v), .int (iZ z3), .int (iZ z4), .int (iZ z5), .ref a6, .int (iZ z7), .ref a8, .int (iZ z9), .ref a10, .ref a11, .ref a12, .ref a13, .ref a14, .ref a15, .int (iZ z16), .ref a17, .int (iZ z18), .ref a19, .ref a20, .ref a21, .ref a22, .ref a23, .ref a24, .int (iZ z25), .ref a26, .ref a27, .ref a28, .int (iZ z29), .int (iZ z30), .int (iZ z31), .int (iZ z32), .int (iZ z33), .int (iZ z34), .ref a35, .ref a36, .ref a37, .ref a38, .ref a39, .ref a40, .ref a41, .int (iZ z42), .int (iZ z43), .ref a44, .ref a45]))]) rfl dX5_set_163 ?_
                            refine g_goto X 200 dX5_set_166 (by decide) ?_
                            refine g_iload X 0 dX5_set_200 rfl ?_
                            exact g_iret X hr (by decide) (by decide) dX5_set_202 ⟨_, _, _, _, _, _, _, rfl, Or.inr ⟨by unfold inM; omega, rfl, by omega⟩, rfl⟩
                        · omega
                    · omega
                  · omega
                · skip
                  refine g_iconst X dX5_set_77 ?_
                  refine g_goto X 82 dX5_set_78 (by decide) ?_
                  refine g_iconst X dX5_set_82 ?_
                  refine g_callV0 X (As := [.int (iZ 1), .int (iZ 1)]) (rest := []) (ctX5_bad l D cB cI cJ cY m0 a6 a8 a10 a11 a12 a13 a14 a15 a17 a19 a20 a21 a22 a23 a24 a26 a27 a28 a35 a36 a37 a38 a39 a40 a41 a44 a45 0 z1 z2 z3 z4 z5 z7 z9 z16 z18 z25 z29 z30 z31 z32 z33 z34 z42 z43 1 1 (by omega)) (cwV 2 X.2.2.2.2.1 gX5_set_X5_bad rfl rfl rfl (by decide +kernel) ⟨by decide, by decide⟩) 0 rfl rfl (wc := [(m0, .inr (5, [.int (iZ 0), .int (iZ z1), .int (iZ z2), .int (iZ z3), .int (iZ z4), .int (iZ z5), .ref a6, .int (iZ z7), .ref a8, .int (iZ z9), .ref a10, .ref a11, .ref a12, .ref a13, .ref a14, .ref a15, .int (iZ z16), .ref a17, .int (iZ z18), .ref a19, .ref a20, .ref a21, .ref a22, .ref a23, .ref a24, .int (iZ z25), .ref a26, .ref a27, .ref a28, .int (iZ z29), .int (iZ z30), .int (iZ z31), .int (iZ z32), .int (iZ z33), .int (iZ z34), .ref a35, .ref a36, .ref a37, .ref a38, .ref a39, .ref a40, .ref a41, .int (iZ z42), .int (iZ z43), .ref a44, .ref a45]))]) (wr := []) [0] [] rfl rfl (by decide) (by decide) (by decide) rfl rfl (Nat.le_of_ble_eq_true rfl) ⟨by decide, by decide⟩ dX5_set_83 (fun v w1 hq => ?_)
                  obtain ⟨x9, rfl, p9, rfl⟩ := hq
                  refine g_eq (ws' := [(m0, .inr (5, [.int (iZ x9), .int (iZ z1), .int (iZ z2), .int (iZ z3), .int (iZ z4), .int (iZ z5), .ref a6, .int (iZ z7), .ref a8, .int (iZ z9), .ref a10, .ref a11, .ref a12, .ref a13, .ref a14, .ref a15, .int (iZ z16), .ref a17, .int (iZ z18), .ref a19, .ref a20, .ref a21, .ref a22, .ref a23, .ref a24, .int (iZ z25), .ref a26, .ref a27, .ref a28, .int (iZ z29), .int (iZ z30), .int (iZ z31), .int (iZ z32), .int (iZ z33), .int (iZ z34), .ref a35, .ref a36, .ref a37, .ref a38, .ref a39, .ref a40, .ref a41, .int (iZ z42), .int (iZ z43), .ref a44, .ref a45]))]) (pc' := 86) (st' := [.int (iZ 1)]) rfl rfl rfl rfl ?_
                  simp at p9
                  subst p9
                  refine g_if_eq X 91 dX5_set_86 (by decide) (by omega) (fun c_86 => ?_) (fun c_86 => ?_)
                  · omega
                  · skip
                    refine g_iconst X dX5_set_89 ?_
                    exact g_iret X hr (by decide) (by decide) dX5_set_90 ⟨_, _, z1, z2, z3, z4, z5, rfl, Or.inl ⟨by unfold inM; omega, rfl, rfl, rfl, rfl, rfl, rfl, rfl⟩, rfl⟩
      · omega
  · skip
    refine g_iconst X dX5_set_9 ?_
    refine g_goto X 23 dX5_set_10 (by decide) ?_
    refine g_istore_n (lv2 := [(3, .int (iZ 4)), (0, .ref m0), (1, .int (iZ wh)), (2, .int (iZ v))]) X dX5_set_23 rfl (by decide) rfl ?_
    refine g_iload_n X 2 dX5_set_24 rfl rfl ?_
    refine g_if_ne X 33 dX5_set_25 (by decide) (by omega) (fun c_25 => ?_) (fun c_25 => ?_)
    · omega
    · skip
      refine g_bipush X dX5_set_28 (by decide) ?_
      refine g_goto X 54 dX5_set_30 (by decide) ?_
      refine g_istore (lv2 := [(4, .int (iZ 60)), (3, .int (iZ 4)), (0, .ref m0), (1, .int (iZ wh)), (2, .int (iZ v))]) X dX5_set_54 (by decide) rfl ?_
      refine g_aload_n X 2 dX5_set_56 rfl rfl ?_
      refine g_iload_n X 3 dX5_set_57 rfl rfl ?_
      refine g_if_lt X 77 dX5_set_58 (by decide) (by omega) (fun c_58 => ?_) (fun c_58 => ?_)
      · omega
      · skip
        refine g_iload_n X 3 dX5_set_61 rfl rfl ?_
        refine g_iconst X dX5_set_62 ?_
        refine g_icmp_gt X 77 dX5_set_63 (by decide) (by omega) (by omega) (fun c_63 => ?_) (fun c_63 => ?_)
        · omega
        · skip
          refine g_iload_n X 4 dX5_set_66 rfl rfl ?_
          refine g_iload_n X 1 dX5_set_67 rfl rfl ?_
          refine g_icmp_lt X 77 dX5_set_68 (by decide) (by omega) (by omega) (fun c_68 => ?_) (fun c_68 => ?_)
          · skip
            refine g_iconst X dX5_set_77 ?_
            refine g_goto X 82 dX5_set_78 (by decide) ?_
            refine g_iconst X dX5_set_82 ?_
            refine g_callV0 X (As := [.int (iZ 1), .int (iZ 1)]) (rest := []) (ctX5_bad l D cB cI cJ cY m0 a6 a8 a10 a11 a12 a13 a14 a15 a17 a19 a20 a21 a22 a23 a24 a26 a27 a28 a35 a36 a37 a38 a39 a40 a41 a44 a45 0 z1 z2 z3 z4 z5 z7 z9 z16 z18 z25 z29 z30 z31 z32 z33 z34 z42 z43 1 1 (by omega)) (cwV 2 X.2.2.2.2.1 gX5_set_X5_bad rfl rfl rfl (by decide +kernel) ⟨by decide, by decide⟩) 0 rfl rfl (wc := [(m0, .inr (5, [.int (iZ 0), .int (iZ z1), .int (iZ z2), .int (iZ z3), .int (iZ z4), .int (iZ z5), .ref a6, .int (iZ z7), .ref a8, .int (iZ z9), .ref a10, .ref a11, .ref a12, .ref a13, .ref a14, .ref a15, .int (iZ z16), .ref a17, .int (iZ z18), .ref a19, .ref a20, .ref a21, .ref a22, .ref a23, .ref a24, .int (iZ z25), .ref a26, .ref a27, .ref a28, .int (iZ z29), .int (iZ z30), .int (iZ z31), .int (iZ z32), .int (iZ z33), .int (iZ z34), .ref a35, .ref a36, .ref a37, .ref a38, .ref a39, .ref a40, .ref a41, .int (iZ z42), .int (iZ z43), .ref a44, .ref a45]))]) (wr := []) [0] [] rfl rfl (by decide) (by decide) (by decide) rfl rfl (Nat.le_of_ble_eq_true rfl) ⟨by decide, by decide⟩ dX5_set_83 (fun v w1 hq => ?_)
            obtain ⟨x9, rfl, p9, rfl⟩ := hq
            refine g_eq (ws' := [(m0, .inr (5, [.int (iZ x9), .int (iZ z1), .int (iZ z2), .int (iZ z3), .int (iZ z4), .int (iZ z5), .ref a6, .int (iZ z7), .ref a8, .int (iZ z9), .ref a10, .ref a11, .ref a12, .ref a13, .ref a14, .ref a15, .int (iZ z16), .ref a17, .int (iZ z18), .ref a19, .ref a20, .ref a21, .ref a22, .ref a23, .ref a24, .int (iZ z25), .ref a26, .ref a27, .ref a28, .int (iZ z29), .int (iZ z30), .int (iZ z31), .int (iZ z32), .int (iZ z33), .int (iZ z34), .ref a35, .ref a36, .ref a37, .ref a38, .ref a39, .ref a40, .ref a41, .int (iZ z42), .int (iZ z43), .ref a44, .ref a45]))]) (pc' := 86) (st' := [.int (iZ 1)]) rfl rfl rfl rfl ?_
            simp at p9
            subst p9
            refine g_if_eq X 91 dX5_set_86 (by decide) (by omega) (fun c_86 => ?_) (fun c_86 => ?_)
            · omega
            · skip
              refine g_iconst X dX5_set_89 ?_
              exact g_iret X hr (by decide) (by decide) dX5_set_90 ⟨_, _, z1, z2, z3, z4, z5, rfl, Or.inl ⟨by unfold inM; omega, rfl, rfl, rfl, rfl, rfl, rfl, rfl⟩, rfl⟩
          · skip
            refine g_iload_n X 4 dX5_set_71 rfl rfl ?_
            refine g_iload X 0 dX5_set_72 rfl ?_
            refine g_icmp_le X 81 dX5_set_74 (by decide) (by omega) (by omega) (fun c_74 => ?_) (fun c_74 => ?_)
            · skip
              refine g_iconst X dX5_set_81 ?_
              refine g_iconst X dX5_set_82 ?_
              refine g_callV0 X (As := [.int (iZ 0), .int (iZ 1)]) (rest := []) (ctX5_bad l D cB cI cJ cY m0 a6 a8 a10 a11 a12 a13 a14 a15 a17 a19 a20 a21 a22 a23 a24 a26 a27 a28 a35 a36 a37 a38 a39 a40 a41 a44 a45 0 z1 z2 z3 z4 z5 z7 z9 z16 z18 z25 z29 z30 z31 z32 z33 z34 z42 z43 0 1 (by omega)) (cwV 2 X.2.2.2.2.1 gX5_set_X5_bad rfl rfl rfl (by decide +kernel) ⟨by decide, by decide⟩) 0 rfl rfl (wc := [(m0, .inr (5, [.int (iZ 0), .int (iZ z1), .int (iZ z2), .int (iZ z3), .int (iZ z4), .int (iZ z5), .ref a6, .int (iZ z7), .ref a8, .int (iZ z9), .ref a10, .ref a11, .ref a12, .ref a13, .ref a14, .ref a15, .int (iZ z16), .ref a17, .int (iZ z18), .ref a19, .ref a20, .ref a21, .ref a22, .ref a23, .ref a24, .int (iZ z25), .ref a26, .ref a27, .ref a28, .int (iZ z29), .int (iZ z30), .int (iZ z31), .int (iZ z32), .int (iZ z33), .int (iZ z34), .ref a35, .ref a36, .ref a37, .ref a38, .ref a39, .ref a40, .ref a41, .int (iZ z42), .int (iZ z43), .ref a44, .ref a45]))]) (wr := []) [0] [] rfl rfl (by decide) (by decide) (by decide) rfl rfl (Nat.le_of_ble_eq_true rfl) ⟨by decide, by decide⟩ dX5_set_83 (fun v w1 hq => ?_)
              obtain ⟨x9, rfl, p9, rfl⟩ := hq
              refine g_eq (ws' := [(m0, .inr (5, [.int (iZ x9), .int (iZ z1), .int (iZ z2), .int (iZ z3), .int (iZ z4), .int (iZ z5), .ref a6, .int (iZ z7), .ref a8, .int (iZ z9), .ref a10, .ref a11, .ref a12, .ref a13, .ref a14, .ref a15, .int (iZ z16), .ref a17, .int (iZ z18), .ref a19, .ref a20, .ref a21, .ref a22, .ref a23, .ref a24, .int (iZ z25), .ref a26, .ref a27, .ref a28, .int (iZ z29), .int (iZ z30), .int (iZ z31), .int (iZ z32), .int (iZ z33), .int (iZ z34), .ref a35, .ref a36, .ref a37, .ref a38, .ref a39, .ref a40, .ref a41, .int (iZ z42), .int (iZ z43), .ref a44, .ref a45]))]) (pc' := 86) (st' := [.int (iZ 0)]) rfl rfl rfl rfl ?_
              simp at p9
              subst p9
              refine g_if_eq X 91 dX5_set_86 (by decide) (by omega) (fun c_86 => ?_) (fun c_86 => ?_)
              · skip
                refine g_iload_n X 3 dX5_set_91 rfl rfl ?_
                refine g_if_ne X 102 dX5_set_92 (by decide) (by omega) (fun c_92 => ?_) (fun c_92 => ?_)
                · omega
                · skip
                  refine g_aload_n X 2 dX5_set_95 rfl rfl ?_
                  refine g_get X (index := 7) (ref := "GuideWordsModel") hin5 0 rfl rfl 1 (by decide) rfl (by decide +kernel) (v := .int (iZ z1)) rfl dX5_set_96 ?_
                  refine g_goto X 142 dX5_set_99 (by decide) ?_
                  refine g_istore (lv2 := [(5, .int (iZ z1)), (4, .int (iZ 60)), (3, .int (iZ 4)), (0, .ref m0), (1, .int (iZ wh)), (2, .int (iZ v))]) X dX5_set_142 (by decide) rfl ?_
                  refine g_iload_n X 4 dX5_set_144 rfl rfl ?_
                  refine g_if_ne X 156 dX5_set_145 (by decide) (by omega) (fun c_145 => ?_) (fun c_145 => ?_)
                  · omega
                  · skip
                    refine g_aload_n X 3 dX5_set_148 rfl rfl ?_
                    refine g_iload_n X 5 dX5_set_149 rfl rfl ?_
                    refine g_put X (index := 7) (ref := "GuideWordsModel") hin5 0 rfl rfl 1 (by decide) rfl tyX5 tyX5_ok nmX5 (by decide +kernel) rfl rfl rfl rfl (Nat.le_of_ble_eq_true rfl) (ws2 := [(m0, .inr (5, [.int (iZ 0), .int (iZ v), .int (iZ z2), .int (iZ z3), .int (iZ z4), .int (iZ z5), .ref a6, .int (iZ z7), .ref a8, .int (iZ z9), .ref a10, .ref a11, .ref a12, .ref a13, .ref a14, .ref a15, .int (iZ z16), .ref a17, .int (iZ z18), .ref a19, .ref a20, .ref a21, .ref a22, .ref a23, .ref a24, .int (iZ z25), .ref a26, .ref a27, .ref a28, .int (iZ z29), .int (iZ z30), .int (iZ z31), .int (iZ z32), .int (iZ z33), .int (iZ z34), .ref a35, .ref a36, .ref a37, .ref a38, .ref a39, .ref a40, .ref a41, .int (iZ z42), .int (iZ z43), .ref a44, .ref a45]))]) rfl dX5_set_150 ?_
                    refine g_goto X 200 dX5_set_153 (by decide) ?_
                    refine g_iload X 0 dX5_set_200 rfl ?_
                    exact g_iret X hr (by decide) (by decide) dX5_set_202 ⟨_, _, _, _, _, _, _, rfl, Or.inr ⟨by unfold inM; omega, rfl, by omega⟩, rfl⟩
              · omega
            · skip
              refine g_iconst X dX5_set_77 ?_
              refine g_goto X 82 dX5_set_78 (by decide) ?_
              refine g_iconst X dX5_set_82 ?_
              refine g_callV0 X (As := [.int (iZ 1), .int (iZ 1)]) (rest := []) (ctX5_bad l D cB cI cJ cY m0 a6 a8 a10 a11 a12 a13 a14 a15 a17 a19 a20 a21 a22 a23 a24 a26 a27 a28 a35 a36 a37 a38 a39 a40 a41 a44 a45 0 z1 z2 z3 z4 z5 z7 z9 z16 z18 z25 z29 z30 z31 z32 z33 z34 z42 z43 1 1 (by omega)) (cwV 2 X.2.2.2.2.1 gX5_set_X5_bad rfl rfl rfl (by decide +kernel) ⟨by decide, by decide⟩) 0 rfl rfl (wc := [(m0, .inr (5, [.int (iZ 0), .int (iZ z1), .int (iZ z2), .int (iZ z3), .int (iZ z4), .int (iZ z5), .ref a6, .int (iZ z7), .ref a8, .int (iZ z9), .ref a10, .ref a11, .ref a12, .ref a13, .ref a14, .ref a15, .int (iZ z16), .ref a17, .int (iZ z18), .ref a19, .ref a20, .ref a21, .ref a22, .ref a23, .ref a24, .int (iZ z25), .ref a26, .ref a27, .ref a28, .int (iZ z29), .int (iZ z30), .int (iZ z31), .int (iZ z32), .int (iZ z33), .int (iZ z34), .ref a35, .ref a36, .ref a37, .ref a38, .ref a39, .ref a40, .ref a41, .int (iZ z42), .int (iZ z43), .ref a44, .ref a45]))]) (wr := []) [0] [] rfl rfl (by decide) (by decide) (by decide) rfl rfl (Nat.le_of_ble_eq_true rfl) ⟨by decide, by decide⟩ dX5_set_83 (fun v w1 hq => ?_)
              obtain ⟨x9, rfl, p9, rfl⟩ := hq
              refine g_eq (ws' := [(m0, .inr (5, [.int (iZ x9), .int (iZ z1), .int (iZ z2), .int (iZ z3), .int (iZ z4), .int (iZ z5), .ref a6, .int (iZ z7), .ref a8, .int (iZ z9), .ref a10, .ref a11, .ref a12, .ref a13, .ref a14, .ref a15, .int (iZ z16), .ref a17, .int (iZ z18), .ref a19, .ref a20, .ref a21, .ref a22, .ref a23, .ref a24, .int (iZ z25), .ref a26, .ref a27, .ref a28, .int (iZ z29), .int (iZ z30), .int (iZ z31), .int (iZ z32), .int (iZ z33), .int (iZ z34), .ref a35, .ref a36, .ref a37, .ref a38, .ref a39, .ref a40, .ref a41, .int (iZ z42), .int (iZ z43), .ref a44, .ref a45]))]) (pc' := 86) (st' := [.int (iZ 1)]) rfl rfl rfl rfl ?_
              simp at p9
              subst p9
              refine g_if_eq X 91 dX5_set_86 (by decide) (by omega) (fun c_86 => ?_) (fun c_86 => ?_)
              · omega
              · skip
                refine g_iconst X dX5_set_89 ?_
                exact g_iret X hr (by decide) (by decide) dX5_set_90 ⟨_, _, z1, z2, z3, z4, z5, rfl, Or.inl ⟨by unfold inM; omega, rfl, rfl, rfl, rfl, rfl, rfl, rfl⟩, rfl⟩
def pshM (z7 : Int) (g6 : Int → Int) (li r t y7 : Int) (h6 : Int → Int) : Prop := (¬ (1 ≤ li ∧ li ≤ 20) ∧ t = 1 ∧ r = 0 ∧ y7 = z7 ∧ h6 = g6) ∨ ((1 ≤ li ∧ li ≤ 20) ∧ t = 0 ∧ ((z7 = 6 ∧ r = -1 ∧ y7 = z7 ∧ h6 = g6) ∨ (¬ z7 = 6 ∧ r = z7 + 1 ∧ y7 = z7 + 1 ∧ h6 = upZ g6 z7 li)))
def qX5_push (cB cI cJ cY : ClassId) (m0 : Nat) (a6 : Nat) (a8 : Nat) (a10 : Nat) (a11 : Nat) (a12 : Nat) (a13 : Nat) (a14 : Nat) (a15 : Nat) (a17 : Nat) (a19 : Nat) (a20 : Nat) (a21 : Nat) (a22 : Nat) (a23 : Nat) (a24 : Nat) (a26 : Nat) (a27 : Nat) (a28 : Nat) (a35 : Nat) (a36 : Nat) (a37 : Nat) (a38 : Nat) (a39 : Nat) (a40 : Nat) (a41 : Nat) (a44 : Nat) (a45 : Nat) (z0 : Int) (z1 : Int) (z2 : Int) (z3 : Int) (z4 : Int) (z5 : Int) (z7 : Int) (z9 : Int) (z16 : Int) (z18 : Int) (z25 : Int) (z29 : Int) (z30 : Int) (z31 : Int) (z32 : Int) (z33 : Int) (z34 : Int) (z42 : Int) (z43 : Int) (g6 : Int → Int) (li : Int) : Option Value → va_W → Prop := fun rv w1 => ∃ (r : Int) (t : Int) (y7 : Int) (h6 : Int → Int), rv = some (.int (iZ r)) ∧ pshM z7 g6 li r t y7 h6 ∧ w1 = [(m0, .inr (5, [.int (iZ t), .int (iZ z1), .int (iZ z2), .int (iZ z3), .int (iZ z4), .int (iZ z5), .ref a6, .int (iZ y7), .ref a8, .int (iZ z9), .ref a10, .ref a11, .ref a12, .ref a13, .ref a14, .ref a15, .int (iZ z16), .ref a17, .int (iZ z18), .ref a19, .ref a20, .ref a21, .ref a22, .ref a23, .ref a24, .int (iZ z25), .ref a26, .ref a27, .ref a28, .int (iZ z29), .int (iZ z30), .int (iZ z31), .int (iZ z32), .int (iZ z33), .int (iZ z34), .ref a35, .ref a36, .ref a37, .ref a38, .ref a39, .ref a40, .ref a41, .int (iZ z42), .int (iZ z43), .ref a44, .ref a45])), (a6, .inl (cI, 6, .inl (zA h6)))]
set_option maxHeartbeats 4000000 in
set_option maxRecDepth 100000 in
theorem ctX5_push (l : Launch) (D : va_G) (cB cI cJ cY : ClassId) (m0 : Nat) (a6 : Nat) (a8 : Nat) (a10 : Nat) (a11 : Nat) (a12 : Nat) (a13 : Nat) (a14 : Nat) (a15 : Nat) (a17 : Nat) (a19 : Nat) (a20 : Nat) (a21 : Nat) (a22 : Nat) (a23 : Nat) (a24 : Nat) (a26 : Nat) (a27 : Nat) (a28 : Nat) (a35 : Nat) (a36 : Nat) (a37 : Nat) (a38 : Nat) (a39 : Nat) (a40 : Nat) (a41 : Nat) (a44 : Nat) (a45 : Nat) (z0 : Int) (z1 : Int) (z2 : Int) (z3 : Int) (z4 : Int) (z5 : Int) (z7 : Int) (z9 : Int) (z16 : Int) (z18 : Int) (z25 : Int) (z29 : Int) (z30 : Int) (z31 : Int) (z32 : Int) (z33 : Int) (z34 : Int) (z42 : Int) (z43 : Int) (g6 : Int → Int) (li : Int) (h7 : 0 ≤ z7 ∧ z7 ≤ 6) (h_li : -2147483648 ≤ li ∧ li ≤ 2147483647) : gM l yX5_push wsX5_push { frames := 1, cells := 0, slots := 0, locals := 22 } D (gT cB cI cJ cY) [.ref m0, .int (iZ li)] [(m0, .inr (5, [.int (iZ z0), .int (iZ z1), .int (iZ z2), .int (iZ z3), .int (iZ z4), .int (iZ z5), .ref a6, .int (iZ z7), .ref a8, .int (iZ z9), .ref a10, .ref a11, .ref a12, .ref a13, .ref a14, .ref a15, .int (iZ z16), .ref a17, .int (iZ z18), .ref a19, .ref a20, .ref a21, .ref a22, .ref a23, .ref a24, .int (iZ z25), .ref a26, .ref a27, .ref a28, .int (iZ z29), .int (iZ z30), .int (iZ z31), .int (iZ z32), .int (iZ z33), .int (iZ z34), .ref a35, .ref a36, .ref a37, .ref a38, .ref a39, .ref a40, .ref a41, .int (iZ z42), .int (iZ z43), .ref a44, .ref a45])), (a6, .inl (cI, 6, .inl (zA g6)))] 0 0 (qX5_push cB cI cJ cY m0 a6 a8 a10 a11 a12 a13 a14 a15 a17 a19 a20 a21 a22 a23 a24 a26 a27 a28 a35 a36 a37 a38 a39 a40 a41 a44 a45 z0 z1 z2 z3 z4 z5 z7 z9 z16 z18 z25 z29 z30 z31 z32 z33 z34 z42 z43 g6 li) := by
  refine g_start (cc := cX5_push) (maxL := 2) (ret := some .int) (lv := [(0, .ref m0), (1, .int (iZ li))]) (by decide) rfl (Nat.le_of_ble_eq_true rfl) rfl ?_
  intro p e s m args below meth c A X hr hnm
  have hin5 : ∀ w ∈ u_ws RX5 TX5 46, w ∈ wsX5_push := by decide +kernel
  refine g_aload_n X 0 dX5_push_0 rfl rfl ?_
  refine g_iconst X dX5_push_1 ?_
  refine g_put X (index := 116) (ref := "GuideWordsModel") hin5 0 rfl rfl 0 (by decide) rfl tyX5 tyX5_ok nmX5 (by decide +kernel) rfl rfl rfl rfl (Nat.le_of_ble_eq_true rfl) (ws2 := [(m0, .inr (5, [.int (iZ 0), .int (iZ z1), .int (iZ z2), .int (iZ z3), .int (iZ z4), .int (iZ z5), .ref a6, .int (iZ z7), .ref a8, .int (iZ z9), .ref a10, .ref a11, .ref a12, .ref a13, .ref a14, .ref a15, .int (iZ z16), .ref a17, .int (iZ z18), .ref a19, .ref a20, .ref a21, .ref a22, .ref a23, .ref a24, .int (iZ z25), .ref a26, .ref a27, .ref a28, .int (iZ z29), .int (iZ z30), .int (iZ z31), .int (iZ z32), .int (iZ z33), .int (iZ z34), .ref a35, .ref a36, .ref a37, .ref a38, .ref a39, .ref a40, .ref a41, .int (iZ z42), .int (iZ z43), .ref a44, .ref a45])), (a6, .inl (cI, 6, .inl (zA g6)))]) rfl dX5_push_2 ?_
  refine g_aload_n X 0 dX5_push_5 rfl rfl ?_
  refine g_iload_n X 1 dX5_push_6 rfl rfl ?_
  refine g_iconst X dX5_push_7 ?_
  refine g_icmp_lt X 17 dX5_push_8 (by decide) (by omega) (by omega) (fun c_8 => ?_) (fun c_8 => ?_)
  · skip
    refine g_iconst X dX5_push_17 ?_
    refine g_goto X 22 dX5_push_18 (by decide) ?_
    refine g_iconst X dX5_push_22 ?_
    refine g_callV0 X (As := [.int (iZ 1), .int (iZ 1)]) (rest := []) (ctX5_bad l D cB cI cJ cY m0 a6 a8 a10 a11 a12 a13 a14 a15 a17 a19 a20 a21 a22 a23 a24 a26 a27 a28 a35 a36 a37 a38 a39 a40 a41 a44 a45 0 z1 z2 z3 z4 z5 z7 z9 z16 z18 z25 z29 z30 z31 z32 z33 z34 z42 z43 1 1 (by omega)) (cwV 2 X.2.2.2.2.1 gX5_push_X5_bad rfl rfl rfl (by decide +kernel) ⟨by decide, by decide⟩) 0 rfl rfl (wc := [(m0, .inr (5, [.int (iZ 0), .int (iZ z1), .int (iZ z2), .int (iZ z3), .int (iZ z4), .int (iZ z5), .ref a6, .int (iZ z7), .ref a8, .int (iZ z9), .ref a10, .ref a11, .ref a12, .ref a13, .ref a14, .ref a15, .int (iZ z16), .ref a17, .int (iZ z18), .ref a19, .ref a20, .ref a21, .ref a22, .ref a23, .ref a24, .int (iZ z25), .ref a26, .ref a27, .ref a28, .int (iZ z29), .int (iZ z30), .int (iZ z31), .int (iZ z32), .int (iZ z33), .int (iZ z34), .ref a35, .ref a36, .ref a37, .ref a38, .ref a39, .ref a40, .ref a41, .int (iZ z42), .int (iZ z43), .ref a44, .ref a45]))]) (wr := [(a6, .inl (cI, 6, .inl (zA g6)))]) [0] [1] rfl rfl (by decide) (by decide) (by decide) rfl rfl (Nat.le_of_ble_eq_true rfl) ⟨by decide, by decide⟩ dX5_push_23 (fun v w1 hq => ?_)
    obtain ⟨x9, rfl, p9, rfl⟩ := hq
    refine g_eq (ws' := [(a6, .inl (cI, 6, .inl (zA g6))), (m0, .inr (5, [.int (iZ x9), .int (iZ z1), .int (iZ z2), .int (iZ z3), .int (iZ z4), .int (iZ z5), .ref a6, .int (iZ z7), .ref a8, .int (iZ z9), .ref a10, .ref a11, .ref a12, .ref a13, .ref a14, .ref a15, .int (iZ z16), .ref a17, .int (iZ z18), .ref a19, .ref a20, .ref a21, .ref a22, .ref a23, .ref a24, .int (iZ z25), .ref a26, .ref a27, .ref a28, .int (iZ z29), .int (iZ z30), .int (iZ z31), .int (iZ z32), .int (iZ z33), .int (iZ z34), .ref a35, .ref a36, .ref a37, .ref a38, .ref a39, .ref a40, .ref a41, .int (iZ z42), .int (iZ z43), .ref a44, .ref a45]))]) (pc' := 26) (st' := [.int (iZ 1)]) rfl rfl rfl rfl ?_
    refine g_perm (ws' := [(m0, .inr (5, [.int (iZ x9), .int (iZ z1), .int (iZ z2), .int (iZ z3), .int (iZ z4), .int (iZ z5), .ref a6, .int (iZ z7), .ref a8, .int (iZ z9), .ref a10, .ref a11, .ref a12, .ref a13, .ref a14, .ref a15, .int (iZ z16), .ref a17, .int (iZ z18), .ref a19, .ref a20, .ref a21, .ref a22, .ref a23, .ref a24, .int (iZ z25), .ref a26, .ref a27, .ref a28, .int (iZ z29), .int (iZ z30), .int (iZ z31), .int (iZ z32), .int (iZ z33), .int (iZ z34), .ref a35, .ref a36, .ref a37, .ref a38, .ref a39, .ref a40, .ref a41, .int (iZ z42), .int (iZ z43), .ref a44, .ref a45])), (a6, .inl (cI, 6, .inl (zA g6)))]) [1, 0] (by decide) rfl ?_
    simp at p9
    subst p9
    refine g_if_eq X 31 dX5_push_26 (by decide) (by omega) (fun c_26 => ?_) (fun c_26 => ?_)
    · omega
    · skip
      refine g_iconst X dX5_push_29 ?_
      exact g_iret X hr (by decide) (by decide) dX5_push_30 ⟨_, _, z7, g6, rfl, Or.inl ⟨by omega, rfl, rfl, rfl, rfl⟩, rfl⟩
  · skip
    refine g_iload_n X 1 dX5_push_11 rfl rfl ?_
    refine g_bipush X dX5_push_12 (by decide) ?_
    refine g_icmp_le X 21 dX5_push_14 (by decide) (by omega) (by omega) (fun c_14 => ?_) (fun c_14 => ?_)
    · skip
      refine g_iconst X dX5_push_21 ?_
      refine g_iconst X dX5_push_22 ?_
      refine g_callV0 X (As := [.int (iZ 0), .int (iZ 1)]) (rest := []) (ctX5_bad l D cB cI cJ cY m0 a6 a8 a10 a11 a12 a13 a14 a15 a17 a19 a20 a21 a22 a23 a24 a26 a27 a28 a35 a36 a37 a38 a39 a40 a41 a44 a45 0 z1 z2 z3 z4 z5 z7 z9 z16 z18 z25 z29 z30 z31 z32 z33 z34 z42 z43 0 1 (by omega)) (cwV 2 X.2.2.2.2.1 gX5_push_X5_bad rfl rfl rfl (by decide +kernel) ⟨by decide, by decide⟩) 0 rfl rfl (wc := [(m0, .inr (5, [.int (iZ 0), .int (iZ z1), .int (iZ z2), .int (iZ z3), .int (iZ z4), .int (iZ z5), .ref a6, .int (iZ z7), .ref a8, .int (iZ z9), .ref a10, .ref a11, .ref a12, .ref a13, .ref a14, .ref a15, .int (iZ z16), .ref a17, .int (iZ z18), .ref a19, .ref a20, .ref a21, .ref a22, .ref a23, .ref a24, .int (iZ z25), .ref a26, .ref a27, .ref a28, .int (iZ z29), .int (iZ z30), .int (iZ z31), .int (iZ z32), .int (iZ z33), .int (iZ z34), .ref a35, .ref a36, .ref a37, .ref a38, .ref a39, .ref a40, .ref a41, .int (iZ z42), .int (iZ z43), .ref a44, .ref a45]))]) (wr := [(a6, .inl (cI, 6, .inl (zA g6)))]) [0] [1] rfl rfl (by decide) (by decide) (by decide) rfl rfl (Nat.le_of_ble_eq_true rfl) ⟨by decide, by decide⟩ dX5_push_23 (fun v w1 hq => ?_)
      obtain ⟨x9, rfl, p9, rfl⟩ := hq
      refine g_eq (ws' := [(a6, .inl (cI, 6, .inl (zA g6))), (m0, .inr (5, [.int (iZ x9), .int (iZ z1), .int (iZ z2), .int (iZ z3), .int (iZ z4), .int (iZ z5), .ref a6, .int (iZ z7), .ref a8, .int (iZ z9), .ref a10, .ref a11, .ref a12, .ref a13, .ref a14, .ref a15, .int (iZ z16), .ref a17, .int (iZ z18), .ref a19, .ref a20, .ref a21, .ref a22, .ref a23, .ref a24, .int (iZ z25), .ref a26, .ref a27, .ref a28, .int (iZ z29), .int (iZ z30), .int (iZ z31), .int (iZ z32), .int (iZ z33), .int (iZ z34), .ref a35, .ref a36, .ref a37, .ref a38, .ref a39, .ref a40, .ref a41, .int (iZ z42), .int (iZ z43), .ref a44, .ref a45]))]) (pc' := 26) (st' := [.int (iZ 0)]) rfl rfl rfl rfl ?_
      refine g_perm (ws' := [(m0, .inr (5, [.int (iZ x9), .int (iZ z1), .int (iZ z2), .int (iZ z3), .int (iZ z4), .int (iZ z5), .ref a6, .int (iZ z7), .ref a8, .int (iZ z9), .ref a10, .ref a11, .ref a12, .ref a13, .ref a14, .ref a15, .int (iZ z16), .ref a17, .int (iZ z18), .ref a19, .ref a20, .ref a21, .ref a22, .ref a23, .ref a24, .int (iZ z25), .ref a26, .ref a27, .ref a28, .int (iZ z29), .int (iZ z30), .int (iZ z31), .int (iZ z32), .int (iZ z33), .int (iZ z34), .ref a35, .ref a36, .ref a37, .ref a38, .ref a39, .ref a40, .ref a41, .int (iZ z42), .int (iZ z43), .ref a44, .ref a45])), (a6, .inl (cI, 6, .inl (zA g6)))]) [1, 0] (by decide) rfl ?_
      simp at p9
      subst p9
      refine g_if_eq X 31 dX5_push_26 (by decide) (by omega) (fun c_26 => ?_) (fun c_26 => ?_)
      · skip
        refine g_aload_n X 0 dX5_push_31 rfl rfl ?_
        refine g_get X (index := 123) (ref := "GuideWordsModel") hin5 0 rfl rfl 7 (by decide) rfl (by decide +kernel) (v := .int (iZ z7)) rfl dX5_push_32 ?_
        refine g_bipush X dX5_push_35 (by decide) ?_
        refine g_icmp_ne X 42 dX5_push_37 (by decide) (by omega) (by omega) (fun c_37 => ?_) (fun c_37 => ?_)
        · skip
          refine g_aload_n X 0 dX5_push_42 rfl rfl ?_
          refine g_get X (index := 25) (ref := "GuideWordsModel") hin5 0 rfl rfl 6 (by decide) rfl (by decide +kernel) (v := .ref a6) rfl dX5_push_43 ?_
          refine g_aload_n X 0 dX5_push_46 rfl rfl ?_
          refine g_get X (index := 123) (ref := "GuideWordsModel") hin5 0 rfl rfl 7 (by decide) rfl (by decide +kernel) (v := .int (iZ z7)) rfl dX5_push_47 ?_
          refine g_iload_n X 1 dX5_push_50 rfl rfl ?_
          refine g_iast X 1 1 rfl rfl (by omega) (by decide) (ws2 := [(m0, .inr (5, [.int (iZ 0), .int (iZ z1), .int (iZ z2), .int (iZ z3), .int (iZ z4), .int (iZ z5), .ref a6, .int (iZ z7), .ref a8, .int (iZ z9), .ref a10, .ref a11, .ref a12, .ref a13, .ref a14, .ref a15, .int (iZ z16), .ref a17, .int (iZ z18), .ref a19, .ref a20, .ref a21, .ref a22, .ref a23, .ref a24, .int (iZ z25), .ref a26, .ref a27, .ref a28, .int (iZ z29), .int (iZ z30), .int (iZ z31), .int (iZ z32), .int (iZ z33), .int (iZ z34), .ref a35, .ref a36, .ref a37, .ref a38, .ref a39, .ref a40, .ref a41, .int (iZ z42), .int (iZ z43), .ref a44, .ref a45])), (a6, .inl (cI, 6, .inl (zA (upZ g6 z7 li))))]) rfl dX5_push_51 ?_
          refine g_aload_n X 0 dX5_push_52 rfl rfl ?_
          refine g_dup X dX5_push_53 rfl ?_
          refine g_get X (index := 123) (ref := "GuideWordsModel") hin5 0 rfl rfl 7 (by decide) rfl (by decide +kernel) (v := .int (iZ z7)) rfl dX5_push_54 ?_
          refine g_iconst X dX5_push_57 ?_
          refine g_iadd X dX5_push_58 ?_
          refine g_put X (index := 123) (ref := "GuideWordsModel") hin5 0 rfl rfl 7 (by decide) rfl tyX5 tyX5_ok nmX5 (by decide +kernel) rfl rfl rfl rfl (Nat.le_of_ble_eq_true rfl) (ws2 := [(m0, .inr (5, [.int (iZ 0), .int (iZ z1), .int (iZ z2), .int (iZ z3), .int (iZ z4), .int (iZ z5), .ref a6, .int (iZ (z7 + 1)), .ref a8, .int (iZ z9), .ref a10, .ref a11, .ref a12, .ref a13, .ref a14, .ref a15, .int (iZ z16), .ref a17, .int (iZ z18), .ref a19, .ref a20, .ref a21, .ref a22, .ref a23, .ref a24, .int (iZ z25), .ref a26, .ref a27, .ref a28, .int (iZ z29), .int (iZ z30), .int (iZ z31), .int (iZ z32), .int (iZ z33), .int (iZ z34), .ref a35, .ref a36, .ref a37, .ref a38, .ref a39, .ref a40, .ref a41, .int (iZ z42), .int (iZ z43), .ref a44, .ref a45])), (a6, .inl (cI, 6, .inl (zA (upZ g6 z7 li))))]) rfl dX5_push_59 ?_
          refine g_aload_n X 0 dX5_push_62 rfl rfl ?_
          refine g_get X (index := 123) (ref := "GuideWordsModel") hin5 0 rfl rfl 7 (by decide) rfl (by decide +kernel) (v := .int (iZ (z7 + 1))) rfl dX5_push_63 ?_
          exact g_iret X hr (by decide) (by decide) dX5_push_66 ⟨_, _, _, _, rfl, Or.inr ⟨by omega, rfl, Or.inr ⟨c_37, rfl, rfl, rfl⟩⟩, rfl⟩
        · skip
          refine g_iconst X dX5_push_40 ?_
          exact g_iret X hr (by decide) (by decide) dX5_push_41 ⟨_, _, z7, g6, rfl, Or.inr ⟨by omega, rfl, Or.inl ⟨c_37, rfl, rfl, rfl⟩⟩, rfl⟩
      · omega
    · skip
      refine g_iconst X dX5_push_17 ?_
      refine g_goto X 22 dX5_push_18 (by decide) ?_
      refine g_iconst X dX5_push_22 ?_
      refine g_callV0 X (As := [.int (iZ 1), .int (iZ 1)]) (rest := []) (ctX5_bad l D cB cI cJ cY m0 a6 a8 a10 a11 a12 a13 a14 a15 a17 a19 a20 a21 a22 a23 a24 a26 a27 a28 a35 a36 a37 a38 a39 a40 a41 a44 a45 0 z1 z2 z3 z4 z5 z7 z9 z16 z18 z25 z29 z30 z31 z32 z33 z34 z42 z43 1 1 (by omega)) (cwV 2 X.2.2.2.2.1 gX5_push_X5_bad rfl rfl rfl (by decide +kernel) ⟨by decide, by decide⟩) 0 rfl rfl (wc := [(m0, .inr (5, [.int (iZ 0), .int (iZ z1), .int (iZ z2), .int (iZ z3), .int (iZ z4), .int (iZ z5), .ref a6, .int (iZ z7), .ref a8, .int (iZ z9), .ref a10, .ref a11, .ref a12, .ref a13, .ref a14, .ref a15, .int (iZ z16), .ref a17, .int (iZ z18), .ref a19, .ref a20, .ref a21, .ref a22, .ref a23, .ref a24, .int (iZ z25), .ref a26, .ref a27, .ref a28, .int (iZ z29), .int (iZ z30), .int (iZ z31), .int (iZ z32), .int (iZ z33), .int (iZ z34), .ref a35, .ref a36, .ref a37, .ref a38, .ref a39, .ref a40, .ref a41, .int (iZ z42), .int (iZ z43), .ref a44, .ref a45]))]) (wr := [(a6, .inl (cI, 6, .inl (zA g6)))]) [0] [1] rfl rfl (by decide) (by decide) (by decide) rfl rfl (Nat.le_of_ble_eq_true rfl) ⟨by decide, by decide⟩ dX5_push_23 (fun v w1 hq => ?_)
      obtain ⟨x9, rfl, p9, rfl⟩ := hq
      refine g_eq (ws' := [(a6, .inl (cI, 6, .inl (zA g6))), (m0, .inr (5, [.int (iZ x9), .int (iZ z1), .int (iZ z2), .int (iZ z3), .int (iZ z4), .int (iZ z5), .ref a6, .int (iZ z7), .ref a8, .int (iZ z9), .ref a10, .ref a11, .ref a12, .ref a13, .ref a14, .ref a15, .int (iZ z16), .ref a17, .int (iZ z18), .ref a19, .ref a20, .ref a21, .ref a22, .ref a23, .ref a24, .int (iZ z25), .ref a26, .ref a27, .ref a28, .int (iZ z29), .int (iZ z30), .int (iZ z31), .int (iZ z32), .int (iZ z33), .int (iZ z34), .ref a35, .ref a36, .ref a37, .ref a38, .ref a39, .ref a40, .ref a41, .int (iZ z42), .int (iZ z43), .ref a44, .ref a45]))]) (pc' := 26) (st' := [.int (iZ 1)]) rfl rfl rfl rfl ?_
      refine g_perm (ws' := [(m0, .inr (5, [.int (iZ x9), .int (iZ z1), .int (iZ z2), .int (iZ z3), .int (iZ z4), .int (iZ z5), .ref a6, .int (iZ z7), .ref a8, .int (iZ z9), .ref a10, .ref a11, .ref a12, .ref a13, .ref a14, .ref a15, .int (iZ z16), .ref a17, .int (iZ z18), .ref a19, .ref a20, .ref a21, .ref a22, .ref a23, .ref a24, .int (iZ z25), .ref a26, .ref a27, .ref a28, .int (iZ z29), .int (iZ z30), .int (iZ z31), .int (iZ z32), .int (iZ z33), .int (iZ z34), .ref a35, .ref a36, .ref a37, .ref a38, .ref a39, .ref a40, .ref a41, .int (iZ z42), .int (iZ z43), .ref a44, .ref a45])), (a6, .inl (cI, 6, .inl (zA g6)))]) [1, 0] (by decide) rfl ?_
      simp at p9
      subst p9
      refine g_if_eq X 31 dX5_push_26 (by decide) (by omega) (fun c_26 => ?_) (fun c_26 => ?_)
      · omega
      · skip
        refine g_iconst X dX5_push_29 ?_
        exact g_iret X hr (by decide) (by decide) dX5_push_30 ⟨_, _, z7, g6, rfl, Or.inl ⟨by omega, rfl, rfl, rfl, rfl⟩, rfl⟩
